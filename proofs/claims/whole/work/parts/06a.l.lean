theorem dJ6_bitCount_0f7a4_0 : decode cJ6_bitCount_0f7a4 0 = .ok (.iload_n 0, 1) := by decide +kernel
theorem dJ6_bitCount_0f7a4_1 : decode cJ6_bitCount_0f7a4 1 = .ok (.iload_n 0, 1) := by decide +kernel
theorem dJ6_bitCount_0f7a4_2 : decode cJ6_bitCount_0f7a4 2 = .ok (.iconst 1, 1) := by decide +kernel
theorem dJ6_bitCount_0f7a4_3 : decode cJ6_bitCount_0f7a4 3 = .ok (.iushr, 1) := by decide +kernel
theorem dJ6_bitCount_0f7a4_4 : decode cJ6_bitCount_0f7a4 4 = .ok (.ldc_w 265, 3) := by decide +kernel
theorem dJ6_bitCount_0f7a4_7 : decode cJ6_bitCount_0f7a4 7 = .ok (.iand, 1) := by decide +kernel
theorem dJ6_bitCount_0f7a4_8 : decode cJ6_bitCount_0f7a4 8 = .ok (.isub, 1) := by decide +kernel
theorem dJ6_bitCount_0f7a4_9 : decode cJ6_bitCount_0f7a4 9 = .ok (.istore_n 0, 1) := by decide +kernel
theorem dJ6_bitCount_0f7a4_10 : decode cJ6_bitCount_0f7a4 10 = .ok (.iload_n 0, 1) := by decide +kernel
theorem dJ6_bitCount_0f7a4_11 : decode cJ6_bitCount_0f7a4 11 = .ok (.ldc_w 266, 3) := by decide +kernel
theorem dJ6_bitCount_0f7a4_14 : decode cJ6_bitCount_0f7a4 14 = .ok (.iand, 1) := by decide +kernel
theorem dJ6_bitCount_0f7a4_15 : decode cJ6_bitCount_0f7a4 15 = .ok (.iload_n 0, 1) := by decide +kernel
theorem dJ6_bitCount_0f7a4_16 : decode cJ6_bitCount_0f7a4 16 = .ok (.iconst 2, 1) := by decide +kernel
theorem dJ6_bitCount_0f7a4_17 : decode cJ6_bitCount_0f7a4 17 = .ok (.iushr, 1) := by decide +kernel
theorem dJ6_bitCount_0f7a4_18 : decode cJ6_bitCount_0f7a4 18 = .ok (.ldc_w 266, 3) := by decide +kernel
theorem dJ6_bitCount_0f7a4_21 : decode cJ6_bitCount_0f7a4 21 = .ok (.iand, 1) := by decide +kernel
theorem dJ6_bitCount_0f7a4_22 : decode cJ6_bitCount_0f7a4 22 = .ok (.iadd, 1) := by decide +kernel
theorem dJ6_bitCount_0f7a4_23 : decode cJ6_bitCount_0f7a4 23 = .ok (.istore_n 0, 1) := by decide +kernel
theorem dJ6_bitCount_0f7a4_24 : decode cJ6_bitCount_0f7a4 24 = .ok (.iload_n 0, 1) := by decide +kernel
theorem dJ6_bitCount_0f7a4_25 : decode cJ6_bitCount_0f7a4 25 = .ok (.iload_n 0, 1) := by decide +kernel
theorem dJ6_bitCount_0f7a4_26 : decode cJ6_bitCount_0f7a4 26 = .ok (.iconst 4, 1) := by decide +kernel
theorem dJ6_bitCount_0f7a4_27 : decode cJ6_bitCount_0f7a4 27 = .ok (.iushr, 1) := by decide +kernel
theorem dJ6_bitCount_0f7a4_28 : decode cJ6_bitCount_0f7a4 28 = .ok (.iadd, 1) := by decide +kernel
theorem dJ6_bitCount_0f7a4_29 : decode cJ6_bitCount_0f7a4 29 = .ok (.ldc_w 267, 3) := by decide +kernel
theorem dJ6_bitCount_0f7a4_32 : decode cJ6_bitCount_0f7a4 32 = .ok (.iand, 1) := by decide +kernel
theorem dJ6_bitCount_0f7a4_33 : decode cJ6_bitCount_0f7a4 33 = .ok (.istore_n 0, 1) := by decide +kernel
theorem dJ6_bitCount_0f7a4_34 : decode cJ6_bitCount_0f7a4 34 = .ok (.iload_n 0, 1) := by decide +kernel
theorem dJ6_bitCount_0f7a4_35 : decode cJ6_bitCount_0f7a4 35 = .ok (.iload_n 0, 1) := by decide +kernel
theorem dJ6_bitCount_0f7a4_36 : decode cJ6_bitCount_0f7a4 36 = .ok (.bipush 8, 2) := by decide +kernel
theorem dJ6_bitCount_0f7a4_38 : decode cJ6_bitCount_0f7a4 38 = .ok (.iushr, 1) := by decide +kernel
theorem dJ6_bitCount_0f7a4_39 : decode cJ6_bitCount_0f7a4 39 = .ok (.iadd, 1) := by decide +kernel
theorem dJ6_bitCount_0f7a4_40 : decode cJ6_bitCount_0f7a4 40 = .ok (.istore_n 0, 1) := by decide +kernel
theorem dJ6_bitCount_0f7a4_41 : decode cJ6_bitCount_0f7a4 41 = .ok (.iload_n 0, 1) := by decide +kernel
theorem dJ6_bitCount_0f7a4_42 : decode cJ6_bitCount_0f7a4 42 = .ok (.iload_n 0, 1) := by decide +kernel
theorem dJ6_bitCount_0f7a4_43 : decode cJ6_bitCount_0f7a4 43 = .ok (.bipush 16, 2) := by decide +kernel
theorem dJ6_bitCount_0f7a4_45 : decode cJ6_bitCount_0f7a4 45 = .ok (.iushr, 1) := by decide +kernel
theorem dJ6_bitCount_0f7a4_46 : decode cJ6_bitCount_0f7a4 46 = .ok (.iadd, 1) := by decide +kernel
theorem dJ6_bitCount_0f7a4_47 : decode cJ6_bitCount_0f7a4 47 = .ok (.istore_n 0, 1) := by decide +kernel
theorem dJ6_bitCount_0f7a4_48 : decode cJ6_bitCount_0f7a4 48 = .ok (.iload_n 0, 1) := by decide +kernel
theorem dJ6_bitCount_0f7a4_49 : decode cJ6_bitCount_0f7a4 49 = .ok (.bipush 63, 2) := by decide +kernel
theorem dJ6_bitCount_0f7a4_51 : decode cJ6_bitCount_0f7a4 51 = .ok (.iand, 1) := by decide +kernel
theorem dJ6_bitCount_0f7a4_52 : decode cJ6_bitCount_0f7a4 52 = .ok (.ireturn, 1) := by decide +kernel
theorem dJ9_max_7cf53_0 : decode cJ9_max_7cf53 0 = .ok (.iload_n 0, 1) := by decide +kernel
theorem dJ9_max_7cf53_1 : decode cJ9_max_7cf53 1 = .ok (.iload_n 1, 1) := by decide +kernel
theorem dJ9_max_7cf53_2 : decode cJ9_max_7cf53 2 = .ok (.if_icmp .lt 7, 3) := by decide +kernel
theorem dJ9_max_7cf53_5 : decode cJ9_max_7cf53 5 = .ok (.iload_n 0, 1) := by decide +kernel
theorem dJ9_max_7cf53_6 : decode cJ9_max_7cf53 6 = .ok (.goto 4, 3) := by decide +kernel
theorem dJ9_max_7cf53_9 : decode cJ9_max_7cf53 9 = .ok (.iload_n 1, 1) := by decide +kernel
theorem dJ9_max_7cf53_10 : decode cJ9_max_7cf53 10 = .ok (.ireturn, 1) := by decide +kernel
theorem dJ9_min_7cf53_0 : decode cJ9_min_7cf53 0 = .ok (.iload_n 0, 1) := by decide +kernel
theorem dJ9_min_7cf53_1 : decode cJ9_min_7cf53 1 = .ok (.iload_n 1, 1) := by decide +kernel
theorem dJ9_min_7cf53_2 : decode cJ9_min_7cf53 2 = .ok (.if_icmp .gt 7, 3) := by decide +kernel
theorem dJ9_min_7cf53_5 : decode cJ9_min_7cf53 5 = .ok (.iload_n 0, 1) := by decide +kernel
theorem dJ9_min_7cf53_6 : decode cJ9_min_7cf53 6 = .ok (.goto 4, 3) := by decide +kernel
theorem dJ9_min_7cf53_9 : decode cJ9_min_7cf53 9 = .ok (.iload_n 1, 1) := by decide +kernel
theorem dJ9_min_7cf53_10 : decode cJ9_min_7cf53 10 = .ok (.ireturn, 1) := by decide +kernel
theorem dJ7_fill_53178_0 : decode cJ7_fill_53178 0 = .ok (.iconst 0, 1) := by decide +kernel
theorem dJ7_fill_53178_1 : decode cJ7_fill_53178 1 = .ok (.istore_n 2, 1) := by decide +kernel
theorem dJ7_fill_53178_2 : decode cJ7_fill_53178 2 = .ok (.aload_n 0, 1) := by decide +kernel
theorem dJ7_fill_53178_3 : decode cJ7_fill_53178 3 = .ok (.arraylength, 1) := by decide +kernel
theorem dJ7_fill_53178_4 : decode cJ7_fill_53178 4 = .ok (.istore_n 3, 1) := by decide +kernel
theorem dJ7_fill_53178_5 : decode cJ7_fill_53178 5 = .ok (.iload_n 2, 1) := by decide +kernel
theorem dJ7_fill_53178_6 : decode cJ7_fill_53178 6 = .ok (.iload_n 3, 1) := by decide +kernel
theorem dJ7_fill_53178_7 : decode cJ7_fill_53178 7 = .ok (.if_icmp .ge 13, 3) := by decide +kernel
theorem dJ7_fill_53178_10 : decode cJ7_fill_53178 10 = .ok (.aload_n 0, 1) := by decide +kernel
theorem dJ7_fill_53178_11 : decode cJ7_fill_53178 11 = .ok (.iload_n 2, 1) := by decide +kernel
theorem dJ7_fill_53178_12 : decode cJ7_fill_53178 12 = .ok (.iload_n 1, 1) := by decide +kernel
theorem dJ7_fill_53178_13 : decode cJ7_fill_53178 13 = .ok (.iastore, 1) := by decide +kernel
theorem dJ7_fill_53178_14 : decode cJ7_fill_53178 14 = .ok (.iinc 2 1, 3) := by decide +kernel
theorem dJ7_fill_53178_17 : decode cJ7_fill_53178 17 = .ok (.goto (-12), 3) := by decide +kernel
theorem dJ7_fill_53178_20 : decode cJ7_fill_53178 20 = .ok (.return_, 1) := by decide +kernel
set_option maxRecDepth 20000 in
theorem ggL_elements_X0_elements : GoodIn wsL_elements wsX0_elements := goodIn_ca (goodIn_r _ [6, 7, 8, 9, 10, 11, 12, 13, 14, 15, 16, 5, 17, 18, 19, 20, 21, 22, 23, 24, 25, 26, 27, 28, 29, 30, 31, 32, 33, 34, 35, 36, 37, 38] (by decide +kernel) (by decide +kernel)) (goodIn_sub (fun _ h => List.mem_cons_of_mem _ (List.mem_append_right _ h)) (by decide +kernel))
set_option maxRecDepth 20000 in
theorem gL_elements_X0_elements : GoodIn wsL_elements (wsV RL 7 RX0 yX0_elements wsX0_elements) := goodIn_app (goodIn_of _ (by decide +kernel)) ggL_elements_X0_elements
theorem dL_elements_0 : decode cL_elements 0 = .ok (.aload_n 2, 1) := by decide +kernel
theorem dL_elements_1 : decode cL_elements 1 = .ok (.iconst 0, 1) := by decide +kernel
theorem dL_elements_2 : decode cL_elements 2 = .ok (.aload_n 0, 1) := by decide +kernel
theorem dL_elements_3 : decode cL_elements 3 = .ok (.iload_n 1, 1) := by decide +kernel
theorem dL_elements_4 : decode cL_elements 4 = .ok (.invokevirtual 7, 3) := by decide +kernel
theorem dL_elements_7 : decode cL_elements 7 = .ok (.i2l, 1) := by decide +kernel
theorem dL_elements_8 : decode cL_elements 8 = .ok (.lastore, 1) := by decide +kernel
theorem dL_elements_9 : decode cL_elements 9 = .ok (.goto 6, 3) := by decide +kernel
theorem dL_elements_12 : decode cL_elements 12 = .ok (.astore_n 3, 1) := by decide +kernel
theorem dL_elements_13 : decode cL_elements 13 = .ok (.iconst 1, 1) := by decide +kernel
theorem dL_elements_14 : decode cL_elements 14 = .ok (.ireturn, 1) := by decide +kernel
theorem dL_elements_15 : decode cL_elements 15 = .ok (.iconst 0, 1) := by decide +kernel
theorem dL_elements_16 : decode cL_elements 16 = .ok (.ireturn, 1) := by decide +kernel
set_option maxRecDepth 20000 in
theorem ggL_cover_X0_cover : GoodIn wsL_cover wsX0_cover := goodIn_ca (goodIn_r _ [6, 7, 8, 9, 10, 5, 11, 12, 13, 14, 15, 16, 17, 18, 19, 20, 21, 22, 23, 24, 25, 26, 27, 28, 29, 30, 31, 32, 33, 34, 35, 36, 37, 38, 39, 40, 41, 42, 43, 44, 45, 46, 47] (by decide +kernel) (by decide +kernel)) (goodIn_sub (fun _ h => List.mem_cons_of_mem _ (List.mem_append_right _ h)) (by decide +kernel))
set_option maxRecDepth 20000 in
theorem gL_cover_X0_cover : GoodIn wsL_cover (wsV RL 15 RX0 yX0_cover wsX0_cover) := goodIn_app (goodIn_of _ (by decide +kernel)) ggL_cover_X0_cover
theorem dL_cover_0 : decode cL_cover 0 = .ok (.aload 4, 2) := by decide +kernel
theorem dL_cover_2 : decode cL_cover 2 = .ok (.iconst 0, 1) := by decide +kernel
theorem dL_cover_3 : decode cL_cover 3 = .ok (.aload_n 0, 1) := by decide +kernel
theorem dL_cover_4 : decode cL_cover 4 = .ok (.iload_n 1, 1) := by decide +kernel
theorem dL_cover_5 : decode cL_cover 5 = .ok (.iload_n 2, 1) := by decide +kernel
theorem dL_cover_6 : decode cL_cover 6 = .ok (.iload_n 3, 1) := by decide +kernel
theorem dL_cover_7 : decode cL_cover 7 = .ok (.invokevirtual 15, 3) := by decide +kernel
theorem dL_cover_10 : decode cL_cover 10 = .ok (.ifCond .eq 7, 3) := by decide +kernel
theorem dL_cover_13 : decode cL_cover 13 = .ok (.lconst 1, 1) := by decide +kernel
theorem dL_cover_14 : decode cL_cover 14 = .ok (.goto 4, 3) := by decide +kernel
theorem dL_cover_17 : decode cL_cover 17 = .ok (.lconst 0, 1) := by decide +kernel
theorem dL_cover_18 : decode cL_cover 18 = .ok (.lastore, 1) := by decide +kernel
theorem dL_cover_19 : decode cL_cover 19 = .ok (.goto 7, 3) := by decide +kernel
theorem dL_cover_22 : decode cL_cover 22 = .ok (.astore 5, 2) := by decide +kernel
theorem dL_cover_24 : decode cL_cover 24 = .ok (.iconst 1, 1) := by decide +kernel
theorem dL_cover_25 : decode cL_cover 25 = .ok (.ireturn, 1) := by decide +kernel
theorem dL_cover_26 : decode cL_cover 26 = .ok (.iconst 0, 1) := by decide +kernel
theorem dL_cover_27 : decode cL_cover 27 = .ok (.ireturn, 1) := by decide +kernel
set_option maxRecDepth 20000 in
theorem ggL_edge_X0_edge : GoodIn wsL_edge wsX0_edge := goodIn_ca (goodIn_ca (goodIn_r _ [7, 8, 9, 10, 11, 6, 12, 13, 14, 15, 16, 17, 18, 19, 20, 21, 22, 23, 24, 25, 26, 27, 28, 29, 30, 31, 32, 33, 34, 35, 36, 37, 38, 39, 40, 41, 42, 43, 44, 45, 46, 47, 48] (by decide +kernel) (by decide +kernel)) (goodIn_sub (fun _ h => List.mem_cons_of_mem _ (List.mem_append_left _ (List.mem_append_right _ h))) (by decide +kernel))) (goodIn_sub (fun _ h => List.mem_cons_of_mem _ (List.mem_append_right _ h)) (by decide +kernel))
set_option maxRecDepth 20000 in
theorem gL_edge_X0_edge : GoodIn wsL_edge (wsV RL 21 RX0 yX0_edge wsX0_edge) := goodIn_app (goodIn_of _ (by decide +kernel)) ggL_edge_X0_edge
theorem dL_edge_0 : decode cL_edge 0 = .ok (.aload 4, 2) := by decide +kernel
theorem dL_edge_2 : decode cL_edge 2 = .ok (.iconst 0, 1) := by decide +kernel
theorem dL_edge_3 : decode cL_edge 3 = .ok (.aload_n 0, 1) := by decide +kernel
theorem dL_edge_4 : decode cL_edge 4 = .ok (.iload_n 1, 1) := by decide +kernel
theorem dL_edge_5 : decode cL_edge 5 = .ok (.iload_n 2, 1) := by decide +kernel
theorem dL_edge_6 : decode cL_edge 6 = .ok (.iload_n 3, 1) := by decide +kernel
theorem dL_edge_7 : decode cL_edge 7 = .ok (.invokevirtual 21, 3) := by decide +kernel
theorem dL_edge_10 : decode cL_edge 10 = .ok (.i2l, 1) := by decide +kernel
theorem dL_edge_11 : decode cL_edge 11 = .ok (.lastore, 1) := by decide +kernel
theorem dL_edge_12 : decode cL_edge 12 = .ok (.goto 11, 3) := by decide +kernel
theorem dL_edge_15 : decode cL_edge 15 = .ok (.astore 5, 2) := by decide +kernel
theorem dL_edge_17 : decode cL_edge 17 = .ok (.iconst 1, 1) := by decide +kernel
theorem dL_edge_18 : decode cL_edge 18 = .ok (.ireturn, 1) := by decide +kernel
theorem dL_edge_19 : decode cL_edge 19 = .ok (.astore 5, 2) := by decide +kernel
theorem dL_edge_21 : decode cL_edge 21 = .ok (.iconst 2, 1) := by decide +kernel
theorem dL_edge_22 : decode cL_edge 22 = .ok (.ireturn, 1) := by decide +kernel
theorem dL_edge_23 : decode cL_edge 23 = .ok (.iconst 0, 1) := by decide +kernel
theorem dL_edge_24 : decode cL_edge 24 = .ok (.ireturn, 1) := by decide +kernel
set_option maxRecDepth 20000 in
theorem ggL_colour_X0_colour : GoodIn wsL_colour wsX0_colour := goodIn_ca (goodIn_r _ [6, 7, 8, 9, 5, 10, 11, 12, 13, 14, 15, 16, 17, 18, 19, 20, 21, 22, 23, 24, 25, 26, 27, 28, 29, 30, 31, 32, 33, 34, 35, 36, 37, 38, 39, 40, 41, 42, 43, 44, 45] (by decide +kernel) (by decide +kernel)) (goodIn_sub (fun _ h => List.mem_cons_of_mem _ (List.mem_append_right _ h)) (by decide +kernel))
set_option maxRecDepth 20000 in
theorem gL_colour_X0_colour : GoodIn wsL_colour (wsV RL 25 RX0 yX0_colour wsX0_colour) := goodIn_app (goodIn_of _ (by decide +kernel)) ggL_colour_X0_colour
theorem dL_colour_0 : decode cL_colour 0 = .ok (.aload 4, 2) := by decide +kernel
theorem dL_colour_2 : decode cL_colour 2 = .ok (.iconst 0, 1) := by decide +kernel
theorem dL_colour_3 : decode cL_colour 3 = .ok (.aload_n 0, 1) := by decide +kernel
theorem dL_colour_4 : decode cL_colour 4 = .ok (.iload_n 1, 1) := by decide +kernel
theorem dL_colour_5 : decode cL_colour 5 = .ok (.iload_n 2, 1) := by decide +kernel
theorem dL_colour_6 : decode cL_colour 6 = .ok (.iload_n 3, 1) := by decide +kernel
theorem dL_colour_7 : decode cL_colour 7 = .ok (.invokevirtual 25, 3) := by decide +kernel
theorem dL_colour_10 : decode cL_colour 10 = .ok (.i2l, 1) := by decide +kernel
theorem dL_colour_11 : decode cL_colour 11 = .ok (.lastore, 1) := by decide +kernel
theorem dL_colour_12 : decode cL_colour 12 = .ok (.goto 7, 3) := by decide +kernel
theorem dL_colour_15 : decode cL_colour 15 = .ok (.astore 5, 2) := by decide +kernel
theorem dL_colour_17 : decode cL_colour 17 = .ok (.iconst 1, 1) := by decide +kernel
theorem dL_colour_18 : decode cL_colour 18 = .ok (.ireturn, 1) := by decide +kernel
theorem dL_colour_19 : decode cL_colour 19 = .ok (.iconst 0, 1) := by decide +kernel
theorem dL_colour_20 : decode cL_colour 20 = .ok (.ireturn, 1) := by decide +kernel
set_option maxRecDepth 20000 in
theorem ggL_room_X0_room : GoodIn wsL_room wsX0_room := goodIn_ca (goodIn_ca (goodIn_r _ [7, 8, 9, 10, 6, 11, 12, 13, 14, 15, 16, 17, 18, 19, 20, 21, 22, 23, 24, 25, 26, 27, 28, 29, 30, 31, 32, 33, 34, 35, 36, 37, 38, 39, 40, 41, 42, 43, 44, 45, 46, 47, 48, 49] (by decide +kernel) (by decide +kernel)) (goodIn_sub (fun _ h => List.mem_cons_of_mem _ (List.mem_append_left _ (List.mem_append_right _ h))) (by decide +kernel))) (goodIn_sub (fun _ h => List.mem_cons_of_mem _ (List.mem_append_right _ h)) (by decide +kernel))
set_option maxRecDepth 20000 in
theorem gL_room_X0_room : GoodIn wsL_room (wsV RL 28 RX0 yX0_room wsX0_room) := goodIn_app (goodIn_of _ (by decide +kernel)) ggL_room_X0_room
theorem dL_room_0 : decode cL_room 0 = .ok (.aload 4, 2) := by decide +kernel
theorem dL_room_2 : decode cL_room 2 = .ok (.iconst 0, 1) := by decide +kernel
theorem dL_room_3 : decode cL_room 3 = .ok (.aload_n 0, 1) := by decide +kernel
theorem dL_room_4 : decode cL_room 4 = .ok (.iload_n 1, 1) := by decide +kernel
theorem dL_room_5 : decode cL_room 5 = .ok (.iload_n 2, 1) := by decide +kernel
theorem dL_room_6 : decode cL_room 6 = .ok (.iload_n 3, 1) := by decide +kernel
theorem dL_room_7 : decode cL_room 7 = .ok (.invokevirtual 28, 3) := by decide +kernel
theorem dL_room_10 : decode cL_room 10 = .ok (.i2l, 1) := by decide +kernel
theorem dL_room_11 : decode cL_room 11 = .ok (.lastore, 1) := by decide +kernel
theorem dL_room_12 : decode cL_room 12 = .ok (.goto 11, 3) := by decide +kernel
theorem dL_room_15 : decode cL_room 15 = .ok (.astore 5, 2) := by decide +kernel
theorem dL_room_17 : decode cL_room 17 = .ok (.iconst 1, 1) := by decide +kernel
theorem dL_room_18 : decode cL_room 18 = .ok (.ireturn, 1) := by decide +kernel
theorem dL_room_19 : decode cL_room 19 = .ok (.astore 5, 2) := by decide +kernel
theorem dL_room_21 : decode cL_room 21 = .ok (.iconst 2, 1) := by decide +kernel
theorem dL_room_22 : decode cL_room 22 = .ok (.ireturn, 1) := by decide +kernel
theorem dL_room_23 : decode cL_room 23 = .ok (.iconst 0, 1) := by decide +kernel
theorem dL_room_24 : decode cL_room 24 = .ok (.ireturn, 1) := by decide +kernel
set_option maxRecDepth 20000 in
theorem ggL_weigh_X0_weigh : GoodIn wsL_weigh wsX0_weigh := goodIn_ca (goodIn_ca (goodIn_r _ [7, 8, 9, 10, 11, 6, 12, 13, 14, 15, 16, 17, 18, 19, 20, 21, 22, 23, 24, 25, 26, 27, 28, 29, 30, 31, 32, 33, 34, 35, 36, 37, 38, 39, 40, 41, 42, 43, 44] (by decide +kernel) (by decide +kernel)) (goodIn_sub (fun _ h => List.mem_cons_of_mem _ (List.mem_append_left _ (List.mem_append_right _ h))) (by decide +kernel))) (goodIn_sub (fun _ h => List.mem_cons_of_mem _ (List.mem_append_right _ h)) (by decide +kernel))
set_option maxRecDepth 20000 in
theorem gL_weigh_X0_weigh : GoodIn wsL_weigh (wsV RL 31 RX0 yX0_weigh wsX0_weigh) := goodIn_app (goodIn_of _ (by decide +kernel)) ggL_weigh_X0_weigh
theorem dL_weigh_0 : decode cL_weigh 0 = .ok (.aload_n 3, 1) := by decide +kernel
theorem dL_weigh_1 : decode cL_weigh 1 = .ok (.iconst 0, 1) := by decide +kernel
theorem dL_weigh_2 : decode cL_weigh 2 = .ok (.aload_n 0, 1) := by decide +kernel
theorem dL_weigh_3 : decode cL_weigh 3 = .ok (.iload_n 1, 1) := by decide +kernel
theorem dL_weigh_4 : decode cL_weigh 4 = .ok (.iload_n 2, 1) := by decide +kernel
theorem dL_weigh_5 : decode cL_weigh 5 = .ok (.invokevirtual 31, 3) := by decide +kernel
theorem dL_weigh_8 : decode cL_weigh 8 = .ok (.i2l, 1) := by decide +kernel
theorem dL_weigh_9 : decode cL_weigh 9 = .ok (.lastore, 1) := by decide +kernel
theorem dL_weigh_10 : decode cL_weigh 10 = .ok (.goto 11, 3) := by decide +kernel
theorem dL_weigh_13 : decode cL_weigh 13 = .ok (.astore 4, 2) := by decide +kernel
theorem dL_weigh_15 : decode cL_weigh 15 = .ok (.iconst 1, 1) := by decide +kernel
theorem dL_weigh_16 : decode cL_weigh 16 = .ok (.ireturn, 1) := by decide +kernel
theorem dL_weigh_17 : decode cL_weigh 17 = .ok (.astore 4, 2) := by decide +kernel
theorem dL_weigh_19 : decode cL_weigh 19 = .ok (.iconst 2, 1) := by decide +kernel
theorem dL_weigh_20 : decode cL_weigh 20 = .ok (.ireturn, 1) := by decide +kernel
theorem dL_weigh_21 : decode cL_weigh 21 = .ok (.iconst 0, 1) := by decide +kernel
theorem dL_weigh_22 : decode cL_weigh 22 = .ok (.ireturn, 1) := by decide +kernel
set_option maxRecDepth 20000 in
theorem ggL_make_X0_make : GoodIn wsL_make wsX0_make := goodIn_ca (goodIn_ca (goodIn_r _ [7, 8, 9, 6, 10, 11, 12, 13, 14, 15, 16, 17, 18, 19, 20, 21, 22, 23, 24, 25, 26, 27, 28, 29, 30, 31, 32, 33, 34, 35, 36, 37, 38, 39, 40, 41, 42, 43, 44, 45, 46, 47, 48, 49, 50, 51, 52, 53, 54, 55, 56, 57, 58, 59, 60, 61, 62, 63, 64, 65, 66, 67, 68, 69, 70, 71, 72, 73, 74, 75, 76, 77, 78, 79, 80, 81, 82, 83, 84, 85, 86, 87, 88, 89, 90, 91, 92, 93, 94, 95, 96, 97, 98, 99, 100, 101, 102, 103, 104, 105, 106, 107, 108, 109, 110, 111, 112] (by decide +kernel) (by decide +kernel)) (goodIn_sub (fun _ h => List.mem_cons_of_mem _ (List.mem_append_left _ (List.mem_append_right _ h))) (by decide +kernel))) (goodIn_sub (fun _ h => List.mem_cons_of_mem _ (List.mem_append_right _ h)) (by decide +kernel))
set_option maxRecDepth 20000 in
theorem gL_make_X0_make : GoodIn wsL_make (wsV RL 35 RX0 yX0_make wsX0_make) := goodIn_app (goodIn_of _ (by decide +kernel)) ggL_make_X0_make
theorem dL_make_0 : decode cL_make 0 = .ok (.aload_n 2, 1) := by decide +kernel
theorem dL_make_1 : decode cL_make 1 = .ok (.iconst 0, 1) := by decide +kernel
theorem dL_make_2 : decode cL_make 2 = .ok (.aload_n 0, 1) := by decide +kernel
theorem dL_make_3 : decode cL_make 3 = .ok (.iload_n 1, 1) := by decide +kernel
theorem dL_make_4 : decode cL_make 4 = .ok (.invokevirtual 35, 3) := by decide +kernel
theorem dL_make_7 : decode cL_make 7 = .ok (.i2l, 1) := by decide +kernel
theorem dL_make_8 : decode cL_make 8 = .ok (.lastore, 1) := by decide +kernel
theorem dL_make_9 : decode cL_make 9 = .ok (.goto 9, 3) := by decide +kernel
theorem dL_make_12 : decode cL_make 12 = .ok (.astore_n 3, 1) := by decide +kernel
theorem dL_make_13 : decode cL_make 13 = .ok (.iconst 1, 1) := by decide +kernel
theorem dL_make_14 : decode cL_make 14 = .ok (.ireturn, 1) := by decide +kernel
theorem dL_make_15 : decode cL_make 15 = .ok (.astore_n 3, 1) := by decide +kernel
theorem dL_make_16 : decode cL_make 16 = .ok (.iconst 2, 1) := by decide +kernel
theorem dL_make_17 : decode cL_make 17 = .ok (.ireturn, 1) := by decide +kernel
theorem dL_make_18 : decode cL_make 18 = .ok (.iconst 0, 1) := by decide +kernel
theorem dL_make_19 : decode cL_make 19 = .ok (.ireturn, 1) := by decide +kernel
set_option maxRecDepth 20000 in
theorem ggL_sum_X0_sum : GoodIn wsL_sum wsX0_sum := goodIn_ca (goodIn_ca (goodIn_r _ [7, 8, 9, 10, 6, 11, 12, 13, 14, 15, 16, 17, 18, 19, 20, 21, 22, 23, 24, 25, 26, 27, 28, 29, 30, 31, 32, 33, 34, 35, 36, 37, 38, 39, 40, 41, 42, 43, 44, 45, 46, 47, 48, 49, 50, 51, 52, 53, 54, 55, 56, 57, 58, 59, 60, 61, 62] (by decide +kernel) (by decide +kernel)) (goodIn_sub (fun _ h => List.mem_cons_of_mem _ (List.mem_append_left _ (List.mem_append_right _ h))) (by decide +kernel))) (goodIn_sub (fun _ h => List.mem_cons_of_mem _ (List.mem_append_right _ h)) (by decide +kernel))
set_option maxRecDepth 20000 in
theorem gL_sum_X0_sum : GoodIn wsL_sum (wsV RL 40 RX0 yX0_sum wsX0_sum) := goodIn_app (goodIn_of _ (by decide +kernel)) ggL_sum_X0_sum
theorem dL_sum_0 : decode cL_sum 0 = .ok (.aload_n 3, 1) := by decide +kernel
theorem dL_sum_1 : decode cL_sum 1 = .ok (.iconst 0, 1) := by decide +kernel
theorem dL_sum_2 : decode cL_sum 2 = .ok (.aload_n 0, 1) := by decide +kernel
theorem dL_sum_3 : decode cL_sum 3 = .ok (.iload_n 1, 1) := by decide +kernel
theorem dL_sum_4 : decode cL_sum 4 = .ok (.iload_n 2, 1) := by decide +kernel
theorem dL_sum_5 : decode cL_sum 5 = .ok (.invokevirtual 40, 3) := by decide +kernel
theorem dL_sum_8 : decode cL_sum 8 = .ok (.i2l, 1) := by decide +kernel
theorem dL_sum_9 : decode cL_sum 9 = .ok (.lastore, 1) := by decide +kernel
theorem dL_sum_10 : decode cL_sum 10 = .ok (.goto 11, 3) := by decide +kernel
theorem dL_sum_13 : decode cL_sum 13 = .ok (.astore 4, 2) := by decide +kernel
theorem dL_sum_15 : decode cL_sum 15 = .ok (.iconst 1, 1) := by decide +kernel
theorem dL_sum_16 : decode cL_sum 16 = .ok (.ireturn, 1) := by decide +kernel
theorem dL_sum_17 : decode cL_sum 17 = .ok (.astore 4, 2) := by decide +kernel
theorem dL_sum_19 : decode cL_sum 19 = .ok (.iconst 2, 1) := by decide +kernel
theorem dL_sum_20 : decode cL_sum 20 = .ok (.ireturn, 1) := by decide +kernel
theorem dL_sum_21 : decode cL_sum 21 = .ok (.iconst 0, 1) := by decide +kernel
theorem dL_sum_22 : decode cL_sum 22 = .ok (.ireturn, 1) := by decide +kernel
set_option maxRecDepth 20000 in
theorem ggL_contract_X0_contract : GoodIn wsL_contract wsX0_contract := goodIn_ca (goodIn_ca (goodIn_ca (goodIn_r _ [8, 9, 10, 11, 7, 12, 13, 14, 15, 16, 17, 18, 19, 20, 21, 22, 23, 24, 25, 26, 27, 28, 29, 30, 31, 32, 33, 34, 35, 36, 37, 38, 39, 40, 41, 42, 43, 44, 45, 46, 47, 48, 49, 50, 51, 52, 53, 54, 55, 56, 57, 58, 59, 60, 61, 62, 63, 64, 65, 66, 67, 68, 69, 70, 71, 72] (by decide +kernel) (by decide +kernel)) (goodIn_sub (fun _ h => List.mem_cons_of_mem _ (List.mem_append_left _ (List.mem_append_left _ (List.mem_append_right _ h)))) (by decide +kernel))) (goodIn_sub (fun _ h => List.mem_cons_of_mem _ (List.mem_append_left _ (List.mem_append_right _ h))) (by decide +kernel))) (goodIn_sub (fun _ h => List.mem_cons_of_mem _ (List.mem_append_right _ h)) (by decide +kernel))
set_option maxRecDepth 20000 in
theorem gL_contract_X0_contract : GoodIn wsL_contract (wsV RL 43 RX0 yX0_contract wsX0_contract) := goodIn_app (goodIn_of _ (by decide +kernel)) ggL_contract_X0_contract
theorem dL_contract_0 : decode cL_contract 0 = .ok (.aload_n 3, 1) := by decide +kernel
theorem dL_contract_1 : decode cL_contract 1 = .ok (.iconst 0, 1) := by decide +kernel
theorem dL_contract_2 : decode cL_contract 2 = .ok (.aload_n 0, 1) := by decide +kernel
theorem dL_contract_3 : decode cL_contract 3 = .ok (.iload_n 1, 1) := by decide +kernel
theorem dL_contract_4 : decode cL_contract 4 = .ok (.iload_n 2, 1) := by decide +kernel
theorem dL_contract_5 : decode cL_contract 5 = .ok (.invokevirtual 43, 3) := by decide +kernel
theorem dL_contract_8 : decode cL_contract 8 = .ok (.i2l, 1) := by decide +kernel
theorem dL_contract_9 : decode cL_contract 9 = .ok (.lastore, 1) := by decide +kernel
theorem dL_contract_10 : decode cL_contract 10 = .ok (.goto 15, 3) := by decide +kernel
theorem dL_contract_13 : decode cL_contract 13 = .ok (.astore 4, 2) := by decide +kernel
theorem dL_contract_15 : decode cL_contract 15 = .ok (.iconst 1, 1) := by decide +kernel
theorem dL_contract_16 : decode cL_contract 16 = .ok (.ireturn, 1) := by decide +kernel
theorem dL_contract_17 : decode cL_contract 17 = .ok (.astore 4, 2) := by decide +kernel
theorem dL_contract_19 : decode cL_contract 19 = .ok (.iconst 2, 1) := by decide +kernel
theorem dL_contract_20 : decode cL_contract 20 = .ok (.ireturn, 1) := by decide +kernel
theorem dL_contract_21 : decode cL_contract 21 = .ok (.astore 4, 2) := by decide +kernel
theorem dL_contract_23 : decode cL_contract 23 = .ok (.iconst 3, 1) := by decide +kernel
theorem dL_contract_24 : decode cL_contract 24 = .ok (.ireturn, 1) := by decide +kernel
theorem dL_contract_25 : decode cL_contract 25 = .ok (.iconst 0, 1) := by decide +kernel
theorem dL_contract_26 : decode cL_contract 26 = .ok (.ireturn, 1) := by decide +kernel
set_option maxRecDepth 20000 in
theorem ggL_cap_X0_cap : GoodIn wsL_cap wsX0_cap := goodIn_ca (goodIn_ca (goodIn_ca (goodIn_r _ [8, 9, 10, 11, 12, 13, 14, 15, 7, 16, 17, 18, 19, 20, 21, 22, 23, 24, 25, 26, 27, 28, 29, 30, 31, 32, 33, 34, 35, 36, 37, 38, 39, 40, 41, 42, 43, 44, 45, 46, 47, 48, 49, 50, 51, 52, 53, 54, 55, 56, 57, 58, 59, 60, 61, 62, 63, 64, 65, 66, 67, 68, 69, 70, 71, 72, 73, 74, 75] (by decide +kernel) (by decide +kernel)) (goodIn_sub (fun _ h => List.mem_cons_of_mem _ (List.mem_append_left _ (List.mem_append_left _ (List.mem_append_right _ h)))) (by decide +kernel))) (goodIn_sub (fun _ h => List.mem_cons_of_mem _ (List.mem_append_left _ (List.mem_append_right _ h))) (by decide +kernel))) (goodIn_sub (fun _ h => List.mem_cons_of_mem _ (List.mem_append_right _ h)) (by decide +kernel))
set_option maxRecDepth 20000 in
theorem gL_cap_X0_cap : GoodIn wsL_cap (wsV RL 46 RX0 yX0_cap wsX0_cap) := goodIn_app (goodIn_of _ (by decide +kernel)) ggL_cap_X0_cap
theorem dL_cap_0 : decode cL_cap 0 = .ok (.aload_n 3, 1) := by decide +kernel
theorem dL_cap_1 : decode cL_cap 1 = .ok (.iconst 0, 1) := by decide +kernel
theorem dL_cap_2 : decode cL_cap 2 = .ok (.aload_n 0, 1) := by decide +kernel
theorem dL_cap_3 : decode cL_cap 3 = .ok (.iload_n 1, 1) := by decide +kernel
theorem dL_cap_4 : decode cL_cap 4 = .ok (.iload_n 2, 1) := by decide +kernel
theorem dL_cap_5 : decode cL_cap 5 = .ok (.invokevirtual 46, 3) := by decide +kernel
theorem dL_cap_8 : decode cL_cap 8 = .ok (.i2l, 1) := by decide +kernel
theorem dL_cap_9 : decode cL_cap 9 = .ok (.lastore, 1) := by decide +kernel
theorem dL_cap_10 : decode cL_cap 10 = .ok (.goto 15, 3) := by decide +kernel
theorem dL_cap_13 : decode cL_cap 13 = .ok (.astore 4, 2) := by decide +kernel
theorem dL_cap_15 : decode cL_cap 15 = .ok (.iconst 1, 1) := by decide +kernel
theorem dL_cap_16 : decode cL_cap 16 = .ok (.ireturn, 1) := by decide +kernel
theorem dL_cap_17 : decode cL_cap 17 = .ok (.astore 4, 2) := by decide +kernel
theorem dL_cap_19 : decode cL_cap 19 = .ok (.iconst 2, 1) := by decide +kernel
theorem dL_cap_20 : decode cL_cap 20 = .ok (.ireturn, 1) := by decide +kernel
theorem dL_cap_21 : decode cL_cap 21 = .ok (.astore 4, 2) := by decide +kernel
theorem dL_cap_23 : decode cL_cap 23 = .ok (.iconst 3, 1) := by decide +kernel
theorem dL_cap_24 : decode cL_cap 24 = .ok (.ireturn, 1) := by decide +kernel
theorem dL_cap_25 : decode cL_cap 25 = .ok (.iconst 0, 1) := by decide +kernel
theorem dL_cap_26 : decode cL_cap 26 = .ok (.ireturn, 1) := by decide +kernel
set_option maxRecDepth 20000 in
theorem ggL_value_X0_value : GoodIn wsL_value wsX0_value := goodIn_ca (goodIn_ca (goodIn_r _ [7, 8, 9, 10, 6, 11, 12, 13, 14, 15, 16, 17, 18, 19, 20, 21, 22, 23, 24, 25, 26, 27, 28, 29, 30, 31, 32, 33, 34, 35, 36, 37, 38, 39, 40, 41, 42, 43, 44, 45, 46, 47, 48, 49, 50, 51] (by decide +kernel) (by decide +kernel)) (goodIn_sub (fun _ h => List.mem_cons_of_mem _ (List.mem_append_left _ (List.mem_append_right _ h))) (by decide +kernel))) (goodIn_sub (fun _ h => List.mem_cons_of_mem _ (List.mem_append_right _ h)) (by decide +kernel))
set_option maxRecDepth 20000 in
theorem gL_value_X0_value : GoodIn wsL_value (wsV RL 49 RX0 yX0_value wsX0_value) := goodIn_app (goodIn_of _ (by decide +kernel)) ggL_value_X0_value
theorem dL_value_0 : decode cL_value 0 = .ok (.aload_n 3, 1) := by decide +kernel
theorem dL_value_1 : decode cL_value 1 = .ok (.iconst 0, 1) := by decide +kernel
theorem dL_value_2 : decode cL_value 2 = .ok (.aload_n 0, 1) := by decide +kernel
theorem dL_value_3 : decode cL_value 3 = .ok (.iload_n 1, 1) := by decide +kernel
theorem dL_value_4 : decode cL_value 4 = .ok (.iload_n 2, 1) := by decide +kernel
theorem dL_value_5 : decode cL_value 5 = .ok (.invokevirtual 49, 3) := by decide +kernel
theorem dL_value_8 : decode cL_value 8 = .ok (.i2l, 1) := by decide +kernel
theorem dL_value_9 : decode cL_value 9 = .ok (.lastore, 1) := by decide +kernel
theorem dL_value_10 : decode cL_value 10 = .ok (.goto 11, 3) := by decide +kernel
theorem dL_value_13 : decode cL_value 13 = .ok (.astore 4, 2) := by decide +kernel
theorem dL_value_15 : decode cL_value 15 = .ok (.iconst 1, 1) := by decide +kernel
theorem dL_value_16 : decode cL_value 16 = .ok (.ireturn, 1) := by decide +kernel
theorem dL_value_17 : decode cL_value 17 = .ok (.astore 4, 2) := by decide +kernel
theorem dL_value_19 : decode cL_value 19 = .ok (.iconst 2, 1) := by decide +kernel
theorem dL_value_20 : decode cL_value 20 = .ok (.ireturn, 1) := by decide +kernel
theorem dL_value_21 : decode cL_value 21 = .ok (.iconst 0, 1) := by decide +kernel
theorem dL_value_22 : decode cL_value 22 = .ok (.ireturn, 1) := by decide +kernel
set_option maxRecDepth 20000 in
theorem ggL_isLawful_X0_isLawful : GoodIn wsL_isLawful wsX0_isLawful := goodIn_ca (goodIn_r _ [6, 7, 8, 9, 5, 10, 11, 12, 13, 14, 15, 16, 17, 18, 19, 20, 21, 22, 23, 24, 25, 26, 27, 28, 29, 30, 31, 32, 33, 34, 35, 36, 37, 38, 39, 40, 41, 42, 43, 44, 45, 46, 47, 48, 49, 50, 51, 52, 53, 54, 55, 56, 57, 58, 59] (by decide +kernel) (by decide +kernel)) (goodIn_sub (fun _ h => List.mem_cons_of_mem _ (List.mem_append_right _ h)) (by decide +kernel))
set_option maxRecDepth 20000 in
theorem gL_isLawful_X0_isLawful : GoodIn wsL_isLawful (wsV RL 52 RX0 yX0_isLawful wsX0_isLawful) := goodIn_app (goodIn_of _ (by decide +kernel)) ggL_isLawful_X0_isLawful
theorem dL_isLawful_0 : decode cL_isLawful 0 = .ok (.aload_n 2, 1) := by decide +kernel
theorem dL_isLawful_1 : decode cL_isLawful 1 = .ok (.iconst 0, 1) := by decide +kernel
theorem dL_isLawful_2 : decode cL_isLawful 2 = .ok (.aload_n 0, 1) := by decide +kernel
theorem dL_isLawful_3 : decode cL_isLawful 3 = .ok (.iload_n 1, 1) := by decide +kernel
theorem dL_isLawful_4 : decode cL_isLawful 4 = .ok (.invokevirtual 52, 3) := by decide +kernel
theorem dL_isLawful_7 : decode cL_isLawful 7 = .ok (.ifCond .eq 7, 3) := by decide +kernel
theorem dL_isLawful_10 : decode cL_isLawful 10 = .ok (.lconst 1, 1) := by decide +kernel
theorem dL_isLawful_11 : decode cL_isLawful 11 = .ok (.goto 4, 3) := by decide +kernel
theorem dL_isLawful_14 : decode cL_isLawful 14 = .ok (.lconst 0, 1) := by decide +kernel
theorem dL_isLawful_15 : decode cL_isLawful 15 = .ok (.lastore, 1) := by decide +kernel
theorem dL_isLawful_16 : decode cL_isLawful 16 = .ok (.goto 6, 3) := by decide +kernel
theorem dL_isLawful_19 : decode cL_isLawful 19 = .ok (.astore_n 3, 1) := by decide +kernel
theorem dL_isLawful_20 : decode cL_isLawful 20 = .ok (.iconst 1, 1) := by decide +kernel
theorem dL_isLawful_21 : decode cL_isLawful 21 = .ok (.ireturn, 1) := by decide +kernel
theorem dL_isLawful_22 : decode cL_isLawful 22 = .ok (.iconst 0, 1) := by decide +kernel
theorem dL_isLawful_23 : decode cL_isLawful 23 = .ok (.ireturn, 1) := by decide +kernel
set_option maxRecDepth 20000 in
theorem ggL_rises_X0_rises : GoodIn wsL_rises wsX0_rises := goodIn_ca (goodIn_r _ [6, 7, 8, 9, 10, 5, 11, 12, 13, 14, 15, 16, 17, 18, 19, 20, 21, 22, 23, 24, 25, 26, 27, 28, 29, 30, 31, 32, 33, 34, 35, 36, 37, 38, 39, 40, 41, 42, 43, 44, 45, 46, 47, 48] (by decide +kernel) (by decide +kernel)) (goodIn_sub (fun _ h => List.mem_cons_of_mem _ (List.mem_append_right _ h)) (by decide +kernel))
set_option maxRecDepth 20000 in
theorem gL_rises_X0_rises : GoodIn wsL_rises (wsV RL 56 RX0 yX0_rises wsX0_rises) := goodIn_app (goodIn_of _ (by decide +kernel)) ggL_rises_X0_rises
theorem dL_rises_0 : decode cL_rises 0 = .ok (.aload_n 2, 1) := by decide +kernel
theorem dL_rises_1 : decode cL_rises 1 = .ok (.iconst 0, 1) := by decide +kernel
theorem dL_rises_2 : decode cL_rises 2 = .ok (.aload_n 0, 1) := by decide +kernel
theorem dL_rises_3 : decode cL_rises 3 = .ok (.iload_n 1, 1) := by decide +kernel
theorem dL_rises_4 : decode cL_rises 4 = .ok (.invokevirtual 56, 3) := by decide +kernel
theorem dL_rises_7 : decode cL_rises 7 = .ok (.ifCond .eq 7, 3) := by decide +kernel
theorem dL_rises_10 : decode cL_rises 10 = .ok (.lconst 1, 1) := by decide +kernel
theorem dL_rises_11 : decode cL_rises 11 = .ok (.goto 4, 3) := by decide +kernel
theorem dL_rises_14 : decode cL_rises 14 = .ok (.lconst 0, 1) := by decide +kernel
theorem dL_rises_15 : decode cL_rises 15 = .ok (.lastore, 1) := by decide +kernel
theorem dL_rises_16 : decode cL_rises 16 = .ok (.goto 6, 3) := by decide +kernel
theorem dL_rises_19 : decode cL_rises 19 = .ok (.astore_n 3, 1) := by decide +kernel
theorem dL_rises_20 : decode cL_rises 20 = .ok (.iconst 1, 1) := by decide +kernel
theorem dL_rises_21 : decode cL_rises 21 = .ok (.ireturn, 1) := by decide +kernel
theorem dL_rises_22 : decode cL_rises 22 = .ok (.iconst 0, 1) := by decide +kernel
theorem dL_rises_23 : decode cL_rises 23 = .ok (.ireturn, 1) := by decide +kernel
set_option maxRecDepth 20000 in
theorem ggL_least_X0_least : GoodIn wsL_least wsX0_least := goodIn_ca (goodIn_ca (goodIn_r _ [7, 8, 9, 10, 6, 11, 12, 13, 14, 15, 16, 17, 18, 19, 20, 21, 22, 23, 24, 25, 26, 27, 28, 29, 30, 31, 32, 33, 34, 35, 36, 37, 38, 39, 40, 41, 42, 43, 44, 45, 46, 47, 48, 49, 50, 51, 52, 53, 54, 55, 56, 57, 58, 59, 60, 61, 62, 63, 64, 65, 66, 67, 68, 69, 70, 71, 72, 73, 74, 75, 76, 77, 78, 79, 80, 81, 82, 83, 84] (by decide +kernel) (by decide +kernel)) (goodIn_sub (fun _ h => List.mem_cons_of_mem _ (List.mem_append_left _ (List.mem_append_right _ h))) (by decide +kernel))) (goodIn_sub (fun _ h => List.mem_cons_of_mem _ (List.mem_append_right _ h)) (by decide +kernel))
set_option maxRecDepth 20000 in
theorem gL_least_X0_least : GoodIn wsL_least (wsV RL 59 RX0 yX0_least wsX0_least) := goodIn_app (goodIn_of _ (by decide +kernel)) ggL_least_X0_least
theorem dL_least_0 : decode cL_least 0 = .ok (.aload_n 2, 1) := by decide +kernel
theorem dL_least_1 : decode cL_least 1 = .ok (.iconst 0, 1) := by decide +kernel
theorem dL_least_2 : decode cL_least 2 = .ok (.aload_n 0, 1) := by decide +kernel
theorem dL_least_3 : decode cL_least 3 = .ok (.iload_n 1, 1) := by decide +kernel
theorem dL_least_4 : decode cL_least 4 = .ok (.invokevirtual 59, 3) := by decide +kernel
theorem dL_least_7 : decode cL_least 7 = .ok (.i2l, 1) := by decide +kernel
theorem dL_least_8 : decode cL_least 8 = .ok (.lastore, 1) := by decide +kernel
theorem dL_least_9 : decode cL_least 9 = .ok (.goto 9, 3) := by decide +kernel
theorem dL_least_12 : decode cL_least 12 = .ok (.astore_n 3, 1) := by decide +kernel
theorem dL_least_13 : decode cL_least 13 = .ok (.iconst 1, 1) := by decide +kernel
theorem dL_least_14 : decode cL_least 14 = .ok (.ireturn, 1) := by decide +kernel
theorem dL_least_15 : decode cL_least 15 = .ok (.astore_n 3, 1) := by decide +kernel
theorem dL_least_16 : decode cL_least 16 = .ok (.iconst 2, 1) := by decide +kernel
theorem dL_least_17 : decode cL_least 17 = .ok (.ireturn, 1) := by decide +kernel
theorem dL_least_18 : decode cL_least 18 = .ok (.iconst 0, 1) := by decide +kernel
theorem dL_least_19 : decode cL_least 19 = .ok (.ireturn, 1) := by decide +kernel
set_option maxRecDepth 20000 in
theorem ggL_leastSet_X0_leastSet : GoodIn wsL_leastSet wsX0_leastSet := goodIn_ca (goodIn_ca (goodIn_r _ [7, 8, 9, 10, 6, 11, 12, 13, 14, 15, 16, 17, 18, 19, 20, 21, 22, 23, 24, 25, 26, 27, 28, 29, 30, 31, 32, 33, 34, 35, 36, 37, 38, 39, 40, 41, 42, 43, 44, 45, 46, 47, 48, 49, 50, 51, 52, 53, 54, 55, 56, 57, 58, 59, 60, 61, 62, 63, 64, 65, 66, 67, 68, 69, 70, 71, 72, 73, 74, 75, 76, 77, 78, 79, 80, 81, 82, 83, 84] (by decide +kernel) (by decide +kernel)) (goodIn_sub (fun _ h => List.mem_cons_of_mem _ (List.mem_append_left _ (List.mem_append_right _ h))) (by decide +kernel))) (goodIn_sub (fun _ h => List.mem_cons_of_mem _ (List.mem_append_right _ h)) (by decide +kernel))
set_option maxRecDepth 20000 in
theorem gL_leastSet_X0_leastSet : GoodIn wsL_leastSet (wsV RL 62 RX0 yX0_leastSet wsX0_leastSet) := goodIn_app (goodIn_of _ (by decide +kernel)) ggL_leastSet_X0_leastSet
theorem dL_leastSet_0 : decode cL_leastSet 0 = .ok (.aload_n 3, 1) := by decide +kernel
theorem dL_leastSet_1 : decode cL_leastSet 1 = .ok (.iconst 0, 1) := by decide +kernel
theorem dL_leastSet_2 : decode cL_leastSet 2 = .ok (.aload_n 0, 1) := by decide +kernel
theorem dL_leastSet_3 : decode cL_leastSet 3 = .ok (.iload_n 1, 1) := by decide +kernel
theorem dL_leastSet_4 : decode cL_leastSet 4 = .ok (.iload_n 2, 1) := by decide +kernel
theorem dL_leastSet_5 : decode cL_leastSet 5 = .ok (.invokevirtual 62, 3) := by decide +kernel
theorem dL_leastSet_8 : decode cL_leastSet 8 = .ok (.i2l, 1) := by decide +kernel
theorem dL_leastSet_9 : decode cL_leastSet 9 = .ok (.lastore, 1) := by decide +kernel
theorem dL_leastSet_10 : decode cL_leastSet 10 = .ok (.goto 11, 3) := by decide +kernel
theorem dL_leastSet_13 : decode cL_leastSet 13 = .ok (.astore 4, 2) := by decide +kernel
theorem dL_leastSet_15 : decode cL_leastSet 15 = .ok (.iconst 1, 1) := by decide +kernel
theorem dL_leastSet_16 : decode cL_leastSet 16 = .ok (.ireturn, 1) := by decide +kernel
theorem dL_leastSet_17 : decode cL_leastSet 17 = .ok (.astore 4, 2) := by decide +kernel
theorem dL_leastSet_19 : decode cL_leastSet 19 = .ok (.iconst 2, 1) := by decide +kernel
theorem dL_leastSet_20 : decode cL_leastSet 20 = .ok (.ireturn, 1) := by decide +kernel
theorem dL_leastSet_21 : decode cL_leastSet 21 = .ok (.iconst 0, 1) := by decide +kernel
theorem dL_leastSet_22 : decode cL_leastSet 22 = .ok (.ireturn, 1) := by decide +kernel
set_option maxRecDepth 20000 in
theorem ggL_leastSetAnew_X0_leastSetAnew : GoodIn wsL_leastSetAnew wsX0_leastSetAnew := goodIn_ca (goodIn_ca (goodIn_r _ [7, 8, 9, 10, 11, 12, 13, 14, 6, 15, 16, 17, 18, 19, 20, 21, 22, 23, 24, 25, 26, 27, 28, 29, 30, 31, 32, 33, 34, 35, 36, 37, 38, 39, 40, 41, 42, 43, 44, 45, 46, 47, 48, 49, 50, 51, 52, 53, 54, 55, 56, 57, 58, 59, 60, 61, 62, 63, 64, 65, 66, 67, 68, 69] (by decide +kernel) (by decide +kernel)) (goodIn_sub (fun _ h => List.mem_cons_of_mem _ (List.mem_append_left _ (List.mem_append_right _ h))) (by decide +kernel))) (goodIn_sub (fun _ h => List.mem_cons_of_mem _ (List.mem_append_right _ h)) (by decide +kernel))
set_option maxRecDepth 20000 in
theorem gL_leastSetAnew_X0_leastSetAnew : GoodIn wsL_leastSetAnew (wsV RL 66 RX0 yX0_leastSetAnew wsX0_leastSetAnew) := goodIn_app (goodIn_of _ (by decide +kernel)) ggL_leastSetAnew_X0_leastSetAnew
theorem dL_leastSetAnew_0 : decode cL_leastSetAnew 0 = .ok (.aload_n 3, 1) := by decide +kernel
theorem dL_leastSetAnew_1 : decode cL_leastSetAnew 1 = .ok (.iconst 0, 1) := by decide +kernel
theorem dL_leastSetAnew_2 : decode cL_leastSetAnew 2 = .ok (.aload_n 0, 1) := by decide +kernel
theorem dL_leastSetAnew_3 : decode cL_leastSetAnew 3 = .ok (.iload_n 1, 1) := by decide +kernel
theorem dL_leastSetAnew_4 : decode cL_leastSetAnew 4 = .ok (.iload_n 2, 1) := by decide +kernel
theorem dL_leastSetAnew_5 : decode cL_leastSetAnew 5 = .ok (.invokevirtual 66, 3) := by decide +kernel
theorem dL_leastSetAnew_8 : decode cL_leastSetAnew 8 = .ok (.i2l, 1) := by decide +kernel
theorem dL_leastSetAnew_9 : decode cL_leastSetAnew 9 = .ok (.lastore, 1) := by decide +kernel
theorem dL_leastSetAnew_10 : decode cL_leastSetAnew 10 = .ok (.goto 11, 3) := by decide +kernel
theorem dL_leastSetAnew_13 : decode cL_leastSetAnew 13 = .ok (.astore 4, 2) := by decide +kernel
theorem dL_leastSetAnew_15 : decode cL_leastSetAnew 15 = .ok (.iconst 1, 1) := by decide +kernel
theorem dL_leastSetAnew_16 : decode cL_leastSetAnew 16 = .ok (.ireturn, 1) := by decide +kernel
theorem dL_leastSetAnew_17 : decode cL_leastSetAnew 17 = .ok (.astore 4, 2) := by decide +kernel
theorem dL_leastSetAnew_19 : decode cL_leastSetAnew 19 = .ok (.iconst 2, 1) := by decide +kernel
theorem dL_leastSetAnew_20 : decode cL_leastSetAnew 20 = .ok (.ireturn, 1) := by decide +kernel
theorem dL_leastSetAnew_21 : decode cL_leastSetAnew 21 = .ok (.iconst 0, 1) := by decide +kernel
theorem dL_leastSetAnew_22 : decode cL_leastSetAnew 22 = .ok (.ireturn, 1) := by decide +kernel
set_option maxRecDepth 20000 in
theorem ggL_order_X0_order : GoodIn wsL_order wsX0_order := goodIn_ca (goodIn_ca (goodIn_r _ [7, 8, 9, 10, 11, 12, 13, 6, 14, 15, 16, 17, 18, 19, 20, 21, 22, 23, 24, 25, 26, 27, 28, 29, 30, 31, 32, 33, 34, 35, 36, 37, 38, 39, 40, 41, 42, 43, 44, 45, 46] (by decide +kernel) (by decide +kernel)) (goodIn_sub (fun _ h => List.mem_cons_of_mem _ (List.mem_append_left _ (List.mem_append_right _ h))) (by decide +kernel))) (goodIn_sub (fun _ h => List.mem_cons_of_mem _ (List.mem_append_right _ h)) (by decide +kernel))
set_option maxRecDepth 20000 in
theorem gL_order_X0_order : GoodIn wsL_order (wsV RL 69 RX0 yX0_order wsX0_order) := goodIn_app (goodIn_of _ (by decide +kernel)) ggL_order_X0_order
theorem dL_order_0 : decode cL_order 0 = .ok (.aload_n 2, 1) := by decide +kernel
theorem dL_order_1 : decode cL_order 1 = .ok (.iconst 0, 1) := by decide +kernel
theorem dL_order_2 : decode cL_order 2 = .ok (.aload_n 0, 1) := by decide +kernel
theorem dL_order_3 : decode cL_order 3 = .ok (.iload_n 1, 1) := by decide +kernel
theorem dL_order_4 : decode cL_order 4 = .ok (.invokevirtual 69, 3) := by decide +kernel
theorem dL_order_7 : decode cL_order 7 = .ok (.i2l, 1) := by decide +kernel
theorem dL_order_8 : decode cL_order 8 = .ok (.lastore, 1) := by decide +kernel
theorem dL_order_9 : decode cL_order 9 = .ok (.goto 9, 3) := by decide +kernel
theorem dL_order_12 : decode cL_order 12 = .ok (.astore_n 3, 1) := by decide +kernel
theorem dL_order_13 : decode cL_order 13 = .ok (.iconst 1, 1) := by decide +kernel
theorem dL_order_14 : decode cL_order 14 = .ok (.ireturn, 1) := by decide +kernel
theorem dL_order_15 : decode cL_order 15 = .ok (.astore_n 3, 1) := by decide +kernel
theorem dL_order_16 : decode cL_order 16 = .ok (.iconst 2, 1) := by decide +kernel
theorem dL_order_17 : decode cL_order 17 = .ok (.ireturn, 1) := by decide +kernel
theorem dL_order_18 : decode cL_order 18 = .ok (.iconst 0, 1) := by decide +kernel
theorem dL_order_19 : decode cL_order 19 = .ok (.ireturn, 1) := by decide +kernel
set_option maxRecDepth 20000 in
theorem ggL_corner_X0_corner : GoodIn wsL_corner wsX0_corner := goodIn_ca (goodIn_ca (goodIn_r _ [7, 8, 9, 10, 6, 11, 12, 13, 14, 15, 16, 17, 18, 19, 20, 21, 22, 23, 24, 25, 26, 27, 28, 29, 30, 31, 32, 33, 34, 35, 36, 37, 38, 39, 40, 41, 42, 43, 44, 45, 46, 47, 48, 49, 50, 51, 52, 53, 54, 55, 56, 57, 58, 59, 60, 61, 62, 63, 64] (by decide +kernel) (by decide +kernel)) (goodIn_sub (fun _ h => List.mem_cons_of_mem _ (List.mem_append_left _ (List.mem_append_right _ h))) (by decide +kernel))) (goodIn_sub (fun _ h => List.mem_cons_of_mem _ (List.mem_append_right _ h)) (by decide +kernel))
set_option maxRecDepth 20000 in
theorem gL_corner_X0_corner : GoodIn wsL_corner (wsV RL 72 RX0 yX0_corner wsX0_corner) := goodIn_app (goodIn_of _ (by decide +kernel)) ggL_corner_X0_corner
theorem dL_corner_0 : decode cL_corner 0 = .ok (.aload_n 3, 1) := by decide +kernel
theorem dL_corner_1 : decode cL_corner 1 = .ok (.iconst 0, 1) := by decide +kernel
theorem dL_corner_2 : decode cL_corner 2 = .ok (.aload_n 0, 1) := by decide +kernel
theorem dL_corner_3 : decode cL_corner 3 = .ok (.iload_n 1, 1) := by decide +kernel
theorem dL_corner_4 : decode cL_corner 4 = .ok (.iload_n 2, 1) := by decide +kernel
theorem dL_corner_5 : decode cL_corner 5 = .ok (.invokevirtual 72, 3) := by decide +kernel
theorem dL_corner_8 : decode cL_corner 8 = .ok (.i2l, 1) := by decide +kernel
theorem dL_corner_9 : decode cL_corner 9 = .ok (.lastore, 1) := by decide +kernel
theorem dL_corner_10 : decode cL_corner 10 = .ok (.goto 11, 3) := by decide +kernel
theorem dL_corner_13 : decode cL_corner 13 = .ok (.astore 4, 2) := by decide +kernel
theorem dL_corner_15 : decode cL_corner 15 = .ok (.iconst 1, 1) := by decide +kernel
theorem dL_corner_16 : decode cL_corner 16 = .ok (.ireturn, 1) := by decide +kernel
theorem dL_corner_17 : decode cL_corner 17 = .ok (.astore 4, 2) := by decide +kernel
theorem dL_corner_19 : decode cL_corner 19 = .ok (.iconst 2, 1) := by decide +kernel
theorem dL_corner_20 : decode cL_corner 20 = .ok (.ireturn, 1) := by decide +kernel
theorem dL_corner_21 : decode cL_corner 21 = .ok (.iconst 0, 1) := by decide +kernel
theorem dL_corner_22 : decode cL_corner 22 = .ok (.ireturn, 1) := by decide +kernel
set_option maxRecDepth 20000 in
theorem ggL_greedy_X0_greedy : GoodIn wsL_greedy wsX0_greedy := goodIn_ca (goodIn_ca (goodIn_r _ [7, 8, 9, 10, 6, 11, 12, 13, 14, 15, 16, 17, 18, 19, 20, 21, 22, 23, 24, 25, 26, 27, 28, 29, 30, 31, 32, 33, 34, 35, 36, 37, 38, 39, 40, 41, 42, 43, 44, 45, 46, 47, 48, 49, 50, 51, 52, 53, 54, 55, 56, 57] (by decide +kernel) (by decide +kernel)) (goodIn_sub (fun _ h => List.mem_cons_of_mem _ (List.mem_append_left _ (List.mem_append_right _ h))) (by decide +kernel))) (goodIn_sub (fun _ h => List.mem_cons_of_mem _ (List.mem_append_right _ h)) (by decide +kernel))
set_option maxRecDepth 20000 in
theorem gL_greedy_X0_greedy : GoodIn wsL_greedy (wsV RL 75 RX0 yX0_greedy wsX0_greedy) := goodIn_app (goodIn_of _ (by decide +kernel)) ggL_greedy_X0_greedy
theorem dL_greedy_0 : decode cL_greedy 0 = .ok (.aload_n 3, 1) := by decide +kernel
theorem dL_greedy_1 : decode cL_greedy 1 = .ok (.iconst 0, 1) := by decide +kernel
theorem dL_greedy_2 : decode cL_greedy 2 = .ok (.aload_n 0, 1) := by decide +kernel
theorem dL_greedy_3 : decode cL_greedy 3 = .ok (.iload_n 1, 1) := by decide +kernel
theorem dL_greedy_4 : decode cL_greedy 4 = .ok (.iload_n 2, 1) := by decide +kernel
theorem dL_greedy_5 : decode cL_greedy 5 = .ok (.invokevirtual 75, 3) := by decide +kernel
theorem dL_greedy_8 : decode cL_greedy 8 = .ok (.i2l, 1) := by decide +kernel
theorem dL_greedy_9 : decode cL_greedy 9 = .ok (.lastore, 1) := by decide +kernel
theorem dL_greedy_10 : decode cL_greedy 10 = .ok (.goto 11, 3) := by decide +kernel
theorem dL_greedy_13 : decode cL_greedy 13 = .ok (.astore 4, 2) := by decide +kernel
theorem dL_greedy_15 : decode cL_greedy 15 = .ok (.iconst 1, 1) := by decide +kernel
theorem dL_greedy_16 : decode cL_greedy 16 = .ok (.ireturn, 1) := by decide +kernel
theorem dL_greedy_17 : decode cL_greedy 17 = .ok (.astore 4, 2) := by decide +kernel
theorem dL_greedy_19 : decode cL_greedy 19 = .ok (.iconst 2, 1) := by decide +kernel
theorem dL_greedy_20 : decode cL_greedy 20 = .ok (.ireturn, 1) := by decide +kernel
theorem dL_greedy_21 : decode cL_greedy 21 = .ok (.iconst 0, 1) := by decide +kernel
theorem dL_greedy_22 : decode cL_greedy 22 = .ok (.ireturn, 1) := by decide +kernel
set_option maxRecDepth 20000 in
theorem ggL_best_X0_best : GoodIn wsL_best wsX0_best := goodIn_ca (goodIn_ca (goodIn_r _ [7, 8, 9, 10, 11, 12, 13, 14, 6, 15, 16, 17, 18, 19, 20, 21, 22, 23, 24, 25, 26, 27, 28, 29, 30, 31, 32, 33, 34, 35, 36, 37, 38, 39, 40, 41, 42, 43, 44, 45, 46, 47, 48, 49, 50, 51, 52, 53, 54, 55, 56, 57, 58, 59, 60, 61] (by decide +kernel) (by decide +kernel)) (goodIn_sub (fun _ h => List.mem_cons_of_mem _ (List.mem_append_left _ (List.mem_append_right _ h))) (by decide +kernel))) (goodIn_sub (fun _ h => List.mem_cons_of_mem _ (List.mem_append_right _ h)) (by decide +kernel))
set_option maxRecDepth 20000 in
theorem gL_best_X0_best : GoodIn wsL_best (wsV RL 78 RX0 yX0_best wsX0_best) := goodIn_app (goodIn_of _ (by decide +kernel)) ggL_best_X0_best
theorem dL_best_0 : decode cL_best 0 = .ok (.aload_n 3, 1) := by decide +kernel
theorem dL_best_1 : decode cL_best 1 = .ok (.iconst 0, 1) := by decide +kernel
theorem dL_best_2 : decode cL_best 2 = .ok (.aload_n 0, 1) := by decide +kernel
theorem dL_best_3 : decode cL_best 3 = .ok (.iload_n 1, 1) := by decide +kernel
theorem dL_best_4 : decode cL_best 4 = .ok (.iload_n 2, 1) := by decide +kernel
theorem dL_best_5 : decode cL_best 5 = .ok (.invokevirtual 78, 3) := by decide +kernel
theorem dL_best_8 : decode cL_best 8 = .ok (.i2l, 1) := by decide +kernel
theorem dL_best_9 : decode cL_best 9 = .ok (.lastore, 1) := by decide +kernel
theorem dL_best_10 : decode cL_best 10 = .ok (.goto 11, 3) := by decide +kernel
theorem dL_best_13 : decode cL_best 13 = .ok (.astore 4, 2) := by decide +kernel
theorem dL_best_15 : decode cL_best 15 = .ok (.iconst 1, 1) := by decide +kernel
theorem dL_best_16 : decode cL_best 16 = .ok (.ireturn, 1) := by decide +kernel
theorem dL_best_17 : decode cL_best 17 = .ok (.astore 4, 2) := by decide +kernel
theorem dL_best_19 : decode cL_best 19 = .ok (.iconst 2, 1) := by decide +kernel
theorem dL_best_20 : decode cL_best 20 = .ok (.ireturn, 1) := by decide +kernel
theorem dL_best_21 : decode cL_best 21 = .ok (.iconst 0, 1) := by decide +kernel
theorem dL_best_22 : decode cL_best 22 = .ok (.ireturn, 1) := by decide +kernel
set_option maxRecDepth 20000 in
theorem ggL_share_X0_share : GoodIn wsL_share wsX0_share := goodIn_ca (goodIn_r _ [6, 7, 8, 9, 10, 5, 11, 12, 13, 14, 15, 16, 17, 18, 19, 20, 21, 22, 23, 24, 25, 26, 27, 28, 29, 30, 31, 32, 33, 34, 35, 36, 37, 38, 39, 40, 41, 42, 43, 44, 45, 46, 47, 48, 49, 50, 51, 52, 53, 54, 55, 56, 57, 58, 59, 60, 61, 62, 63, 64, 65] (by decide +kernel) (by decide +kernel)) (goodIn_sub (fun _ h => List.mem_cons_of_mem _ (List.mem_append_right _ h)) (by decide +kernel))
set_option maxRecDepth 20000 in
theorem gL_share_X0_share : GoodIn wsL_share (wsV RL 81 RX0 yX0_share wsX0_share) := goodIn_app (goodIn_of _ (by decide +kernel)) ggL_share_X0_share
theorem dL_share_0 : decode cL_share 0 = .ok (.aload_n 3, 1) := by decide +kernel
theorem dL_share_1 : decode cL_share 1 = .ok (.iconst 0, 1) := by decide +kernel
theorem dL_share_2 : decode cL_share 2 = .ok (.aload_n 0, 1) := by decide +kernel
theorem dL_share_3 : decode cL_share 3 = .ok (.iload_n 1, 1) := by decide +kernel
theorem dL_share_4 : decode cL_share 4 = .ok (.iload_n 2, 1) := by decide +kernel
theorem dL_share_5 : decode cL_share 5 = .ok (.invokevirtual 81, 3) := by decide +kernel
theorem dL_share_8 : decode cL_share 8 = .ok (.i2l, 1) := by decide +kernel
theorem dL_share_9 : decode cL_share 9 = .ok (.lastore, 1) := by decide +kernel
theorem dL_share_10 : decode cL_share 10 = .ok (.goto 7, 3) := by decide +kernel
theorem dL_share_13 : decode cL_share 13 = .ok (.astore 4, 2) := by decide +kernel
theorem dL_share_15 : decode cL_share 15 = .ok (.iconst 1, 1) := by decide +kernel
theorem dL_share_16 : decode cL_share 16 = .ok (.ireturn, 1) := by decide +kernel
theorem dL_share_17 : decode cL_share 17 = .ok (.iconst 0, 1) := by decide +kernel
theorem dL_share_18 : decode cL_share 18 = .ok (.ireturn, 1) := by decide +kernel
set_option maxRecDepth 20000 in
theorem ggL_shareAnew_X0_shareAnew : GoodIn wsL_shareAnew wsX0_shareAnew := goodIn_ca (goodIn_r _ [6, 7, 8, 9, 5, 10, 11, 12, 13, 14, 15, 16, 17, 18, 19, 20, 21, 22, 23, 24, 25, 26, 27, 28, 29, 30, 31, 32, 33, 34, 35, 36, 37, 38, 39, 40, 41, 42, 43, 44, 45, 46, 47, 48, 49, 50, 51, 52, 53, 54, 55] (by decide +kernel) (by decide +kernel)) (goodIn_sub (fun _ h => List.mem_cons_of_mem _ (List.mem_append_right _ h)) (by decide +kernel))
set_option maxRecDepth 20000 in
theorem gL_shareAnew_X0_shareAnew : GoodIn wsL_shareAnew (wsV RL 84 RX0 yX0_shareAnew wsX0_shareAnew) := goodIn_app (goodIn_of _ (by decide +kernel)) ggL_shareAnew_X0_shareAnew
theorem dL_shareAnew_0 : decode cL_shareAnew 0 = .ok (.aload_n 3, 1) := by decide +kernel
theorem dL_shareAnew_1 : decode cL_shareAnew 1 = .ok (.iconst 0, 1) := by decide +kernel
theorem dL_shareAnew_2 : decode cL_shareAnew 2 = .ok (.aload_n 0, 1) := by decide +kernel
theorem dL_shareAnew_3 : decode cL_shareAnew 3 = .ok (.iload_n 1, 1) := by decide +kernel
theorem dL_shareAnew_4 : decode cL_shareAnew 4 = .ok (.iload_n 2, 1) := by decide +kernel
theorem dL_shareAnew_5 : decode cL_shareAnew 5 = .ok (.invokevirtual 84, 3) := by decide +kernel
theorem dL_shareAnew_8 : decode cL_shareAnew 8 = .ok (.i2l, 1) := by decide +kernel
theorem dL_shareAnew_9 : decode cL_shareAnew 9 = .ok (.lastore, 1) := by decide +kernel
theorem dL_shareAnew_10 : decode cL_shareAnew 10 = .ok (.goto 7, 3) := by decide +kernel
theorem dL_shareAnew_13 : decode cL_shareAnew 13 = .ok (.astore 4, 2) := by decide +kernel
theorem dL_shareAnew_15 : decode cL_shareAnew 15 = .ok (.iconst 1, 1) := by decide +kernel
theorem dL_shareAnew_16 : decode cL_shareAnew 16 = .ok (.ireturn, 1) := by decide +kernel
theorem dL_shareAnew_17 : decode cL_shareAnew 17 = .ok (.iconst 0, 1) := by decide +kernel
theorem dL_shareAnew_18 : decode cL_shareAnew 18 = .ok (.ireturn, 1) := by decide +kernel
set_option maxRecDepth 20000 in
theorem ggL_law_X0_init : GoodIn wsL_law wsX0_init := goodIn_r _ [9, 10, 11, 12, 13, 14, 15, 16, 17, 18, 19, 20, 21, 22, 23, 24, 25, 26, 27, 28, 29, 580, 581, 582, 583, 584, 585, 586, 587, 588, 589, 590, 591] (by decide +kernel) (by decide +kernel)
set_option maxRecDepth 20000 in
theorem gL_law_X0_init : GoodIn wsL_law (wsX0_init) := ggL_law_X0_init
set_option maxRecDepth 20000 in
theorem ggL_law_X1_init : GoodIn wsL_law wsX1_init := goodIn_r _ [32, 33, 11, 12, 34, 16, 35, 36, 37, 38, 39, 40, 41, 42, 43, 44, 5, 45, 46, 47, 592, 593, 594, 595, 596, 597, 598, 599, 600, 601, 602] (by decide +kernel) (by decide +kernel)
set_option maxRecDepth 20000 in
theorem gL_law_X1_init : GoodIn wsL_law (wsX1_init) := ggL_law_X1_init
set_option maxRecDepth 20000 in
theorem ggL_law_L_elements : GoodIn wsL_law wsL_elements := goodIn_ca (goodIn_r _ [51, 52, 53, 54, 55, 2, 56, 13, 14, 15, 17, 18, 19, 20, 21, 57, 58, 59, 60, 61, 62, 63, 64, 26, 27, 28, 29, 580, 581, 582, 583, 584, 585, 586, 587, 588, 589, 590, 591] (by decide +kernel) (by decide +kernel)) (goodIn_sub (fun _ h => List.mem_append_left _ (List.mem_append_left _ (List.mem_append_right _ h))) (by decide +kernel))
set_option maxRecDepth 20000 in
theorem gL_law_L_elements : GoodIn wsL_law (va_wsS RL 91 yL_elements wsL_elements) := goodIn_app (goodIn_of _ (by decide +kernel)) ggL_law_L_elements
set_option maxRecDepth 20000 in
theorem ggL_law_X1_elements : GoodIn wsL_law wsX1_elements := goodIn_r _ [68, 69, 34, 70, 71, 5, 72, 42, 43, 44, 45, 46, 47, 35, 39, 36, 37, 38, 592, 593, 594, 595, 596, 597, 598, 599, 600, 601, 602] (by decide +kernel) (by decide +kernel)
set_option maxRecDepth 20000 in
theorem gL_law_X1_elements : GoodIn wsL_law (wsV RL 96 RX1 yX1_elements wsX1_elements) := goodIn_app (goodIn_of _ (by decide +kernel)) ggL_law_X1_elements
set_option maxRecDepth 20000 in
theorem ggL_law_X1_thrown : GoodIn wsL_law wsX1_thrown := goodIn_r _ [76, 69, 592, 593, 594, 595, 596, 597, 598, 599, 600, 601, 602] (by decide +kernel) (by decide +kernel)
set_option maxRecDepth 20000 in
theorem gL_law_X1_thrown : GoodIn wsL_law (wsV RL 97 RX1 yX1_thrown wsX1_thrown) := goodIn_app (goodIn_of _ (by decide +kernel)) ggL_law_X1_thrown
set_option maxRecDepth 20000 in
theorem ggL_law_L_cover : GoodIn wsL_law wsL_cover := goodIn_ca (goodIn_r _ [79, 80, 81, 82, 83, 2, 84, 17, 85, 86, 87, 88, 13, 57, 58, 59, 89, 90, 91, 92, 93, 94, 95, 96, 97, 98, 99, 100, 101, 102, 103, 104, 105, 106, 107, 108, 580, 581, 582, 583, 584, 585, 586, 587, 588, 589, 590, 591] (by decide +kernel) (by decide +kernel)) (goodIn_sub (fun _ h => List.mem_append_left _ (List.mem_append_right _ h)) (by decide +kernel))
set_option maxRecDepth 20000 in
theorem gL_law_L_cover : GoodIn wsL_law (va_wsS RL 101 yL_cover wsL_cover) := goodIn_app (goodIn_of _ (by decide +kernel)) ggL_law_L_cover
set_option maxRecDepth 20000 in
theorem ggL_law_X1_cover : GoodIn wsL_law wsX1_cover := goodIn_r _ [112, 69, 35, 113, 114, 115, 5, 116, 34, 70, 71, 72, 117, 118, 119, 592, 593, 594, 595, 596, 597, 598, 599, 600, 601, 602] (by decide +kernel) (by decide +kernel)
set_option maxRecDepth 20000 in
theorem gL_law_X1_cover : GoodIn wsL_law (wsV RL 104 RX1 yX1_cover wsX1_cover) := goodIn_app (goodIn_of _ (by decide +kernel)) ggL_law_X1_cover
set_option maxRecDepth 20000 in
theorem ggL_law_L_edge : GoodIn wsL_law wsL_edge := goodIn_ca (goodIn_ca (goodIn_r _ [122, 80, 52, 123, 124, 125, 2, 126, 18, 85, 86, 87, 88, 13, 89, 90, 91, 92, 93, 57, 58, 59, 60, 61, 62, 63, 64, 127, 128, 129, 130, 94, 95, 96, 103, 104, 105, 580, 581, 582, 583, 584, 585, 586, 587, 588, 589, 590, 591] (by decide +kernel) (by decide +kernel)) (goodIn_sub (fun _ h => List.mem_append_left _ (List.mem_append_right _ h)) (by decide +kernel))) (goodIn_sub (fun _ h => List.mem_append_left _ (List.mem_append_left _ (List.mem_append_right _ h))) (by decide +kernel))
set_option maxRecDepth 20000 in
theorem gL_law_L_edge : GoodIn wsL_law (va_wsS RL 105 yL_edge wsL_edge) := goodIn_app (goodIn_of _ (by decide +kernel)) ggL_law_L_edge
set_option maxRecDepth 20000 in
theorem ggL_law_X1_edge : GoodIn wsL_law wsX1_edge := goodIn_r _ [134, 69, 36, 113, 114, 115, 5, 116, 34, 70, 71, 72, 592, 593, 594, 595, 596, 597, 598, 599, 600, 601, 602] (by decide +kernel) (by decide +kernel)
set_option maxRecDepth 20000 in
theorem gL_law_X1_edge : GoodIn wsL_law (wsV RL 108 RX1 yX1_edge wsX1_edge) := goodIn_app (goodIn_of _ (by decide +kernel)) ggL_law_X1_edge
set_option maxRecDepth 20000 in
theorem ggL_law_L_colour : GoodIn wsL_law wsL_colour := goodIn_ca (goodIn_r _ [137, 80, 138, 139, 140, 2, 141, 19, 142, 143, 144, 85, 86, 87, 88, 13, 145, 146, 147, 89, 90, 91, 92, 93, 148, 149, 150, 151, 94, 95, 96, 103, 104, 105, 580, 581, 582, 583, 584, 585, 586, 587, 588, 589, 590, 591] (by decide +kernel) (by decide +kernel)) (goodIn_sub (fun _ h => List.mem_append_left _ (List.mem_append_right _ h)) (by decide +kernel))
set_option maxRecDepth 20000 in
theorem gL_law_L_colour : GoodIn wsL_law (va_wsS RL 109 yL_colour wsL_colour) := goodIn_app (goodIn_of _ (by decide +kernel)) ggL_law_L_colour
set_option maxRecDepth 20000 in
theorem ggL_law_X1_colour : GoodIn wsL_law wsX1_colour := goodIn_r _ [155, 69, 37, 70, 71, 5, 72, 113, 114, 115, 116, 34, 592, 593, 594, 595, 596, 597, 598, 599, 600, 601, 602] (by decide +kernel) (by decide +kernel)
set_option maxRecDepth 20000 in
theorem gL_law_X1_colour : GoodIn wsL_law (wsV RL 111 RX1 yX1_colour wsX1_colour) := goodIn_app (goodIn_of _ (by decide +kernel)) ggL_law_X1_colour
set_option maxRecDepth 20000 in
theorem ggL_law_L_room : GoodIn wsL_law wsL_room := goodIn_ca (goodIn_ca (goodIn_r _ [158, 80, 52, 159, 160, 161, 2, 162, 20, 142, 143, 144, 145, 146, 147, 89, 90, 91, 92, 93, 57, 58, 59, 60, 61, 62, 63, 64, 163, 164, 165, 166, 94, 95, 96, 103, 104, 105, 580, 581, 582, 583, 584, 585, 586, 587, 588, 589, 590, 591] (by decide +kernel) (by decide +kernel)) (goodIn_sub (fun _ h => List.mem_append_left _ (List.mem_append_right _ h)) (by decide +kernel))) (goodIn_sub (fun _ h => List.mem_append_left _ (List.mem_append_left _ (List.mem_append_right _ h))) (by decide +kernel))
set_option maxRecDepth 20000 in
theorem gL_law_L_room : GoodIn wsL_law (va_wsS RL 112 yL_room wsL_room) := goodIn_app (goodIn_of _ (by decide +kernel)) ggL_law_L_room
set_option maxRecDepth 20000 in
theorem ggL_law_X1_room : GoodIn wsL_law wsX1_room := goodIn_r _ [170, 69, 38, 70, 71, 5, 72, 592, 593, 594, 595, 596, 597, 598, 599, 600, 601, 602] (by decide +kernel) (by decide +kernel)
set_option maxRecDepth 20000 in
theorem gL_law_X1_room : GoodIn wsL_law (wsV RL 114 RX1 yX1_room wsX1_room) := goodIn_app (goodIn_of _ (by decide +kernel)) ggL_law_X1_room
set_option maxRecDepth 20000 in
theorem ggL_law_L_weigh : GoodIn wsL_law wsL_weigh := goodIn_ca (goodIn_ca (goodIn_r _ [173, 80, 52, 174, 175, 176, 2, 177, 21, 85, 86, 87, 88, 13, 89, 90, 91, 92, 93, 57, 58, 59, 60, 61, 62, 63, 64, 94, 95, 96, 103, 104, 105, 580, 581, 582, 583, 584, 585, 586, 587, 588, 589, 590, 591] (by decide +kernel) (by decide +kernel)) (goodIn_sub (fun _ h => List.mem_append_left _ (List.mem_append_right _ h)) (by decide +kernel))) (goodIn_sub (fun _ h => List.mem_append_left _ (List.mem_append_left _ (List.mem_append_right _ h))) (by decide +kernel))
set_option maxRecDepth 20000 in
theorem gL_law_L_weigh : GoodIn wsL_law (va_wsS RL 115 yL_weigh wsL_weigh) := goodIn_app (goodIn_of _ (by decide +kernel)) ggL_law_L_weigh
set_option maxRecDepth 20000 in
theorem ggL_law_X1_weigh : GoodIn wsL_law wsX1_weigh := goodIn_r _ [181, 69, 39, 113, 114, 115, 5, 116, 34, 70, 71, 72, 592, 593, 594, 595, 596, 597, 598, 599, 600, 601, 602] (by decide +kernel) (by decide +kernel)
set_option maxRecDepth 20000 in
theorem gL_law_X1_weigh : GoodIn wsL_law (wsV RL 118 RX1 yX1_weigh wsX1_weigh) := goodIn_app (goodIn_of _ (by decide +kernel)) ggL_law_X1_weigh
set_option maxRecDepth 20000 in
theorem ggL_law_L_make : GoodIn wsL_law wsL_make := goodIn_ca (goodIn_ca (goodIn_r _ [184, 52, 185, 186, 187, 188, 2, 189, 57, 58, 59, 60, 61, 62, 63, 64, 190, 191, 192, 193, 14, 194, 195, 196, 197, 198, 199, 200, 201, 202, 13, 203, 204, 205, 206, 207, 208, 209, 210, 17, 106, 107, 108, 94, 95, 96, 211, 212, 213, 214, 215, 216, 217, 218, 219, 220, 221, 127, 128, 129, 130, 18, 222, 223, 224, 225, 226, 227, 228, 229, 230, 231, 232, 233, 148, 149, 150, 151, 19, 163, 164, 165, 166, 20, 234, 235, 236, 237, 21, 238, 239, 240, 241, 22, 103, 104, 105, 242, 243, 244, 245, 580, 581, 582, 583, 584, 585, 586, 587, 588, 589, 590, 591] (by decide +kernel) (by decide +kernel)) (goodIn_sub (fun _ h => List.mem_append_left _ (List.mem_append_left _ (List.mem_append_right _ h))) (by decide +kernel))) (goodIn_sub (fun _ h => List.mem_append_right _ h) (by decide +kernel))
set_option maxRecDepth 20000 in
theorem gL_law_L_make : GoodIn wsL_law (va_wsS RL 119 yL_make wsL_make) := goodIn_app (goodIn_of _ (by decide +kernel)) ggL_law_L_make
set_option maxRecDepth 20000 in
theorem ggL_law_X1_make : GoodIn wsL_law wsX1_make := goodIn_r _ [249, 46, 69, 40, 70, 71, 5, 72, 250, 251, 252, 253, 34, 254, 255, 256, 257, 35, 117, 118, 119, 258, 259, 260, 261, 262, 263, 264, 36, 265, 266, 267, 268, 39, 269, 270, 271, 272, 38, 273, 274, 275, 276, 37, 592, 593, 594, 595, 596, 597, 598, 599, 600, 601, 602] (by decide +kernel) (by decide +kernel)
set_option maxRecDepth 20000 in
theorem gL_law_X1_make : GoodIn wsL_law (wsV RL 121 RX1 yX1_make wsX1_make) := goodIn_app (goodIn_of _ (by decide +kernel)) ggL_law_X1_make
set_option maxRecDepth 20000 in
theorem ggL_law_L_sum : GoodIn wsL_law wsL_sum := goodIn_ca (goodIn_ca (goodIn_r _ [279, 80, 185, 280, 281, 282, 2, 283, 284, 285, 286, 287, 14, 89, 90, 91, 92, 93, 190, 191, 192, 193, 194, 195, 196, 197, 198, 199, 200, 201, 202, 13, 288, 289, 290, 291, 22, 94, 95, 96, 238, 239, 240, 241, 103, 104, 105, 242, 243, 244, 245, 580, 581, 582, 583, 584, 585, 586, 587, 588, 589, 590, 591] (by decide +kernel) (by decide +kernel)) (goodIn_sub (fun _ h => List.mem_append_left _ (List.mem_append_right _ h)) (by decide +kernel))) (goodIn_sub (fun _ h => List.mem_append_right _ h) (by decide +kernel))
set_option maxRecDepth 20000 in
theorem gL_law_L_sum : GoodIn wsL_law (va_wsS RL 122 yL_sum wsL_sum) := goodIn_app (goodIn_of _ (by decide +kernel)) ggL_law_L_sum
set_option maxRecDepth 20000 in
theorem ggL_law_X1_sum : GoodIn wsL_law wsX1_sum := goodIn_r _ [295, 46, 69, 40, 296, 297, 298, 5, 299, 70, 71, 72, 250, 251, 252, 253, 34, 592, 593, 594, 595, 596, 597, 598, 599, 600, 601, 602] (by decide +kernel) (by decide +kernel)
set_option maxRecDepth 20000 in
theorem gL_law_X1_sum : GoodIn wsL_law (wsV RL 124 RX1 yX1_sum wsX1_sum) := goodIn_app (goodIn_of _ (by decide +kernel)) ggL_law_X1_sum
set_option maxRecDepth 20000 in
theorem ggL_law_L_contract : GoodIn wsL_law wsL_contract := goodIn_ca (goodIn_ca (goodIn_ca (goodIn_r _ [302, 80, 52, 185, 303, 304, 305, 2, 306, 284, 285, 286, 287, 14, 89, 90, 91, 92, 93, 307, 308, 309, 310, 199, 200, 201, 202, 13, 60, 61, 62, 63, 64, 190, 191, 192, 193, 194, 195, 196, 197, 198, 288, 289, 290, 291, 22, 94, 95, 96, 238, 239, 240, 241, 103, 104, 105, 242, 243, 244, 245, 580, 581, 582, 583, 584, 585, 586, 587, 588, 589, 590, 591] (by decide +kernel) (by decide +kernel)) (goodIn_sub (fun _ h => List.mem_append_left _ (List.mem_append_right _ h)) (by decide +kernel))) (goodIn_sub (fun _ h => List.mem_append_left _ (List.mem_append_left _ (List.mem_append_right _ h))) (by decide +kernel))) (goodIn_sub (fun _ h => List.mem_append_right _ h) (by decide +kernel))
set_option maxRecDepth 20000 in
theorem gL_law_L_contract : GoodIn wsL_law (va_wsS RL 125 yL_contract wsL_contract) := goodIn_app (goodIn_of _ (by decide +kernel)) ggL_law_L_contract
set_option maxRecDepth 20000 in
theorem ggL_law_X1_contract : GoodIn wsL_law wsX1_contract := goodIn_r _ [314, 46, 69, 40, 296, 297, 298, 5, 299, 70, 71, 72, 250, 251, 252, 253, 34, 592, 593, 594, 595, 596, 597, 598, 599, 600, 601, 602] (by decide +kernel) (by decide +kernel)
set_option maxRecDepth 20000 in
theorem gL_law_X1_contract : GoodIn wsL_law (wsV RL 127 RX1 yX1_contract wsX1_contract) := goodIn_app (goodIn_of _ (by decide +kernel)) ggL_law_X1_contract
set_option maxRecDepth 20000 in
theorem ggL_law_L_cap : GoodIn wsL_law wsL_cap := goodIn_ca (goodIn_ca (goodIn_ca (goodIn_r _ [317, 80, 52, 185, 318, 319, 320, 2, 321, 226, 227, 228, 229, 284, 285, 286, 287, 14, 89, 90, 91, 92, 93, 57, 58, 59, 60, 61, 62, 63, 64, 190, 191, 192, 193, 194, 195, 196, 197, 198, 199, 200, 201, 202, 13, 288, 289, 290, 291, 22, 94, 95, 96, 238, 239, 240, 241, 103, 104, 105, 242, 243, 244, 245, 580, 581, 582, 583, 584, 585, 586, 587, 588, 589, 590, 591] (by decide +kernel) (by decide +kernel)) (goodIn_sub (fun _ h => List.mem_append_left _ (List.mem_append_right _ h)) (by decide +kernel))) (goodIn_sub (fun _ h => List.mem_append_left _ (List.mem_append_left _ (List.mem_append_right _ h))) (by decide +kernel))) (goodIn_sub (fun _ h => List.mem_append_right _ h) (by decide +kernel))
set_option maxRecDepth 20000 in
theorem gL_law_L_cap : GoodIn wsL_law (va_wsS RL 128 yL_cap wsL_cap) := goodIn_app (goodIn_of _ (by decide +kernel)) ggL_law_L_cap
set_option maxRecDepth 20000 in
theorem ggL_law_X1_cap : GoodIn wsL_law wsX1_cap := goodIn_r _ [325, 46, 69, 40, 296, 297, 298, 5, 299, 70, 71, 72, 250, 251, 252, 253, 34, 592, 593, 594, 595, 596, 597, 598, 599, 600, 601, 602] (by decide +kernel) (by decide +kernel)
set_option maxRecDepth 20000 in
theorem gL_law_X1_cap : GoodIn wsL_law (wsV RL 130 RX1 yX1_cap wsX1_cap) := goodIn_app (goodIn_of _ (by decide +kernel)) ggL_law_X1_cap
set_option maxRecDepth 20000 in
theorem ggL_law_L_value : GoodIn wsL_law wsL_value := goodIn_ca (goodIn_ca (goodIn_r _ [328, 80, 52, 329, 330, 331, 2, 332, 284, 285, 286, 287, 14, 89, 90, 91, 92, 93, 307, 308, 309, 310, 199, 200, 201, 202, 13, 60, 61, 62, 63, 64, 288, 289, 290, 291, 22, 94, 95, 96, 580, 581, 582, 583, 584, 585, 586, 587, 588, 589, 590, 591] (by decide +kernel) (by decide +kernel)) (goodIn_sub (fun _ h => List.mem_append_left _ (List.mem_append_right _ h)) (by decide +kernel))) (goodIn_sub (fun _ h => List.mem_append_left _ (List.mem_append_left _ (List.mem_append_right _ h))) (by decide +kernel))
set_option maxRecDepth 20000 in
theorem gL_law_L_value : GoodIn wsL_law (va_wsS RL 131 yL_value wsL_value) := goodIn_app (goodIn_of _ (by decide +kernel)) ggL_law_L_value
set_option maxRecDepth 20000 in
theorem ggL_law_X1_value : GoodIn wsL_law wsX1_value := goodIn_r _ [336, 69, 40, 296, 297, 298, 5, 299, 46, 70, 71, 72, 250, 251, 252, 253, 34, 592, 593, 594, 595, 596, 597, 598, 599, 600, 601, 602] (by decide +kernel) (by decide +kernel)
set_option maxRecDepth 20000 in
theorem gL_law_X1_value : GoodIn wsL_law (wsV RL 133 RX1 yX1_value wsX1_value) := goodIn_app (goodIn_of _ (by decide +kernel)) ggL_law_X1_value
set_option maxRecDepth 20000 in
theorem ggL_law_L_isLawful : GoodIn wsL_law wsL_isLawful := goodIn_ca (goodIn_r _ [339, 80, 340, 341, 342, 2, 343, 284, 285, 286, 287, 14, 89, 90, 91, 92, 93, 344, 345, 346, 347, 199, 200, 201, 202, 13, 348, 349, 350, 351, 106, 107, 108, 352, 353, 354, 355, 97, 98, 99, 288, 289, 290, 291, 22, 94, 95, 96, 580, 581, 582, 583, 584, 585, 586, 587, 588, 589, 590, 591] (by decide +kernel) (by decide +kernel)) (goodIn_sub (fun _ h => List.mem_append_left _ (List.mem_append_right _ h)) (by decide +kernel))
set_option maxRecDepth 20000 in
theorem gL_law_L_isLawful : GoodIn wsL_law (va_wsS RL 134 yL_isLawful wsL_isLawful) := goodIn_app (goodIn_of _ (by decide +kernel)) ggL_law_L_isLawful
set_option maxRecDepth 20000 in
theorem ggL_law_X1_isLawful : GoodIn wsL_law wsX1_isLawful := goodIn_r _ [359, 69, 296, 297, 298, 5, 299, 46, 70, 71, 72, 360, 361, 362, 363, 34, 40, 250, 251, 252, 253, 117, 118, 119, 592, 593, 594, 595, 596, 597, 598, 599, 600, 601, 602] (by decide +kernel) (by decide +kernel)
set_option maxRecDepth 20000 in
theorem gL_law_X1_isLawful : GoodIn wsL_law (wsV RL 136 RX1 yX1_isLawful wsX1_isLawful) := goodIn_app (goodIn_of _ (by decide +kernel)) ggL_law_X1_isLawful
set_option maxRecDepth 20000 in
theorem ggL_law_L_rises : GoodIn wsL_law wsL_rises := goodIn_ca (goodIn_r _ [366, 80, 367, 368, 369, 2, 370, 13, 284, 285, 286, 287, 14, 89, 90, 91, 92, 93, 199, 200, 201, 202, 352, 353, 354, 355, 97, 98, 99, 288, 289, 290, 291, 22, 94, 95, 96, 580, 581, 582, 583, 584, 585, 586, 587, 588, 589, 590, 591] (by decide +kernel) (by decide +kernel)) (goodIn_sub (fun _ h => List.mem_append_left _ (List.mem_append_right _ h)) (by decide +kernel))
set_option maxRecDepth 20000 in
theorem gL_law_L_rises : GoodIn wsL_law (va_wsS RL 137 yL_rises wsL_rises) := goodIn_app (goodIn_of _ (by decide +kernel)) ggL_law_L_rises
set_option maxRecDepth 20000 in
theorem ggL_law_X1_rises : GoodIn wsL_law wsX1_rises := goodIn_r _ [374, 69, 34, 40, 296, 297, 298, 5, 299, 46, 70, 71, 72, 250, 251, 252, 253, 592, 593, 594, 595, 596, 597, 598, 599, 600, 601, 602] (by decide +kernel) (by decide +kernel)
set_option maxRecDepth 20000 in
theorem gL_law_X1_rises : GoodIn wsL_law (wsV RL 139 RX1 yX1_rises wsX1_rises) := goodIn_app (goodIn_of _ (by decide +kernel)) ggL_law_X1_rises
set_option maxRecDepth 20000 in
theorem ggL_law_L_least : GoodIn wsL_law wsL_least := goodIn_ca (goodIn_ca (goodIn_r _ [377, 80, 185, 378, 379, 380, 2, 381, 284, 285, 286, 287, 14, 89, 90, 91, 92, 93, 344, 345, 346, 347, 199, 200, 201, 202, 13, 348, 349, 350, 351, 106, 107, 108, 352, 353, 354, 355, 97, 98, 99, 288, 289, 290, 291, 22, 94, 95, 96, 194, 195, 196, 197, 198, 382, 383, 384, 385, 386, 387, 388, 389, 390, 391, 392, 393, 100, 101, 102, 394, 395, 396, 397, 580, 581, 582, 583, 584, 585, 586, 587, 588, 589, 590, 591] (by decide +kernel) (by decide +kernel)) (goodIn_sub (fun _ h => List.mem_append_left _ (List.mem_append_right _ h)) (by decide +kernel))) (goodIn_sub (fun _ h => List.mem_append_right _ h) (by decide +kernel))
set_option maxRecDepth 20000 in
theorem gL_law_L_least : GoodIn wsL_law (va_wsS RL 140 yL_least wsL_least) := goodIn_app (goodIn_of _ (by decide +kernel)) ggL_law_L_least
set_option maxRecDepth 20000 in
theorem ggL_law_X1_least : GoodIn wsL_law wsX1_least := goodIn_r _ [401, 69, 296, 297, 298, 5, 299, 46, 70, 71, 72, 360, 361, 362, 363, 34, 40, 250, 251, 252, 253, 117, 118, 119, 402, 403, 404, 405, 592, 593, 594, 595, 596, 597, 598, 599, 600, 601, 602] (by decide +kernel) (by decide +kernel)
set_option maxRecDepth 20000 in
theorem gL_law_X1_least : GoodIn wsL_law (wsV RL 142 RX1 yX1_least wsX1_least) := goodIn_app (goodIn_of _ (by decide +kernel)) ggL_law_X1_least
set_option maxRecDepth 20000 in
theorem ggL_law_L_leastSet : GoodIn wsL_law wsL_leastSet := goodIn_ca (goodIn_ca (goodIn_r _ [408, 80, 185, 409, 410, 411, 2, 412, 284, 285, 286, 287, 14, 89, 90, 91, 92, 93, 344, 345, 346, 347, 199, 200, 201, 202, 13, 348, 349, 350, 351, 106, 107, 108, 352, 353, 354, 355, 97, 98, 99, 288, 289, 290, 291, 22, 94, 95, 96, 194, 195, 196, 197, 198, 382, 383, 384, 385, 386, 387, 388, 389, 390, 391, 392, 393, 100, 101, 102, 394, 395, 396, 397, 580, 581, 582, 583, 584, 585, 586, 587, 588, 589, 590, 591] (by decide +kernel) (by decide +kernel)) (goodIn_sub (fun _ h => List.mem_append_left _ (List.mem_append_right _ h)) (by decide +kernel))) (goodIn_sub (fun _ h => List.mem_append_right _ h) (by decide +kernel))
set_option maxRecDepth 20000 in
theorem gL_law_L_leastSet : GoodIn wsL_law (va_wsS RL 143 yL_leastSet wsL_leastSet) := goodIn_app (goodIn_of _ (by decide +kernel)) ggL_law_L_leastSet
set_option maxRecDepth 20000 in
theorem ggL_law_X1_leastSet : GoodIn wsL_law wsX1_leastSet := goodIn_r _ [416, 417, 418, 419, 5, 420, 69, 34, 40, 296, 297, 298, 299, 46, 70, 71, 72, 360, 361, 362, 363, 250, 251, 252, 253, 117, 118, 119, 402, 403, 404, 405, 592, 593, 594, 595, 596, 597, 598, 599, 600, 601, 602] (by decide +kernel) (by decide +kernel)
set_option maxRecDepth 20000 in
theorem gL_law_X1_leastSet : GoodIn wsL_law (wsV RL 146 RX1 yX1_leastSet wsX1_leastSet) := goodIn_app (goodIn_of _ (by decide +kernel)) ggL_law_X1_leastSet
set_option maxRecDepth 20000 in
theorem ggL_law_L_leastSetAnew : GoodIn wsL_law wsL_leastSetAnew := goodIn_ca (goodIn_ca (goodIn_r _ [423, 80, 185, 424, 425, 426, 2, 427, 226, 227, 228, 229, 284, 285, 286, 287, 14, 89, 90, 91, 92, 93, 344, 345, 346, 347, 199, 200, 201, 202, 13, 348, 349, 350, 351, 106, 107, 108, 352, 353, 354, 355, 97, 98, 99, 288, 289, 290, 291, 22, 94, 95, 96, 194, 195, 196, 197, 198, 580, 581, 582, 583, 584, 585, 586, 587, 588, 589, 590, 591] (by decide +kernel) (by decide +kernel)) (goodIn_sub (fun _ h => List.mem_append_left _ (List.mem_append_right _ h)) (by decide +kernel))) (goodIn_sub (fun _ h => List.mem_append_right _ h) (by decide +kernel))
set_option maxRecDepth 20000 in
theorem gL_law_L_leastSetAnew : GoodIn wsL_law (va_wsS RL 147 yL_leastSetAnew wsL_leastSetAnew) := goodIn_app (goodIn_of _ (by decide +kernel)) ggL_law_L_leastSetAnew
set_option maxRecDepth 20000 in
theorem ggL_law_X1_leastSetAnew : GoodIn wsL_law wsX1_leastSetAnew := goodIn_r _ [431, 417, 418, 419, 5, 420, 69, 34, 40, 296, 297, 298, 299, 46, 70, 71, 72, 360, 361, 362, 363, 250, 251, 252, 253, 117, 118, 119, 402, 403, 404, 405, 592, 593, 594, 595, 596, 597, 598, 599, 600, 601, 602] (by decide +kernel) (by decide +kernel)
set_option maxRecDepth 20000 in
theorem gL_law_X1_leastSetAnew : GoodIn wsL_law (wsV RL 149 RX1 yX1_leastSetAnew wsX1_leastSetAnew) := goodIn_app (goodIn_of _ (by decide +kernel)) ggL_law_X1_leastSetAnew
set_option maxRecDepth 20000 in
theorem ggL_law_L_order : GoodIn wsL_law wsL_order := goodIn_ca (goodIn_ca (goodIn_r _ [434, 80, 185, 435, 436, 437, 2, 438, 15, 13, 23, 85, 86, 87, 88, 89, 90, 91, 92, 93, 439, 440, 441, 442, 94, 95, 96, 194, 195, 196, 197, 198, 103, 104, 105, 580, 581, 582, 583, 584, 585, 586, 587, 588, 589, 590, 591] (by decide +kernel) (by decide +kernel)) (goodIn_sub (fun _ h => List.mem_append_left _ (List.mem_append_right _ h)) (by decide +kernel))) (goodIn_sub (fun _ h => List.mem_append_right _ h) (by decide +kernel))
set_option maxRecDepth 20000 in
theorem gL_law_L_order : GoodIn wsL_law (va_wsS RL 150 yL_order wsL_order) := goodIn_app (goodIn_of _ (by decide +kernel)) ggL_law_L_order
set_option maxRecDepth 20000 in
theorem ggL_law_X1_order : GoodIn wsL_law wsX1_order := goodIn_r _ [446, 47, 34, 69, 41, 113, 114, 115, 5, 116, 70, 71, 72, 447, 448, 449, 450, 592, 593, 594, 595, 596, 597, 598, 599, 600, 601, 602] (by decide +kernel) (by decide +kernel)
set_option maxRecDepth 20000 in
theorem gL_law_X1_order : GoodIn wsL_law (wsV RL 152 RX1 yX1_order wsX1_order) := goodIn_app (goodIn_of _ (by decide +kernel)) ggL_law_X1_order
set_option maxRecDepth 20000 in
theorem ggL_law_L_corner : GoodIn wsL_law wsL_corner := goodIn_ca (goodIn_ca (goodIn_r _ [453, 80, 185, 454, 455, 456, 2, 457, 284, 285, 286, 287, 14, 85, 86, 87, 88, 13, 89, 90, 91, 92, 93, 439, 440, 441, 442, 15, 23, 94, 95, 96, 194, 195, 196, 197, 198, 458, 459, 460, 461, 97, 98, 99, 352, 353, 354, 355, 288, 289, 290, 291, 22, 580, 581, 582, 583, 584, 585, 586, 587, 588, 589, 590, 591] (by decide +kernel) (by decide +kernel)) (goodIn_sub (fun _ h => List.mem_append_left _ (List.mem_append_right _ h)) (by decide +kernel))) (goodIn_sub (fun _ h => List.mem_append_right _ h) (by decide +kernel))
set_option maxRecDepth 20000 in
theorem gL_law_L_corner : GoodIn wsL_law (va_wsS RL 153 yL_corner wsL_corner) := goodIn_app (goodIn_of _ (by decide +kernel)) ggL_law_L_corner
set_option maxRecDepth 20000 in
theorem ggL_law_X1_corner : GoodIn wsL_law wsX1_corner := goodIn_r _ [465, 69, 41, 40, 296, 297, 298, 5, 299, 46, 70, 71, 72, 113, 114, 115, 116, 34, 447, 448, 449, 450, 47, 592, 593, 594, 595, 596, 597, 598, 599, 600, 601, 602] (by decide +kernel) (by decide +kernel)
set_option maxRecDepth 20000 in
theorem gL_law_X1_corner : GoodIn wsL_law (wsV RL 155 RX1 yX1_corner wsX1_corner) := goodIn_app (goodIn_of _ (by decide +kernel)) ggL_law_X1_corner
set_option maxRecDepth 20000 in
theorem ggL_law_L_greedy : GoodIn wsL_law wsL_greedy := goodIn_ca (goodIn_ca (goodIn_r _ [468, 80, 52, 469, 470, 471, 2, 472, 284, 285, 286, 287, 14, 89, 90, 91, 92, 93, 57, 58, 59, 60, 61, 62, 63, 64, 473, 474, 475, 476, 13, 352, 353, 354, 355, 97, 98, 99, 288, 289, 290, 291, 22, 94, 95, 96, 580, 581, 582, 583, 584, 585, 586, 587, 588, 589, 590, 591] (by decide +kernel) (by decide +kernel)) (goodIn_sub (fun _ h => List.mem_append_left _ (List.mem_append_right _ h)) (by decide +kernel))) (goodIn_sub (fun _ h => List.mem_append_left _ (List.mem_append_left _ (List.mem_append_right _ h))) (by decide +kernel))
set_option maxRecDepth 20000 in
theorem gL_law_L_greedy : GoodIn wsL_law (va_wsS RL 156 yL_greedy wsL_greedy) := goodIn_app (goodIn_of _ (by decide +kernel)) ggL_law_L_greedy
set_option maxRecDepth 20000 in
theorem ggL_law_X1_greedy : GoodIn wsL_law wsX1_greedy := goodIn_r _ [480, 69, 34, 40, 296, 297, 298, 5, 299, 46, 70, 71, 72, 258, 259, 260, 592, 593, 594, 595, 596, 597, 598, 599, 600, 601, 602] (by decide +kernel) (by decide +kernel)
set_option maxRecDepth 20000 in
theorem gL_law_X1_greedy : GoodIn wsL_law (wsV RL 158 RX1 yX1_greedy wsX1_greedy) := goodIn_app (goodIn_of _ (by decide +kernel)) ggL_law_X1_greedy
set_option maxRecDepth 20000 in
theorem ggL_law_L_best : GoodIn wsL_law wsL_best := goodIn_ca (goodIn_ca (goodIn_r _ [483, 80, 52, 484, 485, 486, 2, 487, 488, 489, 228, 490, 284, 285, 286, 287, 14, 89, 90, 91, 92, 93, 57, 58, 59, 60, 61, 62, 63, 64, 199, 200, 201, 202, 13, 211, 212, 213, 214, 215, 216, 217, 288, 289, 290, 291, 22, 94, 95, 96, 580, 581, 582, 583, 584, 585, 586, 587, 588, 589, 590, 591] (by decide +kernel) (by decide +kernel)) (goodIn_sub (fun _ h => List.mem_append_left _ (List.mem_append_right _ h)) (by decide +kernel))) (goodIn_sub (fun _ h => List.mem_append_left _ (List.mem_append_left _ (List.mem_append_right _ h))) (by decide +kernel))
set_option maxRecDepth 20000 in
theorem gL_law_L_best : GoodIn wsL_law (va_wsS RL 159 yL_best wsL_best) := goodIn_app (goodIn_of _ (by decide +kernel)) ggL_law_L_best
set_option maxRecDepth 20000 in
theorem ggL_law_X1_best : GoodIn wsL_law wsX1_best := goodIn_r _ [494, 69, 40, 296, 297, 298, 5, 299, 46, 70, 71, 72, 250, 251, 252, 253, 34, 258, 259, 260, 592, 593, 594, 595, 596, 597, 598, 599, 600, 601, 602] (by decide +kernel) (by decide +kernel)
set_option maxRecDepth 20000 in
theorem gL_law_X1_best : GoodIn wsL_law (wsV RL 161 RX1 yX1_best wsX1_best) := goodIn_app (goodIn_of _ (by decide +kernel)) ggL_law_X1_best
set_option maxRecDepth 20000 in
theorem ggL_law_X0_common : GoodIn wsL_law wsX0_common := goodIn_r _ [498, 13, 499, 500, 501, 2, 502, 25, 503, 504, 505, 506, 24, 26, 27, 28, 29, 507, 508, 509, 510, 148, 149, 150, 151, 19, 94, 95, 96, 106, 107, 108, 230, 231, 232, 233, 163, 164, 165, 166, 20, 103, 104, 105, 511, 512, 513, 514, 515, 516, 517, 518, 211, 212, 213, 214, 215, 216, 217, 519, 520, 521, 522, 580, 581, 582, 583, 584, 585, 586, 587, 588, 589, 590, 591] (by decide +kernel) (by decide +kernel)
set_option maxRecDepth 20000 in
theorem gL_law_X0_common : GoodIn wsL_law (wsV RL 162 RX0 yX0_common wsX0_common) := goodIn_app (goodIn_of _ (by decide +kernel)) ggL_law_X0_common
set_option maxRecDepth 20000 in
theorem ggL_law_X1_common : GoodIn wsL_law wsX1_common := goodIn_r _ [526, 69, 527, 528, 529, 5, 530, 250, 251, 252, 253, 34, 70, 71, 72, 531, 532, 533, 534, 269, 270, 271, 272, 38, 273, 274, 275, 276, 37, 117, 118, 119, 258, 259, 260, 592, 593, 594, 595, 596, 597, 598, 599, 600, 601, 602] (by decide +kernel) (by decide +kernel)
set_option maxRecDepth 20000 in
theorem gL_law_X1_common : GoodIn wsL_law (wsV RL 165 RX1 yX1_common wsX1_common) := goodIn_app (goodIn_of _ (by decide +kernel)) ggL_law_X1_common
set_option maxRecDepth 20000 in
theorem ggL_law_X0_commonAnew : GoodIn wsL_law wsX0_commonAnew := goodIn_r _ [538, 488, 489, 228, 490, 199, 200, 201, 2, 202, 13, 539, 540, 541, 542, 230, 231, 232, 233, 106, 107, 108, 148, 149, 150, 151, 19, 94, 95, 96, 163, 164, 165, 166, 20, 211, 212, 213, 214, 215, 216, 217, 580, 581, 582, 583, 584, 585, 586, 587, 588, 589, 590, 591] (by decide +kernel) (by decide +kernel)
set_option maxRecDepth 20000 in
theorem gL_law_X0_commonAnew : GoodIn wsL_law (wsV RL 166 RX0 yX0_commonAnew wsX0_commonAnew) := goodIn_app (goodIn_of _ (by decide +kernel)) ggL_law_X0_commonAnew
set_option maxRecDepth 20000 in
theorem ggL_law_X1_commonAnew : GoodIn wsL_law wsX1_commonAnew := goodIn_r _ [546, 69, 527, 528, 529, 5, 530, 250, 251, 252, 253, 34, 70, 71, 72, 531, 532, 533, 534, 269, 270, 271, 272, 38, 273, 274, 275, 276, 37, 117, 118, 119, 258, 259, 260, 592, 593, 594, 595, 596, 597, 598, 599, 600, 601, 602] (by decide +kernel) (by decide +kernel)
set_option maxRecDepth 20000 in
theorem gL_law_X1_commonAnew : GoodIn wsL_law (wsV RL 169 RX1 yX1_commonAnew wsX1_commonAnew) := goodIn_app (goodIn_of _ (by decide +kernel)) ggL_law_X1_commonAnew
set_option maxRecDepth 20000 in
theorem ggL_law_L_share : GoodIn wsL_law wsL_share := goodIn_ca (goodIn_r _ [549, 80, 550, 551, 552, 2, 553, 13, 284, 285, 286, 287, 14, 85, 86, 87, 88, 89, 90, 91, 92, 93, 199, 200, 201, 202, 106, 107, 108, 211, 212, 213, 214, 215, 216, 217, 554, 555, 556, 352, 353, 354, 355, 97, 98, 99, 288, 289, 290, 291, 22, 94, 95, 96, 580, 581, 582, 583, 584, 585, 586, 587, 588, 589, 590, 591] (by decide +kernel) (by decide +kernel)) (goodIn_sub (fun _ h => List.mem_append_left _ (List.mem_append_right _ h)) (by decide +kernel))
set_option maxRecDepth 20000 in
theorem gL_law_L_share : GoodIn wsL_law (va_wsS RL 170 yL_share wsL_share) := goodIn_app (goodIn_of _ (by decide +kernel)) ggL_law_L_share
set_option maxRecDepth 20000 in
theorem ggL_law_X1_share : GoodIn wsL_law wsX1_share := goodIn_r _ [560, 561, 562, 563, 5, 564, 69, 34, 40, 296, 297, 298, 299, 46, 70, 71, 72, 113, 114, 115, 116, 117, 118, 119, 592, 593, 594, 595, 596, 597, 598, 599, 600, 601, 602] (by decide +kernel) (by decide +kernel)
set_option maxRecDepth 20000 in
theorem gL_law_X1_share : GoodIn wsL_law (wsV RL 172 RX1 yX1_share wsX1_share) := goodIn_app (goodIn_of _ (by decide +kernel)) ggL_law_X1_share
set_option maxRecDepth 20000 in
theorem ggL_law_L_shareAnew : GoodIn wsL_law wsL_shareAnew := goodIn_ca (goodIn_r _ [567, 80, 568, 569, 570, 2, 571, 284, 285, 286, 287, 14, 85, 86, 87, 88, 13, 89, 90, 91, 92, 93, 572, 573, 574, 575, 106, 107, 108, 352, 353, 354, 355, 97, 98, 99, 288, 289, 290, 291, 22, 94, 95, 96, 580, 581, 582, 583, 584, 585, 586, 587, 588, 589, 590, 591] (by decide +kernel) (by decide +kernel)) (goodIn_sub (fun _ h => List.mem_append_left _ (List.mem_append_right _ h)) (by decide +kernel))
set_option maxRecDepth 20000 in
theorem gL_law_L_shareAnew : GoodIn wsL_law (va_wsS RL 173 yL_shareAnew wsL_shareAnew) := goodIn_app (goodIn_of _ (by decide +kernel)) ggL_law_L_shareAnew
set_option maxRecDepth 20000 in
theorem ggL_law_X1_shareAnew : GoodIn wsL_law wsX1_shareAnew := goodIn_r _ [579, 561, 562, 563, 5, 564, 69, 34, 40, 296, 297, 298, 299, 46, 70, 71, 72, 113, 114, 115, 116, 117, 118, 119, 592, 593, 594, 595, 596, 597, 598, 599, 600, 601, 602] (by decide +kernel) (by decide +kernel)
set_option maxRecDepth 20000 in
theorem gL_law_X1_shareAnew : GoodIn wsL_law (wsV RL 175 RX1 yX1_shareAnew wsX1_shareAnew) := goodIn_app (goodIn_of _ (by decide +kernel)) ggL_law_X1_shareAnew

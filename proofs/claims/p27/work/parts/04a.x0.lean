set_option maxRecDepth 20000 in
theorem ggX0_init_J7_fill_53178 : GoodIn wsX0_init wsJ7_fill_53178 := goodIn_r _ [20] (by decide +kernel) (by decide +kernel)
set_option maxRecDepth 20000 in
theorem gX0_init_J7_fill_53178 : GoodIn wsX0_init (va_wsS RX0 47 yJ7_fill_53178 wsJ7_fill_53178) := goodIn_app (goodIn_of _ (by decide +kernel)) ggX0_init_J7_fill_53178
theorem dX0_init_0 : decode cX0_init 0 = .ok (.aload_n 0, 1) := by decide +kernel
theorem dX0_init_1 : decode cX0_init 1 = .ok (.invokespecial 1, 3) := by decide +kernel
theorem dX0_init_4 : decode cX0_init 4 = .ok (.aload_n 0, 1) := by decide +kernel
theorem dX0_init_5 : decode cX0_init 5 = .ok (.iconst 4, 1) := by decide +kernel
theorem dX0_init_6 : decode cX0_init 6 = .ok (.putfield 9, 3) := by decide +kernel
theorem dX0_init_9 : decode cX0_init 9 = .ok (.aload_n 0, 1) := by decide +kernel
theorem dX0_init_10 : decode cX0_init 10 = .ok (.iconst 0, 1) := by decide +kernel
theorem dX0_init_11 : decode cX0_init 11 = .ok (.putfield 13, 3) := by decide +kernel
theorem dX0_init_14 : decode cX0_init 14 = .ok (.aload_n 0, 1) := by decide +kernel
theorem dX0_init_15 : decode cX0_init 15 = .ok (.iconst 0, 1) := by decide +kernel
theorem dX0_init_16 : decode cX0_init 16 = .ok (.putfield 16, 3) := by decide +kernel
theorem dX0_init_19 : decode cX0_init 19 = .ok (.aload_n 0, 1) := by decide +kernel
theorem dX0_init_20 : decode cX0_init 20 = .ok (.bipush 6, 2) := by decide +kernel
theorem dX0_init_22 : decode cX0_init 22 = .ok (.newarray .int, 2) := by decide +kernel
theorem dX0_init_24 : decode cX0_init 24 = .ok (.putfield 19, 3) := by decide +kernel
theorem dX0_init_27 : decode cX0_init 27 = .ok (.aload_n 0, 1) := by decide +kernel
theorem dX0_init_28 : decode cX0_init 28 = .ok (.bipush 36, 2) := by decide +kernel
theorem dX0_init_30 : decode cX0_init 30 = .ok (.newarray .int, 2) := by decide +kernel
theorem dX0_init_32 : decode cX0_init 32 = .ok (.putfield 23, 3) := by decide +kernel
theorem dX0_init_35 : decode cX0_init 35 = .ok (.aload_n 0, 1) := by decide +kernel
theorem dX0_init_36 : decode cX0_init 36 = .ok (.bipush 12, 2) := by decide +kernel
theorem dX0_init_38 : decode cX0_init 38 = .ok (.newarray .int, 2) := by decide +kernel
theorem dX0_init_40 : decode cX0_init 40 = .ok (.putfield 26, 3) := by decide +kernel
theorem dX0_init_43 : decode cX0_init 43 = .ok (.aload_n 0, 1) := by decide +kernel
theorem dX0_init_44 : decode cX0_init 44 = .ok (.bipush 12, 2) := by decide +kernel
theorem dX0_init_46 : decode cX0_init 46 = .ok (.newarray .int, 2) := by decide +kernel
theorem dX0_init_48 : decode cX0_init 48 = .ok (.putfield 29, 3) := by decide +kernel
theorem dX0_init_51 : decode cX0_init 51 = .ok (.aload_n 0, 1) := by decide +kernel
theorem dX0_init_52 : decode cX0_init 52 = .ok (.bipush 6, 2) := by decide +kernel
theorem dX0_init_54 : decode cX0_init 54 = .ok (.newarray .int, 2) := by decide +kernel
theorem dX0_init_56 : decode cX0_init 56 = .ok (.putfield 32, 3) := by decide +kernel
theorem dX0_init_59 : decode cX0_init 59 = .ok (.aload_n 0, 1) := by decide +kernel
theorem dX0_init_60 : decode cX0_init 60 = .ok (.sipush 512, 3) := by decide +kernel
theorem dX0_init_63 : decode cX0_init 63 = .ok (.newarray .int, 2) := by decide +kernel
theorem dX0_init_65 : decode cX0_init 65 = .ok (.putfield 35, 3) := by decide +kernel
theorem dX0_init_68 : decode cX0_init 68 = .ok (.aload_n 0, 1) := by decide +kernel
theorem dX0_init_69 : decode cX0_init 69 = .ok (.bipush 6, 2) := by decide +kernel
theorem dX0_init_71 : decode cX0_init 71 = .ok (.newarray .int, 2) := by decide +kernel
theorem dX0_init_73 : decode cX0_init 73 = .ok (.putfield 38, 3) := by decide +kernel
theorem dX0_init_76 : decode cX0_init 76 = .ok (.aload_n 0, 1) := by decide +kernel
theorem dX0_init_77 : decode cX0_init 77 = .ok (.bipush 6, 2) := by decide +kernel
theorem dX0_init_79 : decode cX0_init 79 = .ok (.newarray .int, 2) := by decide +kernel
theorem dX0_init_81 : decode cX0_init 81 = .ok (.putfield 41, 3) := by decide +kernel
theorem dX0_init_84 : decode cX0_init 84 = .ok (.aload_n 0, 1) := by decide +kernel
theorem dX0_init_85 : decode cX0_init 85 = .ok (.bipush 6, 2) := by decide +kernel
theorem dX0_init_87 : decode cX0_init 87 = .ok (.newarray .int, 2) := by decide +kernel
theorem dX0_init_89 : decode cX0_init 89 = .ok (.putfield 44, 3) := by decide +kernel
theorem dX0_init_92 : decode cX0_init 92 = .ok (.aload_n 0, 1) := by decide +kernel
theorem dX0_init_93 : decode cX0_init 93 = .ok (.getfield 29, 3) := by decide +kernel
theorem dX0_init_96 : decode cX0_init 96 = .ok (.iconst 1, 1) := by decide +kernel
theorem dX0_init_97 : decode cX0_init 97 = .ok (.invokestatic 47, 3) := by decide +kernel
theorem dX0_init_100 : decode cX0_init 100 = .ok (.return_, 1) := by decide +kernel
set_option maxRecDepth 20000 in
theorem ggX0_elements_X0_isWithin : GoodIn wsX0_elements wsX0_isWithin := goodIn_r _ [12] (by decide +kernel) (by decide +kernel)
set_option maxRecDepth 20000 in
theorem gX0_elements_X0_isWithin : GoodIn wsX0_elements (va_wsS RX0 53 yX0_isWithin wsX0_isWithin) := goodIn_app (goodIn_of _ (by decide +kernel)) ggX0_elements_X0_isWithin
set_option maxRecDepth 20000 in
theorem ggX0_elements_X0_needArgument : GoodIn wsX0_elements wsX0_needArgument := goodIn_ca (goodIn_r _ [15, 16, 17] (by decide +kernel) (by decide +kernel)) (goodIn_sub (fun _ h => List.mem_cons_of_mem _ (List.mem_append_right _ h)) (by decide +kernel))
set_option maxRecDepth 20000 in
theorem gX0_elements_X0_needArgument : GoodIn wsX0_elements (va_wsS RX0 57 yX0_needArgument wsX0_needArgument) := goodIn_app (goodIn_of _ (by decide +kernel)) ggX0_elements_X0_needArgument
set_option maxRecDepth 20000 in
theorem ggX0_elements_J7_fill_53178 : GoodIn wsX0_elements wsJ7_fill_53178 := goodIn_r _ [21] (by decide +kernel) (by decide +kernel)
set_option maxRecDepth 20000 in
theorem gX0_elements_J7_fill_53178 : GoodIn wsX0_elements (va_wsS RX0 47 yJ7_fill_53178 wsJ7_fill_53178) := goodIn_app (goodIn_of _ (by decide +kernel)) ggX0_elements_J7_fill_53178
theorem dX0_elements_0 : decode cX0_elements 0 = .ok (.iload_n 1, 1) := by decide +kernel
theorem dX0_elements_1 : decode cX0_elements 1 = .ok (.iconst 1, 1) := by decide +kernel
theorem dX0_elements_2 : decode cX0_elements 2 = .ok (.bipush 6, 2) := by decide +kernel
theorem dX0_elements_4 : decode cX0_elements 4 = .ok (.invokestatic 53, 3) := by decide +kernel
theorem dX0_elements_7 : decode cX0_elements 7 = .ok (.invokestatic 57, 3) := by decide +kernel
theorem dX0_elements_10 : decode cX0_elements 10 = .ok (.aload_n 0, 1) := by decide +kernel
theorem dX0_elements_11 : decode cX0_elements 11 = .ok (.getfield 9, 3) := by decide +kernel
theorem dX0_elements_14 : decode cX0_elements 14 = .ok (.istore_n 2, 1) := by decide +kernel
theorem dX0_elements_15 : decode cX0_elements 15 = .ok (.aload_n 0, 1) := by decide +kernel
theorem dX0_elements_16 : decode cX0_elements 16 = .ok (.iload_n 1, 1) := by decide +kernel
theorem dX0_elements_17 : decode cX0_elements 17 = .ok (.putfield 9, 3) := by decide +kernel
theorem dX0_elements_20 : decode cX0_elements 20 = .ok (.aload_n 0, 1) := by decide +kernel
theorem dX0_elements_21 : decode cX0_elements 21 = .ok (.iconst 0, 1) := by decide +kernel
theorem dX0_elements_22 : decode cX0_elements 22 = .ok (.putfield 13, 3) := by decide +kernel
theorem dX0_elements_25 : decode cX0_elements 25 = .ok (.aload_n 0, 1) := by decide +kernel
theorem dX0_elements_26 : decode cX0_elements 26 = .ok (.iconst 0, 1) := by decide +kernel
theorem dX0_elements_27 : decode cX0_elements 27 = .ok (.putfield 16, 3) := by decide +kernel
theorem dX0_elements_30 : decode cX0_elements 30 = .ok (.aload_n 0, 1) := by decide +kernel
theorem dX0_elements_31 : decode cX0_elements 31 = .ok (.getfield 19, 3) := by decide +kernel
theorem dX0_elements_34 : decode cX0_elements 34 = .ok (.iconst 0, 1) := by decide +kernel
theorem dX0_elements_35 : decode cX0_elements 35 = .ok (.invokestatic 47, 3) := by decide +kernel
theorem dX0_elements_38 : decode cX0_elements 38 = .ok (.aload_n 0, 1) := by decide +kernel
theorem dX0_elements_39 : decode cX0_elements 39 = .ok (.getfield 23, 3) := by decide +kernel
theorem dX0_elements_42 : decode cX0_elements 42 = .ok (.iconst 0, 1) := by decide +kernel
theorem dX0_elements_43 : decode cX0_elements 43 = .ok (.invokestatic 47, 3) := by decide +kernel
theorem dX0_elements_46 : decode cX0_elements 46 = .ok (.aload_n 0, 1) := by decide +kernel
theorem dX0_elements_47 : decode cX0_elements 47 = .ok (.getfield 26, 3) := by decide +kernel
theorem dX0_elements_50 : decode cX0_elements 50 = .ok (.iconst 0, 1) := by decide +kernel
theorem dX0_elements_51 : decode cX0_elements 51 = .ok (.invokestatic 47, 3) := by decide +kernel
theorem dX0_elements_54 : decode cX0_elements 54 = .ok (.aload_n 0, 1) := by decide +kernel
theorem dX0_elements_55 : decode cX0_elements 55 = .ok (.getfield 29, 3) := by decide +kernel
theorem dX0_elements_58 : decode cX0_elements 58 = .ok (.iconst 1, 1) := by decide +kernel
theorem dX0_elements_59 : decode cX0_elements 59 = .ok (.invokestatic 47, 3) := by decide +kernel
theorem dX0_elements_62 : decode cX0_elements 62 = .ok (.aload_n 0, 1) := by decide +kernel
theorem dX0_elements_63 : decode cX0_elements 63 = .ok (.getfield 32, 3) := by decide +kernel
theorem dX0_elements_66 : decode cX0_elements 66 = .ok (.iconst 0, 1) := by decide +kernel
theorem dX0_elements_67 : decode cX0_elements 67 = .ok (.invokestatic 47, 3) := by decide +kernel
theorem dX0_elements_70 : decode cX0_elements 70 = .ok (.iload_n 2, 1) := by decide +kernel
theorem dX0_elements_71 : decode cX0_elements 71 = .ok (.ireturn, 1) := by decide +kernel
set_option maxRecDepth 20000 in
theorem ggX0_cover_X0_isElement : GoodIn wsX0_cover wsX0_isElement := goodIn_r _ [6, 7, 31, 32, 33, 34, 35, 36, 37, 38, 39, 40, 41, 42] (by decide +kernel) (by decide +kernel)
set_option maxRecDepth 20000 in
theorem gX0_cover_X0_isElement : GoodIn wsX0_cover (wsV RX0 61 RX0 yX0_isElement wsX0_isElement) := goodIn_app (goodIn_of _ (by decide +kernel)) ggX0_cover_X0_isElement
set_option maxRecDepth 20000 in
theorem ggX0_cover_X0_isWithin : GoodIn wsX0_cover wsX0_isWithin := goodIn_r _ [10] (by decide +kernel) (by decide +kernel)
set_option maxRecDepth 20000 in
theorem gX0_cover_X0_isWithin : GoodIn wsX0_cover (va_wsS RX0 53 yX0_isWithin wsX0_isWithin) := goodIn_app (goodIn_of _ (by decide +kernel)) ggX0_cover_X0_isWithin
set_option maxRecDepth 20000 in
theorem ggX0_cover_X0_needIndex : GoodIn wsX0_cover wsX0_needIndex := goodIn_ca (goodIn_r _ [13, 14, 15] (by decide +kernel) (by decide +kernel)) (goodIn_sub (fun _ h => List.mem_cons_of_mem _ (List.mem_append_right _ h)) (by decide +kernel))
set_option maxRecDepth 20000 in
theorem gX0_cover_X0_needIndex : GoodIn wsX0_cover (va_wsS RX0 65 yX0_needIndex wsX0_needIndex) := goodIn_app (goodIn_of _ (by decide +kernel)) ggX0_cover_X0_needIndex
set_option maxRecDepth 20000 in
theorem ggX0_cover_X0_at : GoodIn wsX0_cover wsX0_at := goodIn_r _ [18] (by decide +kernel) (by decide +kernel)
set_option maxRecDepth 20000 in
theorem gX0_cover_X0_at : GoodIn wsX0_cover (va_wsS RX0 68 yX0_at wsX0_at) := goodIn_app (goodIn_of _ (by decide +kernel)) ggX0_cover_X0_at
set_option maxRecDepth 20000 in
theorem ggX0_cover_X0_with : GoodIn wsX0_cover wsX0_with := goodIn_r _ [21] (by decide +kernel) (by decide +kernel)
set_option maxRecDepth 20000 in
theorem gX0_cover_X0_with : GoodIn wsX0_cover (va_wsS RX0 72 yX0_with wsX0_with) := goodIn_app (goodIn_of _ (by decide +kernel)) ggX0_cover_X0_with
set_option maxRecDepth 20000 in
theorem ggX0_cover_X0_without : GoodIn wsX0_cover wsX0_without := goodIn_r _ [24] (by decide +kernel) (by decide +kernel)
set_option maxRecDepth 20000 in
theorem gX0_cover_X0_without : GoodIn wsX0_cover (va_wsS RX0 76 yX0_without wsX0_without) := goodIn_app (goodIn_of _ (by decide +kernel)) ggX0_cover_X0_without
set_option maxRecDepth 20000 in
theorem ggX0_cover_X0_put : GoodIn wsX0_cover wsX0_put := goodIn_r _ [27] (by decide +kernel) (by decide +kernel)
set_option maxRecDepth 20000 in
theorem gX0_cover_X0_put : GoodIn wsX0_cover (va_wsS RX0 79 yX0_put wsX0_put) := goodIn_app (goodIn_of _ (by decide +kernel)) ggX0_cover_X0_put
set_option maxRecDepth 20000 in
theorem ggX0_cover_X0_has : GoodIn wsX0_cover wsX0_has := goodIn_r _ [30] (by decide +kernel) (by decide +kernel)
set_option maxRecDepth 20000 in
theorem gX0_cover_X0_has : GoodIn wsX0_cover (va_wsS RX0 83 yX0_has wsX0_has) := goodIn_app (goodIn_of _ (by decide +kernel)) ggX0_cover_X0_has
theorem dX0_cover_0 : decode cX0_cover 0 = .ok (.aload_n 0, 1) := by decide +kernel
theorem dX0_cover_1 : decode cX0_cover 1 = .ok (.iload_n 1, 1) := by decide +kernel
theorem dX0_cover_2 : decode cX0_cover 2 = .ok (.invokevirtual 61, 3) := by decide +kernel
theorem dX0_cover_5 : decode cX0_cover 5 = .ok (.ifCond .eq 17, 3) := by decide +kernel
theorem dX0_cover_8 : decode cX0_cover 8 = .ok (.iload_n 2, 1) := by decide +kernel
theorem dX0_cover_9 : decode cX0_cover 9 = .ok (.iconst 0, 1) := by decide +kernel
theorem dX0_cover_10 : decode cX0_cover 10 = .ok (.bipush 9, 2) := by decide +kernel
theorem dX0_cover_12 : decode cX0_cover 12 = .ok (.invokestatic 53, 3) := by decide +kernel
theorem dX0_cover_15 : decode cX0_cover 15 = .ok (.ifCond .eq 7, 3) := by decide +kernel
theorem dX0_cover_18 : decode cX0_cover 18 = .ok (.iconst 1, 1) := by decide +kernel
theorem dX0_cover_19 : decode cX0_cover 19 = .ok (.goto 4, 3) := by decide +kernel
theorem dX0_cover_22 : decode cX0_cover 22 = .ok (.iconst 0, 1) := by decide +kernel
theorem dX0_cover_23 : decode cX0_cover 23 = .ok (.invokestatic 65, 3) := by decide +kernel
theorem dX0_cover_26 : decode cX0_cover 26 = .ok (.aload_n 0, 1) := by decide +kernel
theorem dX0_cover_27 : decode cX0_cover 27 = .ok (.getfield 19, 3) := by decide +kernel
theorem dX0_cover_30 : decode cX0_cover 30 = .ok (.iload_n 1, 1) := by decide +kernel
theorem dX0_cover_31 : decode cX0_cover 31 = .ok (.invokestatic 68, 3) := by decide +kernel
theorem dX0_cover_34 : decode cX0_cover 34 = .ok (.istore 4, 2) := by decide +kernel
theorem dX0_cover_36 : decode cX0_cover 36 = .ok (.aload_n 0, 1) := by decide +kernel
theorem dX0_cover_37 : decode cX0_cover 37 = .ok (.getfield 19, 3) := by decide +kernel
theorem dX0_cover_40 : decode cX0_cover 40 = .ok (.iload_n 1, 1) := by decide +kernel
theorem dX0_cover_41 : decode cX0_cover 41 = .ok (.iload_n 3, 1) := by decide +kernel
theorem dX0_cover_42 : decode cX0_cover 42 = .ok (.ifCond .eq 12, 3) := by decide +kernel
theorem dX0_cover_45 : decode cX0_cover 45 = .ok (.iload 4, 2) := by decide +kernel
theorem dX0_cover_47 : decode cX0_cover 47 = .ok (.iload_n 2, 1) := by decide +kernel
theorem dX0_cover_48 : decode cX0_cover 48 = .ok (.invokestatic 72, 3) := by decide +kernel
theorem dX0_cover_51 : decode cX0_cover 51 = .ok (.goto 9, 3) := by decide +kernel
theorem dX0_cover_54 : decode cX0_cover 54 = .ok (.iload 4, 2) := by decide +kernel
theorem dX0_cover_56 : decode cX0_cover 56 = .ok (.iload_n 2, 1) := by decide +kernel
theorem dX0_cover_57 : decode cX0_cover 57 = .ok (.invokestatic 76, 3) := by decide +kernel
theorem dX0_cover_60 : decode cX0_cover 60 = .ok (.invokestatic 79, 3) := by decide +kernel
theorem dX0_cover_63 : decode cX0_cover 63 = .ok (.iload 4, 2) := by decide +kernel
theorem dX0_cover_65 : decode cX0_cover 65 = .ok (.iload_n 2, 1) := by decide +kernel
theorem dX0_cover_66 : decode cX0_cover 66 = .ok (.invokestatic 83, 3) := by decide +kernel
theorem dX0_cover_69 : decode cX0_cover 69 = .ok (.ireturn, 1) := by decide +kernel
set_option maxRecDepth 20000 in
theorem ggX0_edge_X0_isElement : GoodIn wsX0_edge wsX0_isElement := goodIn_r _ [6, 7, 31, 32, 33, 34, 35, 36, 37, 38, 39, 40, 41, 42] (by decide +kernel) (by decide +kernel)
set_option maxRecDepth 20000 in
theorem gX0_edge_X0_isElement : GoodIn wsX0_edge (wsV RX0 61 RX0 yX0_isElement wsX0_isElement) := goodIn_app (goodIn_of _ (by decide +kernel)) ggX0_edge_X0_isElement
set_option maxRecDepth 20000 in
theorem ggX0_edge_X0_needIndex : GoodIn wsX0_edge wsX0_needIndex := goodIn_ca (goodIn_r _ [10, 11, 12] (by decide +kernel) (by decide +kernel)) (goodIn_sub (fun _ h => List.mem_cons_of_mem _ (List.mem_append_left _ (List.mem_append_right _ h))) (by decide +kernel))
set_option maxRecDepth 20000 in
theorem gX0_edge_X0_needIndex : GoodIn wsX0_edge (va_wsS RX0 65 yX0_needIndex wsX0_needIndex) := goodIn_app (goodIn_of _ (by decide +kernel)) ggX0_edge_X0_needIndex
set_option maxRecDepth 20000 in
theorem ggX0_edge_X0_isWithin : GoodIn wsX0_edge wsX0_isWithin := goodIn_r _ [15] (by decide +kernel) (by decide +kernel)
set_option maxRecDepth 20000 in
theorem gX0_edge_X0_isWithin : GoodIn wsX0_edge (va_wsS RX0 53 yX0_isWithin wsX0_isWithin) := goodIn_app (goodIn_of _ (by decide +kernel)) ggX0_edge_X0_isWithin
set_option maxRecDepth 20000 in
theorem ggX0_edge_X0_needArgument : GoodIn wsX0_edge wsX0_needArgument := goodIn_ca (goodIn_r _ [18, 19, 20] (by decide +kernel) (by decide +kernel)) (goodIn_sub (fun _ h => List.mem_cons_of_mem _ (List.mem_append_right _ h)) (by decide +kernel))
set_option maxRecDepth 20000 in
theorem gX0_edge_X0_needArgument : GoodIn wsX0_edge (va_wsS RX0 57 yX0_needArgument wsX0_needArgument) := goodIn_app (goodIn_of _ (by decide +kernel)) ggX0_edge_X0_needArgument
set_option maxRecDepth 20000 in
theorem ggX0_edge_X0_edgeWeight : GoodIn wsX0_edge wsX0_edgeWeight := goodIn_r _ [24, 1, 25, 26, 5, 27, 31, 32, 33, 34, 35, 36, 37, 38, 39, 40, 41, 42] (by decide +kernel) (by decide +kernel)
set_option maxRecDepth 20000 in
theorem gX0_edge_X0_edgeWeight : GoodIn wsX0_edge (wsV RX0 87 RX0 yX0_edgeWeight wsX0_edgeWeight) := goodIn_app (goodIn_of _ (by decide +kernel)) ggX0_edge_X0_edgeWeight
set_option maxRecDepth 20000 in
theorem ggX0_edge_X0_put : GoodIn wsX0_edge wsX0_put := goodIn_r _ [30] (by decide +kernel) (by decide +kernel)
set_option maxRecDepth 20000 in
theorem gX0_edge_X0_put : GoodIn wsX0_edge (va_wsS RX0 79 yX0_put wsX0_put) := goodIn_app (goodIn_of _ (by decide +kernel)) ggX0_edge_X0_put
theorem dX0_edge_0 : decode cX0_edge 0 = .ok (.aload_n 0, 1) := by decide +kernel
theorem dX0_edge_1 : decode cX0_edge 1 = .ok (.iload_n 1, 1) := by decide +kernel
theorem dX0_edge_2 : decode cX0_edge 2 = .ok (.invokevirtual 61, 3) := by decide +kernel
theorem dX0_edge_5 : decode cX0_edge 5 = .ok (.ifCond .eq 15, 3) := by decide +kernel
theorem dX0_edge_8 : decode cX0_edge 8 = .ok (.aload_n 0, 1) := by decide +kernel
theorem dX0_edge_9 : decode cX0_edge 9 = .ok (.iload_n 2, 1) := by decide +kernel
theorem dX0_edge_10 : decode cX0_edge 10 = .ok (.invokevirtual 61, 3) := by decide +kernel
theorem dX0_edge_13 : decode cX0_edge 13 = .ok (.ifCond .eq 7, 3) := by decide +kernel
theorem dX0_edge_16 : decode cX0_edge 16 = .ok (.iconst 1, 1) := by decide +kernel
theorem dX0_edge_17 : decode cX0_edge 17 = .ok (.goto 4, 3) := by decide +kernel
theorem dX0_edge_20 : decode cX0_edge 20 = .ok (.iconst 0, 1) := by decide +kernel
theorem dX0_edge_21 : decode cX0_edge 21 = .ok (.invokestatic 65, 3) := by decide +kernel
theorem dX0_edge_24 : decode cX0_edge 24 = .ok (.iload_n 1, 1) := by decide +kernel
theorem dX0_edge_25 : decode cX0_edge 25 = .ok (.iload_n 2, 1) := by decide +kernel
theorem dX0_edge_26 : decode cX0_edge 26 = .ok (.if_icmp .eq 17, 3) := by decide +kernel
theorem dX0_edge_29 : decode cX0_edge 29 = .ok (.iload_n 3, 1) := by decide +kernel
theorem dX0_edge_30 : decode cX0_edge 30 = .ok (.iconst 0, 1) := by decide +kernel
theorem dX0_edge_31 : decode cX0_edge 31 = .ok (.bipush 20, 2) := by decide +kernel
theorem dX0_edge_33 : decode cX0_edge 33 = .ok (.invokestatic 53, 3) := by decide +kernel
theorem dX0_edge_36 : decode cX0_edge 36 = .ok (.ifCond .eq 7, 3) := by decide +kernel
theorem dX0_edge_39 : decode cX0_edge 39 = .ok (.iconst 1, 1) := by decide +kernel
theorem dX0_edge_40 : decode cX0_edge 40 = .ok (.goto 4, 3) := by decide +kernel
theorem dX0_edge_43 : decode cX0_edge 43 = .ok (.iconst 0, 1) := by decide +kernel
theorem dX0_edge_44 : decode cX0_edge 44 = .ok (.invokestatic 57, 3) := by decide +kernel
theorem dX0_edge_47 : decode cX0_edge 47 = .ok (.aload_n 0, 1) := by decide +kernel
theorem dX0_edge_48 : decode cX0_edge 48 = .ok (.iload_n 1, 1) := by decide +kernel
theorem dX0_edge_49 : decode cX0_edge 49 = .ok (.iload_n 2, 1) := by decide +kernel
theorem dX0_edge_50 : decode cX0_edge 50 = .ok (.invokevirtual 87, 3) := by decide +kernel
theorem dX0_edge_53 : decode cX0_edge 53 = .ok (.istore 4, 2) := by decide +kernel
theorem dX0_edge_55 : decode cX0_edge 55 = .ok (.aload_n 0, 1) := by decide +kernel
theorem dX0_edge_56 : decode cX0_edge 56 = .ok (.getfield 23, 3) := by decide +kernel
theorem dX0_edge_59 : decode cX0_edge 59 = .ok (.iload_n 1, 1) := by decide +kernel
theorem dX0_edge_60 : decode cX0_edge 60 = .ok (.bipush 6, 2) := by decide +kernel
theorem dX0_edge_62 : decode cX0_edge 62 = .ok (.imul, 1) := by decide +kernel
theorem dX0_edge_63 : decode cX0_edge 63 = .ok (.iload_n 2, 1) := by decide +kernel
theorem dX0_edge_64 : decode cX0_edge 64 = .ok (.iadd, 1) := by decide +kernel
theorem dX0_edge_65 : decode cX0_edge 65 = .ok (.iload_n 3, 1) := by decide +kernel
theorem dX0_edge_66 : decode cX0_edge 66 = .ok (.invokestatic 79, 3) := by decide +kernel
theorem dX0_edge_69 : decode cX0_edge 69 = .ok (.aload_n 0, 1) := by decide +kernel
theorem dX0_edge_70 : decode cX0_edge 70 = .ok (.getfield 23, 3) := by decide +kernel
theorem dX0_edge_73 : decode cX0_edge 73 = .ok (.iload_n 2, 1) := by decide +kernel
theorem dX0_edge_74 : decode cX0_edge 74 = .ok (.bipush 6, 2) := by decide +kernel
theorem dX0_edge_76 : decode cX0_edge 76 = .ok (.imul, 1) := by decide +kernel
theorem dX0_edge_77 : decode cX0_edge 77 = .ok (.iload_n 1, 1) := by decide +kernel
theorem dX0_edge_78 : decode cX0_edge 78 = .ok (.iadd, 1) := by decide +kernel
theorem dX0_edge_79 : decode cX0_edge 79 = .ok (.iload_n 3, 1) := by decide +kernel
theorem dX0_edge_80 : decode cX0_edge 80 = .ok (.invokestatic 79, 3) := by decide +kernel
theorem dX0_edge_83 : decode cX0_edge 83 = .ok (.iload 4, 2) := by decide +kernel
theorem dX0_edge_85 : decode cX0_edge 85 = .ok (.ireturn, 1) := by decide +kernel
set_option maxRecDepth 20000 in
theorem ggX0_colour_X0_isFamily : GoodIn wsX0_colour wsX0_isFamily := goodIn_r _ [5] (by decide +kernel) (by decide +kernel)
set_option maxRecDepth 20000 in
theorem gX0_colour_X0_isFamily : GoodIn wsX0_colour (va_wsS RX0 90 yX0_isFamily wsX0_isFamily) := goodIn_app (goodIn_of _ (by decide +kernel)) ggX0_colour_X0_isFamily
set_option maxRecDepth 20000 in
theorem ggX0_colour_X0_isElement : GoodIn wsX0_colour wsX0_isElement := goodIn_r _ [9, 10, 29, 30, 31, 32, 33, 34, 35, 36, 37, 38, 39, 40] (by decide +kernel) (by decide +kernel)
set_option maxRecDepth 20000 in
theorem gX0_colour_X0_isElement : GoodIn wsX0_colour (wsV RX0 61 RX0 yX0_isElement wsX0_isElement) := goodIn_app (goodIn_of _ (by decide +kernel)) ggX0_colour_X0_isElement
set_option maxRecDepth 20000 in
theorem ggX0_colour_X0_isColour : GoodIn wsX0_colour wsX0_isColour := goodIn_r _ [13] (by decide +kernel) (by decide +kernel)
set_option maxRecDepth 20000 in
theorem gX0_colour_X0_isColour : GoodIn wsX0_colour (va_wsS RX0 93 yX0_isColour wsX0_isColour) := goodIn_app (goodIn_of _ (by decide +kernel)) ggX0_colour_X0_isColour
set_option maxRecDepth 20000 in
theorem ggX0_colour_X0_needIndex : GoodIn wsX0_colour wsX0_needIndex := goodIn_ca (goodIn_r _ [16, 17, 18] (by decide +kernel) (by decide +kernel)) (goodIn_sub (fun _ h => List.mem_cons_of_mem _ (List.mem_append_right _ h)) (by decide +kernel))
set_option maxRecDepth 20000 in
theorem gX0_colour_X0_needIndex : GoodIn wsX0_colour (va_wsS RX0 65 yX0_needIndex wsX0_needIndex) := goodIn_app (goodIn_of _ (by decide +kernel)) ggX0_colour_X0_needIndex
set_option maxRecDepth 20000 in
theorem ggX0_colour_X0_colourOf : GoodIn wsX0_colour wsX0_colourOf := goodIn_r _ [22, 1, 23, 24, 4, 25, 29, 30, 31, 32, 33, 34, 35, 36, 37, 38, 39, 40] (by decide +kernel) (by decide +kernel)
set_option maxRecDepth 20000 in
theorem gX0_colour_X0_colourOf : GoodIn wsX0_colour (wsV RX0 96 RX0 yX0_colourOf wsX0_colourOf) := goodIn_app (goodIn_of _ (by decide +kernel)) ggX0_colour_X0_colourOf
set_option maxRecDepth 20000 in
theorem ggX0_colour_X0_put : GoodIn wsX0_colour wsX0_put := goodIn_r _ [28] (by decide +kernel) (by decide +kernel)
set_option maxRecDepth 20000 in
theorem gX0_colour_X0_put : GoodIn wsX0_colour (va_wsS RX0 79 yX0_put wsX0_put) := goodIn_app (goodIn_of _ (by decide +kernel)) ggX0_colour_X0_put
theorem dX0_colour_0 : decode cX0_colour 0 = .ok (.iload_n 1, 1) := by decide +kernel
theorem dX0_colour_1 : decode cX0_colour 1 = .ok (.invokestatic 90, 3) := by decide +kernel
theorem dX0_colour_4 : decode cX0_colour 4 = .ok (.ifCond .eq 22, 3) := by decide +kernel
theorem dX0_colour_7 : decode cX0_colour 7 = .ok (.aload_n 0, 1) := by decide +kernel
theorem dX0_colour_8 : decode cX0_colour 8 = .ok (.iload_n 2, 1) := by decide +kernel
theorem dX0_colour_9 : decode cX0_colour 9 = .ok (.invokevirtual 61, 3) := by decide +kernel
theorem dX0_colour_12 : decode cX0_colour 12 = .ok (.ifCond .eq 14, 3) := by decide +kernel
theorem dX0_colour_15 : decode cX0_colour 15 = .ok (.iload_n 3, 1) := by decide +kernel
theorem dX0_colour_16 : decode cX0_colour 16 = .ok (.invokestatic 93, 3) := by decide +kernel
theorem dX0_colour_19 : decode cX0_colour 19 = .ok (.ifCond .eq 7, 3) := by decide +kernel
theorem dX0_colour_22 : decode cX0_colour 22 = .ok (.iconst 1, 1) := by decide +kernel
theorem dX0_colour_23 : decode cX0_colour 23 = .ok (.goto 4, 3) := by decide +kernel
theorem dX0_colour_26 : decode cX0_colour 26 = .ok (.iconst 0, 1) := by decide +kernel
theorem dX0_colour_27 : decode cX0_colour 27 = .ok (.invokestatic 65, 3) := by decide +kernel
theorem dX0_colour_30 : decode cX0_colour 30 = .ok (.aload_n 0, 1) := by decide +kernel
theorem dX0_colour_31 : decode cX0_colour 31 = .ok (.iload_n 1, 1) := by decide +kernel
theorem dX0_colour_32 : decode cX0_colour 32 = .ok (.iload_n 2, 1) := by decide +kernel
theorem dX0_colour_33 : decode cX0_colour 33 = .ok (.invokevirtual 96, 3) := by decide +kernel
theorem dX0_colour_36 : decode cX0_colour 36 = .ok (.istore 4, 2) := by decide +kernel
theorem dX0_colour_38 : decode cX0_colour 38 = .ok (.aload_n 0, 1) := by decide +kernel
theorem dX0_colour_39 : decode cX0_colour 39 = .ok (.getfield 26, 3) := by decide +kernel
theorem dX0_colour_42 : decode cX0_colour 42 = .ok (.iload_n 1, 1) := by decide +kernel
theorem dX0_colour_43 : decode cX0_colour 43 = .ok (.bipush 6, 2) := by decide +kernel
theorem dX0_colour_45 : decode cX0_colour 45 = .ok (.imul, 1) := by decide +kernel
theorem dX0_colour_46 : decode cX0_colour 46 = .ok (.iload_n 2, 1) := by decide +kernel
theorem dX0_colour_47 : decode cX0_colour 47 = .ok (.iadd, 1) := by decide +kernel
theorem dX0_colour_48 : decode cX0_colour 48 = .ok (.iload_n 3, 1) := by decide +kernel
theorem dX0_colour_49 : decode cX0_colour 49 = .ok (.invokestatic 79, 3) := by decide +kernel
theorem dX0_colour_52 : decode cX0_colour 52 = .ok (.iload 4, 2) := by decide +kernel
theorem dX0_colour_54 : decode cX0_colour 54 = .ok (.ireturn, 1) := by decide +kernel
set_option maxRecDepth 20000 in
theorem ggX0_room_X0_isFamily : GoodIn wsX0_room wsX0_isFamily := goodIn_r _ [5] (by decide +kernel) (by decide +kernel)
set_option maxRecDepth 20000 in
theorem gX0_room_X0_isFamily : GoodIn wsX0_room (va_wsS RX0 90 yX0_isFamily wsX0_isFamily) := goodIn_app (goodIn_of _ (by decide +kernel)) ggX0_room_X0_isFamily
set_option maxRecDepth 20000 in
theorem ggX0_room_X0_isColour : GoodIn wsX0_room wsX0_isColour := goodIn_r _ [8] (by decide +kernel) (by decide +kernel)
set_option maxRecDepth 20000 in
theorem gX0_room_X0_isColour : GoodIn wsX0_room (va_wsS RX0 93 yX0_isColour wsX0_isColour) := goodIn_app (goodIn_of _ (by decide +kernel)) ggX0_room_X0_isColour
set_option maxRecDepth 20000 in
theorem ggX0_room_X0_needIndex : GoodIn wsX0_room wsX0_needIndex := goodIn_ca (goodIn_r _ [11, 12, 13] (by decide +kernel) (by decide +kernel)) (goodIn_sub (fun _ h => List.mem_cons_of_mem _ (List.mem_append_left _ (List.mem_append_right _ h))) (by decide +kernel))
set_option maxRecDepth 20000 in
theorem gX0_room_X0_needIndex : GoodIn wsX0_room (va_wsS RX0 65 yX0_needIndex wsX0_needIndex) := goodIn_app (goodIn_of _ (by decide +kernel)) ggX0_room_X0_needIndex
set_option maxRecDepth 20000 in
theorem ggX0_room_X0_isWithin : GoodIn wsX0_room wsX0_isWithin := goodIn_r _ [16] (by decide +kernel) (by decide +kernel)
set_option maxRecDepth 20000 in
theorem gX0_room_X0_isWithin : GoodIn wsX0_room (va_wsS RX0 53 yX0_isWithin wsX0_isWithin) := goodIn_app (goodIn_of _ (by decide +kernel)) ggX0_room_X0_isWithin
set_option maxRecDepth 20000 in
theorem ggX0_room_X0_needArgument : GoodIn wsX0_room wsX0_needArgument := goodIn_ca (goodIn_r _ [19, 20, 21] (by decide +kernel) (by decide +kernel)) (goodIn_sub (fun _ h => List.mem_cons_of_mem _ (List.mem_append_right _ h)) (by decide +kernel))
set_option maxRecDepth 20000 in
theorem gX0_room_X0_needArgument : GoodIn wsX0_room (va_wsS RX0 57 yX0_needArgument wsX0_needArgument) := goodIn_app (goodIn_of _ (by decide +kernel)) ggX0_room_X0_needArgument
set_option maxRecDepth 20000 in
theorem ggX0_room_X0_roomOf : GoodIn wsX0_room wsX0_roomOf := goodIn_r _ [25, 1, 26, 27, 4, 28, 32, 33, 34, 35, 36, 37, 38, 39, 40, 41, 42, 43] (by decide +kernel) (by decide +kernel)
set_option maxRecDepth 20000 in
theorem gX0_room_X0_roomOf : GoodIn wsX0_room (wsV RX0 99 RX0 yX0_roomOf wsX0_roomOf) := goodIn_app (goodIn_of _ (by decide +kernel)) ggX0_room_X0_roomOf
set_option maxRecDepth 20000 in
theorem ggX0_room_X0_put : GoodIn wsX0_room wsX0_put := goodIn_r _ [31] (by decide +kernel) (by decide +kernel)
set_option maxRecDepth 20000 in
theorem gX0_room_X0_put : GoodIn wsX0_room (va_wsS RX0 79 yX0_put wsX0_put) := goodIn_app (goodIn_of _ (by decide +kernel)) ggX0_room_X0_put
theorem dX0_room_0 : decode cX0_room 0 = .ok (.iload_n 1, 1) := by decide +kernel
theorem dX0_room_1 : decode cX0_room 1 = .ok (.invokestatic 90, 3) := by decide +kernel
theorem dX0_room_4 : decode cX0_room 4 = .ok (.ifCond .eq 14, 3) := by decide +kernel
theorem dX0_room_7 : decode cX0_room 7 = .ok (.iload_n 2, 1) := by decide +kernel
theorem dX0_room_8 : decode cX0_room 8 = .ok (.invokestatic 93, 3) := by decide +kernel
theorem dX0_room_11 : decode cX0_room 11 = .ok (.ifCond .eq 7, 3) := by decide +kernel
theorem dX0_room_14 : decode cX0_room 14 = .ok (.iconst 1, 1) := by decide +kernel
theorem dX0_room_15 : decode cX0_room 15 = .ok (.goto 4, 3) := by decide +kernel
theorem dX0_room_18 : decode cX0_room 18 = .ok (.iconst 0, 1) := by decide +kernel
theorem dX0_room_19 : decode cX0_room 19 = .ok (.invokestatic 65, 3) := by decide +kernel
theorem dX0_room_22 : decode cX0_room 22 = .ok (.iload_n 3, 1) := by decide +kernel
theorem dX0_room_23 : decode cX0_room 23 = .ok (.iconst 0, 1) := by decide +kernel
theorem dX0_room_24 : decode cX0_room 24 = .ok (.bipush 6, 2) := by decide +kernel
theorem dX0_room_26 : decode cX0_room 26 = .ok (.invokestatic 53, 3) := by decide +kernel
theorem dX0_room_29 : decode cX0_room 29 = .ok (.invokestatic 57, 3) := by decide +kernel
theorem dX0_room_32 : decode cX0_room 32 = .ok (.aload_n 0, 1) := by decide +kernel
theorem dX0_room_33 : decode cX0_room 33 = .ok (.iload_n 1, 1) := by decide +kernel
theorem dX0_room_34 : decode cX0_room 34 = .ok (.iload_n 2, 1) := by decide +kernel
theorem dX0_room_35 : decode cX0_room 35 = .ok (.invokevirtual 99, 3) := by decide +kernel
theorem dX0_room_38 : decode cX0_room 38 = .ok (.istore 4, 2) := by decide +kernel
theorem dX0_room_40 : decode cX0_room 40 = .ok (.aload_n 0, 1) := by decide +kernel
theorem dX0_room_41 : decode cX0_room 41 = .ok (.getfield 29, 3) := by decide +kernel
theorem dX0_room_44 : decode cX0_room 44 = .ok (.iload_n 1, 1) := by decide +kernel
theorem dX0_room_45 : decode cX0_room 45 = .ok (.bipush 6, 2) := by decide +kernel
theorem dX0_room_47 : decode cX0_room 47 = .ok (.imul, 1) := by decide +kernel
theorem dX0_room_48 : decode cX0_room 48 = .ok (.iload_n 2, 1) := by decide +kernel
theorem dX0_room_49 : decode cX0_room 49 = .ok (.iadd, 1) := by decide +kernel
theorem dX0_room_50 : decode cX0_room 50 = .ok (.iload_n 3, 1) := by decide +kernel
theorem dX0_room_51 : decode cX0_room 51 = .ok (.invokestatic 79, 3) := by decide +kernel
theorem dX0_room_54 : decode cX0_room 54 = .ok (.iload 4, 2) := by decide +kernel
theorem dX0_room_56 : decode cX0_room 56 = .ok (.ireturn, 1) := by decide +kernel
set_option maxRecDepth 20000 in
theorem ggX0_weigh_X0_isElement : GoodIn wsX0_weigh wsX0_isElement := goodIn_r _ [6, 7, 27, 28, 29, 30, 31, 32, 33, 34, 35, 36, 37, 38] (by decide +kernel) (by decide +kernel)
set_option maxRecDepth 20000 in
theorem gX0_weigh_X0_isElement : GoodIn wsX0_weigh (wsV RX0 61 RX0 yX0_isElement wsX0_isElement) := goodIn_app (goodIn_of _ (by decide +kernel)) ggX0_weigh_X0_isElement
set_option maxRecDepth 20000 in
theorem ggX0_weigh_X0_needIndex : GoodIn wsX0_weigh wsX0_needIndex := goodIn_ca (goodIn_r _ [10, 11, 12] (by decide +kernel) (by decide +kernel)) (goodIn_sub (fun _ h => List.mem_cons_of_mem _ (List.mem_append_left _ (List.mem_append_right _ h))) (by decide +kernel))
set_option maxRecDepth 20000 in
theorem gX0_weigh_X0_needIndex : GoodIn wsX0_weigh (va_wsS RX0 65 yX0_needIndex wsX0_needIndex) := goodIn_app (goodIn_of _ (by decide +kernel)) ggX0_weigh_X0_needIndex
set_option maxRecDepth 20000 in
theorem ggX0_weigh_X0_isWithin : GoodIn wsX0_weigh wsX0_isWithin := goodIn_r _ [15] (by decide +kernel) (by decide +kernel)
set_option maxRecDepth 20000 in
theorem gX0_weigh_X0_isWithin : GoodIn wsX0_weigh (va_wsS RX0 53 yX0_isWithin wsX0_isWithin) := goodIn_app (goodIn_of _ (by decide +kernel)) ggX0_weigh_X0_isWithin
set_option maxRecDepth 20000 in
theorem ggX0_weigh_X0_needArgument : GoodIn wsX0_weigh wsX0_needArgument := goodIn_ca (goodIn_r _ [18, 19, 20] (by decide +kernel) (by decide +kernel)) (goodIn_sub (fun _ h => List.mem_cons_of_mem _ (List.mem_append_right _ h)) (by decide +kernel))
set_option maxRecDepth 20000 in
theorem gX0_weigh_X0_needArgument : GoodIn wsX0_weigh (va_wsS RX0 57 yX0_needArgument wsX0_needArgument) := goodIn_app (goodIn_of _ (by decide +kernel)) ggX0_weigh_X0_needArgument
set_option maxRecDepth 20000 in
theorem ggX0_weigh_X0_at : GoodIn wsX0_weigh wsX0_at := goodIn_r _ [23] (by decide +kernel) (by decide +kernel)
set_option maxRecDepth 20000 in
theorem gX0_weigh_X0_at : GoodIn wsX0_weigh (va_wsS RX0 68 yX0_at wsX0_at) := goodIn_app (goodIn_of _ (by decide +kernel)) ggX0_weigh_X0_at
set_option maxRecDepth 20000 in
theorem ggX0_weigh_X0_put : GoodIn wsX0_weigh wsX0_put := goodIn_r _ [26] (by decide +kernel) (by decide +kernel)
set_option maxRecDepth 20000 in
theorem gX0_weigh_X0_put : GoodIn wsX0_weigh (va_wsS RX0 79 yX0_put wsX0_put) := goodIn_app (goodIn_of _ (by decide +kernel)) ggX0_weigh_X0_put
theorem dX0_weigh_0 : decode cX0_weigh 0 = .ok (.aload_n 0, 1) := by decide +kernel
theorem dX0_weigh_1 : decode cX0_weigh 1 = .ok (.iload_n 1, 1) := by decide +kernel
theorem dX0_weigh_2 : decode cX0_weigh 2 = .ok (.invokevirtual 61, 3) := by decide +kernel
theorem dX0_weigh_5 : decode cX0_weigh 5 = .ok (.invokestatic 65, 3) := by decide +kernel
theorem dX0_weigh_8 : decode cX0_weigh 8 = .ok (.iload_n 2, 1) := by decide +kernel
theorem dX0_weigh_9 : decode cX0_weigh 9 = .ok (.bipush (-20), 2) := by decide +kernel
theorem dX0_weigh_11 : decode cX0_weigh 11 = .ok (.bipush 20, 2) := by decide +kernel
theorem dX0_weigh_13 : decode cX0_weigh 13 = .ok (.invokestatic 53, 3) := by decide +kernel
theorem dX0_weigh_16 : decode cX0_weigh 16 = .ok (.invokestatic 57, 3) := by decide +kernel
theorem dX0_weigh_19 : decode cX0_weigh 19 = .ok (.aload_n 0, 1) := by decide +kernel
theorem dX0_weigh_20 : decode cX0_weigh 20 = .ok (.getfield 32, 3) := by decide +kernel
theorem dX0_weigh_23 : decode cX0_weigh 23 = .ok (.iload_n 1, 1) := by decide +kernel
theorem dX0_weigh_24 : decode cX0_weigh 24 = .ok (.invokestatic 68, 3) := by decide +kernel
theorem dX0_weigh_27 : decode cX0_weigh 27 = .ok (.istore_n 3, 1) := by decide +kernel
theorem dX0_weigh_28 : decode cX0_weigh 28 = .ok (.aload_n 0, 1) := by decide +kernel
theorem dX0_weigh_29 : decode cX0_weigh 29 = .ok (.getfield 32, 3) := by decide +kernel
theorem dX0_weigh_32 : decode cX0_weigh 32 = .ok (.iload_n 1, 1) := by decide +kernel
theorem dX0_weigh_33 : decode cX0_weigh 33 = .ok (.iload_n 2, 1) := by decide +kernel
theorem dX0_weigh_34 : decode cX0_weigh 34 = .ok (.invokestatic 79, 3) := by decide +kernel
theorem dX0_weigh_37 : decode cX0_weigh 37 = .ok (.iload_n 3, 1) := by decide +kernel
theorem dX0_weigh_38 : decode cX0_weigh 38 = .ok (.ireturn, 1) := by decide +kernel
set_option maxRecDepth 20000 in
theorem ggX0_make_X0_isWithin : GoodIn wsX0_make wsX0_isWithin := goodIn_r _ [4] (by decide +kernel) (by decide +kernel)
set_option maxRecDepth 20000 in
theorem gX0_make_X0_isWithin : GoodIn wsX0_make (va_wsS RX0 53 yX0_isWithin wsX0_isWithin) := goodIn_app (goodIn_of _ (by decide +kernel)) ggX0_make_X0_isWithin
set_option maxRecDepth 20000 in
theorem ggX0_make_X0_needArgument : GoodIn wsX0_make wsX0_needArgument := goodIn_ca (goodIn_r _ [7, 8, 9] (by decide +kernel) (by decide +kernel)) (goodIn_sub (fun _ h => List.mem_cons_of_mem _ (List.mem_append_left _ (List.mem_append_right _ h))) (by decide +kernel))
set_option maxRecDepth 20000 in
theorem gX0_make_X0_needArgument : GoodIn wsX0_make (va_wsS RX0 57 yX0_needArgument wsX0_needArgument) := goodIn_app (goodIn_of _ (by decide +kernel)) ggX0_make_X0_needArgument
set_option maxRecDepth 20000 in
theorem ggX0_make_X0_needPlace : GoodIn wsX0_make wsX0_needPlace := goodIn_ca (goodIn_r _ [13, 14, 15, 16, 3, 17, 18, 19, 95, 96, 97, 98, 99, 100, 101, 102, 103, 104, 105, 106] (by decide +kernel) (by decide +kernel)) (goodIn_sub (fun _ h => List.mem_cons_of_mem _ (List.mem_append_right _ h)) (by decide +kernel))
set_option maxRecDepth 20000 in
theorem gX0_make_X0_needPlace : GoodIn wsX0_make (wsV RX0 102 RX0 yX0_needPlace wsX0_needPlace) := goodIn_app (goodIn_of _ (by decide +kernel)) ggX0_make_X0_needPlace
set_option maxRecDepth 20000 in
theorem ggX0_make_X0_sets : GoodIn wsX0_make wsX0_sets := goodIn_r _ [23, 24, 95, 96, 97, 98, 99, 100, 101, 102, 103, 104, 105, 106] (by decide +kernel) (by decide +kernel)
set_option maxRecDepth 20000 in
theorem gX0_make_X0_sets : GoodIn wsX0_make (wsV RX0 105 RX0 yX0_sets wsX0_sets) := goodIn_app (goodIn_of _ (by decide +kernel)) ggX0_make_X0_sets
set_option maxRecDepth 20000 in
theorem ggX0_make_X0_toldValue : GoodIn wsX0_make wsX0_toldValue := goodIn_r _ [28, 29, 30, 31, 3, 32, 24, 33, 34, 35, 36, 37, 38, 39, 40, 41, 42, 43, 44, 45, 46, 47, 48, 49, 50, 51, 52, 53, 54, 55, 56, 57, 58, 59, 60, 61, 62, 63, 64, 65, 66, 67, 68, 69, 70, 71, 72, 73, 74, 75, 76, 77, 78, 79, 80, 81, 82, 95, 96, 97, 98, 99, 100, 101, 102, 103, 104, 105, 106] (by decide +kernel) (by decide +kernel)
set_option maxRecDepth 20000 in
theorem gX0_make_X0_toldValue : GoodIn wsX0_make (wsV RX0 109 RX0 yX0_toldValue wsX0_toldValue) := goodIn_app (goodIn_of _ (by decide +kernel)) ggX0_make_X0_toldValue
set_option maxRecDepth 20000 in
theorem ggX0_make_X0_putNew : GoodIn wsX0_make wsX0_putNew := goodIn_r _ [86, 87, 14, 88, 89, 3, 90, 95, 96, 97, 98, 99, 100, 101, 102, 103, 104, 105, 106] (by decide +kernel) (by decide +kernel)
set_option maxRecDepth 20000 in
theorem gX0_make_X0_putNew : GoodIn wsX0_make (wsV RX0 112 RX0 yX0_putNew wsX0_putNew) := goodIn_app (goodIn_of _ (by decide +kernel)) ggX0_make_X0_putNew
set_option maxRecDepth 20000 in
theorem ggX0_make_X0_countNew : GoodIn wsX0_make wsX0_countNew := goodIn_r _ [94, 14, 95, 96, 97, 98, 99, 100, 101, 102, 103, 104, 105, 106] (by decide +kernel) (by decide +kernel)
set_option maxRecDepth 20000 in
theorem gX0_make_X0_countNew : GoodIn wsX0_make (wsV RX0 116 RX0 yX0_countNew wsX0_countNew) := goodIn_app (goodIn_of _ (by decide +kernel)) ggX0_make_X0_countNew
theorem dX0_make_0 : decode cX0_make 0 = .ok (.iload_n 1, 1) := by decide +kernel
theorem dX0_make_1 : decode cX0_make 1 = .ok (.iconst 0, 1) := by decide +kernel
theorem dX0_make_2 : decode cX0_make 2 = .ok (.iconst 4, 1) := by decide +kernel
theorem dX0_make_3 : decode cX0_make 3 = .ok (.invokestatic 53, 3) := by decide +kernel
theorem dX0_make_6 : decode cX0_make 6 = .ok (.invokestatic 57, 3) := by decide +kernel
theorem dX0_make_9 : decode cX0_make 9 = .ok (.aload_n 0, 1) := by decide +kernel
theorem dX0_make_10 : decode cX0_make 10 = .ok (.invokevirtual 102, 3) := by decide +kernel
theorem dX0_make_13 : decode cX0_make 13 = .ok (.iconst 0, 1) := by decide +kernel
theorem dX0_make_14 : decode cX0_make 14 = .ok (.istore_n 2, 1) := by decide +kernel
theorem dX0_make_15 : decode cX0_make 15 = .ok (.iload_n 2, 1) := by decide +kernel
theorem dX0_make_16 : decode cX0_make 16 = .ok (.aload_n 0, 1) := by decide +kernel
theorem dX0_make_17 : decode cX0_make 17 = .ok (.invokevirtual 105, 3) := by decide +kernel
theorem dX0_make_20 : decode cX0_make 20 = .ok (.if_icmp .ge 20, 3) := by decide +kernel
theorem dX0_make_23 : decode cX0_make 23 = .ok (.aload_n 0, 1) := by decide +kernel
theorem dX0_make_24 : decode cX0_make 24 = .ok (.iload_n 2, 1) := by decide +kernel
theorem dX0_make_25 : decode cX0_make 25 = .ok (.aload_n 0, 1) := by decide +kernel
theorem dX0_make_26 : decode cX0_make 26 = .ok (.iload_n 1, 1) := by decide +kernel
theorem dX0_make_27 : decode cX0_make 27 = .ok (.iload_n 2, 1) := by decide +kernel
theorem dX0_make_28 : decode cX0_make 28 = .ok (.invokevirtual 109, 3) := by decide +kernel
theorem dX0_make_31 : decode cX0_make 31 = .ok (.invokevirtual 112, 3) := by decide +kernel
theorem dX0_make_34 : decode cX0_make 34 = .ok (.iinc 2 1, 3) := by decide +kernel
theorem dX0_make_37 : decode cX0_make 37 = .ok (.goto (-22), 3) := by decide +kernel
theorem dX0_make_40 : decode cX0_make 40 = .ok (.aload_n 0, 1) := by decide +kernel
theorem dX0_make_41 : decode cX0_make 41 = .ok (.invokevirtual 116, 3) := by decide +kernel
theorem dX0_make_44 : decode cX0_make 44 = .ok (.ireturn, 1) := by decide +kernel
set_option maxRecDepth 20000 in
theorem ggX0_sum_X0_isFunction : GoodIn wsX0_sum wsX0_isFunction := goodIn_r _ [5, 6, 45, 46, 47, 48, 49, 50, 51, 52, 53, 54, 55, 56] (by decide +kernel) (by decide +kernel)
set_option maxRecDepth 20000 in
theorem gX0_sum_X0_isFunction : GoodIn wsX0_sum (wsV RX0 119 RX0 yX0_isFunction wsX0_isFunction) := goodIn_app (goodIn_of _ (by decide +kernel)) ggX0_sum_X0_isFunction
set_option maxRecDepth 20000 in
theorem ggX0_sum_X0_needIndex : GoodIn wsX0_sum wsX0_needIndex := goodIn_ca (goodIn_r _ [9, 10, 11] (by decide +kernel) (by decide +kernel)) (goodIn_sub (fun _ h => List.mem_cons_of_mem _ (List.mem_append_left _ (List.mem_append_right _ h))) (by decide +kernel))
set_option maxRecDepth 20000 in
theorem gX0_sum_X0_needIndex : GoodIn wsX0_sum (va_wsS RX0 65 yX0_needIndex wsX0_needIndex) := goodIn_app (goodIn_of _ (by decide +kernel)) ggX0_sum_X0_needIndex
set_option maxRecDepth 20000 in
theorem ggX0_sum_X0_needPlace : GoodIn wsX0_sum wsX0_needPlace := goodIn_ca (goodIn_r _ [15, 6, 16, 17, 4, 18, 19, 20, 45, 46, 47, 48, 49, 50, 51, 52, 53, 54, 55, 56] (by decide +kernel) (by decide +kernel)) (goodIn_sub (fun _ h => List.mem_cons_of_mem _ (List.mem_append_right _ h)) (by decide +kernel))
set_option maxRecDepth 20000 in
theorem gX0_sum_X0_needPlace : GoodIn wsX0_sum (wsV RX0 102 RX0 yX0_needPlace wsX0_needPlace) := goodIn_app (goodIn_of _ (by decide +kernel)) ggX0_sum_X0_needPlace
set_option maxRecDepth 20000 in
theorem ggX0_sum_X0_sets : GoodIn wsX0_sum wsX0_sets := goodIn_r _ [24, 25, 45, 46, 47, 48, 49, 50, 51, 52, 53, 54, 55, 56] (by decide +kernel) (by decide +kernel)
set_option maxRecDepth 20000 in
theorem gX0_sum_X0_sets : GoodIn wsX0_sum (wsV RX0 105 RX0 yX0_sets wsX0_sets) := goodIn_app (goodIn_of _ (by decide +kernel)) ggX0_sum_X0_sets
set_option maxRecDepth 20000 in
theorem ggX0_sum_X0_valueOf : GoodIn wsX0_sum wsX0_valueOf := goodIn_r _ [29, 30, 31, 32, 4, 33, 45, 46, 47, 48, 49, 50, 51, 52, 53, 54, 55, 56] (by decide +kernel) (by decide +kernel)
set_option maxRecDepth 20000 in
theorem gX0_sum_X0_valueOf : GoodIn wsX0_sum (wsV RX0 122 RX0 yX0_valueOf wsX0_valueOf) := goodIn_app (goodIn_of _ (by decide +kernel)) ggX0_sum_X0_valueOf
set_option maxRecDepth 20000 in
theorem ggX0_sum_X0_putNew : GoodIn wsX0_sum wsX0_putNew := goodIn_r _ [37, 30, 6, 38, 39, 4, 40, 45, 46, 47, 48, 49, 50, 51, 52, 53, 54, 55, 56] (by decide +kernel) (by decide +kernel)
set_option maxRecDepth 20000 in
theorem gX0_sum_X0_putNew : GoodIn wsX0_sum (wsV RX0 112 RX0 yX0_putNew wsX0_putNew) := goodIn_app (goodIn_of _ (by decide +kernel)) ggX0_sum_X0_putNew
set_option maxRecDepth 20000 in
theorem ggX0_sum_X0_countNew : GoodIn wsX0_sum wsX0_countNew := goodIn_r _ [44, 6, 45, 46, 47, 48, 49, 50, 51, 52, 53, 54, 55, 56] (by decide +kernel) (by decide +kernel)
set_option maxRecDepth 20000 in
theorem gX0_sum_X0_countNew : GoodIn wsX0_sum (wsV RX0 116 RX0 yX0_countNew wsX0_countNew) := goodIn_app (goodIn_of _ (by decide +kernel)) ggX0_sum_X0_countNew
theorem dX0_sum_0 : decode cX0_sum 0 = .ok (.aload_n 0, 1) := by decide +kernel
theorem dX0_sum_1 : decode cX0_sum 1 = .ok (.iload_n 1, 1) := by decide +kernel
theorem dX0_sum_2 : decode cX0_sum 2 = .ok (.invokevirtual 119, 3) := by decide +kernel
theorem dX0_sum_5 : decode cX0_sum 5 = .ok (.ifCond .eq 15, 3) := by decide +kernel
theorem dX0_sum_8 : decode cX0_sum 8 = .ok (.aload_n 0, 1) := by decide +kernel
theorem dX0_sum_9 : decode cX0_sum 9 = .ok (.iload_n 2, 1) := by decide +kernel
theorem dX0_sum_10 : decode cX0_sum 10 = .ok (.invokevirtual 119, 3) := by decide +kernel
theorem dX0_sum_13 : decode cX0_sum 13 = .ok (.ifCond .eq 7, 3) := by decide +kernel
theorem dX0_sum_16 : decode cX0_sum 16 = .ok (.iconst 1, 1) := by decide +kernel
theorem dX0_sum_17 : decode cX0_sum 17 = .ok (.goto 4, 3) := by decide +kernel
theorem dX0_sum_20 : decode cX0_sum 20 = .ok (.iconst 0, 1) := by decide +kernel
theorem dX0_sum_21 : decode cX0_sum 21 = .ok (.invokestatic 65, 3) := by decide +kernel
theorem dX0_sum_24 : decode cX0_sum 24 = .ok (.aload_n 0, 1) := by decide +kernel
theorem dX0_sum_25 : decode cX0_sum 25 = .ok (.invokevirtual 102, 3) := by decide +kernel
theorem dX0_sum_28 : decode cX0_sum 28 = .ok (.iconst 0, 1) := by decide +kernel
theorem dX0_sum_29 : decode cX0_sum 29 = .ok (.istore_n 3, 1) := by decide +kernel
theorem dX0_sum_30 : decode cX0_sum 30 = .ok (.iload_n 3, 1) := by decide +kernel
theorem dX0_sum_31 : decode cX0_sum 31 = .ok (.aload_n 0, 1) := by decide +kernel
theorem dX0_sum_32 : decode cX0_sum 32 = .ok (.invokevirtual 105, 3) := by decide +kernel
theorem dX0_sum_35 : decode cX0_sum 35 = .ok (.if_icmp .ge 27, 3) := by decide +kernel
theorem dX0_sum_38 : decode cX0_sum 38 = .ok (.aload_n 0, 1) := by decide +kernel
theorem dX0_sum_39 : decode cX0_sum 39 = .ok (.iload_n 3, 1) := by decide +kernel
theorem dX0_sum_40 : decode cX0_sum 40 = .ok (.aload_n 0, 1) := by decide +kernel
theorem dX0_sum_41 : decode cX0_sum 41 = .ok (.iload_n 1, 1) := by decide +kernel
theorem dX0_sum_42 : decode cX0_sum 42 = .ok (.iload_n 3, 1) := by decide +kernel
theorem dX0_sum_43 : decode cX0_sum 43 = .ok (.invokevirtual 122, 3) := by decide +kernel
theorem dX0_sum_46 : decode cX0_sum 46 = .ok (.aload_n 0, 1) := by decide +kernel
theorem dX0_sum_47 : decode cX0_sum 47 = .ok (.iload_n 2, 1) := by decide +kernel
theorem dX0_sum_48 : decode cX0_sum 48 = .ok (.iload_n 3, 1) := by decide +kernel
theorem dX0_sum_49 : decode cX0_sum 49 = .ok (.invokevirtual 122, 3) := by decide +kernel
theorem dX0_sum_52 : decode cX0_sum 52 = .ok (.iadd, 1) := by decide +kernel
theorem dX0_sum_53 : decode cX0_sum 53 = .ok (.invokevirtual 112, 3) := by decide +kernel
theorem dX0_sum_56 : decode cX0_sum 56 = .ok (.iinc 3 1, 3) := by decide +kernel
theorem dX0_sum_59 : decode cX0_sum 59 = .ok (.goto (-29), 3) := by decide +kernel
theorem dX0_sum_62 : decode cX0_sum 62 = .ok (.aload_n 0, 1) := by decide +kernel
theorem dX0_sum_63 : decode cX0_sum 63 = .ok (.invokevirtual 116, 3) := by decide +kernel
theorem dX0_sum_66 : decode cX0_sum 66 = .ok (.ireturn, 1) := by decide +kernel
set_option maxRecDepth 20000 in
theorem ggX0_contract_X0_isFunction : GoodIn wsX0_contract wsX0_isFunction := goodIn_r _ [5, 6, 54, 55, 56, 57, 58, 59, 60, 61, 62, 63, 64, 65] (by decide +kernel) (by decide +kernel)
set_option maxRecDepth 20000 in
theorem gX0_contract_X0_isFunction : GoodIn wsX0_contract (wsV RX0 119 RX0 yX0_isFunction wsX0_isFunction) := goodIn_app (goodIn_of _ (by decide +kernel)) ggX0_contract_X0_isFunction
set_option maxRecDepth 20000 in
theorem ggX0_contract_X0_needIndex : GoodIn wsX0_contract wsX0_needIndex := goodIn_ca (goodIn_r _ [9, 10, 11] (by decide +kernel) (by decide +kernel)) (goodIn_sub (fun _ h => List.mem_cons_of_mem _ (List.mem_append_left _ (List.mem_append_left _ (List.mem_append_right _ h)))) (by decide +kernel))
set_option maxRecDepth 20000 in
theorem gX0_contract_X0_needIndex : GoodIn wsX0_contract (va_wsS RX0 65 yX0_needIndex wsX0_needIndex) := goodIn_app (goodIn_of _ (by decide +kernel)) ggX0_contract_X0_needIndex
set_option maxRecDepth 20000 in
theorem ggX0_contract_X0_isSet : GoodIn wsX0_contract wsX0_isSet := goodIn_r _ [15, 16, 17, 18, 4, 19, 20, 54, 55, 56, 57, 58, 59, 60, 61, 62, 63, 64, 65] (by decide +kernel) (by decide +kernel)
set_option maxRecDepth 20000 in
theorem gX0_contract_X0_isSet : GoodIn wsX0_contract (wsV RX0 125 RX0 yX0_isSet wsX0_isSet) := goodIn_app (goodIn_of _ (by decide +kernel)) ggX0_contract_X0_isSet
set_option maxRecDepth 20000 in
theorem ggX0_contract_X0_needArgument : GoodIn wsX0_contract wsX0_needArgument := goodIn_ca (goodIn_r _ [23, 24, 25] (by decide +kernel) (by decide +kernel)) (goodIn_sub (fun _ h => List.mem_cons_of_mem _ (List.mem_append_left _ (List.mem_append_right _ h))) (by decide +kernel))
set_option maxRecDepth 20000 in
theorem gX0_contract_X0_needArgument : GoodIn wsX0_contract (va_wsS RX0 57 yX0_needArgument wsX0_needArgument) := goodIn_app (goodIn_of _ (by decide +kernel)) ggX0_contract_X0_needArgument
set_option maxRecDepth 20000 in
theorem ggX0_contract_X0_needPlace : GoodIn wsX0_contract wsX0_needPlace := goodIn_ca (goodIn_r _ [29, 6, 30, 31, 4, 32, 33, 34, 54, 55, 56, 57, 58, 59, 60, 61, 62, 63, 64, 65] (by decide +kernel) (by decide +kernel)) (goodIn_sub (fun _ h => List.mem_cons_of_mem _ (List.mem_append_right _ h)) (by decide +kernel))
set_option maxRecDepth 20000 in
theorem gX0_contract_X0_needPlace : GoodIn wsX0_contract (wsV RX0 102 RX0 yX0_needPlace wsX0_needPlace) := goodIn_app (goodIn_of _ (by decide +kernel)) ggX0_contract_X0_needPlace
set_option maxRecDepth 20000 in
theorem ggX0_contract_X0_sets : GoodIn wsX0_contract wsX0_sets := goodIn_r _ [19, 20, 54, 55, 56, 57, 58, 59, 60, 61, 62, 63, 64, 65] (by decide +kernel) (by decide +kernel)
set_option maxRecDepth 20000 in
theorem gX0_contract_X0_sets : GoodIn wsX0_contract (wsV RX0 105 RX0 yX0_sets wsX0_sets) := goodIn_app (goodIn_of _ (by decide +kernel)) ggX0_contract_X0_sets
set_option maxRecDepth 20000 in
theorem ggX0_contract_X0_valueOf : GoodIn wsX0_contract wsX0_valueOf := goodIn_r _ [38, 39, 40, 41, 4, 42, 54, 55, 56, 57, 58, 59, 60, 61, 62, 63, 64, 65] (by decide +kernel) (by decide +kernel)
set_option maxRecDepth 20000 in
theorem gX0_contract_X0_valueOf : GoodIn wsX0_contract (wsV RX0 122 RX0 yX0_valueOf wsX0_valueOf) := goodIn_app (goodIn_of _ (by decide +kernel)) ggX0_contract_X0_valueOf
set_option maxRecDepth 20000 in
theorem ggX0_contract_X0_putNew : GoodIn wsX0_contract wsX0_putNew := goodIn_r _ [46, 39, 6, 47, 48, 4, 49, 54, 55, 56, 57, 58, 59, 60, 61, 62, 63, 64, 65] (by decide +kernel) (by decide +kernel)
set_option maxRecDepth 20000 in
theorem gX0_contract_X0_putNew : GoodIn wsX0_contract (wsV RX0 112 RX0 yX0_putNew wsX0_putNew) := goodIn_app (goodIn_of _ (by decide +kernel)) ggX0_contract_X0_putNew
set_option maxRecDepth 20000 in
theorem ggX0_contract_X0_countNew : GoodIn wsX0_contract wsX0_countNew := goodIn_r _ [53, 6, 54, 55, 56, 57, 58, 59, 60, 61, 62, 63, 64, 65] (by decide +kernel) (by decide +kernel)
set_option maxRecDepth 20000 in
theorem gX0_contract_X0_countNew : GoodIn wsX0_contract (wsV RX0 116 RX0 yX0_countNew wsX0_countNew) := goodIn_app (goodIn_of _ (by decide +kernel)) ggX0_contract_X0_countNew
theorem dX0_contract_0 : decode cX0_contract 0 = .ok (.aload_n 0, 1) := by decide +kernel
theorem dX0_contract_1 : decode cX0_contract 1 = .ok (.iload_n 1, 1) := by decide +kernel
theorem dX0_contract_2 : decode cX0_contract 2 = .ok (.invokevirtual 119, 3) := by decide +kernel
theorem dX0_contract_5 : decode cX0_contract 5 = .ok (.invokestatic 65, 3) := by decide +kernel
theorem dX0_contract_8 : decode cX0_contract 8 = .ok (.aload_n 0, 1) := by decide +kernel
theorem dX0_contract_9 : decode cX0_contract 9 = .ok (.iload_n 2, 1) := by decide +kernel
theorem dX0_contract_10 : decode cX0_contract 10 = .ok (.invokevirtual 125, 3) := by decide +kernel
theorem dX0_contract_13 : decode cX0_contract 13 = .ok (.invokestatic 57, 3) := by decide +kernel
theorem dX0_contract_16 : decode cX0_contract 16 = .ok (.aload_n 0, 1) := by decide +kernel
theorem dX0_contract_17 : decode cX0_contract 17 = .ok (.invokevirtual 102, 3) := by decide +kernel
theorem dX0_contract_20 : decode cX0_contract 20 = .ok (.iconst 0, 1) := by decide +kernel
theorem dX0_contract_21 : decode cX0_contract 21 = .ok (.istore_n 3, 1) := by decide +kernel
theorem dX0_contract_22 : decode cX0_contract 22 = .ok (.iload_n 3, 1) := by decide +kernel
theorem dX0_contract_23 : decode cX0_contract 23 = .ok (.aload_n 0, 1) := by decide +kernel
theorem dX0_contract_24 : decode cX0_contract 24 = .ok (.invokevirtual 105, 3) := by decide +kernel
theorem dX0_contract_27 : decode cX0_contract 27 = .ok (.if_icmp .ge 29, 3) := by decide +kernel
theorem dX0_contract_30 : decode cX0_contract 30 = .ok (.aload_n 0, 1) := by decide +kernel
theorem dX0_contract_31 : decode cX0_contract 31 = .ok (.iload_n 3, 1) := by decide +kernel
theorem dX0_contract_32 : decode cX0_contract 32 = .ok (.aload_n 0, 1) := by decide +kernel
theorem dX0_contract_33 : decode cX0_contract 33 = .ok (.iload_n 1, 1) := by decide +kernel
theorem dX0_contract_34 : decode cX0_contract 34 = .ok (.iload_n 3, 1) := by decide +kernel
theorem dX0_contract_35 : decode cX0_contract 35 = .ok (.iload_n 2, 1) := by decide +kernel
theorem dX0_contract_36 : decode cX0_contract 36 = .ok (.ior, 1) := by decide +kernel
theorem dX0_contract_37 : decode cX0_contract 37 = .ok (.invokevirtual 122, 3) := by decide +kernel
theorem dX0_contract_40 : decode cX0_contract 40 = .ok (.aload_n 0, 1) := by decide +kernel
theorem dX0_contract_41 : decode cX0_contract 41 = .ok (.iload_n 1, 1) := by decide +kernel
theorem dX0_contract_42 : decode cX0_contract 42 = .ok (.iload_n 2, 1) := by decide +kernel
theorem dX0_contract_43 : decode cX0_contract 43 = .ok (.invokevirtual 122, 3) := by decide +kernel
theorem dX0_contract_46 : decode cX0_contract 46 = .ok (.isub, 1) := by decide +kernel
theorem dX0_contract_47 : decode cX0_contract 47 = .ok (.invokevirtual 112, 3) := by decide +kernel
theorem dX0_contract_50 : decode cX0_contract 50 = .ok (.iinc 3 1, 3) := by decide +kernel
theorem dX0_contract_53 : decode cX0_contract 53 = .ok (.goto (-31), 3) := by decide +kernel
theorem dX0_contract_56 : decode cX0_contract 56 = .ok (.aload_n 0, 1) := by decide +kernel
theorem dX0_contract_57 : decode cX0_contract 57 = .ok (.invokevirtual 116, 3) := by decide +kernel
theorem dX0_contract_60 : decode cX0_contract 60 = .ok (.ireturn, 1) := by decide +kernel
set_option maxRecDepth 20000 in
theorem ggX0_cap_X0_isFunction : GoodIn wsX0_cap wsX0_isFunction := goodIn_r _ [9, 10, 57, 58, 59, 60, 61, 62, 63, 64, 65, 66, 67, 68] (by decide +kernel) (by decide +kernel)
set_option maxRecDepth 20000 in
theorem gX0_cap_X0_isFunction : GoodIn wsX0_cap (wsV RX0 119 RX0 yX0_isFunction wsX0_isFunction) := goodIn_app (goodIn_of _ (by decide +kernel)) ggX0_cap_X0_isFunction
set_option maxRecDepth 20000 in
theorem ggX0_cap_X0_needIndex : GoodIn wsX0_cap wsX0_needIndex := goodIn_ca (goodIn_r _ [13, 14, 15] (by decide +kernel) (by decide +kernel)) (goodIn_sub (fun _ h => List.mem_cons_of_mem _ (List.mem_append_left _ (List.mem_append_left _ (List.mem_append_right _ h)))) (by decide +kernel))
set_option maxRecDepth 20000 in
theorem gX0_cap_X0_needIndex : GoodIn wsX0_cap (va_wsS RX0 65 yX0_needIndex wsX0_needIndex) := goodIn_app (goodIn_of _ (by decide +kernel)) ggX0_cap_X0_needIndex
set_option maxRecDepth 20000 in
theorem ggX0_cap_X0_isWithin : GoodIn wsX0_cap wsX0_isWithin := goodIn_r _ [18] (by decide +kernel) (by decide +kernel)
set_option maxRecDepth 20000 in
theorem gX0_cap_X0_isWithin : GoodIn wsX0_cap (va_wsS RX0 53 yX0_isWithin wsX0_isWithin) := goodIn_app (goodIn_of _ (by decide +kernel)) ggX0_cap_X0_isWithin
set_option maxRecDepth 20000 in
theorem ggX0_cap_X0_needArgument : GoodIn wsX0_cap wsX0_needArgument := goodIn_ca (goodIn_r _ [21, 22, 23] (by decide +kernel) (by decide +kernel)) (goodIn_sub (fun _ h => List.mem_cons_of_mem _ (List.mem_append_left _ (List.mem_append_right _ h))) (by decide +kernel))
set_option maxRecDepth 20000 in
theorem gX0_cap_X0_needArgument : GoodIn wsX0_cap (va_wsS RX0 57 yX0_needArgument wsX0_needArgument) := goodIn_app (goodIn_of _ (by decide +kernel)) ggX0_cap_X0_needArgument
set_option maxRecDepth 20000 in
theorem ggX0_cap_X0_needPlace : GoodIn wsX0_cap wsX0_needPlace := goodIn_ca (goodIn_r _ [27, 10, 28, 29, 8, 30, 31, 32, 57, 58, 59, 60, 61, 62, 63, 64, 65, 66, 67, 68] (by decide +kernel) (by decide +kernel)) (goodIn_sub (fun _ h => List.mem_cons_of_mem _ (List.mem_append_right _ h)) (by decide +kernel))
set_option maxRecDepth 20000 in
theorem gX0_cap_X0_needPlace : GoodIn wsX0_cap (wsV RX0 102 RX0 yX0_needPlace wsX0_needPlace) := goodIn_app (goodIn_of _ (by decide +kernel)) ggX0_cap_X0_needPlace
set_option maxRecDepth 20000 in
theorem ggX0_cap_X0_sets : GoodIn wsX0_cap wsX0_sets := goodIn_r _ [36, 37, 57, 58, 59, 60, 61, 62, 63, 64, 65, 66, 67, 68] (by decide +kernel) (by decide +kernel)
set_option maxRecDepth 20000 in
theorem gX0_cap_X0_sets : GoodIn wsX0_cap (wsV RX0 105 RX0 yX0_sets wsX0_sets) := goodIn_app (goodIn_of _ (by decide +kernel)) ggX0_cap_X0_sets
set_option maxRecDepth 20000 in
theorem ggX0_cap_X0_valueOf : GoodIn wsX0_cap wsX0_valueOf := goodIn_r _ [41, 42, 43, 44, 8, 45, 57, 58, 59, 60, 61, 62, 63, 64, 65, 66, 67, 68] (by decide +kernel) (by decide +kernel)
set_option maxRecDepth 20000 in
theorem gX0_cap_X0_valueOf : GoodIn wsX0_cap (wsV RX0 122 RX0 yX0_valueOf wsX0_valueOf) := goodIn_app (goodIn_of _ (by decide +kernel)) ggX0_cap_X0_valueOf
set_option maxRecDepth 20000 in
theorem ggX0_cap_X0_putNew : GoodIn wsX0_cap wsX0_putNew := goodIn_r _ [49, 42, 10, 50, 51, 8, 52, 57, 58, 59, 60, 61, 62, 63, 64, 65, 66, 67, 68] (by decide +kernel) (by decide +kernel)
set_option maxRecDepth 20000 in
theorem gX0_cap_X0_putNew : GoodIn wsX0_cap (wsV RX0 112 RX0 yX0_putNew wsX0_putNew) := goodIn_app (goodIn_of _ (by decide +kernel)) ggX0_cap_X0_putNew
set_option maxRecDepth 20000 in
theorem ggX0_cap_X0_countNew : GoodIn wsX0_cap wsX0_countNew := goodIn_r _ [56, 10, 57, 58, 59, 60, 61, 62, 63, 64, 65, 66, 67, 68] (by decide +kernel) (by decide +kernel)
set_option maxRecDepth 20000 in
theorem gX0_cap_X0_countNew : GoodIn wsX0_cap (wsV RX0 116 RX0 yX0_countNew wsX0_countNew) := goodIn_app (goodIn_of _ (by decide +kernel)) ggX0_cap_X0_countNew
theorem dX0_cap_0 : decode cX0_cap 0 = .ok (.aload_n 0, 1) := by decide +kernel
theorem dX0_cap_1 : decode cX0_cap 1 = .ok (.iload_n 1, 1) := by decide +kernel
theorem dX0_cap_2 : decode cX0_cap 2 = .ok (.invokevirtual 119, 3) := by decide +kernel
theorem dX0_cap_5 : decode cX0_cap 5 = .ok (.invokestatic 65, 3) := by decide +kernel
theorem dX0_cap_8 : decode cX0_cap 8 = .ok (.iload_n 2, 1) := by decide +kernel
theorem dX0_cap_9 : decode cX0_cap 9 = .ok (.iconst 0, 1) := by decide +kernel
theorem dX0_cap_10 : decode cX0_cap 10 = .ok (.bipush 100, 2) := by decide +kernel
theorem dX0_cap_12 : decode cX0_cap 12 = .ok (.invokestatic 53, 3) := by decide +kernel
theorem dX0_cap_15 : decode cX0_cap 15 = .ok (.invokestatic 57, 3) := by decide +kernel
theorem dX0_cap_18 : decode cX0_cap 18 = .ok (.aload_n 0, 1) := by decide +kernel
theorem dX0_cap_19 : decode cX0_cap 19 = .ok (.invokevirtual 102, 3) := by decide +kernel
theorem dX0_cap_22 : decode cX0_cap 22 = .ok (.iconst 0, 1) := by decide +kernel
theorem dX0_cap_23 : decode cX0_cap 23 = .ok (.istore_n 3, 1) := by decide +kernel
theorem dX0_cap_24 : decode cX0_cap 24 = .ok (.iload_n 3, 1) := by decide +kernel
theorem dX0_cap_25 : decode cX0_cap 25 = .ok (.aload_n 0, 1) := by decide +kernel
theorem dX0_cap_26 : decode cX0_cap 26 = .ok (.invokevirtual 105, 3) := by decide +kernel
theorem dX0_cap_29 : decode cX0_cap 29 = .ok (.if_icmp .ge 24, 3) := by decide +kernel
theorem dX0_cap_32 : decode cX0_cap 32 = .ok (.aload_n 0, 1) := by decide +kernel
theorem dX0_cap_33 : decode cX0_cap 33 = .ok (.iload_n 3, 1) := by decide +kernel
theorem dX0_cap_34 : decode cX0_cap 34 = .ok (.aload_n 0, 1) := by decide +kernel
theorem dX0_cap_35 : decode cX0_cap 35 = .ok (.iload_n 1, 1) := by decide +kernel
theorem dX0_cap_36 : decode cX0_cap 36 = .ok (.iload_n 3, 1) := by decide +kernel
theorem dX0_cap_37 : decode cX0_cap 37 = .ok (.invokevirtual 122, 3) := by decide +kernel
theorem dX0_cap_40 : decode cX0_cap 40 = .ok (.iload_n 2, 1) := by decide +kernel
theorem dX0_cap_41 : decode cX0_cap 41 = .ok (.invokestatic 128, 3) := by decide +kernel
theorem dX0_cap_44 : decode cX0_cap 44 = .ok (.invokevirtual 112, 3) := by decide +kernel
theorem dX0_cap_47 : decode cX0_cap 47 = .ok (.iinc 3 1, 3) := by decide +kernel
theorem dX0_cap_50 : decode cX0_cap 50 = .ok (.goto (-26), 3) := by decide +kernel
theorem dX0_cap_53 : decode cX0_cap 53 = .ok (.aload_n 0, 1) := by decide +kernel
theorem dX0_cap_54 : decode cX0_cap 54 = .ok (.invokevirtual 116, 3) := by decide +kernel
theorem dX0_cap_57 : decode cX0_cap 57 = .ok (.ireturn, 1) := by decide +kernel
set_option maxRecDepth 20000 in
theorem ggX0_value_X0_isFunction : GoodIn wsX0_value wsX0_isFunction := goodIn_r _ [5, 6, 34, 35, 36, 37, 38, 39, 40, 41, 42, 43, 44, 45] (by decide +kernel) (by decide +kernel)
set_option maxRecDepth 20000 in
theorem gX0_value_X0_isFunction : GoodIn wsX0_value (wsV RX0 119 RX0 yX0_isFunction wsX0_isFunction) := goodIn_app (goodIn_of _ (by decide +kernel)) ggX0_value_X0_isFunction
set_option maxRecDepth 20000 in
theorem ggX0_value_X0_needIndex : GoodIn wsX0_value wsX0_needIndex := goodIn_ca (goodIn_r _ [9, 10, 11] (by decide +kernel) (by decide +kernel)) (goodIn_sub (fun _ h => List.mem_cons_of_mem _ (List.mem_append_left _ (List.mem_append_right _ h))) (by decide +kernel))
set_option maxRecDepth 20000 in
theorem gX0_value_X0_needIndex : GoodIn wsX0_value (va_wsS RX0 65 yX0_needIndex wsX0_needIndex) := goodIn_app (goodIn_of _ (by decide +kernel)) ggX0_value_X0_needIndex
set_option maxRecDepth 20000 in
theorem ggX0_value_X0_isSet : GoodIn wsX0_value wsX0_isSet := goodIn_r _ [15, 16, 17, 18, 4, 19, 20, 34, 35, 36, 37, 38, 39, 40, 41, 42, 43, 44, 45] (by decide +kernel) (by decide +kernel)
set_option maxRecDepth 20000 in
theorem gX0_value_X0_isSet : GoodIn wsX0_value (wsV RX0 125 RX0 yX0_isSet wsX0_isSet) := goodIn_app (goodIn_of _ (by decide +kernel)) ggX0_value_X0_isSet
set_option maxRecDepth 20000 in
theorem ggX0_value_X0_needArgument : GoodIn wsX0_value wsX0_needArgument := goodIn_ca (goodIn_r _ [23, 24, 25] (by decide +kernel) (by decide +kernel)) (goodIn_sub (fun _ h => List.mem_cons_of_mem _ (List.mem_append_right _ h)) (by decide +kernel))
set_option maxRecDepth 20000 in
theorem gX0_value_X0_needArgument : GoodIn wsX0_value (va_wsS RX0 57 yX0_needArgument wsX0_needArgument) := goodIn_app (goodIn_of _ (by decide +kernel)) ggX0_value_X0_needArgument
set_option maxRecDepth 20000 in
theorem ggX0_value_X0_valueOf : GoodIn wsX0_value wsX0_valueOf := goodIn_r _ [29, 30, 31, 32, 4, 33, 34, 35, 36, 37, 38, 39, 40, 41, 42, 43, 44, 45] (by decide +kernel) (by decide +kernel)
set_option maxRecDepth 20000 in
theorem gX0_value_X0_valueOf : GoodIn wsX0_value (wsV RX0 122 RX0 yX0_valueOf wsX0_valueOf) := goodIn_app (goodIn_of _ (by decide +kernel)) ggX0_value_X0_valueOf
theorem dX0_value_0 : decode cX0_value 0 = .ok (.aload_n 0, 1) := by decide +kernel
theorem dX0_value_1 : decode cX0_value 1 = .ok (.iload_n 1, 1) := by decide +kernel
theorem dX0_value_2 : decode cX0_value 2 = .ok (.invokevirtual 119, 3) := by decide +kernel
theorem dX0_value_5 : decode cX0_value 5 = .ok (.invokestatic 65, 3) := by decide +kernel
theorem dX0_value_8 : decode cX0_value 8 = .ok (.aload_n 0, 1) := by decide +kernel
theorem dX0_value_9 : decode cX0_value 9 = .ok (.iload_n 2, 1) := by decide +kernel
theorem dX0_value_10 : decode cX0_value 10 = .ok (.invokevirtual 125, 3) := by decide +kernel
theorem dX0_value_13 : decode cX0_value 13 = .ok (.invokestatic 57, 3) := by decide +kernel
theorem dX0_value_16 : decode cX0_value 16 = .ok (.aload_n 0, 1) := by decide +kernel
theorem dX0_value_17 : decode cX0_value 17 = .ok (.iload_n 1, 1) := by decide +kernel
theorem dX0_value_18 : decode cX0_value 18 = .ok (.iload_n 2, 1) := by decide +kernel
theorem dX0_value_19 : decode cX0_value 19 = .ok (.invokevirtual 122, 3) := by decide +kernel
theorem dX0_value_22 : decode cX0_value 22 = .ok (.ireturn, 1) := by decide +kernel
set_option maxRecDepth 20000 in
theorem ggX0_isLawful_X0_isFunction : GoodIn wsX0_isLawful wsX0_isFunction := goodIn_r _ [5, 6, 43, 44, 45, 46, 47, 48, 49, 50, 51, 52, 53, 54] (by decide +kernel) (by decide +kernel)
set_option maxRecDepth 20000 in
theorem gX0_isLawful_X0_isFunction : GoodIn wsX0_isLawful (wsV RX0 119 RX0 yX0_isFunction wsX0_isFunction) := goodIn_app (goodIn_of _ (by decide +kernel)) ggX0_isLawful_X0_isFunction
set_option maxRecDepth 20000 in
theorem ggX0_isLawful_X0_needIndex : GoodIn wsX0_isLawful wsX0_needIndex := goodIn_ca (goodIn_r _ [9, 10, 11] (by decide +kernel) (by decide +kernel)) (goodIn_sub (fun _ h => List.mem_cons_of_mem _ (List.mem_append_right _ h)) (by decide +kernel))
set_option maxRecDepth 20000 in
theorem gX0_isLawful_X0_needIndex : GoodIn wsX0_isLawful (va_wsS RX0 65 yX0_needIndex wsX0_needIndex) := goodIn_app (goodIn_of _ (by decide +kernel)) ggX0_isLawful_X0_needIndex
set_option maxRecDepth 20000 in
theorem ggX0_isLawful_X0_hasLaw : GoodIn wsX0_isLawful wsX0_hasLaw := goodIn_r _ [15, 16, 17, 18, 4, 19, 20, 21, 22, 23, 24, 25, 26, 27, 28, 29, 30, 31, 32, 33, 34, 35, 36, 37, 38, 39, 40, 41, 42, 43, 44, 45, 46, 47, 48, 49, 50, 51, 52, 53, 54] (by decide +kernel) (by decide +kernel)
set_option maxRecDepth 20000 in
theorem gX0_isLawful_X0_hasLaw : GoodIn wsX0_isLawful (wsV RX0 133 RX0 yX0_hasLaw wsX0_hasLaw) := goodIn_app (goodIn_of _ (by decide +kernel)) ggX0_isLawful_X0_hasLaw
theorem dX0_isLawful_0 : decode cX0_isLawful 0 = .ok (.aload_n 0, 1) := by decide +kernel
theorem dX0_isLawful_1 : decode cX0_isLawful 1 = .ok (.iload_n 1, 1) := by decide +kernel
theorem dX0_isLawful_2 : decode cX0_isLawful 2 = .ok (.invokevirtual 119, 3) := by decide +kernel
theorem dX0_isLawful_5 : decode cX0_isLawful 5 = .ok (.invokestatic 65, 3) := by decide +kernel
theorem dX0_isLawful_8 : decode cX0_isLawful 8 = .ok (.aload_n 0, 1) := by decide +kernel
theorem dX0_isLawful_9 : decode cX0_isLawful 9 = .ok (.iload_n 1, 1) := by decide +kernel
theorem dX0_isLawful_10 : decode cX0_isLawful 10 = .ok (.invokevirtual 133, 3) := by decide +kernel
theorem dX0_isLawful_13 : decode cX0_isLawful 13 = .ok (.ireturn, 1) := by decide +kernel
set_option maxRecDepth 20000 in
theorem ggX0_rises_X0_isFunction : GoodIn wsX0_rises wsX0_isFunction := goodIn_r _ [6, 7, 32, 33, 34, 35, 36, 37, 38, 39, 40, 41, 42, 43] (by decide +kernel) (by decide +kernel)
set_option maxRecDepth 20000 in
theorem gX0_rises_X0_isFunction : GoodIn wsX0_rises (wsV RX0 119 RX0 yX0_isFunction wsX0_isFunction) := goodIn_app (goodIn_of _ (by decide +kernel)) ggX0_rises_X0_isFunction
set_option maxRecDepth 20000 in
theorem ggX0_rises_X0_needIndex : GoodIn wsX0_rises wsX0_needIndex := goodIn_ca (goodIn_r _ [10, 11, 12] (by decide +kernel) (by decide +kernel)) (goodIn_sub (fun _ h => List.mem_cons_of_mem _ (List.mem_append_right _ h)) (by decide +kernel))
set_option maxRecDepth 20000 in
theorem gX0_rises_X0_needIndex : GoodIn wsX0_rises (va_wsS RX0 65 yX0_needIndex wsX0_needIndex) := goodIn_app (goodIn_of _ (by decide +kernel)) ggX0_rises_X0_needIndex
set_option maxRecDepth 20000 in
theorem ggX0_rises_X0_sets : GoodIn wsX0_rises wsX0_sets := goodIn_r _ [16, 1, 32, 33, 34, 35, 36, 37, 38, 39, 40, 41, 42, 43] (by decide +kernel) (by decide +kernel)
set_option maxRecDepth 20000 in
theorem gX0_rises_X0_sets : GoodIn wsX0_rises (wsV RX0 105 RX0 yX0_sets wsX0_sets) := goodIn_app (goodIn_of _ (by decide +kernel)) ggX0_rises_X0_sets
set_option maxRecDepth 20000 in
theorem ggX0_rises_X0_gain : GoodIn wsX0_rises wsX0_gain := goodIn_r _ [20, 21, 22, 5, 23, 24, 25, 26, 27, 28, 29, 30, 31, 32, 33, 34, 35, 36, 37, 38, 39, 40, 41, 42, 43] (by decide +kernel) (by decide +kernel)
set_option maxRecDepth 20000 in
theorem gX0_rises_X0_gain : GoodIn wsX0_rises (wsV RX0 136 RX0 yX0_gain wsX0_gain) := goodIn_app (goodIn_of _ (by decide +kernel)) ggX0_rises_X0_gain
theorem dX0_rises_0 : decode cX0_rises 0 = .ok (.aload_n 0, 1) := by decide +kernel
theorem dX0_rises_1 : decode cX0_rises 1 = .ok (.iload_n 1, 1) := by decide +kernel
theorem dX0_rises_2 : decode cX0_rises 2 = .ok (.invokevirtual 119, 3) := by decide +kernel
theorem dX0_rises_5 : decode cX0_rises 5 = .ok (.invokestatic 65, 3) := by decide +kernel
theorem dX0_rises_8 : decode cX0_rises 8 = .ok (.iconst 0, 1) := by decide +kernel
theorem dX0_rises_9 : decode cX0_rises 9 = .ok (.istore_n 2, 1) := by decide +kernel
theorem dX0_rises_10 : decode cX0_rises 10 = .ok (.iload_n 2, 1) := by decide +kernel
theorem dX0_rises_11 : decode cX0_rises 11 = .ok (.aload_n 0, 1) := by decide +kernel
theorem dX0_rises_12 : decode cX0_rises 12 = .ok (.invokevirtual 105, 3) := by decide +kernel
theorem dX0_rises_15 : decode cX0_rises 15 = .ok (.if_icmp .ge 37, 3) := by decide +kernel
theorem dX0_rises_18 : decode cX0_rises 18 = .ok (.iconst 0, 1) := by decide +kernel
theorem dX0_rises_19 : decode cX0_rises 19 = .ok (.istore_n 3, 1) := by decide +kernel
theorem dX0_rises_20 : decode cX0_rises 20 = .ok (.iload_n 3, 1) := by decide +kernel
theorem dX0_rises_21 : decode cX0_rises 21 = .ok (.aload_n 0, 1) := by decide +kernel
theorem dX0_rises_22 : decode cX0_rises 22 = .ok (.getfield 9, 3) := by decide +kernel
theorem dX0_rises_25 : decode cX0_rises 25 = .ok (.if_icmp .ge 21, 3) := by decide +kernel
theorem dX0_rises_28 : decode cX0_rises 28 = .ok (.aload_n 0, 1) := by decide +kernel
theorem dX0_rises_29 : decode cX0_rises 29 = .ok (.iload_n 1, 1) := by decide +kernel
theorem dX0_rises_30 : decode cX0_rises 30 = .ok (.iload_n 2, 1) := by decide +kernel
theorem dX0_rises_31 : decode cX0_rises 31 = .ok (.iload_n 3, 1) := by decide +kernel
theorem dX0_rises_32 : decode cX0_rises 32 = .ok (.invokevirtual 136, 3) := by decide +kernel
theorem dX0_rises_35 : decode cX0_rises 35 = .ok (.ifCond .ge 5, 3) := by decide +kernel
theorem dX0_rises_38 : decode cX0_rises 38 = .ok (.iconst 0, 1) := by decide +kernel
theorem dX0_rises_39 : decode cX0_rises 39 = .ok (.ireturn, 1) := by decide +kernel
theorem dX0_rises_40 : decode cX0_rises 40 = .ok (.iinc 3 1, 3) := by decide +kernel
theorem dX0_rises_43 : decode cX0_rises 43 = .ok (.goto (-23), 3) := by decide +kernel
theorem dX0_rises_46 : decode cX0_rises 46 = .ok (.iinc 2 1, 3) := by decide +kernel
theorem dX0_rises_49 : decode cX0_rises 49 = .ok (.goto (-39), 3) := by decide +kernel
theorem dX0_rises_52 : decode cX0_rises 52 = .ok (.iconst 1, 1) := by decide +kernel
theorem dX0_rises_53 : decode cX0_rises 53 = .ok (.ireturn, 1) := by decide +kernel
set_option maxRecDepth 20000 in
theorem ggX0_least_X0_isFunction : GoodIn wsX0_least wsX0_isFunction := goodIn_r _ [5, 6, 67, 68, 69, 70, 71, 72, 73, 74, 75, 76, 77, 78] (by decide +kernel) (by decide +kernel)
set_option maxRecDepth 20000 in
theorem gX0_least_X0_isFunction : GoodIn wsX0_least (wsV RX0 119 RX0 yX0_isFunction wsX0_isFunction) := goodIn_app (goodIn_of _ (by decide +kernel)) ggX0_least_X0_isFunction
set_option maxRecDepth 20000 in
theorem ggX0_least_X0_needIndex : GoodIn wsX0_least wsX0_needIndex := goodIn_ca (goodIn_r _ [9, 10, 11] (by decide +kernel) (by decide +kernel)) (goodIn_sub (fun _ h => List.mem_cons_of_mem _ (List.mem_append_left _ (List.mem_append_right _ h))) (by decide +kernel))
set_option maxRecDepth 20000 in
theorem gX0_least_X0_needIndex : GoodIn wsX0_least (va_wsS RX0 65 yX0_needIndex wsX0_needIndex) := goodIn_app (goodIn_of _ (by decide +kernel)) ggX0_least_X0_needIndex
set_option maxRecDepth 20000 in
theorem ggX0_least_X0_hasLaw : GoodIn wsX0_least wsX0_hasLaw := goodIn_r _ [15, 16, 17, 18, 4, 19, 20, 21, 22, 23, 24, 25, 26, 27, 28, 29, 30, 31, 32, 33, 34, 35, 36, 37, 38, 39, 40, 41, 42, 67, 68, 69, 70, 71, 72, 73, 74, 75, 76, 77, 78] (by decide +kernel) (by decide +kernel)
set_option maxRecDepth 20000 in
theorem gX0_least_X0_hasLaw : GoodIn wsX0_least (wsV RX0 133 RX0 yX0_hasLaw wsX0_hasLaw) := goodIn_app (goodIn_of _ (by decide +kernel)) ggX0_least_X0_hasLaw
set_option maxRecDepth 20000 in
theorem ggX0_least_X0_needState : GoodIn wsX0_least wsX0_needState := goodIn_ca (goodIn_r _ [45, 46, 47] (by decide +kernel) (by decide +kernel)) (goodIn_sub (fun _ h => List.mem_cons_of_mem _ (List.mem_append_right _ h)) (by decide +kernel))
set_option maxRecDepth 20000 in
theorem gX0_least_X0_needState : GoodIn wsX0_least (va_wsS RX0 140 yX0_needState wsX0_needState) := goodIn_app (goodIn_of _ (by decide +kernel)) ggX0_least_X0_needState
set_option maxRecDepth 20000 in
theorem ggX0_least_X0_sets : GoodIn wsX0_least wsX0_sets := goodIn_r _ [19, 20, 67, 68, 69, 70, 71, 72, 73, 74, 75, 76, 77, 78] (by decide +kernel) (by decide +kernel)
set_option maxRecDepth 20000 in
theorem gX0_least_X0_sets : GoodIn wsX0_least (wsV RX0 105 RX0 yX0_sets wsX0_sets) := goodIn_app (goodIn_of _ (by decide +kernel)) ggX0_least_X0_sets
set_option maxRecDepth 20000 in
theorem ggX0_least_X0_leastBetween : GoodIn wsX0_least wsX0_leastBetween := goodIn_r _ [51, 20, 52, 53, 54, 4, 55, 25, 26, 27, 28, 29, 30, 31, 32, 33, 34, 35, 36, 37, 38, 39, 40, 41, 42, 56, 57, 58, 59, 60, 61, 62, 63, 64, 65, 66, 48, 49, 50, 67, 68, 69, 70, 71, 72, 73, 74, 75, 76, 77, 78] (by decide +kernel) (by decide +kernel)
set_option maxRecDepth 20000 in
theorem gX0_least_X0_leastBetween : GoodIn wsX0_least (wsV RX0 143 RX0 yX0_leastBetween wsX0_leastBetween) := goodIn_app (goodIn_of _ (by decide +kernel)) ggX0_least_X0_leastBetween
set_option maxRecDepth 20000 in
theorem ggX0_least_X0_valueOf : GoodIn wsX0_least wsX0_valueOf := goodIn_r _ [38, 39, 40, 41, 4, 42, 67, 68, 69, 70, 71, 72, 73, 74, 75, 76, 77, 78] (by decide +kernel) (by decide +kernel)
set_option maxRecDepth 20000 in
theorem gX0_least_X0_valueOf : GoodIn wsX0_least (wsV RX0 122 RX0 yX0_valueOf wsX0_valueOf) := goodIn_app (goodIn_of _ (by decide +kernel)) ggX0_least_X0_valueOf
theorem dX0_least_0 : decode cX0_least 0 = .ok (.aload_n 0, 1) := by decide +kernel
theorem dX0_least_1 : decode cX0_least 1 = .ok (.iload_n 1, 1) := by decide +kernel
theorem dX0_least_2 : decode cX0_least 2 = .ok (.invokevirtual 119, 3) := by decide +kernel
theorem dX0_least_5 : decode cX0_least 5 = .ok (.invokestatic 65, 3) := by decide +kernel
theorem dX0_least_8 : decode cX0_least 8 = .ok (.aload_n 0, 1) := by decide +kernel
theorem dX0_least_9 : decode cX0_least 9 = .ok (.iload_n 1, 1) := by decide +kernel
theorem dX0_least_10 : decode cX0_least 10 = .ok (.invokevirtual 133, 3) := by decide +kernel
theorem dX0_least_13 : decode cX0_least 13 = .ok (.invokestatic 140, 3) := by decide +kernel
theorem dX0_least_16 : decode cX0_least 16 = .ok (.aload_n 0, 1) := by decide +kernel
theorem dX0_least_17 : decode cX0_least 17 = .ok (.iload_n 1, 1) := by decide +kernel
theorem dX0_least_18 : decode cX0_least 18 = .ok (.aload_n 0, 1) := by decide +kernel
theorem dX0_least_19 : decode cX0_least 19 = .ok (.iload_n 1, 1) := by decide +kernel
theorem dX0_least_20 : decode cX0_least 20 = .ok (.iconst 0, 1) := by decide +kernel
theorem dX0_least_21 : decode cX0_least 21 = .ok (.aload_n 0, 1) := by decide +kernel
theorem dX0_least_22 : decode cX0_least 22 = .ok (.invokevirtual 105, 3) := by decide +kernel
theorem dX0_least_25 : decode cX0_least 25 = .ok (.iconst 1, 1) := by decide +kernel
theorem dX0_least_26 : decode cX0_least 26 = .ok (.isub, 1) := by decide +kernel
theorem dX0_least_27 : decode cX0_least 27 = .ok (.iconst 0, 1) := by decide +kernel
theorem dX0_least_28 : decode cX0_least 28 = .ok (.iconst 0, 1) := by decide +kernel
theorem dX0_least_29 : decode cX0_least 29 = .ok (.invokevirtual 143, 3) := by decide +kernel
theorem dX0_least_32 : decode cX0_least 32 = .ok (.invokevirtual 122, 3) := by decide +kernel
theorem dX0_least_35 : decode cX0_least 35 = .ok (.ireturn, 1) := by decide +kernel
set_option maxRecDepth 20000 in
theorem ggX0_leastSet_X0_isFunction : GoodIn wsX0_leastSet wsX0_isFunction := goodIn_r _ [5, 6, 67, 68, 69, 70, 71, 72, 73, 74, 75, 76, 77, 78] (by decide +kernel) (by decide +kernel)
set_option maxRecDepth 20000 in
theorem gX0_leastSet_X0_isFunction : GoodIn wsX0_leastSet (wsV RX0 119 RX0 yX0_isFunction wsX0_isFunction) := goodIn_app (goodIn_of _ (by decide +kernel)) ggX0_leastSet_X0_isFunction
set_option maxRecDepth 20000 in
theorem ggX0_leastSet_X0_needIndex : GoodIn wsX0_leastSet wsX0_needIndex := goodIn_ca (goodIn_r _ [9, 10, 11] (by decide +kernel) (by decide +kernel)) (goodIn_sub (fun _ h => List.mem_cons_of_mem _ (List.mem_append_left _ (List.mem_append_right _ h))) (by decide +kernel))
set_option maxRecDepth 20000 in
theorem gX0_leastSet_X0_needIndex : GoodIn wsX0_leastSet (va_wsS RX0 65 yX0_needIndex wsX0_needIndex) := goodIn_app (goodIn_of _ (by decide +kernel)) ggX0_leastSet_X0_needIndex
set_option maxRecDepth 20000 in
theorem ggX0_leastSet_X0_hasLaw : GoodIn wsX0_leastSet wsX0_hasLaw := goodIn_r _ [15, 16, 17, 18, 4, 19, 20, 21, 22, 23, 24, 25, 26, 27, 28, 29, 30, 31, 32, 33, 34, 35, 36, 37, 38, 39, 40, 41, 42, 67, 68, 69, 70, 71, 72, 73, 74, 75, 76, 77, 78] (by decide +kernel) (by decide +kernel)
set_option maxRecDepth 20000 in
theorem gX0_leastSet_X0_hasLaw : GoodIn wsX0_leastSet (wsV RX0 133 RX0 yX0_hasLaw wsX0_hasLaw) := goodIn_app (goodIn_of _ (by decide +kernel)) ggX0_leastSet_X0_hasLaw
set_option maxRecDepth 20000 in
theorem ggX0_leastSet_X0_needState : GoodIn wsX0_leastSet wsX0_needState := goodIn_ca (goodIn_r _ [45, 46, 47] (by decide +kernel) (by decide +kernel)) (goodIn_sub (fun _ h => List.mem_cons_of_mem _ (List.mem_append_right _ h)) (by decide +kernel))
set_option maxRecDepth 20000 in
theorem gX0_leastSet_X0_needState : GoodIn wsX0_leastSet (va_wsS RX0 140 yX0_needState wsX0_needState) := goodIn_app (goodIn_of _ (by decide +kernel)) ggX0_leastSet_X0_needState
set_option maxRecDepth 20000 in
theorem ggX0_leastSet_X0_sets : GoodIn wsX0_leastSet wsX0_sets := goodIn_r _ [19, 20, 67, 68, 69, 70, 71, 72, 73, 74, 75, 76, 77, 78] (by decide +kernel) (by decide +kernel)
set_option maxRecDepth 20000 in
theorem gX0_leastSet_X0_sets : GoodIn wsX0_leastSet (wsV RX0 105 RX0 yX0_sets wsX0_sets) := goodIn_app (goodIn_of _ (by decide +kernel)) ggX0_leastSet_X0_sets
set_option maxRecDepth 20000 in
theorem ggX0_leastSet_X0_leastBetween : GoodIn wsX0_leastSet wsX0_leastBetween := goodIn_r _ [51, 20, 52, 53, 54, 4, 55, 25, 26, 27, 28, 29, 30, 31, 32, 33, 34, 35, 36, 37, 38, 39, 40, 41, 42, 56, 57, 58, 59, 60, 61, 62, 63, 64, 65, 66, 48, 49, 50, 67, 68, 69, 70, 71, 72, 73, 74, 75, 76, 77, 78] (by decide +kernel) (by decide +kernel)
set_option maxRecDepth 20000 in
theorem gX0_leastSet_X0_leastBetween : GoodIn wsX0_leastSet (wsV RX0 143 RX0 yX0_leastBetween wsX0_leastBetween) := goodIn_app (goodIn_of _ (by decide +kernel)) ggX0_leastSet_X0_leastBetween
theorem dX0_leastSet_0 : decode cX0_leastSet 0 = .ok (.aload_n 0, 1) := by decide +kernel
theorem dX0_leastSet_1 : decode cX0_leastSet 1 = .ok (.iload_n 1, 1) := by decide +kernel
theorem dX0_leastSet_2 : decode cX0_leastSet 2 = .ok (.invokevirtual 119, 3) := by decide +kernel
theorem dX0_leastSet_5 : decode cX0_leastSet 5 = .ok (.invokestatic 65, 3) := by decide +kernel
theorem dX0_leastSet_8 : decode cX0_leastSet 8 = .ok (.aload_n 0, 1) := by decide +kernel
theorem dX0_leastSet_9 : decode cX0_leastSet 9 = .ok (.iload_n 1, 1) := by decide +kernel
theorem dX0_leastSet_10 : decode cX0_leastSet 10 = .ok (.invokevirtual 133, 3) := by decide +kernel
theorem dX0_leastSet_13 : decode cX0_leastSet 13 = .ok (.invokestatic 140, 3) := by decide +kernel
theorem dX0_leastSet_16 : decode cX0_leastSet 16 = .ok (.aload_n 0, 1) := by decide +kernel
theorem dX0_leastSet_17 : decode cX0_leastSet 17 = .ok (.iload_n 1, 1) := by decide +kernel
theorem dX0_leastSet_18 : decode cX0_leastSet 18 = .ok (.iconst 0, 1) := by decide +kernel
theorem dX0_leastSet_19 : decode cX0_leastSet 19 = .ok (.aload_n 0, 1) := by decide +kernel
theorem dX0_leastSet_20 : decode cX0_leastSet 20 = .ok (.invokevirtual 105, 3) := by decide +kernel
theorem dX0_leastSet_23 : decode cX0_leastSet 23 = .ok (.iconst 1, 1) := by decide +kernel
theorem dX0_leastSet_24 : decode cX0_leastSet 24 = .ok (.isub, 1) := by decide +kernel
theorem dX0_leastSet_25 : decode cX0_leastSet 25 = .ok (.iload_n 2, 1) := by decide +kernel
theorem dX0_leastSet_26 : decode cX0_leastSet 26 = .ok (.iconst 0, 1) := by decide +kernel
theorem dX0_leastSet_27 : decode cX0_leastSet 27 = .ok (.invokevirtual 143, 3) := by decide +kernel
theorem dX0_leastSet_30 : decode cX0_leastSet 30 = .ok (.ireturn, 1) := by decide +kernel
set_option maxRecDepth 20000 in
theorem ggX0_leastSetAnew_X0_isFunction : GoodIn wsX0_leastSetAnew wsX0_isFunction := goodIn_r _ [9, 10, 52, 53, 54, 55, 56, 57, 58, 59, 60, 61, 62, 63] (by decide +kernel) (by decide +kernel)
set_option maxRecDepth 20000 in
theorem gX0_leastSetAnew_X0_isFunction : GoodIn wsX0_leastSetAnew (wsV RX0 119 RX0 yX0_isFunction wsX0_isFunction) := goodIn_app (goodIn_of _ (by decide +kernel)) ggX0_leastSetAnew_X0_isFunction
set_option maxRecDepth 20000 in
theorem ggX0_leastSetAnew_X0_needIndex : GoodIn wsX0_leastSetAnew wsX0_needIndex := goodIn_ca (goodIn_r _ [13, 14, 15] (by decide +kernel) (by decide +kernel)) (goodIn_sub (fun _ h => List.mem_cons_of_mem _ (List.mem_append_left _ (List.mem_append_right _ h))) (by decide +kernel))
set_option maxRecDepth 20000 in
theorem gX0_leastSetAnew_X0_needIndex : GoodIn wsX0_leastSetAnew (va_wsS RX0 65 yX0_needIndex wsX0_needIndex) := goodIn_app (goodIn_of _ (by decide +kernel)) ggX0_leastSetAnew_X0_needIndex
set_option maxRecDepth 20000 in
theorem ggX0_leastSetAnew_X0_hasLaw : GoodIn wsX0_leastSetAnew wsX0_hasLaw := goodIn_r _ [19, 20, 21, 22, 8, 23, 24, 25, 26, 27, 28, 29, 30, 31, 32, 33, 34, 35, 36, 37, 38, 39, 40, 41, 42, 43, 44, 45, 46, 52, 53, 54, 55, 56, 57, 58, 59, 60, 61, 62, 63] (by decide +kernel) (by decide +kernel)
set_option maxRecDepth 20000 in
theorem gX0_leastSetAnew_X0_hasLaw : GoodIn wsX0_leastSetAnew (wsV RX0 133 RX0 yX0_hasLaw wsX0_hasLaw) := goodIn_app (goodIn_of _ (by decide +kernel)) ggX0_leastSetAnew_X0_hasLaw
set_option maxRecDepth 20000 in
theorem ggX0_leastSetAnew_X0_needState : GoodIn wsX0_leastSetAnew wsX0_needState := goodIn_ca (goodIn_r _ [49, 50, 51] (by decide +kernel) (by decide +kernel)) (goodIn_sub (fun _ h => List.mem_cons_of_mem _ (List.mem_append_right _ h)) (by decide +kernel))
set_option maxRecDepth 20000 in
theorem gX0_leastSetAnew_X0_needState : GoodIn wsX0_leastSetAnew (va_wsS RX0 140 yX0_needState wsX0_needState) := goodIn_app (goodIn_of _ (by decide +kernel)) ggX0_leastSetAnew_X0_needState
set_option maxRecDepth 20000 in
theorem ggX0_leastSetAnew_X0_sets : GoodIn wsX0_leastSetAnew wsX0_sets := goodIn_r _ [23, 24, 52, 53, 54, 55, 56, 57, 58, 59, 60, 61, 62, 63] (by decide +kernel) (by decide +kernel)
set_option maxRecDepth 20000 in
theorem gX0_leastSetAnew_X0_sets : GoodIn wsX0_leastSetAnew (wsV RX0 105 RX0 yX0_sets wsX0_sets) := goodIn_app (goodIn_of _ (by decide +kernel)) ggX0_leastSetAnew_X0_sets
set_option maxRecDepth 20000 in
theorem ggX0_leastSetAnew_X0_valueOf : GoodIn wsX0_leastSetAnew wsX0_valueOf := goodIn_r _ [42, 43, 44, 45, 8, 46, 52, 53, 54, 55, 56, 57, 58, 59, 60, 61, 62, 63] (by decide +kernel) (by decide +kernel)
set_option maxRecDepth 20000 in
theorem gX0_leastSetAnew_X0_valueOf : GoodIn wsX0_leastSetAnew (wsV RX0 122 RX0 yX0_valueOf wsX0_valueOf) := goodIn_app (goodIn_of _ (by decide +kernel)) ggX0_leastSetAnew_X0_valueOf
theorem dX0_leastSetAnew_0 : decode cX0_leastSetAnew 0 = .ok (.aload_n 0, 1) := by decide +kernel
theorem dX0_leastSetAnew_1 : decode cX0_leastSetAnew 1 = .ok (.iload_n 1, 1) := by decide +kernel
theorem dX0_leastSetAnew_2 : decode cX0_leastSetAnew 2 = .ok (.invokevirtual 119, 3) := by decide +kernel
theorem dX0_leastSetAnew_5 : decode cX0_leastSetAnew 5 = .ok (.invokestatic 65, 3) := by decide +kernel
theorem dX0_leastSetAnew_8 : decode cX0_leastSetAnew 8 = .ok (.aload_n 0, 1) := by decide +kernel
theorem dX0_leastSetAnew_9 : decode cX0_leastSetAnew 9 = .ok (.iload_n 1, 1) := by decide +kernel
theorem dX0_leastSetAnew_10 : decode cX0_leastSetAnew 10 = .ok (.invokevirtual 133, 3) := by decide +kernel
theorem dX0_leastSetAnew_13 : decode cX0_leastSetAnew 13 = .ok (.invokestatic 140, 3) := by decide +kernel
theorem dX0_leastSetAnew_16 : decode cX0_leastSetAnew 16 = .ok (.iconst 0, 1) := by decide +kernel
theorem dX0_leastSetAnew_17 : decode cX0_leastSetAnew 17 = .ok (.istore_n 3, 1) := by decide +kernel
theorem dX0_leastSetAnew_18 : decode cX0_leastSetAnew 18 = .ok (.iconst 0, 1) := by decide +kernel
theorem dX0_leastSetAnew_19 : decode cX0_leastSetAnew 19 = .ok (.istore 4, 2) := by decide +kernel
theorem dX0_leastSetAnew_21 : decode cX0_leastSetAnew 21 = .ok (.iload 4, 2) := by decide +kernel
theorem dX0_leastSetAnew_23 : decode cX0_leastSetAnew 23 = .ok (.aload_n 0, 1) := by decide +kernel
theorem dX0_leastSetAnew_24 : decode cX0_leastSetAnew 24 = .ok (.invokevirtual 105, 3) := by decide +kernel
theorem dX0_leastSetAnew_27 : decode cX0_leastSetAnew 27 = .ok (.if_icmp .ge 21, 3) := by decide +kernel
theorem dX0_leastSetAnew_30 : decode cX0_leastSetAnew 30 = .ok (.iload_n 3, 1) := by decide +kernel
theorem dX0_leastSetAnew_31 : decode cX0_leastSetAnew 31 = .ok (.aload_n 0, 1) := by decide +kernel
theorem dX0_leastSetAnew_32 : decode cX0_leastSetAnew 32 = .ok (.iload_n 1, 1) := by decide +kernel
theorem dX0_leastSetAnew_33 : decode cX0_leastSetAnew 33 = .ok (.iload 4, 2) := by decide +kernel
theorem dX0_leastSetAnew_35 : decode cX0_leastSetAnew 35 = .ok (.invokevirtual 122, 3) := by decide +kernel
theorem dX0_leastSetAnew_38 : decode cX0_leastSetAnew 38 = .ok (.invokestatic 128, 3) := by decide +kernel
theorem dX0_leastSetAnew_41 : decode cX0_leastSetAnew 41 = .ok (.istore_n 3, 1) := by decide +kernel
theorem dX0_leastSetAnew_42 : decode cX0_leastSetAnew 42 = .ok (.iinc 4 1, 3) := by decide +kernel
theorem dX0_leastSetAnew_45 : decode cX0_leastSetAnew 45 = .ok (.goto (-24), 3) := by decide +kernel
theorem dX0_leastSetAnew_48 : decode cX0_leastSetAnew 48 = .ok (.aload_n 0, 1) := by decide +kernel
theorem dX0_leastSetAnew_49 : decode cX0_leastSetAnew 49 = .ok (.invokevirtual 105, 3) := by decide +kernel
theorem dX0_leastSetAnew_52 : decode cX0_leastSetAnew 52 = .ok (.iconst 1, 1) := by decide +kernel
theorem dX0_leastSetAnew_53 : decode cX0_leastSetAnew 53 = .ok (.isub, 1) := by decide +kernel
theorem dX0_leastSetAnew_54 : decode cX0_leastSetAnew 54 = .ok (.istore 4, 2) := by decide +kernel
theorem dX0_leastSetAnew_56 : decode cX0_leastSetAnew 56 = .ok (.iconst 0, 1) := by decide +kernel
theorem dX0_leastSetAnew_57 : decode cX0_leastSetAnew 57 = .ok (.istore 5, 2) := by decide +kernel
theorem dX0_leastSetAnew_59 : decode cX0_leastSetAnew 59 = .ok (.iconst 0, 1) := by decide +kernel
theorem dX0_leastSetAnew_60 : decode cX0_leastSetAnew 60 = .ok (.istore 6, 2) := by decide +kernel
theorem dX0_leastSetAnew_62 : decode cX0_leastSetAnew 62 = .ok (.iload 6, 2) := by decide +kernel
theorem dX0_leastSetAnew_64 : decode cX0_leastSetAnew 64 = .ok (.aload_n 0, 1) := by decide +kernel
theorem dX0_leastSetAnew_65 : decode cX0_leastSetAnew 65 = .ok (.invokevirtual 105, 3) := by decide +kernel
theorem dX0_leastSetAnew_68 : decode cX0_leastSetAnew 68 = .ok (.if_icmp .ge 34, 3) := by decide +kernel
theorem dX0_leastSetAnew_71 : decode cX0_leastSetAnew 71 = .ok (.aload_n 0, 1) := by decide +kernel
theorem dX0_leastSetAnew_72 : decode cX0_leastSetAnew 72 = .ok (.iload_n 1, 1) := by decide +kernel
theorem dX0_leastSetAnew_73 : decode cX0_leastSetAnew 73 = .ok (.iload 6, 2) := by decide +kernel
theorem dX0_leastSetAnew_75 : decode cX0_leastSetAnew 75 = .ok (.invokevirtual 122, 3) := by decide +kernel
theorem dX0_leastSetAnew_78 : decode cX0_leastSetAnew 78 = .ok (.iload_n 3, 1) := by decide +kernel
theorem dX0_leastSetAnew_79 : decode cX0_leastSetAnew 79 = .ok (.if_icmp .ne 17, 3) := by decide +kernel
theorem dX0_leastSetAnew_82 : decode cX0_leastSetAnew 82 = .ok (.iload 4, 2) := by decide +kernel
theorem dX0_leastSetAnew_84 : decode cX0_leastSetAnew 84 = .ok (.iload 6, 2) := by decide +kernel
theorem dX0_leastSetAnew_86 : decode cX0_leastSetAnew 86 = .ok (.iand, 1) := by decide +kernel
theorem dX0_leastSetAnew_87 : decode cX0_leastSetAnew 87 = .ok (.istore 4, 2) := by decide +kernel
theorem dX0_leastSetAnew_89 : decode cX0_leastSetAnew 89 = .ok (.iload 5, 2) := by decide +kernel
theorem dX0_leastSetAnew_91 : decode cX0_leastSetAnew 91 = .ok (.iload 6, 2) := by decide +kernel
theorem dX0_leastSetAnew_93 : decode cX0_leastSetAnew 93 = .ok (.ior, 1) := by decide +kernel
theorem dX0_leastSetAnew_94 : decode cX0_leastSetAnew 94 = .ok (.istore 5, 2) := by decide +kernel
theorem dX0_leastSetAnew_96 : decode cX0_leastSetAnew 96 = .ok (.iinc 6 1, 3) := by decide +kernel
theorem dX0_leastSetAnew_99 : decode cX0_leastSetAnew 99 = .ok (.goto (-37), 3) := by decide +kernel
theorem dX0_leastSetAnew_102 : decode cX0_leastSetAnew 102 = .ok (.iload_n 2, 1) := by decide +kernel
theorem dX0_leastSetAnew_103 : decode cX0_leastSetAnew 103 = .ok (.ifCond .eq 8, 3) := by decide +kernel
theorem dX0_leastSetAnew_106 : decode cX0_leastSetAnew 106 = .ok (.iload 5, 2) := by decide +kernel
theorem dX0_leastSetAnew_108 : decode cX0_leastSetAnew 108 = .ok (.goto 5, 3) := by decide +kernel
theorem dX0_leastSetAnew_111 : decode cX0_leastSetAnew 111 = .ok (.iload 4, 2) := by decide +kernel
theorem dX0_leastSetAnew_113 : decode cX0_leastSetAnew 113 = .ok (.ireturn, 1) := by decide +kernel
set_option maxRecDepth 20000 in
theorem ggX0_order_X0_isElement : GoodIn wsX0_order wsX0_isElement := goodIn_r _ [8, 2, 29, 30, 31, 32, 33, 34, 35, 36, 37, 38, 39, 40] (by decide +kernel) (by decide +kernel)
set_option maxRecDepth 20000 in
theorem gX0_order_X0_isElement : GoodIn wsX0_order (wsV RX0 61 RX0 yX0_isElement wsX0_isElement) := goodIn_app (goodIn_of _ (by decide +kernel)) ggX0_order_X0_isElement
set_option maxRecDepth 20000 in
theorem ggX0_order_X0_needIndex : GoodIn wsX0_order wsX0_needIndex := goodIn_ca (goodIn_r _ [11, 12, 13] (by decide +kernel) (by decide +kernel)) (goodIn_sub (fun _ h => List.mem_cons_of_mem _ (List.mem_append_left _ (List.mem_append_right _ h))) (by decide +kernel))
set_option maxRecDepth 20000 in
theorem gX0_order_X0_needIndex : GoodIn wsX0_order (va_wsS RX0 65 yX0_needIndex wsX0_needIndex) := goodIn_app (goodIn_of _ (by decide +kernel)) ggX0_order_X0_needIndex
set_option maxRecDepth 20000 in
theorem ggX0_order_X0_isTold : GoodIn wsX0_order wsX0_isTold := goodIn_r _ [17, 1, 3, 18, 19, 7, 20, 29, 30, 31, 32, 33, 34, 35, 36, 37, 38, 39, 40] (by decide +kernel) (by decide +kernel)
set_option maxRecDepth 20000 in
theorem gX0_order_X0_isTold : GoodIn wsX0_order (wsV RX0 147 RX0 yX0_isTold wsX0_isTold) := goodIn_app (goodIn_of _ (by decide +kernel)) ggX0_order_X0_isTold
set_option maxRecDepth 20000 in
theorem ggX0_order_X0_needState : GoodIn wsX0_order wsX0_needState := goodIn_ca (goodIn_r _ [23, 24, 25] (by decide +kernel) (by decide +kernel)) (goodIn_sub (fun _ h => List.mem_cons_of_mem _ (List.mem_append_right _ h)) (by decide +kernel))
set_option maxRecDepth 20000 in
theorem gX0_order_X0_needState : GoodIn wsX0_order (va_wsS RX0 140 yX0_needState wsX0_needState) := goodIn_app (goodIn_of _ (by decide +kernel)) ggX0_order_X0_needState
set_option maxRecDepth 20000 in
theorem ggX0_order_X0_put : GoodIn wsX0_order wsX0_put := goodIn_r _ [28] (by decide +kernel) (by decide +kernel)
set_option maxRecDepth 20000 in
theorem gX0_order_X0_put : GoodIn wsX0_order (va_wsS RX0 79 yX0_put wsX0_put) := goodIn_app (goodIn_of _ (by decide +kernel)) ggX0_order_X0_put
theorem dX0_order_0 : decode cX0_order 0 = .ok (.aload_n 0, 1) := by decide +kernel
theorem dX0_order_1 : decode cX0_order 1 = .ok (.iload_n 1, 1) := by decide +kernel
theorem dX0_order_2 : decode cX0_order 2 = .ok (.invokevirtual 61, 3) := by decide +kernel
theorem dX0_order_5 : decode cX0_order 5 = .ok (.invokestatic 65, 3) := by decide +kernel
theorem dX0_order_8 : decode cX0_order 8 = .ok (.aload_n 0, 1) := by decide +kernel
theorem dX0_order_9 : decode cX0_order 9 = .ok (.getfield 16, 3) := by decide +kernel
theorem dX0_order_12 : decode cX0_order 12 = .ok (.aload_n 0, 1) := by decide +kernel
theorem dX0_order_13 : decode cX0_order 13 = .ok (.getfield 9, 3) := by decide +kernel
theorem dX0_order_16 : decode cX0_order 16 = .ok (.if_icmp .lt 7, 3) := by decide +kernel
theorem dX0_order_19 : decode cX0_order 19 = .ok (.iconst 1, 1) := by decide +kernel
theorem dX0_order_20 : decode cX0_order 20 = .ok (.goto 4, 3) := by decide +kernel
theorem dX0_order_23 : decode cX0_order 23 = .ok (.iconst 0, 1) := by decide +kernel
theorem dX0_order_24 : decode cX0_order 24 = .ok (.istore_n 2, 1) := by decide +kernel
theorem dX0_order_25 : decode cX0_order 25 = .ok (.iload_n 2, 1) := by decide +kernel
theorem dX0_order_26 : decode cX0_order 26 = .ok (.ifCond .ne 11, 3) := by decide +kernel
theorem dX0_order_29 : decode cX0_order 29 = .ok (.aload_n 0, 1) := by decide +kernel
theorem dX0_order_30 : decode cX0_order 30 = .ok (.iload_n 1, 1) := by decide +kernel
theorem dX0_order_31 : decode cX0_order 31 = .ok (.invokevirtual 147, 3) := by decide +kernel
theorem dX0_order_34 : decode cX0_order 34 = .ok (.ifCond .ne 7, 3) := by decide +kernel
theorem dX0_order_37 : decode cX0_order 37 = .ok (.iconst 1, 1) := by decide +kernel
theorem dX0_order_38 : decode cX0_order 38 = .ok (.goto 4, 3) := by decide +kernel
theorem dX0_order_41 : decode cX0_order 41 = .ok (.iconst 0, 1) := by decide +kernel
theorem dX0_order_42 : decode cX0_order 42 = .ok (.invokestatic 140, 3) := by decide +kernel
theorem dX0_order_45 : decode cX0_order 45 = .ok (.iload_n 2, 1) := by decide +kernel
theorem dX0_order_46 : decode cX0_order 46 = .ok (.ifCond .eq 8, 3) := by decide +kernel
theorem dX0_order_49 : decode cX0_order 49 = .ok (.aload_n 0, 1) := by decide +kernel
theorem dX0_order_50 : decode cX0_order 50 = .ok (.iconst 0, 1) := by decide +kernel
theorem dX0_order_51 : decode cX0_order 51 = .ok (.putfield 16, 3) := by decide +kernel
theorem dX0_order_54 : decode cX0_order 54 = .ok (.aload_n 0, 1) := by decide +kernel
theorem dX0_order_55 : decode cX0_order 55 = .ok (.getfield 38, 3) := by decide +kernel
theorem dX0_order_58 : decode cX0_order 58 = .ok (.aload_n 0, 1) := by decide +kernel
theorem dX0_order_59 : decode cX0_order 59 = .ok (.getfield 16, 3) := by decide +kernel
theorem dX0_order_62 : decode cX0_order 62 = .ok (.iload_n 1, 1) := by decide +kernel
theorem dX0_order_63 : decode cX0_order 63 = .ok (.invokestatic 79, 3) := by decide +kernel
theorem dX0_order_66 : decode cX0_order 66 = .ok (.aload_n 0, 1) := by decide +kernel
theorem dX0_order_67 : decode cX0_order 67 = .ok (.dup, 1) := by decide +kernel
theorem dX0_order_68 : decode cX0_order 68 = .ok (.getfield 16, 3) := by decide +kernel
theorem dX0_order_71 : decode cX0_order 71 = .ok (.iconst 1, 1) := by decide +kernel
theorem dX0_order_72 : decode cX0_order 72 = .ok (.iadd, 1) := by decide +kernel
theorem dX0_order_73 : decode cX0_order 73 = .ok (.putfield 16, 3) := by decide +kernel
theorem dX0_order_76 : decode cX0_order 76 = .ok (.aload_n 0, 1) := by decide +kernel
theorem dX0_order_77 : decode cX0_order 77 = .ok (.getfield 16, 3) := by decide +kernel
theorem dX0_order_80 : decode cX0_order 80 = .ok (.ireturn, 1) := by decide +kernel
set_option maxRecDepth 20000 in
theorem ggX0_corner_X0_isFunction : GoodIn wsX0_corner wsX0_isFunction := goodIn_r _ [5, 6, 47, 48, 49, 50, 51, 52, 53, 54, 55, 56, 57, 58] (by decide +kernel) (by decide +kernel)
set_option maxRecDepth 20000 in
theorem gX0_corner_X0_isFunction : GoodIn wsX0_corner (wsV RX0 119 RX0 yX0_isFunction wsX0_isFunction) := goodIn_app (goodIn_of _ (by decide +kernel)) ggX0_corner_X0_isFunction
set_option maxRecDepth 20000 in
theorem ggX0_corner_X0_isElement : GoodIn wsX0_corner wsX0_isElement := goodIn_r _ [10, 11, 47, 48, 49, 50, 51, 52, 53, 54, 55, 56, 57, 58] (by decide +kernel) (by decide +kernel)
set_option maxRecDepth 20000 in
theorem gX0_corner_X0_isElement : GoodIn wsX0_corner (wsV RX0 61 RX0 yX0_isElement wsX0_isElement) := goodIn_app (goodIn_of _ (by decide +kernel)) ggX0_corner_X0_isElement
set_option maxRecDepth 20000 in
theorem ggX0_corner_X0_needIndex : GoodIn wsX0_corner wsX0_needIndex := goodIn_ca (goodIn_r _ [14, 15, 16] (by decide +kernel) (by decide +kernel)) (goodIn_sub (fun _ h => List.mem_cons_of_mem _ (List.mem_append_left _ (List.mem_append_right _ h))) (by decide +kernel))
set_option maxRecDepth 20000 in
theorem gX0_corner_X0_needIndex : GoodIn wsX0_corner (va_wsS RX0 65 yX0_needIndex wsX0_needIndex) := goodIn_app (goodIn_of _ (by decide +kernel)) ggX0_corner_X0_needIndex
set_option maxRecDepth 20000 in
theorem ggX0_corner_X0_isTold : GoodIn wsX0_corner wsX0_isTold := goodIn_r _ [20, 21, 22, 23, 24, 4, 25, 47, 48, 49, 50, 51, 52, 53, 54, 55, 56, 57, 58] (by decide +kernel) (by decide +kernel)
set_option maxRecDepth 20000 in
theorem gX0_corner_X0_isTold : GoodIn wsX0_corner (wsV RX0 147 RX0 yX0_isTold wsX0_isTold) := goodIn_app (goodIn_of _ (by decide +kernel)) ggX0_corner_X0_isTold
set_option maxRecDepth 20000 in
theorem ggX0_corner_X0_needState : GoodIn wsX0_corner wsX0_needState := goodIn_ca (goodIn_r _ [28, 29, 30] (by decide +kernel) (by decide +kernel)) (goodIn_sub (fun _ h => List.mem_cons_of_mem _ (List.mem_append_right _ h)) (by decide +kernel))
set_option maxRecDepth 20000 in
theorem gX0_corner_X0_needState : GoodIn wsX0_corner (va_wsS RX0 140 yX0_needState wsX0_needState) := goodIn_app (goodIn_of _ (by decide +kernel)) ggX0_corner_X0_needState
set_option maxRecDepth 20000 in
theorem ggX0_corner_X0_aheadOf : GoodIn wsX0_corner wsX0_aheadOf := goodIn_r _ [34, 21, 22, 23, 24, 4, 25, 35, 36, 37, 47, 48, 49, 50, 51, 52, 53, 54, 55, 56, 57, 58] (by decide +kernel) (by decide +kernel)
set_option maxRecDepth 20000 in
theorem gX0_corner_X0_aheadOf : GoodIn wsX0_corner (wsV RX0 150 RX0 yX0_aheadOf wsX0_aheadOf) := goodIn_app (goodIn_of _ (by decide +kernel)) ggX0_corner_X0_aheadOf
set_option maxRecDepth 20000 in
theorem ggX0_corner_X0_gain : GoodIn wsX0_corner wsX0_gain := goodIn_r _ [41, 35, 36, 4, 37, 42, 43, 44, 45, 46, 23, 24, 25, 47, 48, 49, 50, 51, 52, 53, 54, 55, 56, 57, 58] (by decide +kernel) (by decide +kernel)
set_option maxRecDepth 20000 in
theorem gX0_corner_X0_gain : GoodIn wsX0_corner (wsV RX0 136 RX0 yX0_gain wsX0_gain) := goodIn_app (goodIn_of _ (by decide +kernel)) ggX0_corner_X0_gain
theorem dX0_corner_0 : decode cX0_corner 0 = .ok (.aload_n 0, 1) := by decide +kernel
theorem dX0_corner_1 : decode cX0_corner 1 = .ok (.iload_n 1, 1) := by decide +kernel
theorem dX0_corner_2 : decode cX0_corner 2 = .ok (.invokevirtual 119, 3) := by decide +kernel
theorem dX0_corner_5 : decode cX0_corner 5 = .ok (.ifCond .eq 15, 3) := by decide +kernel
theorem dX0_corner_8 : decode cX0_corner 8 = .ok (.aload_n 0, 1) := by decide +kernel
theorem dX0_corner_9 : decode cX0_corner 9 = .ok (.iload_n 2, 1) := by decide +kernel
theorem dX0_corner_10 : decode cX0_corner 10 = .ok (.invokevirtual 61, 3) := by decide +kernel
theorem dX0_corner_13 : decode cX0_corner 13 = .ok (.ifCond .eq 7, 3) := by decide +kernel
theorem dX0_corner_16 : decode cX0_corner 16 = .ok (.iconst 1, 1) := by decide +kernel
theorem dX0_corner_17 : decode cX0_corner 17 = .ok (.goto 4, 3) := by decide +kernel
theorem dX0_corner_20 : decode cX0_corner 20 = .ok (.iconst 0, 1) := by decide +kernel
theorem dX0_corner_21 : decode cX0_corner 21 = .ok (.invokestatic 65, 3) := by decide +kernel
theorem dX0_corner_24 : decode cX0_corner 24 = .ok (.aload_n 0, 1) := by decide +kernel
theorem dX0_corner_25 : decode cX0_corner 25 = .ok (.iload_n 2, 1) := by decide +kernel
theorem dX0_corner_26 : decode cX0_corner 26 = .ok (.invokevirtual 147, 3) := by decide +kernel
theorem dX0_corner_29 : decode cX0_corner 29 = .ok (.invokestatic 140, 3) := by decide +kernel
theorem dX0_corner_32 : decode cX0_corner 32 = .ok (.aload_n 0, 1) := by decide +kernel
theorem dX0_corner_33 : decode cX0_corner 33 = .ok (.iload_n 1, 1) := by decide +kernel
theorem dX0_corner_34 : decode cX0_corner 34 = .ok (.aload_n 0, 1) := by decide +kernel
theorem dX0_corner_35 : decode cX0_corner 35 = .ok (.iload_n 2, 1) := by decide +kernel
theorem dX0_corner_36 : decode cX0_corner 36 = .ok (.invokevirtual 150, 3) := by decide +kernel
theorem dX0_corner_39 : decode cX0_corner 39 = .ok (.iload_n 2, 1) := by decide +kernel
theorem dX0_corner_40 : decode cX0_corner 40 = .ok (.invokevirtual 136, 3) := by decide +kernel
theorem dX0_corner_43 : decode cX0_corner 43 = .ok (.ireturn, 1) := by decide +kernel
set_option maxRecDepth 20000 in
theorem ggX0_greedy_X0_isFunction : GoodIn wsX0_greedy wsX0_isFunction := goodIn_r _ [5, 6, 40, 41, 42, 43, 44, 45, 46, 47, 48, 49, 50, 51] (by decide +kernel) (by decide +kernel)
set_option maxRecDepth 20000 in
theorem gX0_greedy_X0_isFunction : GoodIn wsX0_greedy (wsV RX0 119 RX0 yX0_isFunction wsX0_isFunction) := goodIn_app (goodIn_of _ (by decide +kernel)) ggX0_greedy_X0_isFunction
set_option maxRecDepth 20000 in
theorem ggX0_greedy_X0_needIndex : GoodIn wsX0_greedy wsX0_needIndex := goodIn_ca (goodIn_r _ [9, 10, 11] (by decide +kernel) (by decide +kernel)) (goodIn_sub (fun _ h => List.mem_cons_of_mem _ (List.mem_append_left _ (List.mem_append_right _ h))) (by decide +kernel))
set_option maxRecDepth 20000 in
theorem gX0_greedy_X0_needIndex : GoodIn wsX0_greedy (va_wsS RX0 65 yX0_needIndex wsX0_needIndex) := goodIn_app (goodIn_of _ (by decide +kernel)) ggX0_greedy_X0_needIndex
set_option maxRecDepth 20000 in
theorem ggX0_greedy_X0_isWithin : GoodIn wsX0_greedy wsX0_isWithin := goodIn_r _ [14] (by decide +kernel) (by decide +kernel)
set_option maxRecDepth 20000 in
theorem gX0_greedy_X0_isWithin : GoodIn wsX0_greedy (va_wsS RX0 53 yX0_isWithin wsX0_isWithin) := goodIn_app (goodIn_of _ (by decide +kernel)) ggX0_greedy_X0_isWithin
set_option maxRecDepth 20000 in
theorem ggX0_greedy_X0_needArgument : GoodIn wsX0_greedy wsX0_needArgument := goodIn_ca (goodIn_r _ [17, 18, 19] (by decide +kernel) (by decide +kernel)) (goodIn_sub (fun _ h => List.mem_cons_of_mem _ (List.mem_append_right _ h)) (by decide +kernel))
set_option maxRecDepth 20000 in
theorem gX0_greedy_X0_needArgument : GoodIn wsX0_greedy (va_wsS RX0 57 yX0_needArgument wsX0_needArgument) := goodIn_app (goodIn_of _ (by decide +kernel)) ggX0_greedy_X0_needArgument
set_option maxRecDepth 20000 in
theorem ggX0_greedy_X0_greediest : GoodIn wsX0_greedy wsX0_greediest := goodIn_r _ [23, 24, 25, 26, 27, 4, 28, 29, 30, 31, 32, 33, 34, 35, 36, 37, 38, 39, 40, 41, 42, 43, 44, 45, 46, 47, 48, 49, 50, 51] (by decide +kernel) (by decide +kernel)
set_option maxRecDepth 20000 in
theorem gX0_greedy_X0_greediest : GoodIn wsX0_greedy (wsV RX0 154 RX0 yX0_greediest wsX0_greediest) := goodIn_app (goodIn_of _ (by decide +kernel)) ggX0_greedy_X0_greediest
set_option maxRecDepth 20000 in
theorem ggX0_greedy_X0_with : GoodIn wsX0_greedy wsX0_with := goodIn_r _ [31] (by decide +kernel) (by decide +kernel)
set_option maxRecDepth 20000 in
theorem gX0_greedy_X0_with : GoodIn wsX0_greedy (va_wsS RX0 72 yX0_with wsX0_with) := goodIn_app (goodIn_of _ (by decide +kernel)) ggX0_greedy_X0_with
theorem dX0_greedy_0 : decode cX0_greedy 0 = .ok (.aload_n 0, 1) := by decide +kernel
theorem dX0_greedy_1 : decode cX0_greedy 1 = .ok (.iload_n 1, 1) := by decide +kernel
theorem dX0_greedy_2 : decode cX0_greedy 2 = .ok (.invokevirtual 119, 3) := by decide +kernel
theorem dX0_greedy_5 : decode cX0_greedy 5 = .ok (.invokestatic 65, 3) := by decide +kernel
theorem dX0_greedy_8 : decode cX0_greedy 8 = .ok (.iload_n 2, 1) := by decide +kernel
theorem dX0_greedy_9 : decode cX0_greedy 9 = .ok (.iconst 0, 1) := by decide +kernel
theorem dX0_greedy_10 : decode cX0_greedy 10 = .ok (.bipush 6, 2) := by decide +kernel
theorem dX0_greedy_12 : decode cX0_greedy 12 = .ok (.invokestatic 53, 3) := by decide +kernel
theorem dX0_greedy_15 : decode cX0_greedy 15 = .ok (.invokestatic 57, 3) := by decide +kernel
theorem dX0_greedy_18 : decode cX0_greedy 18 = .ok (.iconst 0, 1) := by decide +kernel
theorem dX0_greedy_19 : decode cX0_greedy 19 = .ok (.istore_n 3, 1) := by decide +kernel
theorem dX0_greedy_20 : decode cX0_greedy 20 = .ok (.iconst 0, 1) := by decide +kernel
theorem dX0_greedy_21 : decode cX0_greedy 21 = .ok (.istore 4, 2) := by decide +kernel
theorem dX0_greedy_23 : decode cX0_greedy 23 = .ok (.iload 4, 2) := by decide +kernel
theorem dX0_greedy_25 : decode cX0_greedy 25 = .ok (.iload_n 2, 1) := by decide +kernel
theorem dX0_greedy_26 : decode cX0_greedy 26 = .ok (.if_icmp .ge 32, 3) := by decide +kernel
theorem dX0_greedy_29 : decode cX0_greedy 29 = .ok (.aload_n 0, 1) := by decide +kernel
theorem dX0_greedy_30 : decode cX0_greedy 30 = .ok (.iload_n 1, 1) := by decide +kernel
theorem dX0_greedy_31 : decode cX0_greedy 31 = .ok (.iload_n 3, 1) := by decide +kernel
theorem dX0_greedy_32 : decode cX0_greedy 32 = .ok (.invokevirtual 154, 3) := by decide +kernel
theorem dX0_greedy_35 : decode cX0_greedy 35 = .ok (.istore 5, 2) := by decide +kernel
theorem dX0_greedy_37 : decode cX0_greedy 37 = .ok (.iload 5, 2) := by decide +kernel
theorem dX0_greedy_39 : decode cX0_greedy 39 = .ok (.iconst (-1), 1) := by decide +kernel
theorem dX0_greedy_40 : decode cX0_greedy 40 = .ok (.if_icmp .ne 5, 3) := by decide +kernel
theorem dX0_greedy_43 : decode cX0_greedy 43 = .ok (.iload_n 3, 1) := by decide +kernel
theorem dX0_greedy_44 : decode cX0_greedy 44 = .ok (.ireturn, 1) := by decide +kernel
theorem dX0_greedy_45 : decode cX0_greedy 45 = .ok (.iload_n 3, 1) := by decide +kernel
theorem dX0_greedy_46 : decode cX0_greedy 46 = .ok (.iload 5, 2) := by decide +kernel
theorem dX0_greedy_48 : decode cX0_greedy 48 = .ok (.invokestatic 72, 3) := by decide +kernel
theorem dX0_greedy_51 : decode cX0_greedy 51 = .ok (.istore_n 3, 1) := by decide +kernel
theorem dX0_greedy_52 : decode cX0_greedy 52 = .ok (.iinc 4 1, 3) := by decide +kernel
theorem dX0_greedy_55 : decode cX0_greedy 55 = .ok (.goto (-32), 3) := by decide +kernel
theorem dX0_greedy_58 : decode cX0_greedy 58 = .ok (.iload_n 3, 1) := by decide +kernel
theorem dX0_greedy_59 : decode cX0_greedy 59 = .ok (.ireturn, 1) := by decide +kernel
set_option maxRecDepth 20000 in
theorem ggX0_best_X0_isFunction : GoodIn wsX0_best wsX0_isFunction := goodIn_r _ [9, 10, 44, 45, 46, 47, 48, 49, 50, 51, 52, 53, 54, 55] (by decide +kernel) (by decide +kernel)
set_option maxRecDepth 20000 in
theorem gX0_best_X0_isFunction : GoodIn wsX0_best (wsV RX0 119 RX0 yX0_isFunction wsX0_isFunction) := goodIn_app (goodIn_of _ (by decide +kernel)) ggX0_best_X0_isFunction
set_option maxRecDepth 20000 in
theorem ggX0_best_X0_needIndex : GoodIn wsX0_best wsX0_needIndex := goodIn_ca (goodIn_r _ [13, 14, 15] (by decide +kernel) (by decide +kernel)) (goodIn_sub (fun _ h => List.mem_cons_of_mem _ (List.mem_append_left _ (List.mem_append_right _ h))) (by decide +kernel))
set_option maxRecDepth 20000 in
theorem gX0_best_X0_needIndex : GoodIn wsX0_best (va_wsS RX0 65 yX0_needIndex wsX0_needIndex) := goodIn_app (goodIn_of _ (by decide +kernel)) ggX0_best_X0_needIndex
set_option maxRecDepth 20000 in
theorem ggX0_best_X0_isWithin : GoodIn wsX0_best wsX0_isWithin := goodIn_r _ [18] (by decide +kernel) (by decide +kernel)
set_option maxRecDepth 20000 in
theorem gX0_best_X0_isWithin : GoodIn wsX0_best (va_wsS RX0 53 yX0_isWithin wsX0_isWithin) := goodIn_app (goodIn_of _ (by decide +kernel)) ggX0_best_X0_isWithin
set_option maxRecDepth 20000 in
theorem ggX0_best_X0_needArgument : GoodIn wsX0_best wsX0_needArgument := goodIn_ca (goodIn_r _ [21, 22, 23] (by decide +kernel) (by decide +kernel)) (goodIn_sub (fun _ h => List.mem_cons_of_mem _ (List.mem_append_right _ h)) (by decide +kernel))
set_option maxRecDepth 20000 in
theorem gX0_best_X0_needArgument : GoodIn wsX0_best (va_wsS RX0 57 yX0_needArgument wsX0_needArgument) := goodIn_app (goodIn_of _ (by decide +kernel)) ggX0_best_X0_needArgument
set_option maxRecDepth 20000 in
theorem ggX0_best_X0_sets : GoodIn wsX0_best wsX0_sets := goodIn_r _ [27, 28, 44, 45, 46, 47, 48, 49, 50, 51, 52, 53, 54, 55] (by decide +kernel) (by decide +kernel)
set_option maxRecDepth 20000 in
theorem gX0_best_X0_sets : GoodIn wsX0_best (wsV RX0 105 RX0 yX0_sets wsX0_sets) := goodIn_app (goodIn_of _ (by decide +kernel)) ggX0_best_X0_sets
set_option maxRecDepth 20000 in
theorem ggX0_best_J6_bitCount_0f7a4 : GoodIn wsX0_best wsJ6_bitCount_0f7a4 := goodIn_r _ [32, 33, 34, 35] (by decide +kernel) (by decide +kernel)
set_option maxRecDepth 20000 in
theorem gX0_best_J6_bitCount_0f7a4 : GoodIn wsX0_best (va_wsS RX0 157 yJ6_bitCount_0f7a4 wsJ6_bitCount_0f7a4) := goodIn_app (goodIn_of _ (by decide +kernel)) ggX0_best_J6_bitCount_0f7a4
set_option maxRecDepth 20000 in
theorem ggX0_best_X0_valueOf : GoodIn wsX0_best wsX0_valueOf := goodIn_r _ [39, 40, 41, 42, 8, 43, 44, 45, 46, 47, 48, 49, 50, 51, 52, 53, 54, 55] (by decide +kernel) (by decide +kernel)
set_option maxRecDepth 20000 in
theorem gX0_best_X0_valueOf : GoodIn wsX0_best (wsV RX0 122 RX0 yX0_valueOf wsX0_valueOf) := goodIn_app (goodIn_of _ (by decide +kernel)) ggX0_best_X0_valueOf
theorem dX0_best_0 : decode cX0_best 0 = .ok (.aload_n 0, 1) := by decide +kernel
theorem dX0_best_1 : decode cX0_best 1 = .ok (.iload_n 1, 1) := by decide +kernel
theorem dX0_best_2 : decode cX0_best 2 = .ok (.invokevirtual 119, 3) := by decide +kernel
theorem dX0_best_5 : decode cX0_best 5 = .ok (.invokestatic 65, 3) := by decide +kernel
theorem dX0_best_8 : decode cX0_best 8 = .ok (.iload_n 2, 1) := by decide +kernel
theorem dX0_best_9 : decode cX0_best 9 = .ok (.iconst 0, 1) := by decide +kernel
theorem dX0_best_10 : decode cX0_best 10 = .ok (.bipush 6, 2) := by decide +kernel
theorem dX0_best_12 : decode cX0_best 12 = .ok (.invokestatic 53, 3) := by decide +kernel
theorem dX0_best_15 : decode cX0_best 15 = .ok (.invokestatic 57, 3) := by decide +kernel
theorem dX0_best_18 : decode cX0_best 18 = .ok (.iconst 0, 1) := by decide +kernel
theorem dX0_best_19 : decode cX0_best 19 = .ok (.istore_n 3, 1) := by decide +kernel
theorem dX0_best_20 : decode cX0_best 20 = .ok (.iconst 0, 1) := by decide +kernel
theorem dX0_best_21 : decode cX0_best 21 = .ok (.istore 4, 2) := by decide +kernel
theorem dX0_best_23 : decode cX0_best 23 = .ok (.iload 4, 2) := by decide +kernel
theorem dX0_best_25 : decode cX0_best 25 = .ok (.aload_n 0, 1) := by decide +kernel
theorem dX0_best_26 : decode cX0_best 26 = .ok (.invokevirtual 105, 3) := by decide +kernel
theorem dX0_best_29 : decode cX0_best 29 = .ok (.if_icmp .ge 30, 3) := by decide +kernel
theorem dX0_best_32 : decode cX0_best 32 = .ok (.iload 4, 2) := by decide +kernel
theorem dX0_best_34 : decode cX0_best 34 = .ok (.invokestatic 157, 3) := by decide +kernel
theorem dX0_best_37 : decode cX0_best 37 = .ok (.iload_n 2, 1) := by decide +kernel
theorem dX0_best_38 : decode cX0_best 38 = .ok (.if_icmp .gt 15, 3) := by decide +kernel
theorem dX0_best_41 : decode cX0_best 41 = .ok (.iload_n 3, 1) := by decide +kernel
theorem dX0_best_42 : decode cX0_best 42 = .ok (.aload_n 0, 1) := by decide +kernel
theorem dX0_best_43 : decode cX0_best 43 = .ok (.iload_n 1, 1) := by decide +kernel
theorem dX0_best_44 : decode cX0_best 44 = .ok (.iload 4, 2) := by decide +kernel
theorem dX0_best_46 : decode cX0_best 46 = .ok (.invokevirtual 122, 3) := by decide +kernel
theorem dX0_best_49 : decode cX0_best 49 = .ok (.invokestatic 162, 3) := by decide +kernel
theorem dX0_best_52 : decode cX0_best 52 = .ok (.istore_n 3, 1) := by decide +kernel
theorem dX0_best_53 : decode cX0_best 53 = .ok (.iinc 4 1, 3) := by decide +kernel
theorem dX0_best_56 : decode cX0_best 56 = .ok (.goto (-33), 3) := by decide +kernel
theorem dX0_best_59 : decode cX0_best 59 = .ok (.iload_n 3, 1) := by decide +kernel
theorem dX0_best_60 : decode cX0_best 60 = .ok (.ireturn, 1) := by decide +kernel
set_option maxRecDepth 20000 in
theorem ggX0_common_X0_endOfPath : GoodIn wsX0_common wsX0_endOfPath := goodIn_r _ [6, 7, 8, 9, 10, 5, 11, 12, 1, 13, 14, 15, 16, 17, 18, 19, 20, 21, 22, 23, 24, 25, 26, 27, 28, 29, 30, 31, 32, 33, 34, 35, 36, 37, 38, 39, 40, 41, 42, 43, 44, 45, 46, 47, 48, 49, 50, 51, 63, 64, 65, 66, 67, 68, 69, 70, 71, 72, 73, 74] (by decide +kernel) (by decide +kernel)
set_option maxRecDepth 20000 in
theorem gX0_common_X0_endOfPath : GoodIn wsX0_common (wsV RX0 165 RX0 yX0_endOfPath wsX0_endOfPath) := goodIn_app (goodIn_of _ (by decide +kernel)) ggX0_common_X0_endOfPath
set_option maxRecDepth 20000 in
theorem ggX0_common_J6_bitCount_0f7a4 : GoodIn wsX0_common wsJ6_bitCount_0f7a4 := goodIn_r _ [55, 56, 57, 58] (by decide +kernel) (by decide +kernel)
set_option maxRecDepth 20000 in
theorem gX0_common_J6_bitCount_0f7a4 : GoodIn wsX0_common (va_wsS RX0 157 yJ6_bitCount_0f7a4 wsJ6_bitCount_0f7a4) := goodIn_app (goodIn_of _ (by decide +kernel)) ggX0_common_J6_bitCount_0f7a4
set_option maxRecDepth 20000 in
theorem ggX0_common_X0_flippedAlong : GoodIn wsX0_common wsX0_flippedAlong := goodIn_r _ [62, 1, 12, 26, 27, 5, 28, 63, 64, 65, 66, 67, 68, 69, 70, 71, 72, 73, 74] (by decide +kernel) (by decide +kernel)
set_option maxRecDepth 20000 in
theorem gX0_common_X0_flippedAlong : GoodIn wsX0_common (wsV RX0 168 RX0 yX0_flippedAlong wsX0_flippedAlong) := goodIn_app (goodIn_of _ (by decide +kernel)) ggX0_common_X0_flippedAlong
theorem dX0_common_0 : decode cX0_common 0 = .ok (.iconst 0, 1) := by decide +kernel
theorem dX0_common_1 : decode cX0_common 1 = .ok (.istore_n 1, 1) := by decide +kernel
theorem dX0_common_2 : decode cX0_common 2 = .ok (.iconst 0, 1) := by decide +kernel
theorem dX0_common_3 : decode cX0_common 3 = .ok (.istore_n 2, 1) := by decide +kernel
theorem dX0_common_4 : decode cX0_common 4 = .ok (.iload_n 2, 1) := by decide +kernel
theorem dX0_common_5 : decode cX0_common 5 = .ok (.aload_n 0, 1) := by decide +kernel
theorem dX0_common_6 : decode cX0_common 6 = .ok (.getfield 9, 3) := by decide +kernel
theorem dX0_common_9 : decode cX0_common 9 = .ok (.if_icmp .ge 32, 3) := by decide +kernel
theorem dX0_common_12 : decode cX0_common 12 = .ok (.aload_n 0, 1) := by decide +kernel
theorem dX0_common_13 : decode cX0_common 13 = .ok (.iload_n 1, 1) := by decide +kernel
theorem dX0_common_14 : decode cX0_common 14 = .ok (.invokevirtual 165, 3) := by decide +kernel
theorem dX0_common_17 : decode cX0_common 17 = .ok (.istore_n 3, 1) := by decide +kernel
theorem dX0_common_18 : decode cX0_common 18 = .ok (.iload_n 3, 1) := by decide +kernel
theorem dX0_common_19 : decode cX0_common 19 = .ok (.iconst (-1), 1) := by decide +kernel
theorem dX0_common_20 : decode cX0_common 20 = .ok (.if_icmp .ne 8, 3) := by decide +kernel
theorem dX0_common_23 : decode cX0_common 23 = .ok (.iload_n 1, 1) := by decide +kernel
theorem dX0_common_24 : decode cX0_common 24 = .ok (.invokestatic 157, 3) := by decide +kernel
theorem dX0_common_27 : decode cX0_common 27 = .ok (.ireturn, 1) := by decide +kernel
theorem dX0_common_28 : decode cX0_common 28 = .ok (.aload_n 0, 1) := by decide +kernel
theorem dX0_common_29 : decode cX0_common 29 = .ok (.iload_n 1, 1) := by decide +kernel
theorem dX0_common_30 : decode cX0_common 30 = .ok (.iload_n 3, 1) := by decide +kernel
theorem dX0_common_31 : decode cX0_common 31 = .ok (.invokevirtual 168, 3) := by decide +kernel
theorem dX0_common_34 : decode cX0_common 34 = .ok (.istore_n 1, 1) := by decide +kernel
theorem dX0_common_35 : decode cX0_common 35 = .ok (.iinc 2 1, 3) := by decide +kernel
theorem dX0_common_38 : decode cX0_common 38 = .ok (.goto (-34), 3) := by decide +kernel
theorem dX0_common_41 : decode cX0_common 41 = .ok (.iload_n 1, 1) := by decide +kernel
theorem dX0_common_42 : decode cX0_common 42 = .ok (.invokestatic 157, 3) := by decide +kernel
theorem dX0_common_45 : decode cX0_common 45 = .ok (.ireturn, 1) := by decide +kernel
set_option maxRecDepth 20000 in
theorem ggX0_commonAnew_X0_sets : GoodIn wsX0_commonAnew wsX0_sets := goodIn_r _ [9, 10, 42, 43, 44, 45, 46, 47, 48, 49, 50, 51, 52, 53] (by decide +kernel) (by decide +kernel)
set_option maxRecDepth 20000 in
theorem gX0_commonAnew_X0_sets : GoodIn wsX0_commonAnew (wsV RX0 105 RX0 yX0_sets wsX0_sets) := goodIn_app (goodIn_of _ (by decide +kernel)) ggX0_commonAnew_X0_sets
set_option maxRecDepth 20000 in
theorem ggX0_commonAnew_X0_isFair : GoodIn wsX0_commonAnew wsX0_isFair := goodIn_r _ [14, 15, 16, 17, 8, 18, 10, 19, 20, 21, 22, 23, 24, 25, 26, 27, 28, 29, 30, 31, 32, 33, 34, 42, 43, 44, 45, 46, 47, 48, 49, 50, 51, 52, 53] (by decide +kernel) (by decide +kernel)
set_option maxRecDepth 20000 in
theorem gX0_commonAnew_X0_isFair : GoodIn wsX0_commonAnew (wsV RX0 171 RX0 yX0_isFair wsX0_isFair) := goodIn_app (goodIn_of _ (by decide +kernel)) ggX0_commonAnew_X0_isFair
set_option maxRecDepth 20000 in
theorem ggX0_commonAnew_J6_bitCount_0f7a4 : GoodIn wsX0_commonAnew wsJ6_bitCount_0f7a4 := goodIn_r _ [38, 39, 40, 41] (by decide +kernel) (by decide +kernel)
set_option maxRecDepth 20000 in
theorem gX0_commonAnew_J6_bitCount_0f7a4 : GoodIn wsX0_commonAnew (va_wsS RX0 157 yJ6_bitCount_0f7a4 wsJ6_bitCount_0f7a4) := goodIn_app (goodIn_of _ (by decide +kernel)) ggX0_commonAnew_J6_bitCount_0f7a4
theorem dX0_commonAnew_0 : decode cX0_commonAnew 0 = .ok (.iconst 0, 1) := by decide +kernel
theorem dX0_commonAnew_1 : decode cX0_commonAnew 1 = .ok (.istore_n 1, 1) := by decide +kernel
theorem dX0_commonAnew_2 : decode cX0_commonAnew 2 = .ok (.iconst 0, 1) := by decide +kernel
theorem dX0_commonAnew_3 : decode cX0_commonAnew 3 = .ok (.istore_n 2, 1) := by decide +kernel
theorem dX0_commonAnew_4 : decode cX0_commonAnew 4 = .ok (.iload_n 2, 1) := by decide +kernel
theorem dX0_commonAnew_5 : decode cX0_commonAnew 5 = .ok (.aload_n 0, 1) := by decide +kernel
theorem dX0_commonAnew_6 : decode cX0_commonAnew 6 = .ok (.invokevirtual 105, 3) := by decide +kernel
theorem dX0_commonAnew_9 : decode cX0_commonAnew 9 = .ok (.if_icmp .ge 36, 3) := by decide +kernel
theorem dX0_commonAnew_12 : decode cX0_commonAnew 12 = .ok (.aload_n 0, 1) := by decide +kernel
theorem dX0_commonAnew_13 : decode cX0_commonAnew 13 = .ok (.iconst 0, 1) := by decide +kernel
theorem dX0_commonAnew_14 : decode cX0_commonAnew 14 = .ok (.iload_n 2, 1) := by decide +kernel
theorem dX0_commonAnew_15 : decode cX0_commonAnew 15 = .ok (.invokevirtual 171, 3) := by decide +kernel
theorem dX0_commonAnew_18 : decode cX0_commonAnew 18 = .ok (.ifCond .eq 21, 3) := by decide +kernel
theorem dX0_commonAnew_21 : decode cX0_commonAnew 21 = .ok (.aload_n 0, 1) := by decide +kernel
theorem dX0_commonAnew_22 : decode cX0_commonAnew 22 = .ok (.iconst 1, 1) := by decide +kernel
theorem dX0_commonAnew_23 : decode cX0_commonAnew 23 = .ok (.iload_n 2, 1) := by decide +kernel
theorem dX0_commonAnew_24 : decode cX0_commonAnew 24 = .ok (.invokevirtual 171, 3) := by decide +kernel
theorem dX0_commonAnew_27 : decode cX0_commonAnew 27 = .ok (.ifCond .eq 12, 3) := by decide +kernel
theorem dX0_commonAnew_30 : decode cX0_commonAnew 30 = .ok (.iload_n 1, 1) := by decide +kernel
theorem dX0_commonAnew_31 : decode cX0_commonAnew 31 = .ok (.iload_n 2, 1) := by decide +kernel
theorem dX0_commonAnew_32 : decode cX0_commonAnew 32 = .ok (.invokestatic 157, 3) := by decide +kernel
theorem dX0_commonAnew_35 : decode cX0_commonAnew 35 = .ok (.invokestatic 162, 3) := by decide +kernel
theorem dX0_commonAnew_38 : decode cX0_commonAnew 38 = .ok (.istore_n 1, 1) := by decide +kernel
theorem dX0_commonAnew_39 : decode cX0_commonAnew 39 = .ok (.iinc 2 1, 3) := by decide +kernel
theorem dX0_commonAnew_42 : decode cX0_commonAnew 42 = .ok (.goto (-38), 3) := by decide +kernel
theorem dX0_commonAnew_45 : decode cX0_commonAnew 45 = .ok (.iload_n 1, 1) := by decide +kernel
theorem dX0_commonAnew_46 : decode cX0_commonAnew 46 = .ok (.ireturn, 1) := by decide +kernel
set_option maxRecDepth 20000 in
theorem ggX0_share_X0_isFunction : GoodIn wsX0_share wsX0_isFunction := goodIn_r _ [6, 7, 49, 50, 51, 52, 53, 54, 55, 56, 57, 58, 59, 60] (by decide +kernel) (by decide +kernel)
set_option maxRecDepth 20000 in
theorem gX0_share_X0_isFunction : GoodIn wsX0_share (wsV RX0 119 RX0 yX0_isFunction wsX0_isFunction) := goodIn_app (goodIn_of _ (by decide +kernel)) ggX0_share_X0_isFunction
set_option maxRecDepth 20000 in
theorem ggX0_share_X0_isElement : GoodIn wsX0_share wsX0_isElement := goodIn_r _ [11, 1, 49, 50, 51, 52, 53, 54, 55, 56, 57, 58, 59, 60] (by decide +kernel) (by decide +kernel)
set_option maxRecDepth 20000 in
theorem gX0_share_X0_isElement : GoodIn wsX0_share (wsV RX0 61 RX0 yX0_isElement wsX0_isElement) := goodIn_app (goodIn_of _ (by decide +kernel)) ggX0_share_X0_isElement
set_option maxRecDepth 20000 in
theorem ggX0_share_X0_needIndex : GoodIn wsX0_share wsX0_needIndex := goodIn_ca (goodIn_r _ [14, 15, 16] (by decide +kernel) (by decide +kernel)) (goodIn_sub (fun _ h => List.mem_cons_of_mem _ (List.mem_append_right _ h)) (by decide +kernel))
set_option maxRecDepth 20000 in
theorem gX0_share_X0_needIndex : GoodIn wsX0_share (va_wsS RX0 65 yX0_needIndex wsX0_needIndex) := goodIn_app (goodIn_of _ (by decide +kernel)) ggX0_share_X0_needIndex
set_option maxRecDepth 20000 in
theorem ggX0_share_X0_sets : GoodIn wsX0_share wsX0_sets := goodIn_r _ [20, 1, 49, 50, 51, 52, 53, 54, 55, 56, 57, 58, 59, 60] (by decide +kernel) (by decide +kernel)
set_option maxRecDepth 20000 in
theorem gX0_share_X0_sets : GoodIn wsX0_share (wsV RX0 105 RX0 yX0_sets wsX0_sets) := goodIn_app (goodIn_of _ (by decide +kernel)) ggX0_share_X0_sets
set_option maxRecDepth 20000 in
theorem ggX0_share_X0_has : GoodIn wsX0_share wsX0_has := goodIn_r _ [23] (by decide +kernel) (by decide +kernel)
set_option maxRecDepth 20000 in
theorem gX0_share_X0_has : GoodIn wsX0_share (va_wsS RX0 83 yX0_has wsX0_has) := goodIn_app (goodIn_of _ (by decide +kernel)) ggX0_share_X0_has
set_option maxRecDepth 20000 in
theorem ggX0_share_J6_bitCount_0f7a4 : GoodIn wsX0_share wsJ6_bitCount_0f7a4 := goodIn_r _ [27, 28, 29, 30] (by decide +kernel) (by decide +kernel)
set_option maxRecDepth 20000 in
theorem gX0_share_J6_bitCount_0f7a4 : GoodIn wsX0_share (va_wsS RX0 157 yJ6_bitCount_0f7a4 wsJ6_bitCount_0f7a4) := goodIn_app (goodIn_of _ (by decide +kernel)) ggX0_share_J6_bitCount_0f7a4
set_option maxRecDepth 20000 in
theorem ggX0_share_X0_ordersOf : GoodIn wsX0_share wsX0_ordersOf := goodIn_r _ [33] (by decide +kernel) (by decide +kernel)
set_option maxRecDepth 20000 in
theorem gX0_share_X0_ordersOf : GoodIn wsX0_share (va_wsS RX0 174 yX0_ordersOf wsX0_ordersOf) := goodIn_app (goodIn_of _ (by decide +kernel)) ggX0_share_X0_ordersOf
set_option maxRecDepth 20000 in
theorem ggX0_share_X0_gain : GoodIn wsX0_share wsX0_gain := goodIn_r _ [37, 38, 39, 5, 40, 41, 42, 43, 44, 45, 46, 47, 48, 49, 50, 51, 52, 53, 54, 55, 56, 57, 58, 59, 60] (by decide +kernel) (by decide +kernel)
set_option maxRecDepth 20000 in
theorem gX0_share_X0_gain : GoodIn wsX0_share (wsV RX0 136 RX0 yX0_gain wsX0_gain) := goodIn_app (goodIn_of _ (by decide +kernel)) ggX0_share_X0_gain
theorem dX0_share_0 : decode cX0_share 0 = .ok (.aload_n 0, 1) := by decide +kernel
theorem dX0_share_1 : decode cX0_share 1 = .ok (.iload_n 1, 1) := by decide +kernel
theorem dX0_share_2 : decode cX0_share 2 = .ok (.invokevirtual 119, 3) := by decide +kernel
theorem dX0_share_5 : decode cX0_share 5 = .ok (.ifCond .eq 15, 3) := by decide +kernel
theorem dX0_share_8 : decode cX0_share 8 = .ok (.aload_n 0, 1) := by decide +kernel
theorem dX0_share_9 : decode cX0_share 9 = .ok (.iload_n 2, 1) := by decide +kernel
theorem dX0_share_10 : decode cX0_share 10 = .ok (.invokevirtual 61, 3) := by decide +kernel
theorem dX0_share_13 : decode cX0_share 13 = .ok (.ifCond .eq 7, 3) := by decide +kernel
theorem dX0_share_16 : decode cX0_share 16 = .ok (.iconst 1, 1) := by decide +kernel
theorem dX0_share_17 : decode cX0_share 17 = .ok (.goto 4, 3) := by decide +kernel
theorem dX0_share_20 : decode cX0_share 20 = .ok (.iconst 0, 1) := by decide +kernel
theorem dX0_share_21 : decode cX0_share 21 = .ok (.invokestatic 65, 3) := by decide +kernel
theorem dX0_share_24 : decode cX0_share 24 = .ok (.iconst 0, 1) := by decide +kernel
theorem dX0_share_25 : decode cX0_share 25 = .ok (.istore_n 3, 1) := by decide +kernel
theorem dX0_share_26 : decode cX0_share 26 = .ok (.iconst 0, 1) := by decide +kernel
theorem dX0_share_27 : decode cX0_share 27 = .ok (.istore 4, 2) := by decide +kernel
theorem dX0_share_29 : decode cX0_share 29 = .ok (.iload 4, 2) := by decide +kernel
theorem dX0_share_31 : decode cX0_share 31 = .ok (.aload_n 0, 1) := by decide +kernel
theorem dX0_share_32 : decode cX0_share 32 = .ok (.invokevirtual 105, 3) := by decide +kernel
theorem dX0_share_35 : decode cX0_share 35 = .ok (.if_icmp .ge 59, 3) := by decide +kernel
theorem dX0_share_38 : decode cX0_share 38 = .ok (.iload 4, 2) := by decide +kernel
theorem dX0_share_40 : decode cX0_share 40 = .ok (.iload_n 2, 1) := by decide +kernel
theorem dX0_share_41 : decode cX0_share 41 = .ok (.invokestatic 83, 3) := by decide +kernel
theorem dX0_share_44 : decode cX0_share 44 = .ok (.ifCond .ne 44, 3) := by decide +kernel
theorem dX0_share_47 : decode cX0_share 47 = .ok (.iload 4, 2) := by decide +kernel
theorem dX0_share_49 : decode cX0_share 49 = .ok (.invokestatic 157, 3) := by decide +kernel
theorem dX0_share_52 : decode cX0_share 52 = .ok (.istore 5, 2) := by decide +kernel
theorem dX0_share_54 : decode cX0_share 54 = .ok (.iload 5, 2) := by decide +kernel
theorem dX0_share_56 : decode cX0_share 56 = .ok (.invokestatic 174, 3) := by decide +kernel
theorem dX0_share_59 : decode cX0_share 59 = .ok (.aload_n 0, 1) := by decide +kernel
theorem dX0_share_60 : decode cX0_share 60 = .ok (.getfield 9, 3) := by decide +kernel
theorem dX0_share_63 : decode cX0_share 63 = .ok (.iconst 1, 1) := by decide +kernel
theorem dX0_share_64 : decode cX0_share 64 = .ok (.isub, 1) := by decide +kernel
theorem dX0_share_65 : decode cX0_share 65 = .ok (.iload 5, 2) := by decide +kernel
theorem dX0_share_67 : decode cX0_share 67 = .ok (.isub, 1) := by decide +kernel
theorem dX0_share_68 : decode cX0_share 68 = .ok (.invokestatic 174, 3) := by decide +kernel
theorem dX0_share_71 : decode cX0_share 71 = .ok (.imul, 1) := by decide +kernel
theorem dX0_share_72 : decode cX0_share 72 = .ok (.istore 6, 2) := by decide +kernel
theorem dX0_share_74 : decode cX0_share 74 = .ok (.iload_n 3, 1) := by decide +kernel
theorem dX0_share_75 : decode cX0_share 75 = .ok (.iload 6, 2) := by decide +kernel
theorem dX0_share_77 : decode cX0_share 77 = .ok (.aload_n 0, 1) := by decide +kernel
theorem dX0_share_78 : decode cX0_share 78 = .ok (.iload_n 1, 1) := by decide +kernel
theorem dX0_share_79 : decode cX0_share 79 = .ok (.iload 4, 2) := by decide +kernel
theorem dX0_share_81 : decode cX0_share 81 = .ok (.iload_n 2, 1) := by decide +kernel
theorem dX0_share_82 : decode cX0_share 82 = .ok (.invokevirtual 136, 3) := by decide +kernel
theorem dX0_share_85 : decode cX0_share 85 = .ok (.imul, 1) := by decide +kernel
theorem dX0_share_86 : decode cX0_share 86 = .ok (.iadd, 1) := by decide +kernel
theorem dX0_share_87 : decode cX0_share 87 = .ok (.istore_n 3, 1) := by decide +kernel
theorem dX0_share_88 : decode cX0_share 88 = .ok (.iinc 4 1, 3) := by decide +kernel
theorem dX0_share_91 : decode cX0_share 91 = .ok (.goto (-62), 3) := by decide +kernel
theorem dX0_share_94 : decode cX0_share 94 = .ok (.iload_n 3, 1) := by decide +kernel
theorem dX0_share_95 : decode cX0_share 95 = .ok (.ireturn, 1) := by decide +kernel
set_option maxRecDepth 20000 in
theorem ggX0_shareAnew_X0_isFunction : GoodIn wsX0_shareAnew wsX0_isFunction := goodIn_r _ [5, 6, 39, 40, 41, 42, 43, 44, 45, 46, 47, 48, 49, 50] (by decide +kernel) (by decide +kernel)
set_option maxRecDepth 20000 in
theorem gX0_shareAnew_X0_isFunction : GoodIn wsX0_shareAnew (wsV RX0 119 RX0 yX0_isFunction wsX0_isFunction) := goodIn_app (goodIn_of _ (by decide +kernel)) ggX0_shareAnew_X0_isFunction
set_option maxRecDepth 20000 in
theorem ggX0_shareAnew_X0_isElement : GoodIn wsX0_shareAnew wsX0_isElement := goodIn_r _ [10, 11, 39, 40, 41, 42, 43, 44, 45, 46, 47, 48, 49, 50] (by decide +kernel) (by decide +kernel)
set_option maxRecDepth 20000 in
theorem gX0_shareAnew_X0_isElement : GoodIn wsX0_shareAnew (wsV RX0 61 RX0 yX0_isElement wsX0_isElement) := goodIn_app (goodIn_of _ (by decide +kernel)) ggX0_shareAnew_X0_isElement
set_option maxRecDepth 20000 in
theorem ggX0_shareAnew_X0_needIndex : GoodIn wsX0_shareAnew wsX0_needIndex := goodIn_ca (goodIn_r _ [14, 15, 16] (by decide +kernel) (by decide +kernel)) (goodIn_sub (fun _ h => List.mem_cons_of_mem _ (List.mem_append_right _ h)) (by decide +kernel))
set_option maxRecDepth 20000 in
theorem gX0_shareAnew_X0_needIndex : GoodIn wsX0_shareAnew (va_wsS RX0 65 yX0_needIndex wsX0_needIndex) := goodIn_app (goodIn_of _ (by decide +kernel)) ggX0_shareAnew_X0_needIndex
set_option maxRecDepth 20000 in
theorem ggX0_shareAnew_X0_gainsOverOrders : GoodIn wsX0_shareAnew wsX0_gainsOverOrders := goodIn_r _ [20, 11, 21, 22, 4, 23, 24, 25, 26, 27, 28, 29, 30, 31, 32, 33, 34, 35, 36, 37, 38, 17, 18, 19, 39, 40, 41, 42, 43, 44, 45, 46, 47, 48, 49, 50] (by decide +kernel) (by decide +kernel)
set_option maxRecDepth 20000 in
theorem gX0_shareAnew_X0_gainsOverOrders : GoodIn wsX0_shareAnew (wsV RX0 177 RX0 yX0_gainsOverOrders wsX0_gainsOverOrders) := goodIn_app (goodIn_of _ (by decide +kernel)) ggX0_shareAnew_X0_gainsOverOrders
theorem dX0_shareAnew_0 : decode cX0_shareAnew 0 = .ok (.aload_n 0, 1) := by decide +kernel
theorem dX0_shareAnew_1 : decode cX0_shareAnew 1 = .ok (.iload_n 1, 1) := by decide +kernel
theorem dX0_shareAnew_2 : decode cX0_shareAnew 2 = .ok (.invokevirtual 119, 3) := by decide +kernel
theorem dX0_shareAnew_5 : decode cX0_shareAnew 5 = .ok (.ifCond .eq 15, 3) := by decide +kernel
theorem dX0_shareAnew_8 : decode cX0_shareAnew 8 = .ok (.aload_n 0, 1) := by decide +kernel
theorem dX0_shareAnew_9 : decode cX0_shareAnew 9 = .ok (.iload_n 2, 1) := by decide +kernel
theorem dX0_shareAnew_10 : decode cX0_shareAnew 10 = .ok (.invokevirtual 61, 3) := by decide +kernel
theorem dX0_shareAnew_13 : decode cX0_shareAnew 13 = .ok (.ifCond .eq 7, 3) := by decide +kernel
theorem dX0_shareAnew_16 : decode cX0_shareAnew 16 = .ok (.iconst 1, 1) := by decide +kernel
theorem dX0_shareAnew_17 : decode cX0_shareAnew 17 = .ok (.goto 4, 3) := by decide +kernel
theorem dX0_shareAnew_20 : decode cX0_shareAnew 20 = .ok (.iconst 0, 1) := by decide +kernel
theorem dX0_shareAnew_21 : decode cX0_shareAnew 21 = .ok (.invokestatic 65, 3) := by decide +kernel
theorem dX0_shareAnew_24 : decode cX0_shareAnew 24 = .ok (.aload_n 0, 1) := by decide +kernel
theorem dX0_shareAnew_25 : decode cX0_shareAnew 25 = .ok (.iload_n 1, 1) := by decide +kernel
theorem dX0_shareAnew_26 : decode cX0_shareAnew 26 = .ok (.iload_n 2, 1) := by decide +kernel
theorem dX0_shareAnew_27 : decode cX0_shareAnew 27 = .ok (.iconst 0, 1) := by decide +kernel
theorem dX0_shareAnew_28 : decode cX0_shareAnew 28 = .ok (.iconst 0, 1) := by decide +kernel
theorem dX0_shareAnew_29 : decode cX0_shareAnew 29 = .ok (.iconst 0, 1) := by decide +kernel
theorem dX0_shareAnew_30 : decode cX0_shareAnew 30 = .ok (.invokevirtual 177, 3) := by decide +kernel
theorem dX0_shareAnew_33 : decode cX0_shareAnew 33 = .ok (.ireturn, 1) := by decide +kernel

theorem dX0_needIndex_0 : decode cX0_needIndex 0 = .ok (.iload_n 0, 1) := by decide +kernel
theorem dX0_needIndex_1 : decode cX0_needIndex 1 = .ok (.ifCond .ne 13, 3) := by decide +kernel
theorem dX0_needIndex_4 : decode cX0_needIndex 4 = .ok (.new 181, 3) := by decide +kernel
theorem dX0_needIndex_7 : decode cX0_needIndex 7 = .ok (.dup, 1) := by decide +kernel
theorem dX0_needIndex_8 : decode cX0_needIndex 8 = .ok (.ldc 183, 2) := by decide +kernel
theorem dX0_needIndex_10 : decode cX0_needIndex 10 = .ok (.invokespecial 185, 3) := by decide +kernel
theorem dX0_needIndex_13 : decode cX0_needIndex 13 = .ok (.athrow, 1) := by decide +kernel
theorem dX0_needIndex_14 : decode cX0_needIndex 14 = .ok (.return_, 1) := by decide +kernel
theorem dX0_needArgument_0 : decode cX0_needArgument 0 = .ok (.iload_n 0, 1) := by decide +kernel
theorem dX0_needArgument_1 : decode cX0_needArgument 1 = .ok (.ifCond .ne 13, 3) := by decide +kernel
theorem dX0_needArgument_4 : decode cX0_needArgument 4 = .ok (.new 188, 3) := by decide +kernel
theorem dX0_needArgument_7 : decode cX0_needArgument 7 = .ok (.dup, 1) := by decide +kernel
theorem dX0_needArgument_8 : decode cX0_needArgument 8 = .ok (.ldc 190, 2) := by decide +kernel
theorem dX0_needArgument_10 : decode cX0_needArgument 10 = .ok (.invokespecial 192, 3) := by decide +kernel
theorem dX0_needArgument_13 : decode cX0_needArgument 13 = .ok (.athrow, 1) := by decide +kernel
theorem dX0_needArgument_14 : decode cX0_needArgument 14 = .ok (.return_, 1) := by decide +kernel
theorem dX0_needState_0 : decode cX0_needState 0 = .ok (.iload_n 0, 1) := by decide +kernel
theorem dX0_needState_1 : decode cX0_needState 1 = .ok (.ifCond .ne 13, 3) := by decide +kernel
theorem dX0_needState_4 : decode cX0_needState 4 = .ok (.new 193, 3) := by decide +kernel
theorem dX0_needState_7 : decode cX0_needState 7 = .ok (.dup, 1) := by decide +kernel
theorem dX0_needState_8 : decode cX0_needState 8 = .ok (.ldc 195, 2) := by decide +kernel
theorem dX0_needState_10 : decode cX0_needState 10 = .ok (.invokespecial 197, 3) := by decide +kernel
theorem dX0_needState_13 : decode cX0_needState 13 = .ok (.athrow, 1) := by decide +kernel
theorem dX0_needState_14 : decode cX0_needState 14 = .ok (.return_, 1) := by decide +kernel
set_option maxRecDepth 20000 in
theorem ggX0_needPlace_X0_needState : GoodIn wsX0_needPlace wsX0_needState := goodIn_ca (goodIn_r _ [5, 6, 7] (by decide +kernel) (by decide +kernel)) (goodIn_sub (fun _ h => List.mem_cons_of_mem _ (List.mem_append_right _ h)) (by decide +kernel))
set_option maxRecDepth 20000 in
theorem gX0_needPlace_X0_needState : GoodIn wsX0_needPlace (va_wsS RX0 140 yX0_needState wsX0_needState) := goodIn_app (goodIn_of _ (by decide +kernel)) ggX0_needPlace_X0_needState
theorem dX0_needPlace_0 : decode cX0_needPlace 0 = .ok (.aload_n 0, 1) := by decide +kernel
theorem dX0_needPlace_1 : decode cX0_needPlace 1 = .ok (.getfield 13, 3) := by decide +kernel
theorem dX0_needPlace_4 : decode cX0_needPlace 4 = .ok (.bipush 8, 2) := by decide +kernel
theorem dX0_needPlace_6 : decode cX0_needPlace 6 = .ok (.if_icmp .ge 7, 3) := by decide +kernel
theorem dX0_needPlace_9 : decode cX0_needPlace 9 = .ok (.iconst 1, 1) := by decide +kernel
theorem dX0_needPlace_10 : decode cX0_needPlace 10 = .ok (.goto 4, 3) := by decide +kernel
theorem dX0_needPlace_13 : decode cX0_needPlace 13 = .ok (.iconst 0, 1) := by decide +kernel
theorem dX0_needPlace_14 : decode cX0_needPlace 14 = .ok (.invokestatic 140, 3) := by decide +kernel
theorem dX0_needPlace_17 : decode cX0_needPlace 17 = .ok (.return_, 1) := by decide +kernel
theorem dX0_isWithin_0 : decode cX0_isWithin 0 = .ok (.iload_n 0, 1) := by decide +kernel
theorem dX0_isWithin_1 : decode cX0_isWithin 1 = .ok (.iload_n 1, 1) := by decide +kernel
theorem dX0_isWithin_2 : decode cX0_isWithin 2 = .ok (.if_icmp .lt 12, 3) := by decide +kernel
theorem dX0_isWithin_5 : decode cX0_isWithin 5 = .ok (.iload_n 0, 1) := by decide +kernel
theorem dX0_isWithin_6 : decode cX0_isWithin 6 = .ok (.iload_n 2, 1) := by decide +kernel
theorem dX0_isWithin_7 : decode cX0_isWithin 7 = .ok (.if_icmp .gt 7, 3) := by decide +kernel
theorem dX0_isWithin_10 : decode cX0_isWithin 10 = .ok (.iconst 1, 1) := by decide +kernel
theorem dX0_isWithin_11 : decode cX0_isWithin 11 = .ok (.goto 4, 3) := by decide +kernel
theorem dX0_isWithin_14 : decode cX0_isWithin 14 = .ok (.iconst 0, 1) := by decide +kernel
theorem dX0_isWithin_15 : decode cX0_isWithin 15 = .ok (.ireturn, 1) := by decide +kernel
theorem dX0_isElement_0 : decode cX0_isElement 0 = .ok (.iload_n 1, 1) := by decide +kernel
theorem dX0_isElement_1 : decode cX0_isElement 1 = .ok (.ifCond .lt 15, 3) := by decide +kernel
theorem dX0_isElement_4 : decode cX0_isElement 4 = .ok (.iload_n 1, 1) := by decide +kernel
theorem dX0_isElement_5 : decode cX0_isElement 5 = .ok (.aload_n 0, 1) := by decide +kernel
theorem dX0_isElement_6 : decode cX0_isElement 6 = .ok (.getfield 9, 3) := by decide +kernel
theorem dX0_isElement_9 : decode cX0_isElement 9 = .ok (.if_icmp .ge 7, 3) := by decide +kernel
theorem dX0_isElement_12 : decode cX0_isElement 12 = .ok (.iconst 1, 1) := by decide +kernel
theorem dX0_isElement_13 : decode cX0_isElement 13 = .ok (.goto 4, 3) := by decide +kernel
theorem dX0_isElement_16 : decode cX0_isElement 16 = .ok (.iconst 0, 1) := by decide +kernel
theorem dX0_isElement_17 : decode cX0_isElement 17 = .ok (.ireturn, 1) := by decide +kernel
theorem dX0_isFamily_0 : decode cX0_isFamily 0 = .ok (.iload_n 0, 1) := by decide +kernel
theorem dX0_isFamily_1 : decode cX0_isFamily 1 = .ok (.ifCond .lt 12, 3) := by decide +kernel
theorem dX0_isFamily_4 : decode cX0_isFamily 4 = .ok (.iload_n 0, 1) := by decide +kernel
theorem dX0_isFamily_5 : decode cX0_isFamily 5 = .ok (.iconst 2, 1) := by decide +kernel
theorem dX0_isFamily_6 : decode cX0_isFamily 6 = .ok (.if_icmp .ge 7, 3) := by decide +kernel
theorem dX0_isFamily_9 : decode cX0_isFamily 9 = .ok (.iconst 1, 1) := by decide +kernel
theorem dX0_isFamily_10 : decode cX0_isFamily 10 = .ok (.goto 4, 3) := by decide +kernel
theorem dX0_isFamily_13 : decode cX0_isFamily 13 = .ok (.iconst 0, 1) := by decide +kernel
theorem dX0_isFamily_14 : decode cX0_isFamily 14 = .ok (.ireturn, 1) := by decide +kernel
theorem dX0_isColour_0 : decode cX0_isColour 0 = .ok (.iload_n 0, 1) := by decide +kernel
theorem dX0_isColour_1 : decode cX0_isColour 1 = .ok (.ifCond .lt 13, 3) := by decide +kernel
theorem dX0_isColour_4 : decode cX0_isColour 4 = .ok (.iload_n 0, 1) := by decide +kernel
theorem dX0_isColour_5 : decode cX0_isColour 5 = .ok (.bipush 6, 2) := by decide +kernel
theorem dX0_isColour_7 : decode cX0_isColour 7 = .ok (.if_icmp .ge 7, 3) := by decide +kernel
theorem dX0_isColour_10 : decode cX0_isColour 10 = .ok (.iconst 1, 1) := by decide +kernel
theorem dX0_isColour_11 : decode cX0_isColour 11 = .ok (.goto 4, 3) := by decide +kernel
theorem dX0_isColour_14 : decode cX0_isColour 14 = .ok (.iconst 0, 1) := by decide +kernel
theorem dX0_isColour_15 : decode cX0_isColour 15 = .ok (.ireturn, 1) := by decide +kernel
theorem dX0_isFunction_0 : decode cX0_isFunction 0 = .ok (.iload_n 1, 1) := by decide +kernel
theorem dX0_isFunction_1 : decode cX0_isFunction 1 = .ok (.ifCond .lt 15, 3) := by decide +kernel
theorem dX0_isFunction_4 : decode cX0_isFunction 4 = .ok (.iload_n 1, 1) := by decide +kernel
theorem dX0_isFunction_5 : decode cX0_isFunction 5 = .ok (.aload_n 0, 1) := by decide +kernel
theorem dX0_isFunction_6 : decode cX0_isFunction 6 = .ok (.getfield 13, 3) := by decide +kernel
theorem dX0_isFunction_9 : decode cX0_isFunction 9 = .ok (.if_icmp .ge 7, 3) := by decide +kernel
theorem dX0_isFunction_12 : decode cX0_isFunction 12 = .ok (.iconst 1, 1) := by decide +kernel
theorem dX0_isFunction_13 : decode cX0_isFunction 13 = .ok (.goto 4, 3) := by decide +kernel
theorem dX0_isFunction_16 : decode cX0_isFunction 16 = .ok (.iconst 0, 1) := by decide +kernel
theorem dX0_isFunction_17 : decode cX0_isFunction 17 = .ok (.ireturn, 1) := by decide +kernel
set_option maxRecDepth 20000 in
theorem ggX0_isSet_X0_sets : GoodIn wsX0_isSet wsX0_sets := goodIn_r _ [5, 6, 7, 8, 9, 10, 11, 12, 13, 14, 15, 16, 17, 18] (by decide +kernel) (by decide +kernel)
set_option maxRecDepth 20000 in
theorem gX0_isSet_X0_sets : GoodIn wsX0_isSet (wsV RX0 105 RX0 yX0_sets wsX0_sets) := goodIn_app (goodIn_of _ (by decide +kernel)) ggX0_isSet_X0_sets
theorem dX0_isSet_0 : decode cX0_isSet 0 = .ok (.iload_n 1, 1) := by decide +kernel
theorem dX0_isSet_1 : decode cX0_isSet 1 = .ok (.ifCond .lt 15, 3) := by decide +kernel
theorem dX0_isSet_4 : decode cX0_isSet 4 = .ok (.iload_n 1, 1) := by decide +kernel
theorem dX0_isSet_5 : decode cX0_isSet 5 = .ok (.aload_n 0, 1) := by decide +kernel
theorem dX0_isSet_6 : decode cX0_isSet 6 = .ok (.invokevirtual 105, 3) := by decide +kernel
theorem dX0_isSet_9 : decode cX0_isSet 9 = .ok (.if_icmp .ge 7, 3) := by decide +kernel
theorem dX0_isSet_12 : decode cX0_isSet 12 = .ok (.iconst 1, 1) := by decide +kernel
theorem dX0_isSet_13 : decode cX0_isSet 13 = .ok (.goto 4, 3) := by decide +kernel
theorem dX0_isSet_16 : decode cX0_isSet 16 = .ok (.iconst 0, 1) := by decide +kernel
theorem dX0_isSet_17 : decode cX0_isSet 17 = .ok (.ireturn, 1) := by decide +kernel
theorem dX0_at_0 : decode cX0_at 0 = .ok (.iload_n 1, 1) := by decide +kernel
theorem dX0_at_1 : decode cX0_at 1 = .ok (.ifCond .lt 15, 3) := by decide +kernel
theorem dX0_at_4 : decode cX0_at 4 = .ok (.iload_n 1, 1) := by decide +kernel
theorem dX0_at_5 : decode cX0_at 5 = .ok (.aload_n 0, 1) := by decide +kernel
theorem dX0_at_6 : decode cX0_at 6 = .ok (.arraylength, 1) := by decide +kernel
theorem dX0_at_7 : decode cX0_at 7 = .ok (.if_icmp .ge 9, 3) := by decide +kernel
theorem dX0_at_10 : decode cX0_at 10 = .ok (.aload_n 0, 1) := by decide +kernel
theorem dX0_at_11 : decode cX0_at 11 = .ok (.iload_n 1, 1) := by decide +kernel
theorem dX0_at_12 : decode cX0_at 12 = .ok (.iaload, 1) := by decide +kernel
theorem dX0_at_13 : decode cX0_at 13 = .ok (.goto 4, 3) := by decide +kernel
theorem dX0_at_16 : decode cX0_at 16 = .ok (.iconst 0, 1) := by decide +kernel
theorem dX0_at_17 : decode cX0_at 17 = .ok (.ireturn, 1) := by decide +kernel
theorem dX0_put_0 : decode cX0_put 0 = .ok (.iload_n 1, 1) := by decide +kernel
theorem dX0_put_1 : decode cX0_put 1 = .ok (.ifCond .lt 13, 3) := by decide +kernel
theorem dX0_put_4 : decode cX0_put 4 = .ok (.iload_n 1, 1) := by decide +kernel
theorem dX0_put_5 : decode cX0_put 5 = .ok (.aload_n 0, 1) := by decide +kernel
theorem dX0_put_6 : decode cX0_put 6 = .ok (.arraylength, 1) := by decide +kernel
theorem dX0_put_7 : decode cX0_put 7 = .ok (.if_icmp .ge 7, 3) := by decide +kernel
theorem dX0_put_10 : decode cX0_put 10 = .ok (.aload_n 0, 1) := by decide +kernel
theorem dX0_put_11 : decode cX0_put 11 = .ok (.iload_n 1, 1) := by decide +kernel
theorem dX0_put_12 : decode cX0_put 12 = .ok (.iload_n 2, 1) := by decide +kernel
theorem dX0_put_13 : decode cX0_put 13 = .ok (.iastore, 1) := by decide +kernel
theorem dX0_put_14 : decode cX0_put 14 = .ok (.return_, 1) := by decide +kernel
set_option maxRecDepth 20000 in
theorem ggX0_edgeWeight_X0_at : GoodIn wsX0_edgeWeight wsX0_at := goodIn_r _ [5] (by decide +kernel) (by decide +kernel)
set_option maxRecDepth 20000 in
theorem gX0_edgeWeight_X0_at : GoodIn wsX0_edgeWeight (va_wsS RX0 68 yX0_at wsX0_at) := goodIn_app (goodIn_of _ (by decide +kernel)) ggX0_edgeWeight_X0_at
theorem dX0_edgeWeight_0 : decode cX0_edgeWeight 0 = .ok (.aload_n 0, 1) := by decide +kernel
theorem dX0_edgeWeight_1 : decode cX0_edgeWeight 1 = .ok (.getfield 23, 3) := by decide +kernel
theorem dX0_edgeWeight_4 : decode cX0_edgeWeight 4 = .ok (.iload_n 1, 1) := by decide +kernel
theorem dX0_edgeWeight_5 : decode cX0_edgeWeight 5 = .ok (.bipush 6, 2) := by decide +kernel
theorem dX0_edgeWeight_7 : decode cX0_edgeWeight 7 = .ok (.imul, 1) := by decide +kernel
theorem dX0_edgeWeight_8 : decode cX0_edgeWeight 8 = .ok (.iload_n 2, 1) := by decide +kernel
theorem dX0_edgeWeight_9 : decode cX0_edgeWeight 9 = .ok (.iadd, 1) := by decide +kernel
theorem dX0_edgeWeight_10 : decode cX0_edgeWeight 10 = .ok (.invokestatic 68, 3) := by decide +kernel
theorem dX0_edgeWeight_13 : decode cX0_edgeWeight 13 = .ok (.ireturn, 1) := by decide +kernel
set_option maxRecDepth 20000 in
theorem ggX0_colourOf_X0_at : GoodIn wsX0_colourOf wsX0_at := goodIn_r _ [5] (by decide +kernel) (by decide +kernel)
set_option maxRecDepth 20000 in
theorem gX0_colourOf_X0_at : GoodIn wsX0_colourOf (va_wsS RX0 68 yX0_at wsX0_at) := goodIn_app (goodIn_of _ (by decide +kernel)) ggX0_colourOf_X0_at
theorem dX0_colourOf_0 : decode cX0_colourOf 0 = .ok (.aload_n 0, 1) := by decide +kernel
theorem dX0_colourOf_1 : decode cX0_colourOf 1 = .ok (.getfield 26, 3) := by decide +kernel
theorem dX0_colourOf_4 : decode cX0_colourOf 4 = .ok (.iload_n 1, 1) := by decide +kernel
theorem dX0_colourOf_5 : decode cX0_colourOf 5 = .ok (.bipush 6, 2) := by decide +kernel
theorem dX0_colourOf_7 : decode cX0_colourOf 7 = .ok (.imul, 1) := by decide +kernel
theorem dX0_colourOf_8 : decode cX0_colourOf 8 = .ok (.iload_n 2, 1) := by decide +kernel
theorem dX0_colourOf_9 : decode cX0_colourOf 9 = .ok (.iadd, 1) := by decide +kernel
theorem dX0_colourOf_10 : decode cX0_colourOf 10 = .ok (.invokestatic 68, 3) := by decide +kernel
theorem dX0_colourOf_13 : decode cX0_colourOf 13 = .ok (.ireturn, 1) := by decide +kernel
set_option maxRecDepth 20000 in
theorem ggX0_roomOf_X0_at : GoodIn wsX0_roomOf wsX0_at := goodIn_r _ [5] (by decide +kernel) (by decide +kernel)
set_option maxRecDepth 20000 in
theorem gX0_roomOf_X0_at : GoodIn wsX0_roomOf (va_wsS RX0 68 yX0_at wsX0_at) := goodIn_app (goodIn_of _ (by decide +kernel)) ggX0_roomOf_X0_at
theorem dX0_roomOf_0 : decode cX0_roomOf 0 = .ok (.aload_n 0, 1) := by decide +kernel
theorem dX0_roomOf_1 : decode cX0_roomOf 1 = .ok (.getfield 29, 3) := by decide +kernel
theorem dX0_roomOf_4 : decode cX0_roomOf 4 = .ok (.iload_n 1, 1) := by decide +kernel
theorem dX0_roomOf_5 : decode cX0_roomOf 5 = .ok (.bipush 6, 2) := by decide +kernel
theorem dX0_roomOf_7 : decode cX0_roomOf 7 = .ok (.imul, 1) := by decide +kernel
theorem dX0_roomOf_8 : decode cX0_roomOf 8 = .ok (.iload_n 2, 1) := by decide +kernel
theorem dX0_roomOf_9 : decode cX0_roomOf 9 = .ok (.iadd, 1) := by decide +kernel
theorem dX0_roomOf_10 : decode cX0_roomOf 10 = .ok (.invokestatic 68, 3) := by decide +kernel
theorem dX0_roomOf_13 : decode cX0_roomOf 13 = .ok (.ireturn, 1) := by decide +kernel
set_option maxRecDepth 20000 in
theorem ggX0_valueOf_X0_at : GoodIn wsX0_valueOf wsX0_at := goodIn_r _ [5] (by decide +kernel) (by decide +kernel)
set_option maxRecDepth 20000 in
theorem gX0_valueOf_X0_at : GoodIn wsX0_valueOf (va_wsS RX0 68 yX0_at wsX0_at) := goodIn_app (goodIn_of _ (by decide +kernel)) ggX0_valueOf_X0_at
theorem dX0_valueOf_0 : decode cX0_valueOf 0 = .ok (.aload_n 0, 1) := by decide +kernel
theorem dX0_valueOf_1 : decode cX0_valueOf 1 = .ok (.getfield 35, 3) := by decide +kernel
theorem dX0_valueOf_4 : decode cX0_valueOf 4 = .ok (.iload_n 1, 1) := by decide +kernel
theorem dX0_valueOf_5 : decode cX0_valueOf 5 = .ok (.bipush 64, 2) := by decide +kernel
theorem dX0_valueOf_7 : decode cX0_valueOf 7 = .ok (.imul, 1) := by decide +kernel
theorem dX0_valueOf_8 : decode cX0_valueOf 8 = .ok (.iload_n 2, 1) := by decide +kernel
theorem dX0_valueOf_9 : decode cX0_valueOf 9 = .ok (.iadd, 1) := by decide +kernel
theorem dX0_valueOf_10 : decode cX0_valueOf 10 = .ok (.invokestatic 68, 3) := by decide +kernel
theorem dX0_valueOf_13 : decode cX0_valueOf 13 = .ok (.ireturn, 1) := by decide +kernel
set_option maxRecDepth 20000 in
theorem ggX0_putNew_X0_put : GoodIn wsX0_putNew wsX0_put := goodIn_r _ [6] (by decide +kernel) (by decide +kernel)
set_option maxRecDepth 20000 in
theorem gX0_putNew_X0_put : GoodIn wsX0_putNew (va_wsS RX0 79 yX0_put wsX0_put) := goodIn_app (goodIn_of _ (by decide +kernel)) ggX0_putNew_X0_put
theorem dX0_putNew_0 : decode cX0_putNew 0 = .ok (.aload_n 0, 1) := by decide +kernel
theorem dX0_putNew_1 : decode cX0_putNew 1 = .ok (.getfield 35, 3) := by decide +kernel
theorem dX0_putNew_4 : decode cX0_putNew 4 = .ok (.aload_n 0, 1) := by decide +kernel
theorem dX0_putNew_5 : decode cX0_putNew 5 = .ok (.getfield 13, 3) := by decide +kernel
theorem dX0_putNew_8 : decode cX0_putNew 8 = .ok (.bipush 64, 2) := by decide +kernel
theorem dX0_putNew_10 : decode cX0_putNew 10 = .ok (.imul, 1) := by decide +kernel
theorem dX0_putNew_11 : decode cX0_putNew 11 = .ok (.iload_n 1, 1) := by decide +kernel
theorem dX0_putNew_12 : decode cX0_putNew 12 = .ok (.iadd, 1) := by decide +kernel
theorem dX0_putNew_13 : decode cX0_putNew 13 = .ok (.iload_n 2, 1) := by decide +kernel
theorem dX0_putNew_14 : decode cX0_putNew 14 = .ok (.invokestatic 79, 3) := by decide +kernel
theorem dX0_putNew_17 : decode cX0_putNew 17 = .ok (.return_, 1) := by decide +kernel
theorem dX0_countNew_0 : decode cX0_countNew 0 = .ok (.aload_n 0, 1) := by decide +kernel
theorem dX0_countNew_1 : decode cX0_countNew 1 = .ok (.getfield 13, 3) := by decide +kernel
theorem dX0_countNew_4 : decode cX0_countNew 4 = .ok (.istore_n 1, 1) := by decide +kernel
theorem dX0_countNew_5 : decode cX0_countNew 5 = .ok (.aload_n 0, 1) := by decide +kernel
theorem dX0_countNew_6 : decode cX0_countNew 6 = .ok (.dup, 1) := by decide +kernel
theorem dX0_countNew_7 : decode cX0_countNew 7 = .ok (.getfield 13, 3) := by decide +kernel
theorem dX0_countNew_10 : decode cX0_countNew 10 = .ok (.iconst 1, 1) := by decide +kernel
theorem dX0_countNew_11 : decode cX0_countNew 11 = .ok (.iadd, 1) := by decide +kernel
theorem dX0_countNew_12 : decode cX0_countNew 12 = .ok (.putfield 13, 3) := by decide +kernel
theorem dX0_countNew_15 : decode cX0_countNew 15 = .ok (.iload_n 1, 1) := by decide +kernel
theorem dX0_countNew_16 : decode cX0_countNew 16 = .ok (.ireturn, 1) := by decide +kernel
theorem dX0_sets_0 : decode cX0_sets 0 = .ok (.iconst 1, 1) := by decide +kernel
theorem dX0_sets_1 : decode cX0_sets 1 = .ok (.aload_n 0, 1) := by decide +kernel
theorem dX0_sets_2 : decode cX0_sets 2 = .ok (.getfield 9, 3) := by decide +kernel
theorem dX0_sets_5 : decode cX0_sets 5 = .ok (.ishl, 1) := by decide +kernel
theorem dX0_sets_6 : decode cX0_sets 6 = .ok (.ireturn, 1) := by decide +kernel
theorem dX0_has_0 : decode cX0_has 0 = .ok (.iload_n 0, 1) := by decide +kernel
theorem dX0_has_1 : decode cX0_has 1 = .ok (.iload_n 1, 1) := by decide +kernel
theorem dX0_has_2 : decode cX0_has 2 = .ok (.ishr, 1) := by decide +kernel
theorem dX0_has_3 : decode cX0_has 3 = .ok (.iconst 1, 1) := by decide +kernel
theorem dX0_has_4 : decode cX0_has 4 = .ok (.iand, 1) := by decide +kernel
theorem dX0_has_5 : decode cX0_has 5 = .ok (.iconst 1, 1) := by decide +kernel
theorem dX0_has_6 : decode cX0_has 6 = .ok (.if_icmp .ne 7, 3) := by decide +kernel
theorem dX0_has_9 : decode cX0_has 9 = .ok (.iconst 1, 1) := by decide +kernel
theorem dX0_has_10 : decode cX0_has 10 = .ok (.goto 4, 3) := by decide +kernel
theorem dX0_has_13 : decode cX0_has 13 = .ok (.iconst 0, 1) := by decide +kernel
theorem dX0_has_14 : decode cX0_has 14 = .ok (.ireturn, 1) := by decide +kernel
theorem dX0_with_0 : decode cX0_with 0 = .ok (.iload_n 0, 1) := by decide +kernel
theorem dX0_with_1 : decode cX0_with 1 = .ok (.iconst 1, 1) := by decide +kernel
theorem dX0_with_2 : decode cX0_with 2 = .ok (.iload_n 1, 1) := by decide +kernel
theorem dX0_with_3 : decode cX0_with 3 = .ok (.ishl, 1) := by decide +kernel
theorem dX0_with_4 : decode cX0_with 4 = .ok (.ior, 1) := by decide +kernel
theorem dX0_with_5 : decode cX0_with 5 = .ok (.ireturn, 1) := by decide +kernel
theorem dX0_without_0 : decode cX0_without 0 = .ok (.iload_n 0, 1) := by decide +kernel
theorem dX0_without_1 : decode cX0_without 1 = .ok (.iconst 1, 1) := by decide +kernel
theorem dX0_without_2 : decode cX0_without 2 = .ok (.iload_n 1, 1) := by decide +kernel
theorem dX0_without_3 : decode cX0_without 3 = .ok (.ishl, 1) := by decide +kernel
theorem dX0_without_4 : decode cX0_without 4 = .ok (.iconst (-1), 1) := by decide +kernel
theorem dX0_without_5 : decode cX0_without 5 = .ok (.ixor, 1) := by decide +kernel
theorem dX0_without_6 : decode cX0_without 6 = .ok (.iand, 1) := by decide +kernel
theorem dX0_without_7 : decode cX0_without 7 = .ok (.ireturn, 1) := by decide +kernel
set_option maxRecDepth 20000 in
theorem ggX0_toldValue_X0_coverValue : GoodIn wsX0_toldValue wsX0_coverValue := goodIn_r _ [5, 6, 7, 8, 9, 4, 10, 11, 12, 13, 14, 15, 16, 17, 18, 19, 20, 57, 58, 59, 60, 61, 62, 63, 64, 65, 66, 67, 68] (by decide +kernel) (by decide +kernel)
set_option maxRecDepth 20000 in
theorem gX0_toldValue_X0_coverValue : GoodIn wsX0_toldValue (wsV RX0 198 RX0 yX0_coverValue wsX0_coverValue) := goodIn_app (goodIn_of _ (by decide +kernel)) ggX0_toldValue_X0_coverValue
set_option maxRecDepth 20000 in
theorem ggX0_toldValue_X0_cutValue : GoodIn wsX0_toldValue wsX0_cutValue := goodIn_r _ [24, 6, 8, 9, 4, 10, 25, 26, 27, 28, 29, 11, 12, 13, 57, 58, 59, 60, 61, 62, 63, 64, 65, 66, 67, 68] (by decide +kernel) (by decide +kernel)
set_option maxRecDepth 20000 in
theorem gX0_toldValue_X0_cutValue : GoodIn wsX0_toldValue (wsV RX0 201 RX0 yX0_cutValue wsX0_cutValue) := goodIn_app (goodIn_of _ (by decide +kernel)) ggX0_toldValue_X0_cutValue
set_option maxRecDepth 20000 in
theorem ggX0_toldValue_X0_rankValue : GoodIn wsX0_toldValue wsX0_rankValue := goodIn_r _ [33, 34, 35, 36, 37, 38, 39, 40, 4, 41, 6, 8, 9, 10, 42, 43, 44, 45, 46, 11, 12, 13, 47, 48, 49, 50, 51, 57, 58, 59, 60, 61, 62, 63, 64, 65, 66, 67, 68] (by decide +kernel) (by decide +kernel)
set_option maxRecDepth 20000 in
theorem gX0_toldValue_X0_rankValue : GoodIn wsX0_toldValue (wsV RX0 204 RX0 yX0_rankValue wsX0_rankValue) := goodIn_app (goodIn_of _ (by decide +kernel)) ggX0_toldValue_X0_rankValue
set_option maxRecDepth 20000 in
theorem ggX0_toldValue_X0_weightsValue : GoodIn wsX0_toldValue wsX0_weightsValue := goodIn_r _ [55, 6, 56, 8, 9, 4, 10, 11, 12, 13, 57, 58, 59, 60, 61, 62, 63, 64, 65, 66, 67, 68] (by decide +kernel) (by decide +kernel)
set_option maxRecDepth 20000 in
theorem gX0_toldValue_X0_weightsValue : GoodIn wsX0_toldValue (wsV RX0 207 RX0 yX0_weightsValue wsX0_weightsValue) := goodIn_app (goodIn_of _ (by decide +kernel)) ggX0_toldValue_X0_weightsValue
theorem dX0_toldValue_0 : decode cX0_toldValue 0 = .ok (.iload_n 1, 1) := by decide +kernel
theorem dX0_toldValue_1 : decode cX0_toldValue 1 = .ok (.tableswitch 57 0 3 #[31, 37, 43, 50], 31) := by decide +kernel
theorem dX0_toldValue_32 : decode cX0_toldValue 32 = .ok (.aload_n 0, 1) := by decide +kernel
theorem dX0_toldValue_33 : decode cX0_toldValue 33 = .ok (.iload_n 2, 1) := by decide +kernel
theorem dX0_toldValue_34 : decode cX0_toldValue 34 = .ok (.invokevirtual 198, 3) := by decide +kernel
theorem dX0_toldValue_37 : decode cX0_toldValue 37 = .ok (.ireturn, 1) := by decide +kernel
theorem dX0_toldValue_38 : decode cX0_toldValue 38 = .ok (.aload_n 0, 1) := by decide +kernel
theorem dX0_toldValue_39 : decode cX0_toldValue 39 = .ok (.iload_n 2, 1) := by decide +kernel
theorem dX0_toldValue_40 : decode cX0_toldValue 40 = .ok (.invokevirtual 201, 3) := by decide +kernel
theorem dX0_toldValue_43 : decode cX0_toldValue 43 = .ok (.ireturn, 1) := by decide +kernel
theorem dX0_toldValue_44 : decode cX0_toldValue 44 = .ok (.aload_n 0, 1) := by decide +kernel
theorem dX0_toldValue_45 : decode cX0_toldValue 45 = .ok (.iconst 0, 1) := by decide +kernel
theorem dX0_toldValue_46 : decode cX0_toldValue 46 = .ok (.iload_n 2, 1) := by decide +kernel
theorem dX0_toldValue_47 : decode cX0_toldValue 47 = .ok (.invokevirtual 204, 3) := by decide +kernel
theorem dX0_toldValue_50 : decode cX0_toldValue 50 = .ok (.ireturn, 1) := by decide +kernel
theorem dX0_toldValue_51 : decode cX0_toldValue 51 = .ok (.aload_n 0, 1) := by decide +kernel
theorem dX0_toldValue_52 : decode cX0_toldValue 52 = .ok (.iconst 1, 1) := by decide +kernel
theorem dX0_toldValue_53 : decode cX0_toldValue 53 = .ok (.iload_n 2, 1) := by decide +kernel
theorem dX0_toldValue_54 : decode cX0_toldValue 54 = .ok (.invokevirtual 204, 3) := by decide +kernel
theorem dX0_toldValue_57 : decode cX0_toldValue 57 = .ok (.ireturn, 1) := by decide +kernel
theorem dX0_toldValue_58 : decode cX0_toldValue 58 = .ok (.aload_n 0, 1) := by decide +kernel
theorem dX0_toldValue_59 : decode cX0_toldValue 59 = .ok (.iload_n 2, 1) := by decide +kernel
theorem dX0_toldValue_60 : decode cX0_toldValue 60 = .ok (.invokevirtual 207, 3) := by decide +kernel
theorem dX0_toldValue_63 : decode cX0_toldValue 63 = .ok (.ireturn, 1) := by decide +kernel
set_option maxRecDepth 20000 in
theorem ggX0_coverValue_X0_has : GoodIn wsX0_coverValue wsX0_has := goodIn_r _ [6] (by decide +kernel) (by decide +kernel)
set_option maxRecDepth 20000 in
theorem gX0_coverValue_X0_has : GoodIn wsX0_coverValue (va_wsS RX0 83 yX0_has wsX0_has) := goodIn_app (goodIn_of _ (by decide +kernel)) ggX0_coverValue_X0_has
set_option maxRecDepth 20000 in
theorem ggX0_coverValue_X0_at : GoodIn wsX0_coverValue wsX0_at := goodIn_r _ [9] (by decide +kernel) (by decide +kernel)
set_option maxRecDepth 20000 in
theorem gX0_coverValue_X0_at : GoodIn wsX0_coverValue (va_wsS RX0 68 yX0_at wsX0_at) := goodIn_app (goodIn_of _ (by decide +kernel)) ggX0_coverValue_X0_at
set_option maxRecDepth 20000 in
theorem ggX0_coverValue_J6_bitCount_0f7a4 : GoodIn wsX0_coverValue wsJ6_bitCount_0f7a4 := goodIn_r _ [13, 14, 15, 16] (by decide +kernel) (by decide +kernel)
set_option maxRecDepth 20000 in
theorem gX0_coverValue_J6_bitCount_0f7a4 : GoodIn wsX0_coverValue (va_wsS RX0 157 yJ6_bitCount_0f7a4 wsJ6_bitCount_0f7a4) := goodIn_app (goodIn_of _ (by decide +kernel)) ggX0_coverValue_J6_bitCount_0f7a4
theorem dX0_coverValue_0 : decode cX0_coverValue 0 = .ok (.iconst 0, 1) := by decide +kernel
theorem dX0_coverValue_1 : decode cX0_coverValue 1 = .ok (.istore_n 2, 1) := by decide +kernel
theorem dX0_coverValue_2 : decode cX0_coverValue 2 = .ok (.iconst 0, 1) := by decide +kernel
theorem dX0_coverValue_3 : decode cX0_coverValue 3 = .ok (.istore_n 3, 1) := by decide +kernel
theorem dX0_coverValue_4 : decode cX0_coverValue 4 = .ok (.iload_n 3, 1) := by decide +kernel
theorem dX0_coverValue_5 : decode cX0_coverValue 5 = .ok (.aload_n 0, 1) := by decide +kernel
theorem dX0_coverValue_6 : decode cX0_coverValue 6 = .ok (.getfield 9, 3) := by decide +kernel
theorem dX0_coverValue_9 : decode cX0_coverValue 9 = .ok (.if_icmp .ge 28, 3) := by decide +kernel
theorem dX0_coverValue_12 : decode cX0_coverValue 12 = .ok (.iload_n 1, 1) := by decide +kernel
theorem dX0_coverValue_13 : decode cX0_coverValue 13 = .ok (.iload_n 3, 1) := by decide +kernel
theorem dX0_coverValue_14 : decode cX0_coverValue 14 = .ok (.invokestatic 83, 3) := by decide +kernel
theorem dX0_coverValue_17 : decode cX0_coverValue 17 = .ok (.ifCond .eq 14, 3) := by decide +kernel
theorem dX0_coverValue_20 : decode cX0_coverValue 20 = .ok (.iload_n 2, 1) := by decide +kernel
theorem dX0_coverValue_21 : decode cX0_coverValue 21 = .ok (.aload_n 0, 1) := by decide +kernel
theorem dX0_coverValue_22 : decode cX0_coverValue 22 = .ok (.getfield 19, 3) := by decide +kernel
theorem dX0_coverValue_25 : decode cX0_coverValue 25 = .ok (.iload_n 3, 1) := by decide +kernel
theorem dX0_coverValue_26 : decode cX0_coverValue 26 = .ok (.invokestatic 68, 3) := by decide +kernel
theorem dX0_coverValue_29 : decode cX0_coverValue 29 = .ok (.ior, 1) := by decide +kernel
theorem dX0_coverValue_30 : decode cX0_coverValue 30 = .ok (.istore_n 2, 1) := by decide +kernel
theorem dX0_coverValue_31 : decode cX0_coverValue 31 = .ok (.iinc 3 1, 3) := by decide +kernel
theorem dX0_coverValue_34 : decode cX0_coverValue 34 = .ok (.goto (-30), 3) := by decide +kernel
theorem dX0_coverValue_37 : decode cX0_coverValue 37 = .ok (.iload_n 2, 1) := by decide +kernel
theorem dX0_coverValue_38 : decode cX0_coverValue 38 = .ok (.invokestatic 157, 3) := by decide +kernel
theorem dX0_coverValue_41 : decode cX0_coverValue 41 = .ok (.ireturn, 1) := by decide +kernel
set_option maxRecDepth 20000 in
theorem ggX0_cutValue_X0_has : GoodIn wsX0_cutValue wsX0_has := goodIn_r _ [5] (by decide +kernel) (by decide +kernel)
set_option maxRecDepth 20000 in
theorem gX0_cutValue_X0_has : GoodIn wsX0_cutValue (va_wsS RX0 83 yX0_has wsX0_has) := goodIn_app (goodIn_of _ (by decide +kernel)) ggX0_cutValue_X0_has
set_option maxRecDepth 20000 in
theorem ggX0_cutValue_X0_edgeWeight : GoodIn wsX0_cutValue wsX0_edgeWeight := goodIn_r _ [9, 10, 11, 12, 4, 13, 14, 15, 16, 17, 18, 19, 20, 21, 22, 23, 24, 25] (by decide +kernel) (by decide +kernel)
set_option maxRecDepth 20000 in
theorem gX0_cutValue_X0_edgeWeight : GoodIn wsX0_cutValue (wsV RX0 87 RX0 yX0_edgeWeight wsX0_edgeWeight) := goodIn_app (goodIn_of _ (by decide +kernel)) ggX0_cutValue_X0_edgeWeight
theorem dX0_cutValue_0 : decode cX0_cutValue 0 = .ok (.iconst 0, 1) := by decide +kernel
theorem dX0_cutValue_1 : decode cX0_cutValue 1 = .ok (.istore_n 2, 1) := by decide +kernel
theorem dX0_cutValue_2 : decode cX0_cutValue 2 = .ok (.iconst 0, 1) := by decide +kernel
theorem dX0_cutValue_3 : decode cX0_cutValue 3 = .ok (.istore_n 3, 1) := by decide +kernel
theorem dX0_cutValue_4 : decode cX0_cutValue 4 = .ok (.iload_n 3, 1) := by decide +kernel
theorem dX0_cutValue_5 : decode cX0_cutValue 5 = .ok (.aload_n 0, 1) := by decide +kernel
theorem dX0_cutValue_6 : decode cX0_cutValue 6 = .ok (.getfield 9, 3) := by decide +kernel
theorem dX0_cutValue_9 : decode cX0_cutValue 9 = .ok (.if_icmp .ge 53, 3) := by decide +kernel
theorem dX0_cutValue_12 : decode cX0_cutValue 12 = .ok (.iload_n 3, 1) := by decide +kernel
theorem dX0_cutValue_13 : decode cX0_cutValue 13 = .ok (.iconst 1, 1) := by decide +kernel
theorem dX0_cutValue_14 : decode cX0_cutValue 14 = .ok (.iadd, 1) := by decide +kernel
theorem dX0_cutValue_15 : decode cX0_cutValue 15 = .ok (.istore 4, 2) := by decide +kernel
theorem dX0_cutValue_17 : decode cX0_cutValue 17 = .ok (.iload 4, 2) := by decide +kernel
theorem dX0_cutValue_19 : decode cX0_cutValue 19 = .ok (.aload_n 0, 1) := by decide +kernel
theorem dX0_cutValue_20 : decode cX0_cutValue 20 = .ok (.getfield 9, 3) := by decide +kernel
theorem dX0_cutValue_23 : decode cX0_cutValue 23 = .ok (.if_icmp .ge 33, 3) := by decide +kernel
theorem dX0_cutValue_26 : decode cX0_cutValue 26 = .ok (.iload_n 1, 1) := by decide +kernel
theorem dX0_cutValue_27 : decode cX0_cutValue 27 = .ok (.iload_n 3, 1) := by decide +kernel
theorem dX0_cutValue_28 : decode cX0_cutValue 28 = .ok (.invokestatic 83, 3) := by decide +kernel
theorem dX0_cutValue_31 : decode cX0_cutValue 31 = .ok (.iload_n 1, 1) := by decide +kernel
theorem dX0_cutValue_32 : decode cX0_cutValue 32 = .ok (.iload 4, 2) := by decide +kernel
theorem dX0_cutValue_34 : decode cX0_cutValue 34 = .ok (.invokestatic 83, 3) := by decide +kernel
theorem dX0_cutValue_37 : decode cX0_cutValue 37 = .ok (.if_icmp .eq 13, 3) := by decide +kernel
theorem dX0_cutValue_40 : decode cX0_cutValue 40 = .ok (.iload_n 2, 1) := by decide +kernel
theorem dX0_cutValue_41 : decode cX0_cutValue 41 = .ok (.aload_n 0, 1) := by decide +kernel
theorem dX0_cutValue_42 : decode cX0_cutValue 42 = .ok (.iload_n 3, 1) := by decide +kernel
theorem dX0_cutValue_43 : decode cX0_cutValue 43 = .ok (.iload 4, 2) := by decide +kernel
theorem dX0_cutValue_45 : decode cX0_cutValue 45 = .ok (.invokevirtual 87, 3) := by decide +kernel
theorem dX0_cutValue_48 : decode cX0_cutValue 48 = .ok (.iadd, 1) := by decide +kernel
theorem dX0_cutValue_49 : decode cX0_cutValue 49 = .ok (.istore_n 2, 1) := by decide +kernel
theorem dX0_cutValue_50 : decode cX0_cutValue 50 = .ok (.iinc 4 1, 3) := by decide +kernel
theorem dX0_cutValue_53 : decode cX0_cutValue 53 = .ok (.goto (-36), 3) := by decide +kernel
theorem dX0_cutValue_56 : decode cX0_cutValue 56 = .ok (.iinc 3 1, 3) := by decide +kernel
theorem dX0_cutValue_59 : decode cX0_cutValue 59 = .ok (.goto (-55), 3) := by decide +kernel
theorem dX0_cutValue_62 : decode cX0_cutValue 62 = .ok (.iload_n 2, 1) := by decide +kernel
theorem dX0_cutValue_63 : decode cX0_cutValue 63 = .ok (.ireturn, 1) := by decide +kernel
set_option maxRecDepth 20000 in
theorem ggX0_rankValue_X0_countOf : GoodIn wsX0_rankValue wsX0_countOf := goodIn_r _ [9, 10, 11, 12, 8, 13, 14, 15, 16, 17, 18, 19, 20, 21, 27, 28, 29, 30, 31, 32, 33, 34, 35, 36, 37, 38] (by decide +kernel) (by decide +kernel)
set_option maxRecDepth 20000 in
theorem gX0_rankValue_X0_countOf : GoodIn wsX0_rankValue (wsV RX0 210 RX0 yX0_countOf wsX0_countOf) := goodIn_app (goodIn_of _ (by decide +kernel)) ggX0_rankValue_X0_countOf
set_option maxRecDepth 20000 in
theorem ggX0_rankValue_X0_roomOf : GoodIn wsX0_rankValue wsX0_roomOf := goodIn_r _ [25, 26, 19, 20, 8, 21, 27, 28, 29, 30, 31, 32, 33, 34, 35, 36, 37, 38] (by decide +kernel) (by decide +kernel)
set_option maxRecDepth 20000 in
theorem gX0_rankValue_X0_roomOf : GoodIn wsX0_rankValue (wsV RX0 99 RX0 yX0_roomOf wsX0_roomOf) := goodIn_app (goodIn_of _ (by decide +kernel)) ggX0_rankValue_X0_roomOf
theorem dX0_rankValue_0 : decode cX0_rankValue 0 = .ok (.iconst 0, 1) := by decide +kernel
theorem dX0_rankValue_1 : decode cX0_rankValue 1 = .ok (.istore_n 3, 1) := by decide +kernel
theorem dX0_rankValue_2 : decode cX0_rankValue 2 = .ok (.iconst 0, 1) := by decide +kernel
theorem dX0_rankValue_3 : decode cX0_rankValue 3 = .ok (.istore 4, 2) := by decide +kernel
theorem dX0_rankValue_5 : decode cX0_rankValue 5 = .ok (.iload 4, 2) := by decide +kernel
theorem dX0_rankValue_7 : decode cX0_rankValue 7 = .ok (.bipush 6, 2) := by decide +kernel
theorem dX0_rankValue_9 : decode cX0_rankValue 9 = .ok (.if_icmp .ge 30, 3) := by decide +kernel
theorem dX0_rankValue_12 : decode cX0_rankValue 12 = .ok (.iload_n 3, 1) := by decide +kernel
theorem dX0_rankValue_13 : decode cX0_rankValue 13 = .ok (.aload_n 0, 1) := by decide +kernel
theorem dX0_rankValue_14 : decode cX0_rankValue 14 = .ok (.iload_n 1, 1) := by decide +kernel
theorem dX0_rankValue_15 : decode cX0_rankValue 15 = .ok (.iload 4, 2) := by decide +kernel
theorem dX0_rankValue_17 : decode cX0_rankValue 17 = .ok (.iload_n 2, 1) := by decide +kernel
theorem dX0_rankValue_18 : decode cX0_rankValue 18 = .ok (.invokevirtual 210, 3) := by decide +kernel
theorem dX0_rankValue_21 : decode cX0_rankValue 21 = .ok (.aload_n 0, 1) := by decide +kernel
theorem dX0_rankValue_22 : decode cX0_rankValue 22 = .ok (.iload_n 1, 1) := by decide +kernel
theorem dX0_rankValue_23 : decode cX0_rankValue 23 = .ok (.iload 4, 2) := by decide +kernel
theorem dX0_rankValue_25 : decode cX0_rankValue 25 = .ok (.invokevirtual 99, 3) := by decide +kernel
theorem dX0_rankValue_28 : decode cX0_rankValue 28 = .ok (.invokestatic 128, 3) := by decide +kernel
theorem dX0_rankValue_31 : decode cX0_rankValue 31 = .ok (.iadd, 1) := by decide +kernel
theorem dX0_rankValue_32 : decode cX0_rankValue 32 = .ok (.istore_n 3, 1) := by decide +kernel
theorem dX0_rankValue_33 : decode cX0_rankValue 33 = .ok (.iinc 4 1, 3) := by decide +kernel
theorem dX0_rankValue_36 : decode cX0_rankValue 36 = .ok (.goto (-31), 3) := by decide +kernel
theorem dX0_rankValue_39 : decode cX0_rankValue 39 = .ok (.iload_n 3, 1) := by decide +kernel
theorem dX0_rankValue_40 : decode cX0_rankValue 40 = .ok (.ireturn, 1) := by decide +kernel
set_option maxRecDepth 20000 in
theorem ggX0_weightsValue_X0_has : GoodIn wsX0_weightsValue wsX0_has := goodIn_r _ [6] (by decide +kernel) (by decide +kernel)
set_option maxRecDepth 20000 in
theorem gX0_weightsValue_X0_has : GoodIn wsX0_weightsValue (va_wsS RX0 83 yX0_has wsX0_has) := goodIn_app (goodIn_of _ (by decide +kernel)) ggX0_weightsValue_X0_has
set_option maxRecDepth 20000 in
theorem ggX0_weightsValue_X0_at : GoodIn wsX0_weightsValue wsX0_at := goodIn_r _ [9] (by decide +kernel) (by decide +kernel)
set_option maxRecDepth 20000 in
theorem gX0_weightsValue_X0_at : GoodIn wsX0_weightsValue (va_wsS RX0 68 yX0_at wsX0_at) := goodIn_app (goodIn_of _ (by decide +kernel)) ggX0_weightsValue_X0_at
theorem dX0_weightsValue_0 : decode cX0_weightsValue 0 = .ok (.iconst 0, 1) := by decide +kernel
theorem dX0_weightsValue_1 : decode cX0_weightsValue 1 = .ok (.istore_n 2, 1) := by decide +kernel
theorem dX0_weightsValue_2 : decode cX0_weightsValue 2 = .ok (.iconst 0, 1) := by decide +kernel
theorem dX0_weightsValue_3 : decode cX0_weightsValue 3 = .ok (.istore_n 3, 1) := by decide +kernel
theorem dX0_weightsValue_4 : decode cX0_weightsValue 4 = .ok (.iload_n 3, 1) := by decide +kernel
theorem dX0_weightsValue_5 : decode cX0_weightsValue 5 = .ok (.aload_n 0, 1) := by decide +kernel
theorem dX0_weightsValue_6 : decode cX0_weightsValue 6 = .ok (.getfield 9, 3) := by decide +kernel
theorem dX0_weightsValue_9 : decode cX0_weightsValue 9 = .ok (.if_icmp .ge 28, 3) := by decide +kernel
theorem dX0_weightsValue_12 : decode cX0_weightsValue 12 = .ok (.iload_n 1, 1) := by decide +kernel
theorem dX0_weightsValue_13 : decode cX0_weightsValue 13 = .ok (.iload_n 3, 1) := by decide +kernel
theorem dX0_weightsValue_14 : decode cX0_weightsValue 14 = .ok (.invokestatic 83, 3) := by decide +kernel
theorem dX0_weightsValue_17 : decode cX0_weightsValue 17 = .ok (.ifCond .eq 14, 3) := by decide +kernel
theorem dX0_weightsValue_20 : decode cX0_weightsValue 20 = .ok (.iload_n 2, 1) := by decide +kernel
theorem dX0_weightsValue_21 : decode cX0_weightsValue 21 = .ok (.aload_n 0, 1) := by decide +kernel
theorem dX0_weightsValue_22 : decode cX0_weightsValue 22 = .ok (.getfield 32, 3) := by decide +kernel
theorem dX0_weightsValue_25 : decode cX0_weightsValue 25 = .ok (.iload_n 3, 1) := by decide +kernel
theorem dX0_weightsValue_26 : decode cX0_weightsValue 26 = .ok (.invokestatic 68, 3) := by decide +kernel
theorem dX0_weightsValue_29 : decode cX0_weightsValue 29 = .ok (.iadd, 1) := by decide +kernel
theorem dX0_weightsValue_30 : decode cX0_weightsValue 30 = .ok (.istore_n 2, 1) := by decide +kernel
theorem dX0_weightsValue_31 : decode cX0_weightsValue 31 = .ok (.iinc 3 1, 3) := by decide +kernel
theorem dX0_weightsValue_34 : decode cX0_weightsValue 34 = .ok (.goto (-30), 3) := by decide +kernel
theorem dX0_weightsValue_37 : decode cX0_weightsValue 37 = .ok (.iload_n 2, 1) := by decide +kernel
theorem dX0_weightsValue_38 : decode cX0_weightsValue 38 = .ok (.ireturn, 1) := by decide +kernel
set_option maxRecDepth 20000 in
theorem ggX0_countOf_X0_has : GoodIn wsX0_countOf wsX0_has := goodIn_r _ [5] (by decide +kernel) (by decide +kernel)
set_option maxRecDepth 20000 in
theorem gX0_countOf_X0_has : GoodIn wsX0_countOf (va_wsS RX0 83 yX0_has wsX0_has) := goodIn_app (goodIn_of _ (by decide +kernel)) ggX0_countOf_X0_has
set_option maxRecDepth 20000 in
theorem ggX0_countOf_X0_colourOf : GoodIn wsX0_countOf wsX0_colourOf := goodIn_r _ [9, 10, 11, 12, 4, 13, 14, 15, 16, 17, 18, 19, 20, 21, 22, 23, 24, 25] (by decide +kernel) (by decide +kernel)
set_option maxRecDepth 20000 in
theorem gX0_countOf_X0_colourOf : GoodIn wsX0_countOf (wsV RX0 96 RX0 yX0_colourOf wsX0_colourOf) := goodIn_app (goodIn_of _ (by decide +kernel)) ggX0_countOf_X0_colourOf
theorem dX0_countOf_0 : decode cX0_countOf 0 = .ok (.iconst 0, 1) := by decide +kernel
theorem dX0_countOf_1 : decode cX0_countOf 1 = .ok (.istore 4, 2) := by decide +kernel
theorem dX0_countOf_3 : decode cX0_countOf 3 = .ok (.iconst 0, 1) := by decide +kernel
theorem dX0_countOf_4 : decode cX0_countOf 4 = .ok (.istore 5, 2) := by decide +kernel
theorem dX0_countOf_6 : decode cX0_countOf 6 = .ok (.iload 5, 2) := by decide +kernel
theorem dX0_countOf_8 : decode cX0_countOf 8 = .ok (.aload_n 0, 1) := by decide +kernel
theorem dX0_countOf_9 : decode cX0_countOf 9 = .ok (.getfield 9, 3) := by decide +kernel
theorem dX0_countOf_12 : decode cX0_countOf 12 = .ok (.if_icmp .ge 32, 3) := by decide +kernel
theorem dX0_countOf_15 : decode cX0_countOf 15 = .ok (.iload_n 3, 1) := by decide +kernel
theorem dX0_countOf_16 : decode cX0_countOf 16 = .ok (.iload 5, 2) := by decide +kernel
theorem dX0_countOf_18 : decode cX0_countOf 18 = .ok (.invokestatic 83, 3) := by decide +kernel
theorem dX0_countOf_21 : decode cX0_countOf 21 = .ok (.ifCond .eq 17, 3) := by decide +kernel
theorem dX0_countOf_24 : decode cX0_countOf 24 = .ok (.aload_n 0, 1) := by decide +kernel
theorem dX0_countOf_25 : decode cX0_countOf 25 = .ok (.iload_n 1, 1) := by decide +kernel
theorem dX0_countOf_26 : decode cX0_countOf 26 = .ok (.iload 5, 2) := by decide +kernel
theorem dX0_countOf_28 : decode cX0_countOf 28 = .ok (.invokevirtual 96, 3) := by decide +kernel
theorem dX0_countOf_31 : decode cX0_countOf 31 = .ok (.iload_n 2, 1) := by decide +kernel
theorem dX0_countOf_32 : decode cX0_countOf 32 = .ok (.if_icmp .ne 6, 3) := by decide +kernel
theorem dX0_countOf_35 : decode cX0_countOf 35 = .ok (.iinc 4 1, 3) := by decide +kernel
theorem dX0_countOf_38 : decode cX0_countOf 38 = .ok (.iinc 5 1, 3) := by decide +kernel
theorem dX0_countOf_41 : decode cX0_countOf 41 = .ok (.goto (-35), 3) := by decide +kernel
theorem dX0_countOf_44 : decode cX0_countOf 44 = .ok (.iload 4, 2) := by decide +kernel
theorem dX0_countOf_46 : decode cX0_countOf 46 = .ok (.ireturn, 1) := by decide +kernel
set_option maxRecDepth 20000 in
theorem ggX0_gain_X0_with : GoodIn wsX0_gain wsX0_with := goodIn_r _ [4] (by decide +kernel) (by decide +kernel)
set_option maxRecDepth 20000 in
theorem gX0_gain_X0_with : GoodIn wsX0_gain (va_wsS RX0 72 yX0_with wsX0_with) := goodIn_app (goodIn_of _ (by decide +kernel)) ggX0_gain_X0_with
set_option maxRecDepth 20000 in
theorem ggX0_gain_X0_valueOf : GoodIn wsX0_gain wsX0_valueOf := goodIn_r _ [8, 9, 10, 11, 3, 12, 13, 14, 15, 16, 17, 18, 19, 20, 21, 22, 23, 24] (by decide +kernel) (by decide +kernel)
set_option maxRecDepth 20000 in
theorem gX0_gain_X0_valueOf : GoodIn wsX0_gain (wsV RX0 122 RX0 yX0_valueOf wsX0_valueOf) := goodIn_app (goodIn_of _ (by decide +kernel)) ggX0_gain_X0_valueOf
theorem dX0_gain_0 : decode cX0_gain 0 = .ok (.aload_n 0, 1) := by decide +kernel
theorem dX0_gain_1 : decode cX0_gain 1 = .ok (.iload_n 1, 1) := by decide +kernel
theorem dX0_gain_2 : decode cX0_gain 2 = .ok (.iload_n 2, 1) := by decide +kernel
theorem dX0_gain_3 : decode cX0_gain 3 = .ok (.iload_n 3, 1) := by decide +kernel
theorem dX0_gain_4 : decode cX0_gain 4 = .ok (.invokestatic 72, 3) := by decide +kernel
theorem dX0_gain_7 : decode cX0_gain 7 = .ok (.invokevirtual 122, 3) := by decide +kernel
theorem dX0_gain_10 : decode cX0_gain 10 = .ok (.aload_n 0, 1) := by decide +kernel
theorem dX0_gain_11 : decode cX0_gain 11 = .ok (.iload_n 1, 1) := by decide +kernel
theorem dX0_gain_12 : decode cX0_gain 12 = .ok (.iload_n 2, 1) := by decide +kernel
theorem dX0_gain_13 : decode cX0_gain 13 = .ok (.invokevirtual 122, 3) := by decide +kernel
theorem dX0_gain_16 : decode cX0_gain 16 = .ok (.isub, 1) := by decide +kernel
theorem dX0_gain_17 : decode cX0_gain 17 = .ok (.ireturn, 1) := by decide +kernel
set_option maxRecDepth 20000 in
theorem ggX0_hasLaw_X0_sets : GoodIn wsX0_hasLaw wsX0_sets := goodIn_r _ [5, 6, 29, 30, 31, 32, 33, 34, 35, 36, 37, 38, 39, 40] (by decide +kernel) (by decide +kernel)
set_option maxRecDepth 20000 in
theorem gX0_hasLaw_X0_sets : GoodIn wsX0_hasLaw (wsV RX0 105 RX0 yX0_sets wsX0_sets) := goodIn_app (goodIn_of _ (by decide +kernel)) ggX0_hasLaw_X0_sets
set_option maxRecDepth 20000 in
theorem ggX0_hasLaw_X0_hasLawAbove : GoodIn wsX0_hasLaw wsX0_hasLawAbove := goodIn_r _ [10, 6, 11, 12, 4, 13, 14, 15, 16, 17, 18, 19, 20, 21, 22, 23, 24, 25, 26, 27, 28, 29, 30, 31, 32, 33, 34, 35, 36, 37, 38, 39, 40] (by decide +kernel) (by decide +kernel)
set_option maxRecDepth 20000 in
theorem gX0_hasLaw_X0_hasLawAbove : GoodIn wsX0_hasLaw (wsV RX0 213 RX0 yX0_hasLawAbove wsX0_hasLawAbove) := goodIn_app (goodIn_of _ (by decide +kernel)) ggX0_hasLaw_X0_hasLawAbove
theorem dX0_hasLaw_0 : decode cX0_hasLaw 0 = .ok (.iconst 0, 1) := by decide +kernel
theorem dX0_hasLaw_1 : decode cX0_hasLaw 1 = .ok (.istore_n 2, 1) := by decide +kernel
theorem dX0_hasLaw_2 : decode cX0_hasLaw 2 = .ok (.iload_n 2, 1) := by decide +kernel
theorem dX0_hasLaw_3 : decode cX0_hasLaw 3 = .ok (.aload_n 0, 1) := by decide +kernel
theorem dX0_hasLaw_4 : decode cX0_hasLaw 4 = .ok (.invokevirtual 105, 3) := by decide +kernel
theorem dX0_hasLaw_7 : decode cX0_hasLaw 7 = .ok (.if_icmp .ge 20, 3) := by decide +kernel
theorem dX0_hasLaw_10 : decode cX0_hasLaw 10 = .ok (.aload_n 0, 1) := by decide +kernel
theorem dX0_hasLaw_11 : decode cX0_hasLaw 11 = .ok (.iload_n 1, 1) := by decide +kernel
theorem dX0_hasLaw_12 : decode cX0_hasLaw 12 = .ok (.iload_n 2, 1) := by decide +kernel
theorem dX0_hasLaw_13 : decode cX0_hasLaw 13 = .ok (.invokevirtual 213, 3) := by decide +kernel
theorem dX0_hasLaw_16 : decode cX0_hasLaw 16 = .ok (.ifCond .ne 5, 3) := by decide +kernel
theorem dX0_hasLaw_19 : decode cX0_hasLaw 19 = .ok (.iconst 0, 1) := by decide +kernel
theorem dX0_hasLaw_20 : decode cX0_hasLaw 20 = .ok (.ireturn, 1) := by decide +kernel
theorem dX0_hasLaw_21 : decode cX0_hasLaw 21 = .ok (.iinc 2 1, 3) := by decide +kernel
theorem dX0_hasLaw_24 : decode cX0_hasLaw 24 = .ok (.goto (-22), 3) := by decide +kernel
theorem dX0_hasLaw_27 : decode cX0_hasLaw 27 = .ok (.iconst 1, 1) := by decide +kernel
theorem dX0_hasLaw_28 : decode cX0_hasLaw 28 = .ok (.ireturn, 1) := by decide +kernel
set_option maxRecDepth 20000 in
theorem ggX0_hasLawAbove_X0_has : GoodIn wsX0_hasLawAbove wsX0_has := goodIn_r _ [5] (by decide +kernel) (by decide +kernel)
set_option maxRecDepth 20000 in
theorem gX0_hasLawAbove_X0_has : GoodIn wsX0_hasLawAbove (va_wsS RX0 83 yX0_has wsX0_has) := goodIn_app (goodIn_of _ (by decide +kernel)) ggX0_hasLawAbove_X0_has
set_option maxRecDepth 20000 in
theorem ggX0_hasLawAbove_X0_gain : GoodIn wsX0_hasLawAbove wsX0_gain := goodIn_r _ [9, 10, 11, 4, 12, 13, 14, 15, 16, 17, 18, 19, 20, 21, 22, 23, 24, 25, 26, 27, 28, 29, 30, 31, 32] (by decide +kernel) (by decide +kernel)
set_option maxRecDepth 20000 in
theorem gX0_hasLawAbove_X0_gain : GoodIn wsX0_hasLawAbove (wsV RX0 136 RX0 yX0_gain wsX0_gain) := goodIn_app (goodIn_of _ (by decide +kernel)) ggX0_hasLawAbove_X0_gain
set_option maxRecDepth 20000 in
theorem ggX0_hasLawAbove_X0_with : GoodIn wsX0_hasLawAbove wsX0_with := goodIn_r _ [12] (by decide +kernel) (by decide +kernel)
set_option maxRecDepth 20000 in
theorem gX0_hasLawAbove_X0_with : GoodIn wsX0_hasLawAbove (va_wsS RX0 72 yX0_with wsX0_with) := goodIn_app (goodIn_of _ (by decide +kernel)) ggX0_hasLawAbove_X0_with
theorem dX0_hasLawAbove_0 : decode cX0_hasLawAbove 0 = .ok (.iconst 0, 1) := by decide +kernel
theorem dX0_hasLawAbove_1 : decode cX0_hasLawAbove 1 = .ok (.istore_n 3, 1) := by decide +kernel
theorem dX0_hasLawAbove_2 : decode cX0_hasLawAbove 2 = .ok (.iload_n 3, 1) := by decide +kernel
theorem dX0_hasLawAbove_3 : decode cX0_hasLawAbove 3 = .ok (.aload_n 0, 1) := by decide +kernel
theorem dX0_hasLawAbove_4 : decode cX0_hasLawAbove 4 = .ok (.getfield 9, 3) := by decide +kernel
theorem dX0_hasLawAbove_7 : decode cX0_hasLawAbove 7 = .ok (.if_icmp .ge 82, 3) := by decide +kernel
theorem dX0_hasLawAbove_10 : decode cX0_hasLawAbove 10 = .ok (.iload_n 3, 1) := by decide +kernel
theorem dX0_hasLawAbove_11 : decode cX0_hasLawAbove 11 = .ok (.iconst 1, 1) := by decide +kernel
theorem dX0_hasLawAbove_12 : decode cX0_hasLawAbove 12 = .ok (.iadd, 1) := by decide +kernel
theorem dX0_hasLawAbove_13 : decode cX0_hasLawAbove 13 = .ok (.istore 4, 2) := by decide +kernel
theorem dX0_hasLawAbove_15 : decode cX0_hasLawAbove 15 = .ok (.iload 4, 2) := by decide +kernel
theorem dX0_hasLawAbove_17 : decode cX0_hasLawAbove 17 = .ok (.aload_n 0, 1) := by decide +kernel
theorem dX0_hasLawAbove_18 : decode cX0_hasLawAbove 18 = .ok (.getfield 9, 3) := by decide +kernel
theorem dX0_hasLawAbove_21 : decode cX0_hasLawAbove 21 = .ok (.if_icmp .ge 62, 3) := by decide +kernel
theorem dX0_hasLawAbove_24 : decode cX0_hasLawAbove 24 = .ok (.iload_n 2, 1) := by decide +kernel
theorem dX0_hasLawAbove_25 : decode cX0_hasLawAbove 25 = .ok (.iload_n 3, 1) := by decide +kernel
theorem dX0_hasLawAbove_26 : decode cX0_hasLawAbove 26 = .ok (.invokestatic 83, 3) := by decide +kernel
theorem dX0_hasLawAbove_29 : decode cX0_hasLawAbove 29 = .ok (.ifCond .ne 16, 3) := by decide +kernel
theorem dX0_hasLawAbove_32 : decode cX0_hasLawAbove 32 = .ok (.iload_n 2, 1) := by decide +kernel
theorem dX0_hasLawAbove_33 : decode cX0_hasLawAbove 33 = .ok (.iload 4, 2) := by decide +kernel
theorem dX0_hasLawAbove_35 : decode cX0_hasLawAbove 35 = .ok (.invokestatic 83, 3) := by decide +kernel
theorem dX0_hasLawAbove_38 : decode cX0_hasLawAbove 38 = .ok (.ifCond .ne 7, 3) := by decide +kernel
theorem dX0_hasLawAbove_41 : decode cX0_hasLawAbove 41 = .ok (.iconst 1, 1) := by decide +kernel
theorem dX0_hasLawAbove_42 : decode cX0_hasLawAbove 42 = .ok (.goto 4, 3) := by decide +kernel
theorem dX0_hasLawAbove_45 : decode cX0_hasLawAbove 45 = .ok (.iconst 0, 1) := by decide +kernel
theorem dX0_hasLawAbove_46 : decode cX0_hasLawAbove 46 = .ok (.istore 5, 2) := by decide +kernel
theorem dX0_hasLawAbove_48 : decode cX0_hasLawAbove 48 = .ok (.iload 5, 2) := by decide +kernel
theorem dX0_hasLawAbove_50 : decode cX0_hasLawAbove 50 = .ok (.ifCond .eq 27, 3) := by decide +kernel
theorem dX0_hasLawAbove_53 : decode cX0_hasLawAbove 53 = .ok (.aload_n 0, 1) := by decide +kernel
theorem dX0_hasLawAbove_54 : decode cX0_hasLawAbove 54 = .ok (.iload_n 1, 1) := by decide +kernel
theorem dX0_hasLawAbove_55 : decode cX0_hasLawAbove 55 = .ok (.iload_n 2, 1) := by decide +kernel
theorem dX0_hasLawAbove_56 : decode cX0_hasLawAbove 56 = .ok (.iload_n 3, 1) := by decide +kernel
theorem dX0_hasLawAbove_57 : decode cX0_hasLawAbove 57 = .ok (.invokevirtual 136, 3) := by decide +kernel
theorem dX0_hasLawAbove_60 : decode cX0_hasLawAbove 60 = .ok (.aload_n 0, 1) := by decide +kernel
theorem dX0_hasLawAbove_61 : decode cX0_hasLawAbove 61 = .ok (.iload_n 1, 1) := by decide +kernel
theorem dX0_hasLawAbove_62 : decode cX0_hasLawAbove 62 = .ok (.iload_n 2, 1) := by decide +kernel
theorem dX0_hasLawAbove_63 : decode cX0_hasLawAbove 63 = .ok (.iload 4, 2) := by decide +kernel
theorem dX0_hasLawAbove_65 : decode cX0_hasLawAbove 65 = .ok (.invokestatic 72, 3) := by decide +kernel
theorem dX0_hasLawAbove_68 : decode cX0_hasLawAbove 68 = .ok (.iload_n 3, 1) := by decide +kernel
theorem dX0_hasLawAbove_69 : decode cX0_hasLawAbove 69 = .ok (.invokevirtual 136, 3) := by decide +kernel
theorem dX0_hasLawAbove_72 : decode cX0_hasLawAbove 72 = .ok (.if_icmp .ge 5, 3) := by decide +kernel
theorem dX0_hasLawAbove_75 : decode cX0_hasLawAbove 75 = .ok (.iconst 0, 1) := by decide +kernel
theorem dX0_hasLawAbove_76 : decode cX0_hasLawAbove 76 = .ok (.ireturn, 1) := by decide +kernel
theorem dX0_hasLawAbove_77 : decode cX0_hasLawAbove 77 = .ok (.iinc 4 1, 3) := by decide +kernel
theorem dX0_hasLawAbove_80 : decode cX0_hasLawAbove 80 = .ok (.goto (-65), 3) := by decide +kernel
theorem dX0_hasLawAbove_83 : decode cX0_hasLawAbove 83 = .ok (.iinc 3 1, 3) := by decide +kernel
theorem dX0_hasLawAbove_86 : decode cX0_hasLawAbove 86 = .ok (.goto (-84), 3) := by decide +kernel
theorem dX0_hasLawAbove_89 : decode cX0_hasLawAbove 89 = .ok (.iconst 1, 1) := by decide +kernel
theorem dX0_hasLawAbove_90 : decode cX0_hasLawAbove 90 = .ok (.ireturn, 1) := by decide +kernel
set_option maxRecDepth 20000 in
theorem ggX0_leastBetween_X0_takenIn : GoodIn wsX0_leastBetween wsX0_takenIn := goodIn_r _ [6, 1, 7, 8, 5, 9, 10, 11, 12, 13, 14, 15, 16, 17, 18, 19, 20, 21, 22, 23, 24, 39, 40, 41, 42, 43, 44, 45, 46, 47, 48, 49, 50] (by decide +kernel) (by decide +kernel)
set_option maxRecDepth 20000 in
theorem gX0_leastBetween_X0_takenIn : GoodIn wsX0_leastBetween (wsV RX0 216 RX0 yX0_takenIn wsX0_takenIn) := goodIn_app (goodIn_of _ (by decide +kernel)) ggX0_leastBetween_X0_takenIn
set_option maxRecDepth 20000 in
theorem ggX0_leastBetween_X0_takenOut : GoodIn wsX0_leastBetween wsX0_takenOut := goodIn_r _ [28, 1, 7, 8, 5, 9, 29, 30, 31, 10, 11, 12, 13, 14, 15, 16, 17, 18, 19, 20, 21, 22, 23, 24, 39, 40, 41, 42, 43, 44, 45, 46, 47, 48, 49, 50] (by decide +kernel) (by decide +kernel)
set_option maxRecDepth 20000 in
theorem gX0_leastBetween_X0_takenOut : GoodIn wsX0_leastBetween (wsV RX0 220 RX0 yX0_takenOut wsX0_takenOut) := goodIn_app (goodIn_of _ (by decide +kernel)) ggX0_leastBetween_X0_takenOut
set_option maxRecDepth 20000 in
theorem ggX0_leastBetween_X0_lowest : GoodIn wsX0_leastBetween wsX0_lowest := goodIn_r _ [35, 1, 7, 8, 5, 9, 39, 40, 41, 42, 43, 44, 45, 46, 47, 48, 49, 50] (by decide +kernel) (by decide +kernel)
set_option maxRecDepth 20000 in
theorem gX0_leastBetween_X0_lowest : GoodIn wsX0_leastBetween (wsV RX0 223 RX0 yX0_lowest wsX0_lowest) := goodIn_app (goodIn_of _ (by decide +kernel)) ggX0_leastBetween_X0_lowest
set_option maxRecDepth 20000 in
theorem ggX0_leastBetween_X0_with : GoodIn wsX0_leastBetween wsX0_with := goodIn_r _ [16] (by decide +kernel) (by decide +kernel)
set_option maxRecDepth 20000 in
theorem gX0_leastBetween_X0_with : GoodIn wsX0_leastBetween (va_wsS RX0 72 yX0_with wsX0_with) := goodIn_app (goodIn_of _ (by decide +kernel)) ggX0_leastBetween_X0_with
set_option maxRecDepth 20000 in
theorem ggX0_leastBetween_X0_leastBetween : GoodIn wsX0_leastBetween wsX0_leastBetween := goodIn_r _ [0, 1, 2, 3, 4, 5, 6, 7, 8, 9, 10, 11, 12, 13, 14, 15, 16, 17, 18, 19, 20, 21, 22, 23, 24, 25, 26, 27, 28, 29, 30, 31, 32, 33, 34, 35, 36, 37, 38, 39, 40, 41, 42, 43, 44, 45, 46, 47, 48, 49, 50] (by decide +kernel) (by decide +kernel)
set_option maxRecDepth 20000 in
theorem gX0_leastBetween_X0_leastBetween : GoodIn wsX0_leastBetween (wsV RX0 143 RX0 yX0_leastBetween wsX0_leastBetween) := goodIn_app (goodIn_of _ (by decide +kernel)) ggX0_leastBetween_X0_leastBetween
set_option maxRecDepth 20000 in
theorem ggX0_leastBetween_X0_without : GoodIn wsX0_leastBetween wsX0_without := goodIn_r _ [31] (by decide +kernel) (by decide +kernel)
set_option maxRecDepth 20000 in
theorem gX0_leastBetween_X0_without : GoodIn wsX0_leastBetween (va_wsS RX0 76 yX0_without wsX0_without) := goodIn_app (goodIn_of _ (by decide +kernel)) ggX0_leastBetween_X0_without
set_option maxRecDepth 20000 in
theorem ggX0_leastBetween_X0_valueOf : GoodIn wsX0_leastBetween wsX0_valueOf := goodIn_r _ [20, 21, 22, 23, 5, 24, 39, 40, 41, 42, 43, 44, 45, 46, 47, 48, 49, 50] (by decide +kernel) (by decide +kernel)
set_option maxRecDepth 20000 in
theorem gX0_leastBetween_X0_valueOf : GoodIn wsX0_leastBetween (wsV RX0 122 RX0 yX0_valueOf wsX0_valueOf) := goodIn_app (goodIn_of _ (by decide +kernel)) ggX0_leastBetween_X0_valueOf
theorem dX0_leastBetween_0 : decode cX0_leastBetween 0 = .ok (.iload_n 2, 1) := by decide +kernel
theorem dX0_leastBetween_1 : decode cX0_leastBetween 1 = .ok (.istore 6, 2) := by decide +kernel
theorem dX0_leastBetween_3 : decode cX0_leastBetween 3 = .ok (.iload_n 3, 1) := by decide +kernel
theorem dX0_leastBetween_4 : decode cX0_leastBetween 4 = .ok (.istore 7, 2) := by decide +kernel
theorem dX0_leastBetween_6 : decode cX0_leastBetween 6 = .ok (.iconst 0, 1) := by decide +kernel
theorem dX0_leastBetween_7 : decode cX0_leastBetween 7 = .ok (.istore 8, 2) := by decide +kernel
theorem dX0_leastBetween_9 : decode cX0_leastBetween 9 = .ok (.iload 8, 2) := by decide +kernel
theorem dX0_leastBetween_11 : decode cX0_leastBetween 11 = .ok (.aload_n 0, 1) := by decide +kernel
theorem dX0_leastBetween_12 : decode cX0_leastBetween 12 = .ok (.getfield 9, 3) := by decide +kernel
theorem dX0_leastBetween_15 : decode cX0_leastBetween 15 = .ok (.if_icmp .ge 60, 3) := by decide +kernel
theorem dX0_leastBetween_18 : decode cX0_leastBetween 18 = .ok (.aload_n 0, 1) := by decide +kernel
theorem dX0_leastBetween_19 : decode cX0_leastBetween 19 = .ok (.iload_n 1, 1) := by decide +kernel
theorem dX0_leastBetween_20 : decode cX0_leastBetween 20 = .ok (.iload 6, 2) := by decide +kernel
theorem dX0_leastBetween_22 : decode cX0_leastBetween 22 = .ok (.iload 7, 2) := by decide +kernel
theorem dX0_leastBetween_24 : decode cX0_leastBetween 24 = .ok (.iload 4, 2) := by decide +kernel
theorem dX0_leastBetween_26 : decode cX0_leastBetween 26 = .ok (.invokevirtual 216, 3) := by decide +kernel
theorem dX0_leastBetween_29 : decode cX0_leastBetween 29 = .ok (.istore 9, 2) := by decide +kernel
theorem dX0_leastBetween_31 : decode cX0_leastBetween 31 = .ok (.aload_n 0, 1) := by decide +kernel
theorem dX0_leastBetween_32 : decode cX0_leastBetween 32 = .ok (.iload_n 1, 1) := by decide +kernel
theorem dX0_leastBetween_33 : decode cX0_leastBetween 33 = .ok (.iload 9, 2) := by decide +kernel
theorem dX0_leastBetween_35 : decode cX0_leastBetween 35 = .ok (.iload 7, 2) := by decide +kernel
theorem dX0_leastBetween_37 : decode cX0_leastBetween 37 = .ok (.iload 4, 2) := by decide +kernel
theorem dX0_leastBetween_39 : decode cX0_leastBetween 39 = .ok (.invokevirtual 220, 3) := by decide +kernel
theorem dX0_leastBetween_42 : decode cX0_leastBetween 42 = .ok (.istore 10, 2) := by decide +kernel
theorem dX0_leastBetween_44 : decode cX0_leastBetween 44 = .ok (.iload 9, 2) := by decide +kernel
theorem dX0_leastBetween_46 : decode cX0_leastBetween 46 = .ok (.iload 6, 2) := by decide +kernel
theorem dX0_leastBetween_48 : decode cX0_leastBetween 48 = .ok (.if_icmp .ne 13, 3) := by decide +kernel
theorem dX0_leastBetween_51 : decode cX0_leastBetween 51 = .ok (.iload 10, 2) := by decide +kernel
theorem dX0_leastBetween_53 : decode cX0_leastBetween 53 = .ok (.iload 7, 2) := by decide +kernel
theorem dX0_leastBetween_55 : decode cX0_leastBetween 55 = .ok (.if_icmp .ne 6, 3) := by decide +kernel
theorem dX0_leastBetween_58 : decode cX0_leastBetween 58 = .ok (.goto 17, 3) := by decide +kernel
theorem dX0_leastBetween_61 : decode cX0_leastBetween 61 = .ok (.iload 9, 2) := by decide +kernel
theorem dX0_leastBetween_63 : decode cX0_leastBetween 63 = .ok (.istore 6, 2) := by decide +kernel
theorem dX0_leastBetween_65 : decode cX0_leastBetween 65 = .ok (.iload 10, 2) := by decide +kernel
theorem dX0_leastBetween_67 : decode cX0_leastBetween 67 = .ok (.istore 7, 2) := by decide +kernel
theorem dX0_leastBetween_69 : decode cX0_leastBetween 69 = .ok (.iinc 8 1, 3) := by decide +kernel
theorem dX0_leastBetween_72 : decode cX0_leastBetween 72 = .ok (.goto (-63), 3) := by decide +kernel
theorem dX0_leastBetween_75 : decode cX0_leastBetween 75 = .ok (.aload_n 0, 1) := by decide +kernel
theorem dX0_leastBetween_76 : decode cX0_leastBetween 76 = .ok (.iload 7, 2) := by decide +kernel
theorem dX0_leastBetween_78 : decode cX0_leastBetween 78 = .ok (.iload 6, 2) := by decide +kernel
theorem dX0_leastBetween_80 : decode cX0_leastBetween 80 = .ok (.iconst (-1), 1) := by decide +kernel
theorem dX0_leastBetween_81 : decode cX0_leastBetween 81 = .ok (.ixor, 1) := by decide +kernel
theorem dX0_leastBetween_82 : decode cX0_leastBetween 82 = .ok (.iand, 1) := by decide +kernel
theorem dX0_leastBetween_83 : decode cX0_leastBetween 83 = .ok (.invokevirtual 223, 3) := by decide +kernel
theorem dX0_leastBetween_86 : decode cX0_leastBetween 86 = .ok (.istore 8, 2) := by decide +kernel
theorem dX0_leastBetween_88 : decode cX0_leastBetween 88 = .ok (.iload 8, 2) := by decide +kernel
theorem dX0_leastBetween_90 : decode cX0_leastBetween 90 = .ok (.iconst (-1), 1) := by decide +kernel
theorem dX0_leastBetween_91 : decode cX0_leastBetween 91 = .ok (.if_icmp .eq 10, 3) := by decide +kernel
theorem dX0_leastBetween_94 : decode cX0_leastBetween 94 = .ok (.iload 5, 2) := by decide +kernel
theorem dX0_leastBetween_96 : decode cX0_leastBetween 96 = .ok (.bipush 6, 2) := by decide +kernel
theorem dX0_leastBetween_98 : decode cX0_leastBetween 98 = .ok (.if_icmp .lt 6, 3) := by decide +kernel
theorem dX0_leastBetween_101 : decode cX0_leastBetween 101 = .ok (.iload 6, 2) := by decide +kernel
theorem dX0_leastBetween_103 : decode cX0_leastBetween 103 = .ok (.ireturn, 1) := by decide +kernel
theorem dX0_leastBetween_104 : decode cX0_leastBetween 104 = .ok (.aload_n 0, 1) := by decide +kernel
theorem dX0_leastBetween_105 : decode cX0_leastBetween 105 = .ok (.iload_n 1, 1) := by decide +kernel
theorem dX0_leastBetween_106 : decode cX0_leastBetween 106 = .ok (.iload 6, 2) := by decide +kernel
theorem dX0_leastBetween_108 : decode cX0_leastBetween 108 = .ok (.iload 8, 2) := by decide +kernel
theorem dX0_leastBetween_110 : decode cX0_leastBetween 110 = .ok (.invokestatic 72, 3) := by decide +kernel
theorem dX0_leastBetween_113 : decode cX0_leastBetween 113 = .ok (.iload 7, 2) := by decide +kernel
theorem dX0_leastBetween_115 : decode cX0_leastBetween 115 = .ok (.iload 4, 2) := by decide +kernel
theorem dX0_leastBetween_117 : decode cX0_leastBetween 117 = .ok (.iload 5, 2) := by decide +kernel
theorem dX0_leastBetween_119 : decode cX0_leastBetween 119 = .ok (.iconst 1, 1) := by decide +kernel
theorem dX0_leastBetween_120 : decode cX0_leastBetween 120 = .ok (.iadd, 1) := by decide +kernel
theorem dX0_leastBetween_121 : decode cX0_leastBetween 121 = .ok (.invokevirtual 143, 3) := by decide +kernel
theorem dX0_leastBetween_124 : decode cX0_leastBetween 124 = .ok (.istore 9, 2) := by decide +kernel
theorem dX0_leastBetween_126 : decode cX0_leastBetween 126 = .ok (.aload_n 0, 1) := by decide +kernel
theorem dX0_leastBetween_127 : decode cX0_leastBetween 127 = .ok (.iload_n 1, 1) := by decide +kernel
theorem dX0_leastBetween_128 : decode cX0_leastBetween 128 = .ok (.iload 6, 2) := by decide +kernel
theorem dX0_leastBetween_130 : decode cX0_leastBetween 130 = .ok (.iload 7, 2) := by decide +kernel
theorem dX0_leastBetween_132 : decode cX0_leastBetween 132 = .ok (.iload 8, 2) := by decide +kernel
theorem dX0_leastBetween_134 : decode cX0_leastBetween 134 = .ok (.invokestatic 76, 3) := by decide +kernel
theorem dX0_leastBetween_137 : decode cX0_leastBetween 137 = .ok (.iload 4, 2) := by decide +kernel
theorem dX0_leastBetween_139 : decode cX0_leastBetween 139 = .ok (.iload 5, 2) := by decide +kernel
theorem dX0_leastBetween_141 : decode cX0_leastBetween 141 = .ok (.iconst 1, 1) := by decide +kernel
theorem dX0_leastBetween_142 : decode cX0_leastBetween 142 = .ok (.iadd, 1) := by decide +kernel
theorem dX0_leastBetween_143 : decode cX0_leastBetween 143 = .ok (.invokevirtual 143, 3) := by decide +kernel
theorem dX0_leastBetween_146 : decode cX0_leastBetween 146 = .ok (.istore 10, 2) := by decide +kernel
theorem dX0_leastBetween_148 : decode cX0_leastBetween 148 = .ok (.aload_n 0, 1) := by decide +kernel
theorem dX0_leastBetween_149 : decode cX0_leastBetween 149 = .ok (.iload_n 1, 1) := by decide +kernel
theorem dX0_leastBetween_150 : decode cX0_leastBetween 150 = .ok (.iload 9, 2) := by decide +kernel
theorem dX0_leastBetween_152 : decode cX0_leastBetween 152 = .ok (.invokevirtual 122, 3) := by decide +kernel
theorem dX0_leastBetween_155 : decode cX0_leastBetween 155 = .ok (.aload_n 0, 1) := by decide +kernel
theorem dX0_leastBetween_156 : decode cX0_leastBetween 156 = .ok (.iload_n 1, 1) := by decide +kernel
theorem dX0_leastBetween_157 : decode cX0_leastBetween 157 = .ok (.iload 10, 2) := by decide +kernel
theorem dX0_leastBetween_159 : decode cX0_leastBetween 159 = .ok (.invokevirtual 122, 3) := by decide +kernel
theorem dX0_leastBetween_162 : decode cX0_leastBetween 162 = .ok (.isub, 1) := by decide +kernel
theorem dX0_leastBetween_163 : decode cX0_leastBetween 163 = .ok (.istore 11, 2) := by decide +kernel
theorem dX0_leastBetween_165 : decode cX0_leastBetween 165 = .ok (.iload 11, 2) := by decide +kernel
theorem dX0_leastBetween_167 : decode cX0_leastBetween 167 = .ok (.ifCond .lt 13, 3) := by decide +kernel
theorem dX0_leastBetween_170 : decode cX0_leastBetween 170 = .ok (.iload 11, 2) := by decide +kernel
theorem dX0_leastBetween_172 : decode cX0_leastBetween 172 = .ok (.ifCond .ne 13, 3) := by decide +kernel
theorem dX0_leastBetween_175 : decode cX0_leastBetween 175 = .ok (.iload 4, 2) := by decide +kernel
theorem dX0_leastBetween_177 : decode cX0_leastBetween 177 = .ok (.ifCond .eq 8, 3) := by decide +kernel
theorem dX0_leastBetween_180 : decode cX0_leastBetween 180 = .ok (.iload 9, 2) := by decide +kernel
theorem dX0_leastBetween_182 : decode cX0_leastBetween 182 = .ok (.goto 5, 3) := by decide +kernel
theorem dX0_leastBetween_185 : decode cX0_leastBetween 185 = .ok (.iload 10, 2) := by decide +kernel
theorem dX0_leastBetween_187 : decode cX0_leastBetween 187 = .ok (.ireturn, 1) := by decide +kernel
set_option maxRecDepth 20000 in
theorem ggX0_takenIn_X0_has : GoodIn wsX0_takenIn wsX0_has := goodIn_r _ [5] (by decide +kernel) (by decide +kernel)
set_option maxRecDepth 20000 in
theorem gX0_takenIn_X0_has : GoodIn wsX0_takenIn (va_wsS RX0 83 yX0_has wsX0_has) := goodIn_app (goodIn_of _ (by decide +kernel)) ggX0_takenIn_X0_has
set_option maxRecDepth 20000 in
theorem ggX0_takenIn_X0_gain : GoodIn wsX0_takenIn wsX0_gain := goodIn_r _ [9, 10, 11, 4, 12, 13, 14, 15, 16, 17, 18, 19, 20, 21, 22, 23, 24, 25, 26, 27, 28, 29, 30, 31, 32] (by decide +kernel) (by decide +kernel)
set_option maxRecDepth 20000 in
theorem gX0_takenIn_X0_gain : GoodIn wsX0_takenIn (wsV RX0 136 RX0 yX0_gain wsX0_gain) := goodIn_app (goodIn_of _ (by decide +kernel)) ggX0_takenIn_X0_gain
set_option maxRecDepth 20000 in
theorem ggX0_takenIn_X0_with : GoodIn wsX0_takenIn wsX0_with := goodIn_r _ [12] (by decide +kernel) (by decide +kernel)
set_option maxRecDepth 20000 in
theorem gX0_takenIn_X0_with : GoodIn wsX0_takenIn (va_wsS RX0 72 yX0_with wsX0_with) := goodIn_app (goodIn_of _ (by decide +kernel)) ggX0_takenIn_X0_with
theorem dX0_takenIn_0 : decode cX0_takenIn 0 = .ok (.iload_n 2, 1) := by decide +kernel
theorem dX0_takenIn_1 : decode cX0_takenIn 1 = .ok (.istore 5, 2) := by decide +kernel
theorem dX0_takenIn_3 : decode cX0_takenIn 3 = .ok (.iconst 0, 1) := by decide +kernel
theorem dX0_takenIn_4 : decode cX0_takenIn 4 = .ok (.istore 6, 2) := by decide +kernel
theorem dX0_takenIn_6 : decode cX0_takenIn 6 = .ok (.iload 6, 2) := by decide +kernel
theorem dX0_takenIn_8 : decode cX0_takenIn 8 = .ok (.aload_n 0, 1) := by decide +kernel
theorem dX0_takenIn_9 : decode cX0_takenIn 9 = .ok (.getfield 9, 3) := by decide +kernel
theorem dX0_takenIn_12 : decode cX0_takenIn 12 = .ok (.if_icmp .ge 63, 3) := by decide +kernel
theorem dX0_takenIn_15 : decode cX0_takenIn 15 = .ok (.iload_n 3, 1) := by decide +kernel
theorem dX0_takenIn_16 : decode cX0_takenIn 16 = .ok (.iload 6, 2) := by decide +kernel
theorem dX0_takenIn_18 : decode cX0_takenIn 18 = .ok (.invokestatic 83, 3) := by decide +kernel
theorem dX0_takenIn_21 : decode cX0_takenIn 21 = .ok (.ifCond .eq 48, 3) := by decide +kernel
theorem dX0_takenIn_24 : decode cX0_takenIn 24 = .ok (.iload 5, 2) := by decide +kernel
theorem dX0_takenIn_26 : decode cX0_takenIn 26 = .ok (.iload 6, 2) := by decide +kernel
theorem dX0_takenIn_28 : decode cX0_takenIn 28 = .ok (.invokestatic 83, 3) := by decide +kernel
theorem dX0_takenIn_31 : decode cX0_takenIn 31 = .ok (.ifCond .ne 38, 3) := by decide +kernel
theorem dX0_takenIn_34 : decode cX0_takenIn 34 = .ok (.aload_n 0, 1) := by decide +kernel
theorem dX0_takenIn_35 : decode cX0_takenIn 35 = .ok (.iload_n 1, 1) := by decide +kernel
theorem dX0_takenIn_36 : decode cX0_takenIn 36 = .ok (.iload 5, 2) := by decide +kernel
theorem dX0_takenIn_38 : decode cX0_takenIn 38 = .ok (.iload 6, 2) := by decide +kernel
theorem dX0_takenIn_40 : decode cX0_takenIn 40 = .ok (.invokevirtual 136, 3) := by decide +kernel
theorem dX0_takenIn_43 : decode cX0_takenIn 43 = .ok (.istore 7, 2) := by decide +kernel
theorem dX0_takenIn_45 : decode cX0_takenIn 45 = .ok (.iload 7, 2) := by decide +kernel
theorem dX0_takenIn_47 : decode cX0_takenIn 47 = .ok (.ifCond .lt 13, 3) := by decide +kernel
theorem dX0_takenIn_50 : decode cX0_takenIn 50 = .ok (.iload 7, 2) := by decide +kernel
theorem dX0_takenIn_52 : decode cX0_takenIn 52 = .ok (.ifCond .ne 17, 3) := by decide +kernel
theorem dX0_takenIn_55 : decode cX0_takenIn 55 = .ok (.iload 4, 2) := by decide +kernel
theorem dX0_takenIn_57 : decode cX0_takenIn 57 = .ok (.ifCond .eq 12, 3) := by decide +kernel
theorem dX0_takenIn_60 : decode cX0_takenIn 60 = .ok (.iload 5, 2) := by decide +kernel
theorem dX0_takenIn_62 : decode cX0_takenIn 62 = .ok (.iload 6, 2) := by decide +kernel
theorem dX0_takenIn_64 : decode cX0_takenIn 64 = .ok (.invokestatic 72, 3) := by decide +kernel
theorem dX0_takenIn_67 : decode cX0_takenIn 67 = .ok (.istore 5, 2) := by decide +kernel
theorem dX0_takenIn_69 : decode cX0_takenIn 69 = .ok (.iinc 6 1, 3) := by decide +kernel
theorem dX0_takenIn_72 : decode cX0_takenIn 72 = .ok (.goto (-66), 3) := by decide +kernel
theorem dX0_takenIn_75 : decode cX0_takenIn 75 = .ok (.iload 5, 2) := by decide +kernel
theorem dX0_takenIn_77 : decode cX0_takenIn 77 = .ok (.ireturn, 1) := by decide +kernel
set_option maxRecDepth 20000 in
theorem ggX0_takenOut_X0_has : GoodIn wsX0_takenOut wsX0_has := goodIn_r _ [5] (by decide +kernel) (by decide +kernel)
set_option maxRecDepth 20000 in
theorem gX0_takenOut_X0_has : GoodIn wsX0_takenOut (va_wsS RX0 83 yX0_has wsX0_has) := goodIn_app (goodIn_of _ (by decide +kernel)) ggX0_takenOut_X0_has
set_option maxRecDepth 20000 in
theorem ggX0_takenOut_X0_without : GoodIn wsX0_takenOut wsX0_without := goodIn_r _ [8] (by decide +kernel) (by decide +kernel)
set_option maxRecDepth 20000 in
theorem gX0_takenOut_X0_without : GoodIn wsX0_takenOut (va_wsS RX0 76 yX0_without wsX0_without) := goodIn_app (goodIn_of _ (by decide +kernel)) ggX0_takenOut_X0_without
set_option maxRecDepth 20000 in
theorem ggX0_takenOut_X0_gain : GoodIn wsX0_takenOut wsX0_gain := goodIn_r _ [12, 13, 14, 4, 15, 16, 17, 18, 19, 20, 21, 22, 23, 24, 25, 26, 27, 28, 29, 30, 31, 32, 33, 34, 35] (by decide +kernel) (by decide +kernel)
set_option maxRecDepth 20000 in
theorem gX0_takenOut_X0_gain : GoodIn wsX0_takenOut (wsV RX0 136 RX0 yX0_gain wsX0_gain) := goodIn_app (goodIn_of _ (by decide +kernel)) ggX0_takenOut_X0_gain
theorem dX0_takenOut_0 : decode cX0_takenOut 0 = .ok (.iload_n 3, 1) := by decide +kernel
theorem dX0_takenOut_1 : decode cX0_takenOut 1 = .ok (.istore 5, 2) := by decide +kernel
theorem dX0_takenOut_3 : decode cX0_takenOut 3 = .ok (.iconst 0, 1) := by decide +kernel
theorem dX0_takenOut_4 : decode cX0_takenOut 4 = .ok (.istore 6, 2) := by decide +kernel
theorem dX0_takenOut_6 : decode cX0_takenOut 6 = .ok (.iload 6, 2) := by decide +kernel
theorem dX0_takenOut_8 : decode cX0_takenOut 8 = .ok (.aload_n 0, 1) := by decide +kernel
theorem dX0_takenOut_9 : decode cX0_takenOut 9 = .ok (.getfield 9, 3) := by decide +kernel
theorem dX0_takenOut_12 : decode cX0_takenOut 12 = .ok (.if_icmp .ge 68, 3) := by decide +kernel
theorem dX0_takenOut_15 : decode cX0_takenOut 15 = .ok (.iload 5, 2) := by decide +kernel
theorem dX0_takenOut_17 : decode cX0_takenOut 17 = .ok (.iload 6, 2) := by decide +kernel
theorem dX0_takenOut_19 : decode cX0_takenOut 19 = .ok (.invokestatic 83, 3) := by decide +kernel
theorem dX0_takenOut_22 : decode cX0_takenOut 22 = .ok (.ifCond .eq 52, 3) := by decide +kernel
theorem dX0_takenOut_25 : decode cX0_takenOut 25 = .ok (.iload_n 2, 1) := by decide +kernel
theorem dX0_takenOut_26 : decode cX0_takenOut 26 = .ok (.iload 6, 2) := by decide +kernel
theorem dX0_takenOut_28 : decode cX0_takenOut 28 = .ok (.invokestatic 83, 3) := by decide +kernel
theorem dX0_takenOut_31 : decode cX0_takenOut 31 = .ok (.ifCond .ne 43, 3) := by decide +kernel
theorem dX0_takenOut_34 : decode cX0_takenOut 34 = .ok (.aload_n 0, 1) := by decide +kernel
theorem dX0_takenOut_35 : decode cX0_takenOut 35 = .ok (.iload_n 1, 1) := by decide +kernel
theorem dX0_takenOut_36 : decode cX0_takenOut 36 = .ok (.iload 5, 2) := by decide +kernel
theorem dX0_takenOut_38 : decode cX0_takenOut 38 = .ok (.iload 6, 2) := by decide +kernel
theorem dX0_takenOut_40 : decode cX0_takenOut 40 = .ok (.invokestatic 76, 3) := by decide +kernel
theorem dX0_takenOut_43 : decode cX0_takenOut 43 = .ok (.iload 6, 2) := by decide +kernel
theorem dX0_takenOut_45 : decode cX0_takenOut 45 = .ok (.invokevirtual 136, 3) := by decide +kernel
theorem dX0_takenOut_48 : decode cX0_takenOut 48 = .ok (.istore 7, 2) := by decide +kernel
theorem dX0_takenOut_50 : decode cX0_takenOut 50 = .ok (.iload 7, 2) := by decide +kernel
theorem dX0_takenOut_52 : decode cX0_takenOut 52 = .ok (.ifCond .gt 13, 3) := by decide +kernel
theorem dX0_takenOut_55 : decode cX0_takenOut 55 = .ok (.iload 7, 2) := by decide +kernel
theorem dX0_takenOut_57 : decode cX0_takenOut 57 = .ok (.ifCond .ne 17, 3) := by decide +kernel
theorem dX0_takenOut_60 : decode cX0_takenOut 60 = .ok (.iload 4, 2) := by decide +kernel
theorem dX0_takenOut_62 : decode cX0_takenOut 62 = .ok (.ifCond .ne 12, 3) := by decide +kernel
theorem dX0_takenOut_65 : decode cX0_takenOut 65 = .ok (.iload 5, 2) := by decide +kernel
theorem dX0_takenOut_67 : decode cX0_takenOut 67 = .ok (.iload 6, 2) := by decide +kernel
theorem dX0_takenOut_69 : decode cX0_takenOut 69 = .ok (.invokestatic 76, 3) := by decide +kernel
theorem dX0_takenOut_72 : decode cX0_takenOut 72 = .ok (.istore 5, 2) := by decide +kernel
theorem dX0_takenOut_74 : decode cX0_takenOut 74 = .ok (.iinc 6 1, 3) := by decide +kernel
theorem dX0_takenOut_77 : decode cX0_takenOut 77 = .ok (.goto (-71), 3) := by decide +kernel
theorem dX0_takenOut_80 : decode cX0_takenOut 80 = .ok (.iload 5, 2) := by decide +kernel
theorem dX0_takenOut_82 : decode cX0_takenOut 82 = .ok (.ireturn, 1) := by decide +kernel
set_option maxRecDepth 20000 in
theorem ggX0_lowest_X0_has : GoodIn wsX0_lowest wsX0_has := goodIn_r _ [5] (by decide +kernel) (by decide +kernel)
set_option maxRecDepth 20000 in
theorem gX0_lowest_X0_has : GoodIn wsX0_lowest (va_wsS RX0 83 yX0_has wsX0_has) := goodIn_app (goodIn_of _ (by decide +kernel)) ggX0_lowest_X0_has
theorem dX0_lowest_0 : decode cX0_lowest 0 = .ok (.iconst 0, 1) := by decide +kernel
theorem dX0_lowest_1 : decode cX0_lowest 1 = .ok (.istore_n 2, 1) := by decide +kernel
theorem dX0_lowest_2 : decode cX0_lowest 2 = .ok (.iload_n 2, 1) := by decide +kernel
theorem dX0_lowest_3 : decode cX0_lowest 3 = .ok (.aload_n 0, 1) := by decide +kernel
theorem dX0_lowest_4 : decode cX0_lowest 4 = .ok (.getfield 9, 3) := by decide +kernel
theorem dX0_lowest_7 : decode cX0_lowest 7 = .ok (.if_icmp .ge 19, 3) := by decide +kernel
theorem dX0_lowest_10 : decode cX0_lowest 10 = .ok (.iload_n 1, 1) := by decide +kernel
theorem dX0_lowest_11 : decode cX0_lowest 11 = .ok (.iload_n 2, 1) := by decide +kernel
theorem dX0_lowest_12 : decode cX0_lowest 12 = .ok (.invokestatic 83, 3) := by decide +kernel
theorem dX0_lowest_15 : decode cX0_lowest 15 = .ok (.ifCond .eq 5, 3) := by decide +kernel
theorem dX0_lowest_18 : decode cX0_lowest 18 = .ok (.iload_n 2, 1) := by decide +kernel
theorem dX0_lowest_19 : decode cX0_lowest 19 = .ok (.ireturn, 1) := by decide +kernel
theorem dX0_lowest_20 : decode cX0_lowest 20 = .ok (.iinc 2 1, 3) := by decide +kernel
theorem dX0_lowest_23 : decode cX0_lowest 23 = .ok (.goto (-21), 3) := by decide +kernel
theorem dX0_lowest_26 : decode cX0_lowest 26 = .ok (.iconst (-1), 1) := by decide +kernel
theorem dX0_lowest_27 : decode cX0_lowest 27 = .ok (.ireturn, 1) := by decide +kernel
set_option maxRecDepth 20000 in
theorem ggX0_isTold_X0_at : GoodIn wsX0_isTold wsX0_at := goodIn_r _ [6] (by decide +kernel) (by decide +kernel)
set_option maxRecDepth 20000 in
theorem gX0_isTold_X0_at : GoodIn wsX0_isTold (va_wsS RX0 68 yX0_at wsX0_at) := goodIn_app (goodIn_of _ (by decide +kernel)) ggX0_isTold_X0_at
theorem dX0_isTold_0 : decode cX0_isTold 0 = .ok (.iconst 0, 1) := by decide +kernel
theorem dX0_isTold_1 : decode cX0_isTold 1 = .ok (.istore_n 2, 1) := by decide +kernel
theorem dX0_isTold_2 : decode cX0_isTold 2 = .ok (.iload_n 2, 1) := by decide +kernel
theorem dX0_isTold_3 : decode cX0_isTold 3 = .ok (.aload_n 0, 1) := by decide +kernel
theorem dX0_isTold_4 : decode cX0_isTold 4 = .ok (.getfield 16, 3) := by decide +kernel
theorem dX0_isTold_7 : decode cX0_isTold 7 = .ok (.if_icmp .ge 23, 3) := by decide +kernel
theorem dX0_isTold_10 : decode cX0_isTold 10 = .ok (.aload_n 0, 1) := by decide +kernel
theorem dX0_isTold_11 : decode cX0_isTold 11 = .ok (.getfield 38, 3) := by decide +kernel
theorem dX0_isTold_14 : decode cX0_isTold 14 = .ok (.iload_n 2, 1) := by decide +kernel
theorem dX0_isTold_15 : decode cX0_isTold 15 = .ok (.invokestatic 68, 3) := by decide +kernel
theorem dX0_isTold_18 : decode cX0_isTold 18 = .ok (.iload_n 1, 1) := by decide +kernel
theorem dX0_isTold_19 : decode cX0_isTold 19 = .ok (.if_icmp .ne 5, 3) := by decide +kernel
theorem dX0_isTold_22 : decode cX0_isTold 22 = .ok (.iconst 1, 1) := by decide +kernel
theorem dX0_isTold_23 : decode cX0_isTold 23 = .ok (.ireturn, 1) := by decide +kernel
theorem dX0_isTold_24 : decode cX0_isTold 24 = .ok (.iinc 2 1, 3) := by decide +kernel
theorem dX0_isTold_27 : decode cX0_isTold 27 = .ok (.goto (-25), 3) := by decide +kernel
theorem dX0_isTold_30 : decode cX0_isTold 30 = .ok (.iconst 0, 1) := by decide +kernel
theorem dX0_isTold_31 : decode cX0_isTold 31 = .ok (.ireturn, 1) := by decide +kernel
set_option maxRecDepth 20000 in
theorem ggX0_aheadOf_X0_at : GoodIn wsX0_aheadOf wsX0_at := goodIn_r _ [6] (by decide +kernel) (by decide +kernel)
set_option maxRecDepth 20000 in
theorem gX0_aheadOf_X0_at : GoodIn wsX0_aheadOf (va_wsS RX0 68 yX0_at wsX0_at) := goodIn_app (goodIn_of _ (by decide +kernel)) ggX0_aheadOf_X0_at
set_option maxRecDepth 20000 in
theorem ggX0_aheadOf_X0_with : GoodIn wsX0_aheadOf wsX0_with := goodIn_r _ [9] (by decide +kernel) (by decide +kernel)
set_option maxRecDepth 20000 in
theorem gX0_aheadOf_X0_with : GoodIn wsX0_aheadOf (va_wsS RX0 72 yX0_with wsX0_with) := goodIn_app (goodIn_of _ (by decide +kernel)) ggX0_aheadOf_X0_with
theorem dX0_aheadOf_0 : decode cX0_aheadOf 0 = .ok (.iconst 0, 1) := by decide +kernel
theorem dX0_aheadOf_1 : decode cX0_aheadOf 1 = .ok (.istore_n 2, 1) := by decide +kernel
theorem dX0_aheadOf_2 : decode cX0_aheadOf 2 = .ok (.iconst 0, 1) := by decide +kernel
theorem dX0_aheadOf_3 : decode cX0_aheadOf 3 = .ok (.istore_n 3, 1) := by decide +kernel
theorem dX0_aheadOf_4 : decode cX0_aheadOf 4 = .ok (.iload_n 3, 1) := by decide +kernel
theorem dX0_aheadOf_5 : decode cX0_aheadOf 5 = .ok (.aload_n 0, 1) := by decide +kernel
theorem dX0_aheadOf_6 : decode cX0_aheadOf 6 = .ok (.getfield 16, 3) := by decide +kernel
theorem dX0_aheadOf_9 : decode cX0_aheadOf 9 = .ok (.if_icmp .ge 34, 3) := by decide +kernel
theorem dX0_aheadOf_12 : decode cX0_aheadOf 12 = .ok (.aload_n 0, 1) := by decide +kernel
theorem dX0_aheadOf_13 : decode cX0_aheadOf 13 = .ok (.getfield 38, 3) := by decide +kernel
theorem dX0_aheadOf_16 : decode cX0_aheadOf 16 = .ok (.iload_n 3, 1) := by decide +kernel
theorem dX0_aheadOf_17 : decode cX0_aheadOf 17 = .ok (.invokestatic 68, 3) := by decide +kernel
theorem dX0_aheadOf_20 : decode cX0_aheadOf 20 = .ok (.istore 4, 2) := by decide +kernel
theorem dX0_aheadOf_22 : decode cX0_aheadOf 22 = .ok (.iload 4, 2) := by decide +kernel
theorem dX0_aheadOf_24 : decode cX0_aheadOf 24 = .ok (.iload_n 1, 1) := by decide +kernel
theorem dX0_aheadOf_25 : decode cX0_aheadOf 25 = .ok (.if_icmp .ne 5, 3) := by decide +kernel
theorem dX0_aheadOf_28 : decode cX0_aheadOf 28 = .ok (.iload_n 2, 1) := by decide +kernel
theorem dX0_aheadOf_29 : decode cX0_aheadOf 29 = .ok (.ireturn, 1) := by decide +kernel
theorem dX0_aheadOf_30 : decode cX0_aheadOf 30 = .ok (.iload_n 2, 1) := by decide +kernel
theorem dX0_aheadOf_31 : decode cX0_aheadOf 31 = .ok (.iload 4, 2) := by decide +kernel
theorem dX0_aheadOf_33 : decode cX0_aheadOf 33 = .ok (.invokestatic 72, 3) := by decide +kernel
theorem dX0_aheadOf_36 : decode cX0_aheadOf 36 = .ok (.istore_n 2, 1) := by decide +kernel
theorem dX0_aheadOf_37 : decode cX0_aheadOf 37 = .ok (.iinc 3 1, 3) := by decide +kernel
theorem dX0_aheadOf_40 : decode cX0_aheadOf 40 = .ok (.goto (-36), 3) := by decide +kernel
theorem dX0_aheadOf_43 : decode cX0_aheadOf 43 = .ok (.iload_n 2, 1) := by decide +kernel
theorem dX0_aheadOf_44 : decode cX0_aheadOf 44 = .ok (.ireturn, 1) := by decide +kernel
set_option maxRecDepth 20000 in
theorem ggX0_greediest_X0_gain : GoodIn wsX0_greediest wsX0_gain := goodIn_r _ [6, 7, 8, 5, 9, 10, 11, 12, 13, 14, 15, 16, 17, 18, 19, 20, 21, 22, 23, 24, 25, 26, 27, 28, 29] (by decide +kernel) (by decide +kernel)
set_option maxRecDepth 20000 in
theorem gX0_greediest_X0_gain : GoodIn wsX0_greediest (wsV RX0 136 RX0 yX0_gain wsX0_gain) := goodIn_app (goodIn_of _ (by decide +kernel)) ggX0_greediest_X0_gain
theorem dX0_greediest_0 : decode cX0_greediest 0 = .ok (.iconst (-1), 1) := by decide +kernel
theorem dX0_greediest_1 : decode cX0_greediest 1 = .ok (.istore_n 3, 1) := by decide +kernel
theorem dX0_greediest_2 : decode cX0_greediest 2 = .ok (.iconst 0, 1) := by decide +kernel
theorem dX0_greediest_3 : decode cX0_greediest 3 = .ok (.istore 4, 2) := by decide +kernel
theorem dX0_greediest_5 : decode cX0_greediest 5 = .ok (.iconst 0, 1) := by decide +kernel
theorem dX0_greediest_6 : decode cX0_greediest 6 = .ok (.istore 5, 2) := by decide +kernel
theorem dX0_greediest_8 : decode cX0_greediest 8 = .ok (.iload 5, 2) := by decide +kernel
theorem dX0_greediest_10 : decode cX0_greediest 10 = .ok (.aload_n 0, 1) := by decide +kernel
theorem dX0_greediest_11 : decode cX0_greediest 11 = .ok (.getfield 9, 3) := by decide +kernel
theorem dX0_greediest_14 : decode cX0_greediest 14 = .ok (.if_icmp .ge 33, 3) := by decide +kernel
theorem dX0_greediest_17 : decode cX0_greediest 17 = .ok (.aload_n 0, 1) := by decide +kernel
theorem dX0_greediest_18 : decode cX0_greediest 18 = .ok (.iload_n 1, 1) := by decide +kernel
theorem dX0_greediest_19 : decode cX0_greediest 19 = .ok (.iload_n 2, 1) := by decide +kernel
theorem dX0_greediest_20 : decode cX0_greediest 20 = .ok (.iload 5, 2) := by decide +kernel
theorem dX0_greediest_22 : decode cX0_greediest 22 = .ok (.invokevirtual 136, 3) := by decide +kernel
theorem dX0_greediest_25 : decode cX0_greediest 25 = .ok (.istore 6, 2) := by decide +kernel
theorem dX0_greediest_27 : decode cX0_greediest 27 = .ok (.iload 6, 2) := by decide +kernel
theorem dX0_greediest_29 : decode cX0_greediest 29 = .ok (.iload 4, 2) := by decide +kernel
theorem dX0_greediest_31 : decode cX0_greediest 31 = .ok (.if_icmp .le 10, 3) := by decide +kernel
theorem dX0_greediest_34 : decode cX0_greediest 34 = .ok (.iload 6, 2) := by decide +kernel
theorem dX0_greediest_36 : decode cX0_greediest 36 = .ok (.istore 4, 2) := by decide +kernel
theorem dX0_greediest_38 : decode cX0_greediest 38 = .ok (.iload 5, 2) := by decide +kernel
theorem dX0_greediest_40 : decode cX0_greediest 40 = .ok (.istore_n 3, 1) := by decide +kernel
theorem dX0_greediest_41 : decode cX0_greediest 41 = .ok (.iinc 5 1, 3) := by decide +kernel
theorem dX0_greediest_44 : decode cX0_greediest 44 = .ok (.goto (-36), 3) := by decide +kernel
theorem dX0_greediest_47 : decode cX0_greediest 47 = .ok (.iload_n 3, 1) := by decide +kernel
theorem dX0_greediest_48 : decode cX0_greediest 48 = .ok (.ireturn, 1) := by decide +kernel
set_option maxRecDepth 20000 in
theorem ggX0_isFair_X0_countOf : GoodIn wsX0_isFair wsX0_countOf := goodIn_r _ [5, 6, 7, 8, 4, 9, 10, 11, 12, 13, 14, 15, 16, 17, 23, 24, 25, 26, 27, 28, 29, 30, 31, 32, 33, 34] (by decide +kernel) (by decide +kernel)
set_option maxRecDepth 20000 in
theorem gX0_isFair_X0_countOf : GoodIn wsX0_isFair (wsV RX0 210 RX0 yX0_countOf wsX0_countOf) := goodIn_app (goodIn_of _ (by decide +kernel)) ggX0_isFair_X0_countOf
set_option maxRecDepth 20000 in
theorem ggX0_isFair_X0_roomOf : GoodIn wsX0_isFair wsX0_roomOf := goodIn_r _ [21, 22, 15, 16, 4, 17, 23, 24, 25, 26, 27, 28, 29, 30, 31, 32, 33, 34] (by decide +kernel) (by decide +kernel)
set_option maxRecDepth 20000 in
theorem gX0_isFair_X0_roomOf : GoodIn wsX0_isFair (wsV RX0 99 RX0 yX0_roomOf wsX0_roomOf) := goodIn_app (goodIn_of _ (by decide +kernel)) ggX0_isFair_X0_roomOf
theorem dX0_isFair_0 : decode cX0_isFair 0 = .ok (.iconst 0, 1) := by decide +kernel
theorem dX0_isFair_1 : decode cX0_isFair 1 = .ok (.istore_n 3, 1) := by decide +kernel
theorem dX0_isFair_2 : decode cX0_isFair 2 = .ok (.iload_n 3, 1) := by decide +kernel
theorem dX0_isFair_3 : decode cX0_isFair 3 = .ok (.bipush 6, 2) := by decide +kernel
theorem dX0_isFair_5 : decode cX0_isFair 5 = .ok (.if_icmp .ge 27, 3) := by decide +kernel
theorem dX0_isFair_8 : decode cX0_isFair 8 = .ok (.aload_n 0, 1) := by decide +kernel
theorem dX0_isFair_9 : decode cX0_isFair 9 = .ok (.iload_n 1, 1) := by decide +kernel
theorem dX0_isFair_10 : decode cX0_isFair 10 = .ok (.iload_n 3, 1) := by decide +kernel
theorem dX0_isFair_11 : decode cX0_isFair 11 = .ok (.iload_n 2, 1) := by decide +kernel
theorem dX0_isFair_12 : decode cX0_isFair 12 = .ok (.invokevirtual 210, 3) := by decide +kernel
theorem dX0_isFair_15 : decode cX0_isFair 15 = .ok (.aload_n 0, 1) := by decide +kernel
theorem dX0_isFair_16 : decode cX0_isFair 16 = .ok (.iload_n 1, 1) := by decide +kernel
theorem dX0_isFair_17 : decode cX0_isFair 17 = .ok (.iload_n 3, 1) := by decide +kernel
theorem dX0_isFair_18 : decode cX0_isFair 18 = .ok (.invokevirtual 99, 3) := by decide +kernel
theorem dX0_isFair_21 : decode cX0_isFair 21 = .ok (.if_icmp .le 5, 3) := by decide +kernel
theorem dX0_isFair_24 : decode cX0_isFair 24 = .ok (.iconst 0, 1) := by decide +kernel
theorem dX0_isFair_25 : decode cX0_isFair 25 = .ok (.ireturn, 1) := by decide +kernel
theorem dX0_isFair_26 : decode cX0_isFair 26 = .ok (.iinc 3 1, 3) := by decide +kernel
theorem dX0_isFair_29 : decode cX0_isFair 29 = .ok (.goto (-27), 3) := by decide +kernel
theorem dX0_isFair_32 : decode cX0_isFair 32 = .ok (.iconst 1, 1) := by decide +kernel
theorem dX0_isFair_33 : decode cX0_isFair 33 = .ok (.ireturn, 1) := by decide +kernel
set_option maxRecDepth 20000 in
theorem ggX0_hasRoom_X0_colourOf : GoodIn wsX0_hasRoom wsX0_colourOf := goodIn_r _ [5, 6, 7, 8, 4, 9, 23, 24, 25, 26, 27, 28, 29, 30, 31, 32, 33, 34] (by decide +kernel) (by decide +kernel)
set_option maxRecDepth 20000 in
theorem gX0_hasRoom_X0_colourOf : GoodIn wsX0_hasRoom (wsV RX0 96 RX0 yX0_colourOf wsX0_colourOf) := goodIn_app (goodIn_of _ (by decide +kernel)) ggX0_hasRoom_X0_colourOf
set_option maxRecDepth 20000 in
theorem ggX0_hasRoom_X0_has : GoodIn wsX0_hasRoom wsX0_has := goodIn_r _ [12] (by decide +kernel) (by decide +kernel)
set_option maxRecDepth 20000 in
theorem gX0_hasRoom_X0_has : GoodIn wsX0_hasRoom (va_wsS RX0 83 yX0_has wsX0_has) := goodIn_app (goodIn_of _ (by decide +kernel)) ggX0_hasRoom_X0_has
set_option maxRecDepth 20000 in
theorem ggX0_hasRoom_X0_countOf : GoodIn wsX0_hasRoom wsX0_countOf := goodIn_r _ [16, 17, 10, 11, 4, 12, 1, 2, 3, 5, 6, 7, 8, 9, 23, 24, 25, 26, 27, 28, 29, 30, 31, 32, 33, 34] (by decide +kernel) (by decide +kernel)
set_option maxRecDepth 20000 in
theorem gX0_hasRoom_X0_countOf : GoodIn wsX0_hasRoom (wsV RX0 210 RX0 yX0_countOf wsX0_countOf) := goodIn_app (goodIn_of _ (by decide +kernel)) ggX0_hasRoom_X0_countOf
set_option maxRecDepth 20000 in
theorem ggX0_hasRoom_X0_roomOf : GoodIn wsX0_hasRoom wsX0_roomOf := goodIn_r _ [21, 22, 7, 8, 4, 9, 23, 24, 25, 26, 27, 28, 29, 30, 31, 32, 33, 34] (by decide +kernel) (by decide +kernel)
set_option maxRecDepth 20000 in
theorem gX0_hasRoom_X0_roomOf : GoodIn wsX0_hasRoom (wsV RX0 99 RX0 yX0_roomOf wsX0_roomOf) := goodIn_app (goodIn_of _ (by decide +kernel)) ggX0_hasRoom_X0_roomOf
theorem dX0_hasRoom_0 : decode cX0_hasRoom 0 = .ok (.aload_n 0, 1) := by decide +kernel
theorem dX0_hasRoom_1 : decode cX0_hasRoom 1 = .ok (.iload_n 1, 1) := by decide +kernel
theorem dX0_hasRoom_2 : decode cX0_hasRoom 2 = .ok (.iload_n 2, 1) := by decide +kernel
theorem dX0_hasRoom_3 : decode cX0_hasRoom 3 = .ok (.invokevirtual 96, 3) := by decide +kernel
theorem dX0_hasRoom_6 : decode cX0_hasRoom 6 = .ok (.istore 4, 2) := by decide +kernel
theorem dX0_hasRoom_8 : decode cX0_hasRoom 8 = .ok (.iload_n 3, 1) := by decide +kernel
theorem dX0_hasRoom_9 : decode cX0_hasRoom 9 = .ok (.iload_n 2, 1) := by decide +kernel
theorem dX0_hasRoom_10 : decode cX0_hasRoom 10 = .ok (.invokestatic 83, 3) := by decide +kernel
theorem dX0_hasRoom_13 : decode cX0_hasRoom 13 = .ok (.ifCond .ne 25, 3) := by decide +kernel
theorem dX0_hasRoom_16 : decode cX0_hasRoom 16 = .ok (.aload_n 0, 1) := by decide +kernel
theorem dX0_hasRoom_17 : decode cX0_hasRoom 17 = .ok (.iload_n 1, 1) := by decide +kernel
theorem dX0_hasRoom_18 : decode cX0_hasRoom 18 = .ok (.iload 4, 2) := by decide +kernel
theorem dX0_hasRoom_20 : decode cX0_hasRoom 20 = .ok (.iload_n 3, 1) := by decide +kernel
theorem dX0_hasRoom_21 : decode cX0_hasRoom 21 = .ok (.invokevirtual 210, 3) := by decide +kernel
theorem dX0_hasRoom_24 : decode cX0_hasRoom 24 = .ok (.aload_n 0, 1) := by decide +kernel
theorem dX0_hasRoom_25 : decode cX0_hasRoom 25 = .ok (.iload_n 1, 1) := by decide +kernel
theorem dX0_hasRoom_26 : decode cX0_hasRoom 26 = .ok (.iload 4, 2) := by decide +kernel
theorem dX0_hasRoom_28 : decode cX0_hasRoom 28 = .ok (.invokevirtual 99, 3) := by decide +kernel
theorem dX0_hasRoom_31 : decode cX0_hasRoom 31 = .ok (.if_icmp .ge 7, 3) := by decide +kernel
theorem dX0_hasRoom_34 : decode cX0_hasRoom 34 = .ok (.iconst 1, 1) := by decide +kernel
theorem dX0_hasRoom_35 : decode cX0_hasRoom 35 = .ok (.goto 4, 3) := by decide +kernel
theorem dX0_hasRoom_38 : decode cX0_hasRoom 38 = .ok (.iconst 0, 1) := by decide +kernel
theorem dX0_hasRoom_39 : decode cX0_hasRoom 39 = .ok (.ireturn, 1) := by decide +kernel
set_option maxRecDepth 20000 in
theorem ggX0_endOfPath_X0_reachFirst : GoodIn wsX0_endOfPath wsX0_reachFirst := goodIn_r _ [6, 7, 8, 1, 9, 10, 11, 12, 13, 14, 15, 5, 16, 17, 18, 19, 20, 21, 22, 23, 24, 25, 26, 27, 28, 29, 30, 31, 32, 33, 34, 35, 36, 37, 38, 39, 48, 49, 50, 51, 52, 53, 54, 55, 56, 57, 58, 59] (by decide +kernel) (by decide +kernel)
set_option maxRecDepth 20000 in
theorem gX0_endOfPath_X0_reachFirst : GoodIn wsX0_endOfPath (wsV RX0 226 RX0 yX0_reachFirst wsX0_reachFirst) := goodIn_app (goodIn_of _ (by decide +kernel)) ggX0_endOfPath_X0_reachFirst
set_option maxRecDepth 20000 in
theorem ggX0_endOfPath_X0_at : GoodIn wsX0_endOfPath wsX0_at := goodIn_r _ [24] (by decide +kernel) (by decide +kernel)
set_option maxRecDepth 20000 in
theorem gX0_endOfPath_X0_at : GoodIn wsX0_endOfPath (va_wsS RX0 68 yX0_at wsX0_at) := goodIn_app (goodIn_of _ (by decide +kernel)) ggX0_endOfPath_X0_at
set_option maxRecDepth 20000 in
theorem ggX0_endOfPath_X0_hasRoom : GoodIn wsX0_endOfPath wsX0_hasRoom := goodIn_r _ [16, 17, 18, 19, 5, 20, 21, 22, 23, 24, 25, 26, 27, 28, 29, 30, 31, 8, 32, 33, 34, 35, 36, 48, 49, 50, 51, 52, 53, 54, 55, 56, 57, 58, 59] (by decide +kernel) (by decide +kernel)
set_option maxRecDepth 20000 in
theorem gX0_endOfPath_X0_hasRoom : GoodIn wsX0_endOfPath (wsV RX0 229 RX0 yX0_hasRoom wsX0_hasRoom) := goodIn_app (goodIn_of _ (by decide +kernel)) ggX0_endOfPath_X0_hasRoom
set_option maxRecDepth 20000 in
theorem ggX0_endOfPath_X0_reachFrom : GoodIn wsX0_endOfPath wsX0_reachFrom := goodIn_r _ [43, 8, 7, 1, 22, 23, 5, 24, 44, 45, 46, 47, 25, 26, 27, 17, 18, 19, 20, 21, 37, 38, 39, 48, 49, 50, 51, 52, 53, 54, 55, 56, 57, 58, 59] (by decide +kernel) (by decide +kernel)
set_option maxRecDepth 20000 in
theorem gX0_endOfPath_X0_reachFrom : GoodIn wsX0_endOfPath (wsV RX0 232 RX0 yX0_reachFrom wsX0_reachFrom) := goodIn_app (goodIn_of _ (by decide +kernel)) ggX0_endOfPath_X0_reachFrom
theorem dX0_endOfPath_0 : decode cX0_endOfPath 0 = .ok (.aload_n 0, 1) := by decide +kernel
theorem dX0_endOfPath_1 : decode cX0_endOfPath 1 = .ok (.iload_n 1, 1) := by decide +kernel
theorem dX0_endOfPath_2 : decode cX0_endOfPath 2 = .ok (.invokevirtual 226, 3) := by decide +kernel
theorem dX0_endOfPath_5 : decode cX0_endOfPath 5 = .ok (.istore_n 2, 1) := by decide +kernel
theorem dX0_endOfPath_6 : decode cX0_endOfPath 6 = .ok (.iconst 0, 1) := by decide +kernel
theorem dX0_endOfPath_7 : decode cX0_endOfPath 7 = .ok (.istore_n 3, 1) := by decide +kernel
theorem dX0_endOfPath_8 : decode cX0_endOfPath 8 = .ok (.iload_n 3, 1) := by decide +kernel
theorem dX0_endOfPath_9 : decode cX0_endOfPath 9 = .ok (.iload_n 2, 1) := by decide +kernel
theorem dX0_endOfPath_10 : decode cX0_endOfPath 10 = .ok (.if_icmp .ge 48, 3) := by decide +kernel
theorem dX0_endOfPath_13 : decode cX0_endOfPath 13 = .ok (.iload_n 3, 1) := by decide +kernel
theorem dX0_endOfPath_14 : decode cX0_endOfPath 14 = .ok (.bipush 6, 2) := by decide +kernel
theorem dX0_endOfPath_16 : decode cX0_endOfPath 16 = .ok (.if_icmp .ge 42, 3) := by decide +kernel
theorem dX0_endOfPath_19 : decode cX0_endOfPath 19 = .ok (.aload_n 0, 1) := by decide +kernel
theorem dX0_endOfPath_20 : decode cX0_endOfPath 20 = .ok (.getfield 44, 3) := by decide +kernel
theorem dX0_endOfPath_23 : decode cX0_endOfPath 23 = .ok (.iload_n 3, 1) := by decide +kernel
theorem dX0_endOfPath_24 : decode cX0_endOfPath 24 = .ok (.invokestatic 68, 3) := by decide +kernel
theorem dX0_endOfPath_27 : decode cX0_endOfPath 27 = .ok (.istore 4, 2) := by decide +kernel
theorem dX0_endOfPath_29 : decode cX0_endOfPath 29 = .ok (.aload_n 0, 1) := by decide +kernel
theorem dX0_endOfPath_30 : decode cX0_endOfPath 30 = .ok (.iconst 1, 1) := by decide +kernel
theorem dX0_endOfPath_31 : decode cX0_endOfPath 31 = .ok (.iload 4, 2) := by decide +kernel
theorem dX0_endOfPath_33 : decode cX0_endOfPath 33 = .ok (.iload_n 1, 1) := by decide +kernel
theorem dX0_endOfPath_34 : decode cX0_endOfPath 34 = .ok (.invokevirtual 229, 3) := by decide +kernel
theorem dX0_endOfPath_37 : decode cX0_endOfPath 37 = .ok (.ifCond .eq 6, 3) := by decide +kernel
theorem dX0_endOfPath_40 : decode cX0_endOfPath 40 = .ok (.iload 4, 2) := by decide +kernel
theorem dX0_endOfPath_42 : decode cX0_endOfPath 42 = .ok (.ireturn, 1) := by decide +kernel
theorem dX0_endOfPath_43 : decode cX0_endOfPath 43 = .ok (.aload_n 0, 1) := by decide +kernel
theorem dX0_endOfPath_44 : decode cX0_endOfPath 44 = .ok (.iload 4, 2) := by decide +kernel
theorem dX0_endOfPath_46 : decode cX0_endOfPath 46 = .ok (.iload_n 1, 1) := by decide +kernel
theorem dX0_endOfPath_47 : decode cX0_endOfPath 47 = .ok (.iload_n 2, 1) := by decide +kernel
theorem dX0_endOfPath_48 : decode cX0_endOfPath 48 = .ok (.invokevirtual 232, 3) := by decide +kernel
theorem dX0_endOfPath_51 : decode cX0_endOfPath 51 = .ok (.istore_n 2, 1) := by decide +kernel
theorem dX0_endOfPath_52 : decode cX0_endOfPath 52 = .ok (.iinc 3 1, 3) := by decide +kernel
theorem dX0_endOfPath_55 : decode cX0_endOfPath 55 = .ok (.goto (-47), 3) := by decide +kernel
theorem dX0_endOfPath_58 : decode cX0_endOfPath 58 = .ok (.iconst (-1), 1) := by decide +kernel
theorem dX0_endOfPath_59 : decode cX0_endOfPath 59 = .ok (.ireturn, 1) := by decide +kernel
set_option maxRecDepth 20000 in
theorem ggX0_reachFirst_J7_fill_53178 : GoodIn wsX0_reachFirst wsJ7_fill_53178 := goodIn_r _ [7] (by decide +kernel) (by decide +kernel)
set_option maxRecDepth 20000 in
theorem gX0_reachFirst_J7_fill_53178 : GoodIn wsX0_reachFirst (va_wsS RX0 47 yJ7_fill_53178 wsJ7_fill_53178) := goodIn_app (goodIn_of _ (by decide +kernel)) ggX0_reachFirst_J7_fill_53178
set_option maxRecDepth 20000 in
theorem ggX0_reachFirst_X0_hasRoom : GoodIn wsX0_reachFirst wsX0_hasRoom := goodIn_r _ [12, 13, 14, 15, 11, 16, 17, 18, 19, 20, 21, 22, 23, 24, 25, 26, 27, 2, 28, 29, 30, 31, 32, 36, 37, 38, 39, 40, 41, 42, 43, 44, 45, 46, 47] (by decide +kernel) (by decide +kernel)
set_option maxRecDepth 20000 in
theorem gX0_reachFirst_X0_hasRoom : GoodIn wsX0_reachFirst (wsV RX0 229 RX0 yX0_hasRoom wsX0_hasRoom) := goodIn_app (goodIn_of _ (by decide +kernel)) ggX0_reachFirst_X0_hasRoom
set_option maxRecDepth 20000 in
theorem ggX0_reachFirst_X0_put : GoodIn wsX0_reachFirst wsX0_put := goodIn_r _ [35] (by decide +kernel) (by decide +kernel)
set_option maxRecDepth 20000 in
theorem gX0_reachFirst_X0_put : GoodIn wsX0_reachFirst (va_wsS RX0 79 yX0_put wsX0_put) := goodIn_app (goodIn_of _ (by decide +kernel)) ggX0_reachFirst_X0_put
theorem dX0_reachFirst_0 : decode cX0_reachFirst 0 = .ok (.iconst 0, 1) := by decide +kernel
theorem dX0_reachFirst_1 : decode cX0_reachFirst 1 = .ok (.istore_n 2, 1) := by decide +kernel
theorem dX0_reachFirst_2 : decode cX0_reachFirst 2 = .ok (.aload_n 0, 1) := by decide +kernel
theorem dX0_reachFirst_3 : decode cX0_reachFirst 3 = .ok (.getfield 41, 3) := by decide +kernel
theorem dX0_reachFirst_6 : decode cX0_reachFirst 6 = .ok (.bipush (-2), 2) := by decide +kernel
theorem dX0_reachFirst_8 : decode cX0_reachFirst 8 = .ok (.invokestatic 47, 3) := by decide +kernel
theorem dX0_reachFirst_11 : decode cX0_reachFirst 11 = .ok (.iconst 0, 1) := by decide +kernel
theorem dX0_reachFirst_12 : decode cX0_reachFirst 12 = .ok (.istore_n 3, 1) := by decide +kernel
theorem dX0_reachFirst_13 : decode cX0_reachFirst 13 = .ok (.iload_n 3, 1) := by decide +kernel
theorem dX0_reachFirst_14 : decode cX0_reachFirst 14 = .ok (.aload_n 0, 1) := by decide +kernel
theorem dX0_reachFirst_15 : decode cX0_reachFirst 15 = .ok (.getfield 9, 3) := by decide +kernel
theorem dX0_reachFirst_18 : decode cX0_reachFirst 18 = .ok (.if_icmp .ge 40, 3) := by decide +kernel
theorem dX0_reachFirst_21 : decode cX0_reachFirst 21 = .ok (.aload_n 0, 1) := by decide +kernel
theorem dX0_reachFirst_22 : decode cX0_reachFirst 22 = .ok (.iconst 0, 1) := by decide +kernel
theorem dX0_reachFirst_23 : decode cX0_reachFirst 23 = .ok (.iload_n 3, 1) := by decide +kernel
theorem dX0_reachFirst_24 : decode cX0_reachFirst 24 = .ok (.iload_n 1, 1) := by decide +kernel
theorem dX0_reachFirst_25 : decode cX0_reachFirst 25 = .ok (.invokevirtual 229, 3) := by decide +kernel
theorem dX0_reachFirst_28 : decode cX0_reachFirst 28 = .ok (.ifCond .eq 24, 3) := by decide +kernel
theorem dX0_reachFirst_31 : decode cX0_reachFirst 31 = .ok (.aload_n 0, 1) := by decide +kernel
theorem dX0_reachFirst_32 : decode cX0_reachFirst 32 = .ok (.getfield 41, 3) := by decide +kernel
theorem dX0_reachFirst_35 : decode cX0_reachFirst 35 = .ok (.iload_n 3, 1) := by decide +kernel
theorem dX0_reachFirst_36 : decode cX0_reachFirst 36 = .ok (.iconst (-1), 1) := by decide +kernel
theorem dX0_reachFirst_37 : decode cX0_reachFirst 37 = .ok (.invokestatic 79, 3) := by decide +kernel
theorem dX0_reachFirst_40 : decode cX0_reachFirst 40 = .ok (.aload_n 0, 1) := by decide +kernel
theorem dX0_reachFirst_41 : decode cX0_reachFirst 41 = .ok (.getfield 44, 3) := by decide +kernel
theorem dX0_reachFirst_44 : decode cX0_reachFirst 44 = .ok (.iload_n 2, 1) := by decide +kernel
theorem dX0_reachFirst_45 : decode cX0_reachFirst 45 = .ok (.iload_n 3, 1) := by decide +kernel
theorem dX0_reachFirst_46 : decode cX0_reachFirst 46 = .ok (.invokestatic 79, 3) := by decide +kernel
theorem dX0_reachFirst_49 : decode cX0_reachFirst 49 = .ok (.iinc 2 1, 3) := by decide +kernel
theorem dX0_reachFirst_52 : decode cX0_reachFirst 52 = .ok (.iinc 3 1, 3) := by decide +kernel
theorem dX0_reachFirst_55 : decode cX0_reachFirst 55 = .ok (.goto (-42), 3) := by decide +kernel
theorem dX0_reachFirst_58 : decode cX0_reachFirst 58 = .ok (.iload_n 2, 1) := by decide +kernel
theorem dX0_reachFirst_59 : decode cX0_reachFirst 59 = .ok (.ireturn, 1) := by decide +kernel
set_option maxRecDepth 20000 in
theorem ggX0_reachFrom_X0_at : GoodIn wsX0_reachFrom wsX0_at := goodIn_r _ [7] (by decide +kernel) (by decide +kernel)
set_option maxRecDepth 20000 in
theorem gX0_reachFrom_X0_at : GoodIn wsX0_reachFrom (va_wsS RX0 68 yX0_at wsX0_at) := goodIn_app (goodIn_of _ (by decide +kernel)) ggX0_reachFrom_X0_at
set_option maxRecDepth 20000 in
theorem ggX0_reachFrom_X0_isStep : GoodIn wsX0_reachFrom wsX0_isStep := goodIn_r _ [11, 12, 13, 6, 14, 15, 16, 17, 18, 19, 4, 5, 7, 23, 24, 25, 26, 27, 28, 29, 30, 31, 32, 33, 34] (by decide +kernel) (by decide +kernel)
set_option maxRecDepth 20000 in
theorem gX0_reachFrom_X0_isStep : GoodIn wsX0_reachFrom (wsV RX0 235 RX0 yX0_isStep wsX0_isStep) := goodIn_app (goodIn_of _ (by decide +kernel)) ggX0_reachFrom_X0_isStep
set_option maxRecDepth 20000 in
theorem ggX0_reachFrom_X0_put : GoodIn wsX0_reachFrom wsX0_put := goodIn_r _ [22] (by decide +kernel) (by decide +kernel)
set_option maxRecDepth 20000 in
theorem gX0_reachFrom_X0_put : GoodIn wsX0_reachFrom (va_wsS RX0 79 yX0_put wsX0_put) := goodIn_app (goodIn_of _ (by decide +kernel)) ggX0_reachFrom_X0_put
theorem dX0_reachFrom_0 : decode cX0_reachFrom 0 = .ok (.iload_n 3, 1) := by decide +kernel
theorem dX0_reachFrom_1 : decode cX0_reachFrom 1 = .ok (.istore 4, 2) := by decide +kernel
theorem dX0_reachFrom_3 : decode cX0_reachFrom 3 = .ok (.iconst 0, 1) := by decide +kernel
theorem dX0_reachFrom_4 : decode cX0_reachFrom 4 = .ok (.istore 5, 2) := by decide +kernel
theorem dX0_reachFrom_6 : decode cX0_reachFrom 6 = .ok (.iload 5, 2) := by decide +kernel
theorem dX0_reachFrom_8 : decode cX0_reachFrom 8 = .ok (.aload_n 0, 1) := by decide +kernel
theorem dX0_reachFrom_9 : decode cX0_reachFrom 9 = .ok (.getfield 9, 3) := by decide +kernel
theorem dX0_reachFrom_12 : decode cX0_reachFrom 12 = .ok (.if_icmp .ge 58, 3) := by decide +kernel
theorem dX0_reachFrom_15 : decode cX0_reachFrom 15 = .ok (.aload_n 0, 1) := by decide +kernel
theorem dX0_reachFrom_16 : decode cX0_reachFrom 16 = .ok (.getfield 41, 3) := by decide +kernel
theorem dX0_reachFrom_19 : decode cX0_reachFrom 19 = .ok (.iload 5, 2) := by decide +kernel
theorem dX0_reachFrom_21 : decode cX0_reachFrom 21 = .ok (.invokestatic 68, 3) := by decide +kernel
theorem dX0_reachFrom_24 : decode cX0_reachFrom 24 = .ok (.bipush (-2), 2) := by decide +kernel
theorem dX0_reachFrom_26 : decode cX0_reachFrom 26 = .ok (.if_icmp .ne 38, 3) := by decide +kernel
theorem dX0_reachFrom_29 : decode cX0_reachFrom 29 = .ok (.aload_n 0, 1) := by decide +kernel
theorem dX0_reachFrom_30 : decode cX0_reachFrom 30 = .ok (.iload_n 1, 1) := by decide +kernel
theorem dX0_reachFrom_31 : decode cX0_reachFrom 31 = .ok (.iload 5, 2) := by decide +kernel
theorem dX0_reachFrom_33 : decode cX0_reachFrom 33 = .ok (.iload_n 2, 1) := by decide +kernel
theorem dX0_reachFrom_34 : decode cX0_reachFrom 34 = .ok (.invokevirtual 235, 3) := by decide +kernel
theorem dX0_reachFrom_37 : decode cX0_reachFrom 37 = .ok (.ifCond .eq 27, 3) := by decide +kernel
theorem dX0_reachFrom_40 : decode cX0_reachFrom 40 = .ok (.aload_n 0, 1) := by decide +kernel
theorem dX0_reachFrom_41 : decode cX0_reachFrom 41 = .ok (.getfield 41, 3) := by decide +kernel
theorem dX0_reachFrom_44 : decode cX0_reachFrom 44 = .ok (.iload 5, 2) := by decide +kernel
theorem dX0_reachFrom_46 : decode cX0_reachFrom 46 = .ok (.iload_n 1, 1) := by decide +kernel
theorem dX0_reachFrom_47 : decode cX0_reachFrom 47 = .ok (.invokestatic 79, 3) := by decide +kernel
theorem dX0_reachFrom_50 : decode cX0_reachFrom 50 = .ok (.aload_n 0, 1) := by decide +kernel
theorem dX0_reachFrom_51 : decode cX0_reachFrom 51 = .ok (.getfield 44, 3) := by decide +kernel
theorem dX0_reachFrom_54 : decode cX0_reachFrom 54 = .ok (.iload 4, 2) := by decide +kernel
theorem dX0_reachFrom_56 : decode cX0_reachFrom 56 = .ok (.iload 5, 2) := by decide +kernel
theorem dX0_reachFrom_58 : decode cX0_reachFrom 58 = .ok (.invokestatic 79, 3) := by decide +kernel
theorem dX0_reachFrom_61 : decode cX0_reachFrom 61 = .ok (.iinc 4 1, 3) := by decide +kernel
theorem dX0_reachFrom_64 : decode cX0_reachFrom 64 = .ok (.iinc 5 1, 3) := by decide +kernel
theorem dX0_reachFrom_67 : decode cX0_reachFrom 67 = .ok (.goto (-61), 3) := by decide +kernel
theorem dX0_reachFrom_70 : decode cX0_reachFrom 70 = .ok (.iload 4, 2) := by decide +kernel
theorem dX0_reachFrom_72 : decode cX0_reachFrom 72 = .ok (.ireturn, 1) := by decide +kernel
set_option maxRecDepth 20000 in
theorem ggX0_isStep_X0_has : GoodIn wsX0_isStep wsX0_has := goodIn_r _ [4] (by decide +kernel) (by decide +kernel)
set_option maxRecDepth 20000 in
theorem gX0_isStep_X0_has : GoodIn wsX0_isStep (va_wsS RX0 83 yX0_has wsX0_has) := goodIn_app (goodIn_of _ (by decide +kernel)) ggX0_isStep_X0_has
set_option maxRecDepth 20000 in
theorem ggX0_isStep_X0_colourOf : GoodIn wsX0_isStep wsX0_colourOf := goodIn_r _ [8, 9, 10, 11, 3, 12, 13, 14, 15, 16, 17, 18, 19, 20, 21, 22, 23, 24] (by decide +kernel) (by decide +kernel)
set_option maxRecDepth 20000 in
theorem gX0_isStep_X0_colourOf : GoodIn wsX0_isStep (wsV RX0 96 RX0 yX0_colourOf wsX0_colourOf) := goodIn_app (goodIn_of _ (by decide +kernel)) ggX0_isStep_X0_colourOf
theorem dX0_isStep_0 : decode cX0_isStep 0 = .ok (.iload_n 3, 1) := by decide +kernel
theorem dX0_isStep_1 : decode cX0_isStep 1 = .ok (.iload_n 1, 1) := by decide +kernel
theorem dX0_isStep_2 : decode cX0_isStep 2 = .ok (.invokestatic 83, 3) := by decide +kernel
theorem dX0_isStep_5 : decode cX0_isStep 5 = .ok (.ifCond .eq 7, 3) := by decide +kernel
theorem dX0_isStep_8 : decode cX0_isStep 8 = .ok (.iconst 0, 1) := by decide +kernel
theorem dX0_isStep_9 : decode cX0_isStep 9 = .ok (.goto 4, 3) := by decide +kernel
theorem dX0_isStep_12 : decode cX0_isStep 12 = .ok (.iconst 1, 1) := by decide +kernel
theorem dX0_isStep_13 : decode cX0_isStep 13 = .ok (.istore 4, 2) := by decide +kernel
theorem dX0_isStep_15 : decode cX0_isStep 15 = .ok (.iload_n 3, 1) := by decide +kernel
theorem dX0_isStep_16 : decode cX0_isStep 16 = .ok (.iload_n 1, 1) := by decide +kernel
theorem dX0_isStep_17 : decode cX0_isStep 17 = .ok (.invokestatic 83, 3) := by decide +kernel
theorem dX0_isStep_20 : decode cX0_isStep 20 = .ok (.iload_n 3, 1) := by decide +kernel
theorem dX0_isStep_21 : decode cX0_isStep 21 = .ok (.iload_n 2, 1) := by decide +kernel
theorem dX0_isStep_22 : decode cX0_isStep 22 = .ok (.invokestatic 83, 3) := by decide +kernel
theorem dX0_isStep_25 : decode cX0_isStep 25 = .ok (.if_icmp .eq 24, 3) := by decide +kernel
theorem dX0_isStep_28 : decode cX0_isStep 28 = .ok (.aload_n 0, 1) := by decide +kernel
theorem dX0_isStep_29 : decode cX0_isStep 29 = .ok (.iload 4, 2) := by decide +kernel
theorem dX0_isStep_31 : decode cX0_isStep 31 = .ok (.iload_n 1, 1) := by decide +kernel
theorem dX0_isStep_32 : decode cX0_isStep 32 = .ok (.invokevirtual 96, 3) := by decide +kernel
theorem dX0_isStep_35 : decode cX0_isStep 35 = .ok (.aload_n 0, 1) := by decide +kernel
theorem dX0_isStep_36 : decode cX0_isStep 36 = .ok (.iload 4, 2) := by decide +kernel
theorem dX0_isStep_38 : decode cX0_isStep 38 = .ok (.iload_n 2, 1) := by decide +kernel
theorem dX0_isStep_39 : decode cX0_isStep 39 = .ok (.invokevirtual 96, 3) := by decide +kernel
theorem dX0_isStep_42 : decode cX0_isStep 42 = .ok (.if_icmp .ne 7, 3) := by decide +kernel
theorem dX0_isStep_45 : decode cX0_isStep 45 = .ok (.iconst 1, 1) := by decide +kernel
theorem dX0_isStep_46 : decode cX0_isStep 46 = .ok (.goto 4, 3) := by decide +kernel
theorem dX0_isStep_49 : decode cX0_isStep 49 = .ok (.iconst 0, 1) := by decide +kernel
theorem dX0_isStep_50 : decode cX0_isStep 50 = .ok (.ireturn, 1) := by decide +kernel
set_option maxRecDepth 20000 in
theorem ggX0_flippedAlong_X0_at : GoodIn wsX0_flippedAlong wsX0_at := goodIn_r _ [6] (by decide +kernel) (by decide +kernel)
set_option maxRecDepth 20000 in
theorem gX0_flippedAlong_X0_at : GoodIn wsX0_flippedAlong (va_wsS RX0 68 yX0_at wsX0_at) := goodIn_app (goodIn_of _ (by decide +kernel)) ggX0_flippedAlong_X0_at
theorem dX0_flippedAlong_0 : decode cX0_flippedAlong 0 = .ok (.iload_n 1, 1) := by decide +kernel
theorem dX0_flippedAlong_1 : decode cX0_flippedAlong 1 = .ok (.istore_n 3, 1) := by decide +kernel
theorem dX0_flippedAlong_2 : decode cX0_flippedAlong 2 = .ok (.iload_n 2, 1) := by decide +kernel
theorem dX0_flippedAlong_3 : decode cX0_flippedAlong 3 = .ok (.istore 4, 2) := by decide +kernel
theorem dX0_flippedAlong_5 : decode cX0_flippedAlong 5 = .ok (.iconst 0, 1) := by decide +kernel
theorem dX0_flippedAlong_6 : decode cX0_flippedAlong 6 = .ok (.istore 5, 2) := by decide +kernel
theorem dX0_flippedAlong_8 : decode cX0_flippedAlong 8 = .ok (.iload 5, 2) := by decide +kernel
theorem dX0_flippedAlong_10 : decode cX0_flippedAlong 10 = .ok (.aload_n 0, 1) := by decide +kernel
theorem dX0_flippedAlong_11 : decode cX0_flippedAlong 11 = .ok (.getfield 9, 3) := by decide +kernel
theorem dX0_flippedAlong_14 : decode cX0_flippedAlong 14 = .ok (.if_icmp .ge 33, 3) := by decide +kernel
theorem dX0_flippedAlong_17 : decode cX0_flippedAlong 17 = .ok (.iload 4, 2) := by decide +kernel
theorem dX0_flippedAlong_19 : decode cX0_flippedAlong 19 = .ok (.iconst (-1), 1) := by decide +kernel
theorem dX0_flippedAlong_20 : decode cX0_flippedAlong 20 = .ok (.if_icmp .eq 27, 3) := by decide +kernel
theorem dX0_flippedAlong_23 : decode cX0_flippedAlong 23 = .ok (.iload_n 3, 1) := by decide +kernel
theorem dX0_flippedAlong_24 : decode cX0_flippedAlong 24 = .ok (.iconst 1, 1) := by decide +kernel
theorem dX0_flippedAlong_25 : decode cX0_flippedAlong 25 = .ok (.iload 4, 2) := by decide +kernel
theorem dX0_flippedAlong_27 : decode cX0_flippedAlong 27 = .ok (.ishl, 1) := by decide +kernel
theorem dX0_flippedAlong_28 : decode cX0_flippedAlong 28 = .ok (.ixor, 1) := by decide +kernel
theorem dX0_flippedAlong_29 : decode cX0_flippedAlong 29 = .ok (.istore_n 3, 1) := by decide +kernel
theorem dX0_flippedAlong_30 : decode cX0_flippedAlong 30 = .ok (.aload_n 0, 1) := by decide +kernel
theorem dX0_flippedAlong_31 : decode cX0_flippedAlong 31 = .ok (.getfield 41, 3) := by decide +kernel
theorem dX0_flippedAlong_34 : decode cX0_flippedAlong 34 = .ok (.iload 4, 2) := by decide +kernel
theorem dX0_flippedAlong_36 : decode cX0_flippedAlong 36 = .ok (.invokestatic 68, 3) := by decide +kernel
theorem dX0_flippedAlong_39 : decode cX0_flippedAlong 39 = .ok (.istore 4, 2) := by decide +kernel
theorem dX0_flippedAlong_41 : decode cX0_flippedAlong 41 = .ok (.iinc 5 1, 3) := by decide +kernel
theorem dX0_flippedAlong_44 : decode cX0_flippedAlong 44 = .ok (.goto (-36), 3) := by decide +kernel
theorem dX0_flippedAlong_47 : decode cX0_flippedAlong 47 = .ok (.iload_n 3, 1) := by decide +kernel
theorem dX0_flippedAlong_48 : decode cX0_flippedAlong 48 = .ok (.ireturn, 1) := by decide +kernel
theorem dX0_ordersOf_0 : decode cX0_ordersOf 0 = .ok (.iconst 1, 1) := by decide +kernel
theorem dX0_ordersOf_1 : decode cX0_ordersOf 1 = .ok (.istore_n 1, 1) := by decide +kernel
theorem dX0_ordersOf_2 : decode cX0_ordersOf 2 = .ok (.iconst 2, 1) := by decide +kernel
theorem dX0_ordersOf_3 : decode cX0_ordersOf 3 = .ok (.istore_n 2, 1) := by decide +kernel
theorem dX0_ordersOf_4 : decode cX0_ordersOf 4 = .ok (.iload_n 2, 1) := by decide +kernel
theorem dX0_ordersOf_5 : decode cX0_ordersOf 5 = .ok (.iload_n 0, 1) := by decide +kernel
theorem dX0_ordersOf_6 : decode cX0_ordersOf 6 = .ok (.if_icmp .gt 13, 3) := by decide +kernel
theorem dX0_ordersOf_9 : decode cX0_ordersOf 9 = .ok (.iload_n 1, 1) := by decide +kernel
theorem dX0_ordersOf_10 : decode cX0_ordersOf 10 = .ok (.iload_n 2, 1) := by decide +kernel
theorem dX0_ordersOf_11 : decode cX0_ordersOf 11 = .ok (.imul, 1) := by decide +kernel
theorem dX0_ordersOf_12 : decode cX0_ordersOf 12 = .ok (.istore_n 1, 1) := by decide +kernel
theorem dX0_ordersOf_13 : decode cX0_ordersOf 13 = .ok (.iinc 2 1, 3) := by decide +kernel
theorem dX0_ordersOf_16 : decode cX0_ordersOf 16 = .ok (.goto (-12), 3) := by decide +kernel
theorem dX0_ordersOf_19 : decode cX0_ordersOf 19 = .ok (.iload_n 1, 1) := by decide +kernel
theorem dX0_ordersOf_20 : decode cX0_ordersOf 20 = .ok (.ireturn, 1) := by decide +kernel
set_option maxRecDepth 20000 in
theorem ggX0_gainsOverOrders_X0_has : GoodIn wsX0_gainsOverOrders wsX0_has := goodIn_r _ [5] (by decide +kernel) (by decide +kernel)
set_option maxRecDepth 20000 in
theorem gX0_gainsOverOrders_X0_has : GoodIn wsX0_gainsOverOrders (va_wsS RX0 83 yX0_has wsX0_has) := goodIn_app (goodIn_of _ (by decide +kernel)) ggX0_gainsOverOrders_X0_has
set_option maxRecDepth 20000 in
theorem ggX0_gainsOverOrders_X0_gain : GoodIn wsX0_gainsOverOrders wsX0_gain := goodIn_r _ [9, 10, 11, 4, 12, 13, 14, 15, 16, 17, 18, 19, 20, 24, 25, 26, 27, 28, 29, 30, 31, 32, 33, 34, 35] (by decide +kernel) (by decide +kernel)
set_option maxRecDepth 20000 in
theorem gX0_gainsOverOrders_X0_gain : GoodIn wsX0_gainsOverOrders (wsV RX0 136 RX0 yX0_gain wsX0_gain) := goodIn_app (goodIn_of _ (by decide +kernel)) ggX0_gainsOverOrders_X0_gain
set_option maxRecDepth 20000 in
theorem ggX0_gainsOverOrders_X0_with : GoodIn wsX0_gainsOverOrders wsX0_with := goodIn_r _ [12] (by decide +kernel) (by decide +kernel)
set_option maxRecDepth 20000 in
theorem gX0_gainsOverOrders_X0_with : GoodIn wsX0_gainsOverOrders (va_wsS RX0 72 yX0_with wsX0_with) := goodIn_app (goodIn_of _ (by decide +kernel)) ggX0_gainsOverOrders_X0_with
set_option maxRecDepth 20000 in
theorem ggX0_gainsOverOrders_X0_gainsOverOrders : GoodIn wsX0_gainsOverOrders wsX0_gainsOverOrders := goodIn_r _ [0, 1, 2, 3, 4, 5, 6, 7, 8, 9, 10, 11, 12, 13, 14, 15, 16, 17, 18, 19, 20, 21, 22, 23, 24, 25, 26, 27, 28, 29, 30, 31, 32, 33, 34, 35] (by decide +kernel) (by decide +kernel)
set_option maxRecDepth 20000 in
theorem gX0_gainsOverOrders_X0_gainsOverOrders : GoodIn wsX0_gainsOverOrders (wsV RX0 177 RX0 yX0_gainsOverOrders wsX0_gainsOverOrders) := goodIn_app (goodIn_of _ (by decide +kernel)) ggX0_gainsOverOrders_X0_gainsOverOrders
theorem dX0_gainsOverOrders_0 : decode cX0_gainsOverOrders 0 = .ok (.iload 4, 2) := by decide +kernel
theorem dX0_gainsOverOrders_2 : decode cX0_gainsOverOrders 2 = .ok (.aload_n 0, 1) := by decide +kernel
theorem dX0_gainsOverOrders_3 : decode cX0_gainsOverOrders 3 = .ok (.getfield 9, 3) := by decide +kernel
theorem dX0_gainsOverOrders_6 : decode cX0_gainsOverOrders 6 = .ok (.if_icmp .lt 6, 3) := by decide +kernel
theorem dX0_gainsOverOrders_9 : decode cX0_gainsOverOrders 9 = .ok (.iload 5, 2) := by decide +kernel
theorem dX0_gainsOverOrders_11 : decode cX0_gainsOverOrders 11 = .ok (.ireturn, 1) := by decide +kernel
theorem dX0_gainsOverOrders_12 : decode cX0_gainsOverOrders 12 = .ok (.iconst 0, 1) := by decide +kernel
theorem dX0_gainsOverOrders_13 : decode cX0_gainsOverOrders 13 = .ok (.istore 6, 2) := by decide +kernel
theorem dX0_gainsOverOrders_15 : decode cX0_gainsOverOrders 15 = .ok (.iconst 0, 1) := by decide +kernel
theorem dX0_gainsOverOrders_16 : decode cX0_gainsOverOrders 16 = .ok (.istore 7, 2) := by decide +kernel
theorem dX0_gainsOverOrders_18 : decode cX0_gainsOverOrders 18 = .ok (.iload 7, 2) := by decide +kernel
theorem dX0_gainsOverOrders_20 : decode cX0_gainsOverOrders 20 = .ok (.aload_n 0, 1) := by decide +kernel
theorem dX0_gainsOverOrders_21 : decode cX0_gainsOverOrders 21 = .ok (.getfield 9, 3) := by decide +kernel
theorem dX0_gainsOverOrders_24 : decode cX0_gainsOverOrders 24 = .ok (.if_icmp .ge 61, 3) := by decide +kernel
theorem dX0_gainsOverOrders_27 : decode cX0_gainsOverOrders 27 = .ok (.iload_n 3, 1) := by decide +kernel
theorem dX0_gainsOverOrders_28 : decode cX0_gainsOverOrders 28 = .ok (.iload 7, 2) := by decide +kernel
theorem dX0_gainsOverOrders_30 : decode cX0_gainsOverOrders 30 = .ok (.invokestatic 83, 3) := by decide +kernel
theorem dX0_gainsOverOrders_33 : decode cX0_gainsOverOrders 33 = .ok (.ifCond .ne 46, 3) := by decide +kernel
theorem dX0_gainsOverOrders_36 : decode cX0_gainsOverOrders 36 = .ok (.iload 7, 2) := by decide +kernel
theorem dX0_gainsOverOrders_38 : decode cX0_gainsOverOrders 38 = .ok (.iload_n 2, 1) := by decide +kernel
theorem dX0_gainsOverOrders_39 : decode cX0_gainsOverOrders 39 = .ok (.if_icmp .ne 13, 3) := by decide +kernel
theorem dX0_gainsOverOrders_42 : decode cX0_gainsOverOrders 42 = .ok (.aload_n 0, 1) := by decide +kernel
theorem dX0_gainsOverOrders_43 : decode cX0_gainsOverOrders 43 = .ok (.iload_n 1, 1) := by decide +kernel
theorem dX0_gainsOverOrders_44 : decode cX0_gainsOverOrders 44 = .ok (.iload_n 3, 1) := by decide +kernel
theorem dX0_gainsOverOrders_45 : decode cX0_gainsOverOrders 45 = .ok (.iload_n 2, 1) := by decide +kernel
theorem dX0_gainsOverOrders_46 : decode cX0_gainsOverOrders 46 = .ok (.invokevirtual 136, 3) := by decide +kernel
theorem dX0_gainsOverOrders_49 : decode cX0_gainsOverOrders 49 = .ok (.goto 5, 3) := by decide +kernel
theorem dX0_gainsOverOrders_52 : decode cX0_gainsOverOrders 52 = .ok (.iload 5, 2) := by decide +kernel
theorem dX0_gainsOverOrders_54 : decode cX0_gainsOverOrders 54 = .ok (.istore 8, 2) := by decide +kernel
theorem dX0_gainsOverOrders_56 : decode cX0_gainsOverOrders 56 = .ok (.iload 6, 2) := by decide +kernel
theorem dX0_gainsOverOrders_58 : decode cX0_gainsOverOrders 58 = .ok (.aload_n 0, 1) := by decide +kernel
theorem dX0_gainsOverOrders_59 : decode cX0_gainsOverOrders 59 = .ok (.iload_n 1, 1) := by decide +kernel
theorem dX0_gainsOverOrders_60 : decode cX0_gainsOverOrders 60 = .ok (.iload_n 2, 1) := by decide +kernel
theorem dX0_gainsOverOrders_61 : decode cX0_gainsOverOrders 61 = .ok (.iload_n 3, 1) := by decide +kernel
theorem dX0_gainsOverOrders_62 : decode cX0_gainsOverOrders 62 = .ok (.iload 7, 2) := by decide +kernel
theorem dX0_gainsOverOrders_64 : decode cX0_gainsOverOrders 64 = .ok (.invokestatic 72, 3) := by decide +kernel
theorem dX0_gainsOverOrders_67 : decode cX0_gainsOverOrders 67 = .ok (.iload 4, 2) := by decide +kernel
theorem dX0_gainsOverOrders_69 : decode cX0_gainsOverOrders 69 = .ok (.iconst 1, 1) := by decide +kernel
theorem dX0_gainsOverOrders_70 : decode cX0_gainsOverOrders 70 = .ok (.iadd, 1) := by decide +kernel
theorem dX0_gainsOverOrders_71 : decode cX0_gainsOverOrders 71 = .ok (.iload 8, 2) := by decide +kernel
theorem dX0_gainsOverOrders_73 : decode cX0_gainsOverOrders 73 = .ok (.invokevirtual 177, 3) := by decide +kernel
theorem dX0_gainsOverOrders_76 : decode cX0_gainsOverOrders 76 = .ok (.iadd, 1) := by decide +kernel
theorem dX0_gainsOverOrders_77 : decode cX0_gainsOverOrders 77 = .ok (.istore 6, 2) := by decide +kernel
theorem dX0_gainsOverOrders_79 : decode cX0_gainsOverOrders 79 = .ok (.iinc 7 1, 3) := by decide +kernel
theorem dX0_gainsOverOrders_82 : decode cX0_gainsOverOrders 82 = .ok (.goto (-64), 3) := by decide +kernel
theorem dX0_gainsOverOrders_85 : decode cX0_gainsOverOrders 85 = .ok (.iload 6, 2) := by decide +kernel
theorem dX0_gainsOverOrders_87 : decode cX0_gainsOverOrders 87 = .ok (.ireturn, 1) := by decide +kernel

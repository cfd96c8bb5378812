set_option maxRecDepth 20000 in
theorem ggX1_init_X1_forgets : GoodIn wsX1_init wsX1_forgets := goodIn_r _ [17, 18, 19, 6, 10, 7, 8, 9, 20, 21, 22, 23, 24, 25, 26, 27, 28, 29, 30] (by decide +kernel) (by decide +kernel)
set_option maxRecDepth 20000 in
theorem gX1_init_X1_forgets : GoodIn wsX1_init (wsV RX1 35 RX1 yX1_forgets wsX1_forgets) := goodIn_app (goodIn_of _ (by decide +kernel)) ggX1_init_X1_forgets
theorem dX1_init_0 : decode cX1_init 0 = .ok (.aload_n 0, 1) := by decide +kernel
theorem dX1_init_1 : decode cX1_init 1 = .ok (.invokespecial 1, 3) := by decide +kernel
theorem dX1_init_4 : decode cX1_init 4 = .ok (.aload_n 0, 1) := by decide +kernel
theorem dX1_init_5 : decode cX1_init 5 = .ok (.iconst 4, 1) := by decide +kernel
theorem dX1_init_6 : decode cX1_init 6 = .ok (.putfield 7, 3) := by decide +kernel
theorem dX1_init_9 : decode cX1_init 9 = .ok (.aload_n 0, 1) := by decide +kernel
theorem dX1_init_10 : decode cX1_init 10 = .ok (.bipush 6, 2) := by decide +kernel
theorem dX1_init_12 : decode cX1_init 12 = .ok (.newarray .int, 2) := by decide +kernel
theorem dX1_init_14 : decode cX1_init 14 = .ok (.putfield 13, 3) := by decide +kernel
theorem dX1_init_17 : decode cX1_init 17 = .ok (.aload_n 0, 1) := by decide +kernel
theorem dX1_init_18 : decode cX1_init 18 = .ok (.bipush 36, 2) := by decide +kernel
theorem dX1_init_20 : decode cX1_init 20 = .ok (.newarray .int, 2) := by decide +kernel
theorem dX1_init_22 : decode cX1_init 22 = .ok (.putfield 17, 3) := by decide +kernel
theorem dX1_init_25 : decode cX1_init 25 = .ok (.aload_n 0, 1) := by decide +kernel
theorem dX1_init_26 : decode cX1_init 26 = .ok (.bipush 12, 2) := by decide +kernel
theorem dX1_init_28 : decode cX1_init 28 = .ok (.newarray .int, 2) := by decide +kernel
theorem dX1_init_30 : decode cX1_init 30 = .ok (.putfield 20, 3) := by decide +kernel
theorem dX1_init_33 : decode cX1_init 33 = .ok (.aload_n 0, 1) := by decide +kernel
theorem dX1_init_34 : decode cX1_init 34 = .ok (.bipush 12, 2) := by decide +kernel
theorem dX1_init_36 : decode cX1_init 36 = .ok (.newarray .int, 2) := by decide +kernel
theorem dX1_init_38 : decode cX1_init 38 = .ok (.putfield 23, 3) := by decide +kernel
theorem dX1_init_41 : decode cX1_init 41 = .ok (.aload_n 0, 1) := by decide +kernel
theorem dX1_init_42 : decode cX1_init 42 = .ok (.bipush 6, 2) := by decide +kernel
theorem dX1_init_44 : decode cX1_init 44 = .ok (.newarray .int, 2) := by decide +kernel
theorem dX1_init_46 : decode cX1_init 46 = .ok (.putfield 26, 3) := by decide +kernel
theorem dX1_init_49 : decode cX1_init 49 = .ok (.aload_n 0, 1) := by decide +kernel
theorem dX1_init_50 : decode cX1_init 50 = .ok (.sipush 512, 3) := by decide +kernel
theorem dX1_init_53 : decode cX1_init 53 = .ok (.newarray .int, 2) := by decide +kernel
theorem dX1_init_55 : decode cX1_init 55 = .ok (.putfield 29, 3) := by decide +kernel
theorem dX1_init_58 : decode cX1_init 58 = .ok (.aload_n 0, 1) := by decide +kernel
theorem dX1_init_59 : decode cX1_init 59 = .ok (.bipush 6, 2) := by decide +kernel
theorem dX1_init_61 : decode cX1_init 61 = .ok (.newarray .int, 2) := by decide +kernel
theorem dX1_init_63 : decode cX1_init 63 = .ok (.putfield 32, 3) := by decide +kernel
theorem dX1_init_66 : decode cX1_init 66 = .ok (.aload_n 0, 1) := by decide +kernel
theorem dX1_init_67 : decode cX1_init 67 = .ok (.invokevirtual 35, 3) := by decide +kernel
theorem dX1_init_70 : decode cX1_init 70 = .ok (.return_, 1) := by decide +kernel
theorem dX1_forgets_0 : decode cX1_forgets 0 = .ok (.aload_n 0, 1) := by decide +kernel
theorem dX1_forgets_1 : decode cX1_forgets 1 = .ok (.iconst 0, 1) := by decide +kernel
theorem dX1_forgets_2 : decode cX1_forgets 2 = .ok (.putfield 38, 3) := by decide +kernel
theorem dX1_forgets_5 : decode cX1_forgets 5 = .ok (.aload_n 0, 1) := by decide +kernel
theorem dX1_forgets_6 : decode cX1_forgets 6 = .ok (.iconst 0, 1) := by decide +kernel
theorem dX1_forgets_7 : decode cX1_forgets 7 = .ok (.putfield 41, 3) := by decide +kernel
theorem dX1_forgets_10 : decode cX1_forgets 10 = .ok (.iconst 0, 1) := by decide +kernel
theorem dX1_forgets_11 : decode cX1_forgets 11 = .ok (.istore_n 1, 1) := by decide +kernel
theorem dX1_forgets_12 : decode cX1_forgets 12 = .ok (.iload_n 1, 1) := by decide +kernel
theorem dX1_forgets_13 : decode cX1_forgets 13 = .ok (.bipush 6, 2) := by decide +kernel
theorem dX1_forgets_15 : decode cX1_forgets 15 = .ok (.if_icmp .ge 23, 3) := by decide +kernel
theorem dX1_forgets_18 : decode cX1_forgets 18 = .ok (.aload_n 0, 1) := by decide +kernel
theorem dX1_forgets_19 : decode cX1_forgets 19 = .ok (.getfield 13, 3) := by decide +kernel
theorem dX1_forgets_22 : decode cX1_forgets 22 = .ok (.iload_n 1, 1) := by decide +kernel
theorem dX1_forgets_23 : decode cX1_forgets 23 = .ok (.iconst 0, 1) := by decide +kernel
theorem dX1_forgets_24 : decode cX1_forgets 24 = .ok (.iastore, 1) := by decide +kernel
theorem dX1_forgets_25 : decode cX1_forgets 25 = .ok (.aload_n 0, 1) := by decide +kernel
theorem dX1_forgets_26 : decode cX1_forgets 26 = .ok (.getfield 26, 3) := by decide +kernel
theorem dX1_forgets_29 : decode cX1_forgets 29 = .ok (.iload_n 1, 1) := by decide +kernel
theorem dX1_forgets_30 : decode cX1_forgets 30 = .ok (.iconst 0, 1) := by decide +kernel
theorem dX1_forgets_31 : decode cX1_forgets 31 = .ok (.iastore, 1) := by decide +kernel
theorem dX1_forgets_32 : decode cX1_forgets 32 = .ok (.iinc 1 1, 3) := by decide +kernel
theorem dX1_forgets_35 : decode cX1_forgets 35 = .ok (.goto (-23), 3) := by decide +kernel
theorem dX1_forgets_38 : decode cX1_forgets 38 = .ok (.iconst 0, 1) := by decide +kernel
theorem dX1_forgets_39 : decode cX1_forgets 39 = .ok (.istore_n 1, 1) := by decide +kernel
theorem dX1_forgets_40 : decode cX1_forgets 40 = .ok (.iload_n 1, 1) := by decide +kernel
theorem dX1_forgets_41 : decode cX1_forgets 41 = .ok (.bipush 36, 2) := by decide +kernel
theorem dX1_forgets_43 : decode cX1_forgets 43 = .ok (.if_icmp .ge 16, 3) := by decide +kernel
theorem dX1_forgets_46 : decode cX1_forgets 46 = .ok (.aload_n 0, 1) := by decide +kernel
theorem dX1_forgets_47 : decode cX1_forgets 47 = .ok (.getfield 17, 3) := by decide +kernel
theorem dX1_forgets_50 : decode cX1_forgets 50 = .ok (.iload_n 1, 1) := by decide +kernel
theorem dX1_forgets_51 : decode cX1_forgets 51 = .ok (.iconst 0, 1) := by decide +kernel
theorem dX1_forgets_52 : decode cX1_forgets 52 = .ok (.iastore, 1) := by decide +kernel
theorem dX1_forgets_53 : decode cX1_forgets 53 = .ok (.iinc 1 1, 3) := by decide +kernel
theorem dX1_forgets_56 : decode cX1_forgets 56 = .ok (.goto (-16), 3) := by decide +kernel
theorem dX1_forgets_59 : decode cX1_forgets 59 = .ok (.iconst 0, 1) := by decide +kernel
theorem dX1_forgets_60 : decode cX1_forgets 60 = .ok (.istore_n 1, 1) := by decide +kernel
theorem dX1_forgets_61 : decode cX1_forgets 61 = .ok (.iload_n 1, 1) := by decide +kernel
theorem dX1_forgets_62 : decode cX1_forgets 62 = .ok (.bipush 12, 2) := by decide +kernel
theorem dX1_forgets_64 : decode cX1_forgets 64 = .ok (.if_icmp .ge 23, 3) := by decide +kernel
theorem dX1_forgets_67 : decode cX1_forgets 67 = .ok (.aload_n 0, 1) := by decide +kernel
theorem dX1_forgets_68 : decode cX1_forgets 68 = .ok (.getfield 20, 3) := by decide +kernel
theorem dX1_forgets_71 : decode cX1_forgets 71 = .ok (.iload_n 1, 1) := by decide +kernel
theorem dX1_forgets_72 : decode cX1_forgets 72 = .ok (.iconst 0, 1) := by decide +kernel
theorem dX1_forgets_73 : decode cX1_forgets 73 = .ok (.iastore, 1) := by decide +kernel
theorem dX1_forgets_74 : decode cX1_forgets 74 = .ok (.aload_n 0, 1) := by decide +kernel
theorem dX1_forgets_75 : decode cX1_forgets 75 = .ok (.getfield 23, 3) := by decide +kernel
theorem dX1_forgets_78 : decode cX1_forgets 78 = .ok (.iload_n 1, 1) := by decide +kernel
theorem dX1_forgets_79 : decode cX1_forgets 79 = .ok (.iconst 1, 1) := by decide +kernel
theorem dX1_forgets_80 : decode cX1_forgets 80 = .ok (.iastore, 1) := by decide +kernel
theorem dX1_forgets_81 : decode cX1_forgets 81 = .ok (.iinc 1 1, 3) := by decide +kernel
theorem dX1_forgets_84 : decode cX1_forgets 84 = .ok (.goto (-23), 3) := by decide +kernel
theorem dX1_forgets_87 : decode cX1_forgets 87 = .ok (.return_, 1) := by decide +kernel
theorem dX1_thrown_0 : decode cX1_thrown 0 = .ok (.aload_n 0, 1) := by decide +kernel
theorem dX1_thrown_1 : decode cX1_thrown 1 = .ok (.getfield 44, 3) := by decide +kernel
theorem dX1_thrown_4 : decode cX1_thrown 4 = .ok (.ireturn, 1) := by decide +kernel
theorem dX1_isIn_0 : decode cX1_isIn 0 = .ok (.iload_n 0, 1) := by decide +kernel
theorem dX1_isIn_1 : decode cX1_isIn 1 = .ok (.iload_n 1, 1) := by decide +kernel
theorem dX1_isIn_2 : decode cX1_isIn 2 = .ok (.if_icmp .lt 12, 3) := by decide +kernel
theorem dX1_isIn_5 : decode cX1_isIn 5 = .ok (.iload_n 0, 1) := by decide +kernel
theorem dX1_isIn_6 : decode cX1_isIn 6 = .ok (.iload_n 2, 1) := by decide +kernel
theorem dX1_isIn_7 : decode cX1_isIn 7 = .ok (.if_icmp .gt 7, 3) := by decide +kernel
theorem dX1_isIn_10 : decode cX1_isIn 10 = .ok (.iconst 1, 1) := by decide +kernel
theorem dX1_isIn_11 : decode cX1_isIn 11 = .ok (.goto 4, 3) := by decide +kernel
theorem dX1_isIn_14 : decode cX1_isIn 14 = .ok (.iconst 0, 1) := by decide +kernel
theorem dX1_isIn_15 : decode cX1_isIn 15 = .ok (.ireturn, 1) := by decide +kernel
set_option maxRecDepth 20000 in
theorem ggX1_isElement_X1_isIn : GoodIn wsX1_isElement wsX1_isIn := goodIn_r _ [5] (by decide +kernel) (by decide +kernel)
set_option maxRecDepth 20000 in
theorem gX1_isElement_X1_isIn : GoodIn wsX1_isElement (va_wsS RX1 47 yX1_isIn wsX1_isIn) := goodIn_app (goodIn_of _ (by decide +kernel)) ggX1_isElement_X1_isIn
theorem dX1_isElement_0 : decode cX1_isElement 0 = .ok (.iload_n 1, 1) := by decide +kernel
theorem dX1_isElement_1 : decode cX1_isElement 1 = .ok (.iconst 0, 1) := by decide +kernel
theorem dX1_isElement_2 : decode cX1_isElement 2 = .ok (.aload_n 0, 1) := by decide +kernel
theorem dX1_isElement_3 : decode cX1_isElement 3 = .ok (.getfield 7, 3) := by decide +kernel
theorem dX1_isElement_6 : decode cX1_isElement 6 = .ok (.iconst 1, 1) := by decide +kernel
theorem dX1_isElement_7 : decode cX1_isElement 7 = .ok (.isub, 1) := by decide +kernel
theorem dX1_isElement_8 : decode cX1_isElement 8 = .ok (.invokestatic 47, 3) := by decide +kernel
theorem dX1_isElement_11 : decode cX1_isElement 11 = .ok (.ireturn, 1) := by decide +kernel
set_option maxRecDepth 20000 in
theorem ggX1_isFunction_X1_isIn : GoodIn wsX1_isFunction wsX1_isIn := goodIn_r _ [5] (by decide +kernel) (by decide +kernel)
set_option maxRecDepth 20000 in
theorem gX1_isFunction_X1_isIn : GoodIn wsX1_isFunction (va_wsS RX1 47 yX1_isIn wsX1_isIn) := goodIn_app (goodIn_of _ (by decide +kernel)) ggX1_isFunction_X1_isIn
theorem dX1_isFunction_0 : decode cX1_isFunction 0 = .ok (.iload_n 1, 1) := by decide +kernel
theorem dX1_isFunction_1 : decode cX1_isFunction 1 = .ok (.iconst 0, 1) := by decide +kernel
theorem dX1_isFunction_2 : decode cX1_isFunction 2 = .ok (.aload_n 0, 1) := by decide +kernel
theorem dX1_isFunction_3 : decode cX1_isFunction 3 = .ok (.getfield 38, 3) := by decide +kernel
theorem dX1_isFunction_6 : decode cX1_isFunction 6 = .ok (.iconst 1, 1) := by decide +kernel
theorem dX1_isFunction_7 : decode cX1_isFunction 7 = .ok (.isub, 1) := by decide +kernel
theorem dX1_isFunction_8 : decode cX1_isFunction 8 = .ok (.invokestatic 47, 3) := by decide +kernel
theorem dX1_isFunction_11 : decode cX1_isFunction 11 = .ok (.ireturn, 1) := by decide +kernel
set_option maxRecDepth 20000 in
theorem ggX1_isSet_X1_isIn : GoodIn wsX1_isSet wsX1_isIn := goodIn_r _ [5] (by decide +kernel) (by decide +kernel)
set_option maxRecDepth 20000 in
theorem gX1_isSet_X1_isIn : GoodIn wsX1_isSet (va_wsS RX1 47 yX1_isIn wsX1_isIn) := goodIn_app (goodIn_of _ (by decide +kernel)) ggX1_isSet_X1_isIn
theorem dX1_isSet_0 : decode cX1_isSet 0 = .ok (.iload_n 1, 1) := by decide +kernel
theorem dX1_isSet_1 : decode cX1_isSet 1 = .ok (.iconst 0, 1) := by decide +kernel
theorem dX1_isSet_2 : decode cX1_isSet 2 = .ok (.iconst 1, 1) := by decide +kernel
theorem dX1_isSet_3 : decode cX1_isSet 3 = .ok (.aload_n 0, 1) := by decide +kernel
theorem dX1_isSet_4 : decode cX1_isSet 4 = .ok (.getfield 7, 3) := by decide +kernel
theorem dX1_isSet_7 : decode cX1_isSet 7 = .ok (.ishl, 1) := by decide +kernel
theorem dX1_isSet_8 : decode cX1_isSet 8 = .ok (.iconst 1, 1) := by decide +kernel
theorem dX1_isSet_9 : decode cX1_isSet 9 = .ok (.isub, 1) := by decide +kernel
theorem dX1_isSet_10 : decode cX1_isSet 10 = .ok (.invokestatic 47, 3) := by decide +kernel
theorem dX1_isSet_13 : decode cX1_isSet 13 = .ok (.ireturn, 1) := by decide +kernel
theorem dX1_has_0 : decode cX1_has 0 = .ok (.iload_n 0, 1) := by decide +kernel
theorem dX1_has_1 : decode cX1_has 1 = .ok (.iload_n 1, 1) := by decide +kernel
theorem dX1_has_2 : decode cX1_has 2 = .ok (.ishr, 1) := by decide +kernel
theorem dX1_has_3 : decode cX1_has 3 = .ok (.iconst 1, 1) := by decide +kernel
theorem dX1_has_4 : decode cX1_has 4 = .ok (.iand, 1) := by decide +kernel
theorem dX1_has_5 : decode cX1_has 5 = .ok (.iconst 1, 1) := by decide +kernel
theorem dX1_has_6 : decode cX1_has 6 = .ok (.if_icmp .ne 7, 3) := by decide +kernel
theorem dX1_has_9 : decode cX1_has 9 = .ok (.iconst 1, 1) := by decide +kernel
theorem dX1_has_10 : decode cX1_has 10 = .ok (.goto 4, 3) := by decide +kernel
theorem dX1_has_13 : decode cX1_has 13 = .ok (.iconst 0, 1) := by decide +kernel
theorem dX1_has_14 : decode cX1_has 14 = .ok (.ireturn, 1) := by decide +kernel
theorem dX1_many_0 : decode cX1_many 0 = .ok (.iconst 0, 1) := by decide +kernel
theorem dX1_many_1 : decode cX1_many 1 = .ok (.istore_n 1, 1) := by decide +kernel
theorem dX1_many_2 : decode cX1_many 2 = .ok (.iconst 0, 1) := by decide +kernel
theorem dX1_many_3 : decode cX1_many 3 = .ok (.istore_n 2, 1) := by decide +kernel
theorem dX1_many_4 : decode cX1_many 4 = .ok (.iload_n 2, 1) := by decide +kernel
theorem dX1_many_5 : decode cX1_many 5 = .ok (.bipush 10, 2) := by decide +kernel
theorem dX1_many_7 : decode cX1_many 7 = .ok (.if_icmp .ge 17, 3) := by decide +kernel
theorem dX1_many_10 : decode cX1_many 10 = .ok (.iload_n 1, 1) := by decide +kernel
theorem dX1_many_11 : decode cX1_many 11 = .ok (.iload_n 0, 1) := by decide +kernel
theorem dX1_many_12 : decode cX1_many 12 = .ok (.iload_n 2, 1) := by decide +kernel
theorem dX1_many_13 : decode cX1_many 13 = .ok (.ishr, 1) := by decide +kernel
theorem dX1_many_14 : decode cX1_many 14 = .ok (.iconst 1, 1) := by decide +kernel
theorem dX1_many_15 : decode cX1_many 15 = .ok (.iand, 1) := by decide +kernel
theorem dX1_many_16 : decode cX1_many 16 = .ok (.iadd, 1) := by decide +kernel
theorem dX1_many_17 : decode cX1_many 17 = .ok (.istore_n 1, 1) := by decide +kernel
theorem dX1_many_18 : decode cX1_many 18 = .ok (.iinc 2 1, 3) := by decide +kernel
theorem dX1_many_21 : decode cX1_many 21 = .ok (.goto (-17), 3) := by decide +kernel
theorem dX1_many_24 : decode cX1_many 24 = .ok (.iload_n 1, 1) := by decide +kernel
theorem dX1_many_25 : decode cX1_many 25 = .ok (.ireturn, 1) := by decide +kernel
set_option maxRecDepth 20000 in
theorem ggX1_elements_X1_isIn : GoodIn wsX1_elements wsX1_isIn := goodIn_r _ [6] (by decide +kernel) (by decide +kernel)
set_option maxRecDepth 20000 in
theorem gX1_elements_X1_isIn : GoodIn wsX1_elements (va_wsS RX1 47 yX1_isIn wsX1_isIn) := goodIn_app (goodIn_of _ (by decide +kernel)) ggX1_elements_X1_isIn
set_option maxRecDepth 20000 in
theorem ggX1_elements_X1_forgets : GoodIn wsX1_elements wsX1_forgets := goodIn_r _ [10, 11, 12, 13, 14, 15, 16, 17, 18, 19, 20, 21, 22, 23, 24, 25, 26, 27, 28] (by decide +kernel) (by decide +kernel)
set_option maxRecDepth 20000 in
theorem gX1_elements_X1_forgets : GoodIn wsX1_elements (wsV RX1 35 RX1 yX1_forgets wsX1_forgets) := goodIn_app (goodIn_of _ (by decide +kernel)) ggX1_elements_X1_forgets
theorem dX1_elements_0 : decode cX1_elements 0 = .ok (.aload_n 0, 1) := by decide +kernel
theorem dX1_elements_1 : decode cX1_elements 1 = .ok (.iload_n 1, 1) := by decide +kernel
theorem dX1_elements_2 : decode cX1_elements 2 = .ok (.iconst 1, 1) := by decide +kernel
theorem dX1_elements_3 : decode cX1_elements 3 = .ok (.bipush 6, 2) := by decide +kernel
theorem dX1_elements_5 : decode cX1_elements 5 = .ok (.invokestatic 47, 3) := by decide +kernel
theorem dX1_elements_8 : decode cX1_elements 8 = .ok (.ifCond .eq 7, 3) := by decide +kernel
theorem dX1_elements_11 : decode cX1_elements 11 = .ok (.iconst 0, 1) := by decide +kernel
theorem dX1_elements_12 : decode cX1_elements 12 = .ok (.goto 4, 3) := by decide +kernel
theorem dX1_elements_15 : decode cX1_elements 15 = .ok (.iconst 1, 1) := by decide +kernel
theorem dX1_elements_16 : decode cX1_elements 16 = .ok (.putfield 44, 3) := by decide +kernel
theorem dX1_elements_19 : decode cX1_elements 19 = .ok (.aload_n 0, 1) := by decide +kernel
theorem dX1_elements_20 : decode cX1_elements 20 = .ok (.getfield 44, 3) := by decide +kernel
theorem dX1_elements_23 : decode cX1_elements 23 = .ok (.ifCond .le 5, 3) := by decide +kernel
theorem dX1_elements_26 : decode cX1_elements 26 = .ok (.iconst 0, 1) := by decide +kernel
theorem dX1_elements_27 : decode cX1_elements 27 = .ok (.ireturn, 1) := by decide +kernel
theorem dX1_elements_28 : decode cX1_elements 28 = .ok (.aload_n 0, 1) := by decide +kernel
theorem dX1_elements_29 : decode cX1_elements 29 = .ok (.getfield 7, 3) := by decide +kernel
theorem dX1_elements_32 : decode cX1_elements 32 = .ok (.istore_n 2, 1) := by decide +kernel
theorem dX1_elements_33 : decode cX1_elements 33 = .ok (.aload_n 0, 1) := by decide +kernel
theorem dX1_elements_34 : decode cX1_elements 34 = .ok (.iload_n 1, 1) := by decide +kernel
theorem dX1_elements_35 : decode cX1_elements 35 = .ok (.putfield 7, 3) := by decide +kernel
theorem dX1_elements_38 : decode cX1_elements 38 = .ok (.aload_n 0, 1) := by decide +kernel
theorem dX1_elements_39 : decode cX1_elements 39 = .ok (.invokevirtual 35, 3) := by decide +kernel
theorem dX1_elements_42 : decode cX1_elements 42 = .ok (.iload_n 2, 1) := by decide +kernel
theorem dX1_elements_43 : decode cX1_elements 43 = .ok (.ireturn, 1) := by decide +kernel
set_option maxRecDepth 20000 in
theorem ggX1_cover_X1_isElement : GoodIn wsX1_cover wsX1_isElement := goodIn_r _ [7, 8, 9, 10, 6, 11, 15, 16, 17, 18, 19, 20, 21, 22, 23, 24, 25] (by decide +kernel) (by decide +kernel)
set_option maxRecDepth 20000 in
theorem gX1_cover_X1_isElement : GoodIn wsX1_cover (wsV RX1 51 RX1 yX1_isElement wsX1_isElement) := goodIn_app (goodIn_of _ (by decide +kernel)) ggX1_cover_X1_isElement
set_option maxRecDepth 20000 in
theorem ggX1_cover_X1_isIn : GoodIn wsX1_cover wsX1_isIn := goodIn_r _ [11] (by decide +kernel) (by decide +kernel)
set_option maxRecDepth 20000 in
theorem gX1_cover_X1_isIn : GoodIn wsX1_cover (va_wsS RX1 47 yX1_isIn wsX1_isIn) := goodIn_app (goodIn_of _ (by decide +kernel)) ggX1_cover_X1_isIn
set_option maxRecDepth 20000 in
theorem ggX1_cover_X1_has : GoodIn wsX1_cover wsX1_has := goodIn_r _ [14] (by decide +kernel) (by decide +kernel)
set_option maxRecDepth 20000 in
theorem gX1_cover_X1_has : GoodIn wsX1_cover (va_wsS RX1 55 yX1_has wsX1_has) := goodIn_app (goodIn_of _ (by decide +kernel)) ggX1_cover_X1_has
theorem dX1_cover_0 : decode cX1_cover 0 = .ok (.aload_n 0, 1) := by decide +kernel
theorem dX1_cover_1 : decode cX1_cover 1 = .ok (.aload_n 0, 1) := by decide +kernel
theorem dX1_cover_2 : decode cX1_cover 2 = .ok (.iload_n 1, 1) := by decide +kernel
theorem dX1_cover_3 : decode cX1_cover 3 = .ok (.invokevirtual 51, 3) := by decide +kernel
theorem dX1_cover_6 : decode cX1_cover 6 = .ok (.ifCond .eq 17, 3) := by decide +kernel
theorem dX1_cover_9 : decode cX1_cover 9 = .ok (.iload_n 2, 1) := by decide +kernel
theorem dX1_cover_10 : decode cX1_cover 10 = .ok (.iconst 0, 1) := by decide +kernel
theorem dX1_cover_11 : decode cX1_cover 11 = .ok (.bipush 9, 2) := by decide +kernel
theorem dX1_cover_13 : decode cX1_cover 13 = .ok (.invokestatic 47, 3) := by decide +kernel
theorem dX1_cover_16 : decode cX1_cover 16 = .ok (.ifCond .eq 7, 3) := by decide +kernel
theorem dX1_cover_19 : decode cX1_cover 19 = .ok (.iconst 0, 1) := by decide +kernel
theorem dX1_cover_20 : decode cX1_cover 20 = .ok (.goto 4, 3) := by decide +kernel
theorem dX1_cover_23 : decode cX1_cover 23 = .ok (.iconst 1, 1) := by decide +kernel
theorem dX1_cover_24 : decode cX1_cover 24 = .ok (.putfield 44, 3) := by decide +kernel
theorem dX1_cover_27 : decode cX1_cover 27 = .ok (.aload_n 0, 1) := by decide +kernel
theorem dX1_cover_28 : decode cX1_cover 28 = .ok (.getfield 44, 3) := by decide +kernel
theorem dX1_cover_31 : decode cX1_cover 31 = .ok (.ifCond .le 5, 3) := by decide +kernel
theorem dX1_cover_34 : decode cX1_cover 34 = .ok (.iconst 0, 1) := by decide +kernel
theorem dX1_cover_35 : decode cX1_cover 35 = .ok (.ireturn, 1) := by decide +kernel
theorem dX1_cover_36 : decode cX1_cover 36 = .ok (.aload_n 0, 1) := by decide +kernel
theorem dX1_cover_37 : decode cX1_cover 37 = .ok (.getfield 13, 3) := by decide +kernel
theorem dX1_cover_40 : decode cX1_cover 40 = .ok (.iload_n 1, 1) := by decide +kernel
theorem dX1_cover_41 : decode cX1_cover 41 = .ok (.iaload, 1) := by decide +kernel
theorem dX1_cover_42 : decode cX1_cover 42 = .ok (.iload_n 2, 1) := by decide +kernel
theorem dX1_cover_43 : decode cX1_cover 43 = .ok (.invokestatic 55, 3) := by decide +kernel
theorem dX1_cover_46 : decode cX1_cover 46 = .ok (.istore 4, 2) := by decide +kernel
theorem dX1_cover_48 : decode cX1_cover 48 = .ok (.aload_n 0, 1) := by decide +kernel
theorem dX1_cover_49 : decode cX1_cover 49 = .ok (.getfield 13, 3) := by decide +kernel
theorem dX1_cover_52 : decode cX1_cover 52 = .ok (.iload_n 1, 1) := by decide +kernel
theorem dX1_cover_53 : decode cX1_cover 53 = .ok (.iload_n 3, 1) := by decide +kernel
theorem dX1_cover_54 : decode cX1_cover 54 = .ok (.ifCond .eq 16, 3) := by decide +kernel
theorem dX1_cover_57 : decode cX1_cover 57 = .ok (.aload_n 0, 1) := by decide +kernel
theorem dX1_cover_58 : decode cX1_cover 58 = .ok (.getfield 13, 3) := by decide +kernel
theorem dX1_cover_61 : decode cX1_cover 61 = .ok (.iload_n 1, 1) := by decide +kernel
theorem dX1_cover_62 : decode cX1_cover 62 = .ok (.iaload, 1) := by decide +kernel
theorem dX1_cover_63 : decode cX1_cover 63 = .ok (.iconst 1, 1) := by decide +kernel
theorem dX1_cover_64 : decode cX1_cover 64 = .ok (.iload_n 2, 1) := by decide +kernel
theorem dX1_cover_65 : decode cX1_cover 65 = .ok (.ishl, 1) := by decide +kernel
theorem dX1_cover_66 : decode cX1_cover 66 = .ok (.ior, 1) := by decide +kernel
theorem dX1_cover_67 : decode cX1_cover 67 = .ok (.goto 15, 3) := by decide +kernel
theorem dX1_cover_70 : decode cX1_cover 70 = .ok (.aload_n 0, 1) := by decide +kernel
theorem dX1_cover_71 : decode cX1_cover 71 = .ok (.getfield 13, 3) := by decide +kernel
theorem dX1_cover_74 : decode cX1_cover 74 = .ok (.iload_n 1, 1) := by decide +kernel
theorem dX1_cover_75 : decode cX1_cover 75 = .ok (.iaload, 1) := by decide +kernel
theorem dX1_cover_76 : decode cX1_cover 76 = .ok (.iconst 1, 1) := by decide +kernel
theorem dX1_cover_77 : decode cX1_cover 77 = .ok (.iload_n 2, 1) := by decide +kernel
theorem dX1_cover_78 : decode cX1_cover 78 = .ok (.ishl, 1) := by decide +kernel
theorem dX1_cover_79 : decode cX1_cover 79 = .ok (.iconst (-1), 1) := by decide +kernel
theorem dX1_cover_80 : decode cX1_cover 80 = .ok (.ixor, 1) := by decide +kernel
theorem dX1_cover_81 : decode cX1_cover 81 = .ok (.iand, 1) := by decide +kernel
theorem dX1_cover_82 : decode cX1_cover 82 = .ok (.iastore, 1) := by decide +kernel
theorem dX1_cover_83 : decode cX1_cover 83 = .ok (.iload 4, 2) := by decide +kernel
theorem dX1_cover_85 : decode cX1_cover 85 = .ok (.ireturn, 1) := by decide +kernel
set_option maxRecDepth 20000 in
theorem ggX1_edge_X1_isElement : GoodIn wsX1_edge wsX1_isElement := goodIn_r _ [7, 8, 9, 10, 6, 11, 12, 13, 14, 15, 16, 17, 18, 19, 20, 21, 22] (by decide +kernel) (by decide +kernel)
set_option maxRecDepth 20000 in
theorem gX1_edge_X1_isElement : GoodIn wsX1_edge (wsV RX1 51 RX1 yX1_isElement wsX1_isElement) := goodIn_app (goodIn_of _ (by decide +kernel)) ggX1_edge_X1_isElement
set_option maxRecDepth 20000 in
theorem ggX1_edge_X1_isIn : GoodIn wsX1_edge wsX1_isIn := goodIn_r _ [11] (by decide +kernel) (by decide +kernel)
set_option maxRecDepth 20000 in
theorem gX1_edge_X1_isIn : GoodIn wsX1_edge (va_wsS RX1 47 yX1_isIn wsX1_isIn) := goodIn_app (goodIn_of _ (by decide +kernel)) ggX1_edge_X1_isIn
theorem dX1_edge_0 : decode cX1_edge 0 = .ok (.aload_n 0, 1) := by decide +kernel
theorem dX1_edge_1 : decode cX1_edge 1 = .ok (.aload_n 0, 1) := by decide +kernel
theorem dX1_edge_2 : decode cX1_edge 2 = .ok (.iload_n 1, 1) := by decide +kernel
theorem dX1_edge_3 : decode cX1_edge 3 = .ok (.invokevirtual 51, 3) := by decide +kernel
theorem dX1_edge_6 : decode cX1_edge 6 = .ok (.ifCond .eq 11, 3) := by decide +kernel
theorem dX1_edge_9 : decode cX1_edge 9 = .ok (.aload_n 0, 1) := by decide +kernel
theorem dX1_edge_10 : decode cX1_edge 10 = .ok (.iload_n 2, 1) := by decide +kernel
theorem dX1_edge_11 : decode cX1_edge 11 = .ok (.invokevirtual 51, 3) := by decide +kernel
theorem dX1_edge_14 : decode cX1_edge 14 = .ok (.ifCond .ne 7, 3) := by decide +kernel
theorem dX1_edge_17 : decode cX1_edge 17 = .ok (.iconst 1, 1) := by decide +kernel
theorem dX1_edge_18 : decode cX1_edge 18 = .ok (.goto 23, 3) := by decide +kernel
theorem dX1_edge_21 : decode cX1_edge 21 = .ok (.iload_n 1, 1) := by decide +kernel
theorem dX1_edge_22 : decode cX1_edge 22 = .ok (.iload_n 2, 1) := by decide +kernel
theorem dX1_edge_23 : decode cX1_edge 23 = .ok (.if_icmp .eq 13, 3) := by decide +kernel
theorem dX1_edge_26 : decode cX1_edge 26 = .ok (.iload_n 3, 1) := by decide +kernel
theorem dX1_edge_27 : decode cX1_edge 27 = .ok (.iconst 0, 1) := by decide +kernel
theorem dX1_edge_28 : decode cX1_edge 28 = .ok (.bipush 20, 2) := by decide +kernel
theorem dX1_edge_30 : decode cX1_edge 30 = .ok (.invokestatic 47, 3) := by decide +kernel
theorem dX1_edge_33 : decode cX1_edge 33 = .ok (.ifCond .ne 7, 3) := by decide +kernel
theorem dX1_edge_36 : decode cX1_edge 36 = .ok (.iconst 2, 1) := by decide +kernel
theorem dX1_edge_37 : decode cX1_edge 37 = .ok (.goto 4, 3) := by decide +kernel
theorem dX1_edge_40 : decode cX1_edge 40 = .ok (.iconst 0, 1) := by decide +kernel
theorem dX1_edge_41 : decode cX1_edge 41 = .ok (.putfield 44, 3) := by decide +kernel
theorem dX1_edge_44 : decode cX1_edge 44 = .ok (.aload_n 0, 1) := by decide +kernel
theorem dX1_edge_45 : decode cX1_edge 45 = .ok (.getfield 44, 3) := by decide +kernel
theorem dX1_edge_48 : decode cX1_edge 48 = .ok (.ifCond .le 5, 3) := by decide +kernel
theorem dX1_edge_51 : decode cX1_edge 51 = .ok (.iconst 0, 1) := by decide +kernel
theorem dX1_edge_52 : decode cX1_edge 52 = .ok (.ireturn, 1) := by decide +kernel
theorem dX1_edge_53 : decode cX1_edge 53 = .ok (.aload_n 0, 1) := by decide +kernel
theorem dX1_edge_54 : decode cX1_edge 54 = .ok (.getfield 17, 3) := by decide +kernel
theorem dX1_edge_57 : decode cX1_edge 57 = .ok (.bipush 6, 2) := by decide +kernel
theorem dX1_edge_59 : decode cX1_edge 59 = .ok (.iload_n 1, 1) := by decide +kernel
theorem dX1_edge_60 : decode cX1_edge 60 = .ok (.imul, 1) := by decide +kernel
theorem dX1_edge_61 : decode cX1_edge 61 = .ok (.iload_n 2, 1) := by decide +kernel
theorem dX1_edge_62 : decode cX1_edge 62 = .ok (.iadd, 1) := by decide +kernel
theorem dX1_edge_63 : decode cX1_edge 63 = .ok (.iaload, 1) := by decide +kernel
theorem dX1_edge_64 : decode cX1_edge 64 = .ok (.istore 4, 2) := by decide +kernel
theorem dX1_edge_66 : decode cX1_edge 66 = .ok (.aload_n 0, 1) := by decide +kernel
theorem dX1_edge_67 : decode cX1_edge 67 = .ok (.getfield 17, 3) := by decide +kernel
theorem dX1_edge_70 : decode cX1_edge 70 = .ok (.bipush 6, 2) := by decide +kernel
theorem dX1_edge_72 : decode cX1_edge 72 = .ok (.iload_n 1, 1) := by decide +kernel
theorem dX1_edge_73 : decode cX1_edge 73 = .ok (.imul, 1) := by decide +kernel
theorem dX1_edge_74 : decode cX1_edge 74 = .ok (.iload_n 2, 1) := by decide +kernel
theorem dX1_edge_75 : decode cX1_edge 75 = .ok (.iadd, 1) := by decide +kernel
theorem dX1_edge_76 : decode cX1_edge 76 = .ok (.iload_n 3, 1) := by decide +kernel
theorem dX1_edge_77 : decode cX1_edge 77 = .ok (.iastore, 1) := by decide +kernel
theorem dX1_edge_78 : decode cX1_edge 78 = .ok (.aload_n 0, 1) := by decide +kernel
theorem dX1_edge_79 : decode cX1_edge 79 = .ok (.getfield 17, 3) := by decide +kernel
theorem dX1_edge_82 : decode cX1_edge 82 = .ok (.bipush 6, 2) := by decide +kernel
theorem dX1_edge_84 : decode cX1_edge 84 = .ok (.iload_n 2, 1) := by decide +kernel
theorem dX1_edge_85 : decode cX1_edge 85 = .ok (.imul, 1) := by decide +kernel
theorem dX1_edge_86 : decode cX1_edge 86 = .ok (.iload_n 1, 1) := by decide +kernel
theorem dX1_edge_87 : decode cX1_edge 87 = .ok (.iadd, 1) := by decide +kernel
theorem dX1_edge_88 : decode cX1_edge 88 = .ok (.iload_n 3, 1) := by decide +kernel
theorem dX1_edge_89 : decode cX1_edge 89 = .ok (.iastore, 1) := by decide +kernel
theorem dX1_edge_90 : decode cX1_edge 90 = .ok (.iload 4, 2) := by decide +kernel
theorem dX1_edge_92 : decode cX1_edge 92 = .ok (.ireturn, 1) := by decide +kernel
set_option maxRecDepth 20000 in
theorem ggX1_colour_X1_isIn : GoodIn wsX1_colour wsX1_isIn := goodIn_r _ [6] (by decide +kernel) (by decide +kernel)
set_option maxRecDepth 20000 in
theorem gX1_colour_X1_isIn : GoodIn wsX1_colour (va_wsS RX1 47 yX1_isIn wsX1_isIn) := goodIn_app (goodIn_of _ (by decide +kernel)) ggX1_colour_X1_isIn
set_option maxRecDepth 20000 in
theorem ggX1_colour_X1_isElement : GoodIn wsX1_colour wsX1_isElement := goodIn_r _ [10, 11, 3, 4, 5, 6, 12, 13, 14, 15, 16, 17, 18, 19, 20, 21, 22] (by decide +kernel) (by decide +kernel)
set_option maxRecDepth 20000 in
theorem gX1_colour_X1_isElement : GoodIn wsX1_colour (wsV RX1 51 RX1 yX1_isElement wsX1_isElement) := goodIn_app (goodIn_of _ (by decide +kernel)) ggX1_colour_X1_isElement
theorem dX1_colour_0 : decode cX1_colour 0 = .ok (.aload_n 0, 1) := by decide +kernel
theorem dX1_colour_1 : decode cX1_colour 1 = .ok (.iload_n 1, 1) := by decide +kernel
theorem dX1_colour_2 : decode cX1_colour 2 = .ok (.iconst 0, 1) := by decide +kernel
theorem dX1_colour_3 : decode cX1_colour 3 = .ok (.iconst 1, 1) := by decide +kernel
theorem dX1_colour_4 : decode cX1_colour 4 = .ok (.invokestatic 47, 3) := by decide +kernel
theorem dX1_colour_7 : decode cX1_colour 7 = .ok (.ifCond .eq 24, 3) := by decide +kernel
theorem dX1_colour_10 : decode cX1_colour 10 = .ok (.aload_n 0, 1) := by decide +kernel
theorem dX1_colour_11 : decode cX1_colour 11 = .ok (.iload_n 2, 1) := by decide +kernel
theorem dX1_colour_12 : decode cX1_colour 12 = .ok (.invokevirtual 51, 3) := by decide +kernel
theorem dX1_colour_15 : decode cX1_colour 15 = .ok (.ifCond .eq 16, 3) := by decide +kernel
theorem dX1_colour_18 : decode cX1_colour 18 = .ok (.iload_n 3, 1) := by decide +kernel
theorem dX1_colour_19 : decode cX1_colour 19 = .ok (.iconst 0, 1) := by decide +kernel
theorem dX1_colour_20 : decode cX1_colour 20 = .ok (.iconst 5, 1) := by decide +kernel
theorem dX1_colour_21 : decode cX1_colour 21 = .ok (.invokestatic 47, 3) := by decide +kernel
theorem dX1_colour_24 : decode cX1_colour 24 = .ok (.ifCond .eq 7, 3) := by decide +kernel
theorem dX1_colour_27 : decode cX1_colour 27 = .ok (.iconst 0, 1) := by decide +kernel
theorem dX1_colour_28 : decode cX1_colour 28 = .ok (.goto 4, 3) := by decide +kernel
theorem dX1_colour_31 : decode cX1_colour 31 = .ok (.iconst 1, 1) := by decide +kernel
theorem dX1_colour_32 : decode cX1_colour 32 = .ok (.putfield 44, 3) := by decide +kernel
theorem dX1_colour_35 : decode cX1_colour 35 = .ok (.aload_n 0, 1) := by decide +kernel
theorem dX1_colour_36 : decode cX1_colour 36 = .ok (.getfield 44, 3) := by decide +kernel
theorem dX1_colour_39 : decode cX1_colour 39 = .ok (.ifCond .le 5, 3) := by decide +kernel
theorem dX1_colour_42 : decode cX1_colour 42 = .ok (.iconst 0, 1) := by decide +kernel
theorem dX1_colour_43 : decode cX1_colour 43 = .ok (.ireturn, 1) := by decide +kernel
theorem dX1_colour_44 : decode cX1_colour 44 = .ok (.aload_n 0, 1) := by decide +kernel
theorem dX1_colour_45 : decode cX1_colour 45 = .ok (.getfield 20, 3) := by decide +kernel
theorem dX1_colour_48 : decode cX1_colour 48 = .ok (.bipush 6, 2) := by decide +kernel
theorem dX1_colour_50 : decode cX1_colour 50 = .ok (.iload_n 1, 1) := by decide +kernel
theorem dX1_colour_51 : decode cX1_colour 51 = .ok (.imul, 1) := by decide +kernel
theorem dX1_colour_52 : decode cX1_colour 52 = .ok (.iload_n 2, 1) := by decide +kernel
theorem dX1_colour_53 : decode cX1_colour 53 = .ok (.iadd, 1) := by decide +kernel
theorem dX1_colour_54 : decode cX1_colour 54 = .ok (.iaload, 1) := by decide +kernel
theorem dX1_colour_55 : decode cX1_colour 55 = .ok (.istore 4, 2) := by decide +kernel
theorem dX1_colour_57 : decode cX1_colour 57 = .ok (.aload_n 0, 1) := by decide +kernel
theorem dX1_colour_58 : decode cX1_colour 58 = .ok (.getfield 20, 3) := by decide +kernel
theorem dX1_colour_61 : decode cX1_colour 61 = .ok (.bipush 6, 2) := by decide +kernel
theorem dX1_colour_63 : decode cX1_colour 63 = .ok (.iload_n 1, 1) := by decide +kernel
theorem dX1_colour_64 : decode cX1_colour 64 = .ok (.imul, 1) := by decide +kernel
theorem dX1_colour_65 : decode cX1_colour 65 = .ok (.iload_n 2, 1) := by decide +kernel
theorem dX1_colour_66 : decode cX1_colour 66 = .ok (.iadd, 1) := by decide +kernel
theorem dX1_colour_67 : decode cX1_colour 67 = .ok (.iload_n 3, 1) := by decide +kernel
theorem dX1_colour_68 : decode cX1_colour 68 = .ok (.iastore, 1) := by decide +kernel
theorem dX1_colour_69 : decode cX1_colour 69 = .ok (.iload 4, 2) := by decide +kernel
theorem dX1_colour_71 : decode cX1_colour 71 = .ok (.ireturn, 1) := by decide +kernel
set_option maxRecDepth 20000 in
theorem ggX1_room_X1_isIn : GoodIn wsX1_room wsX1_isIn := goodIn_r _ [6] (by decide +kernel) (by decide +kernel)
set_option maxRecDepth 20000 in
theorem gX1_room_X1_isIn : GoodIn wsX1_room (va_wsS RX1 47 yX1_isIn wsX1_isIn) := goodIn_app (goodIn_of _ (by decide +kernel)) ggX1_room_X1_isIn
theorem dX1_room_0 : decode cX1_room 0 = .ok (.aload_n 0, 1) := by decide +kernel
theorem dX1_room_1 : decode cX1_room 1 = .ok (.iload_n 1, 1) := by decide +kernel
theorem dX1_room_2 : decode cX1_room 2 = .ok (.iconst 0, 1) := by decide +kernel
theorem dX1_room_3 : decode cX1_room 3 = .ok (.iconst 1, 1) := by decide +kernel
theorem dX1_room_4 : decode cX1_room 4 = .ok (.invokestatic 47, 3) := by decide +kernel
theorem dX1_room_7 : decode cX1_room 7 = .ok (.ifCond .eq 12, 3) := by decide +kernel
theorem dX1_room_10 : decode cX1_room 10 = .ok (.iload_n 2, 1) := by decide +kernel
theorem dX1_room_11 : decode cX1_room 11 = .ok (.iconst 0, 1) := by decide +kernel
theorem dX1_room_12 : decode cX1_room 12 = .ok (.iconst 5, 1) := by decide +kernel
theorem dX1_room_13 : decode cX1_room 13 = .ok (.invokestatic 47, 3) := by decide +kernel
theorem dX1_room_16 : decode cX1_room 16 = .ok (.ifCond .ne 7, 3) := by decide +kernel
theorem dX1_room_19 : decode cX1_room 19 = .ok (.iconst 1, 1) := by decide +kernel
theorem dX1_room_20 : decode cX1_room 20 = .ok (.goto 18, 3) := by decide +kernel
theorem dX1_room_23 : decode cX1_room 23 = .ok (.iload_n 3, 1) := by decide +kernel
theorem dX1_room_24 : decode cX1_room 24 = .ok (.iconst 0, 1) := by decide +kernel
theorem dX1_room_25 : decode cX1_room 25 = .ok (.bipush 6, 2) := by decide +kernel
theorem dX1_room_27 : decode cX1_room 27 = .ok (.invokestatic 47, 3) := by decide +kernel
theorem dX1_room_30 : decode cX1_room 30 = .ok (.ifCond .ne 7, 3) := by decide +kernel
theorem dX1_room_33 : decode cX1_room 33 = .ok (.iconst 2, 1) := by decide +kernel
theorem dX1_room_34 : decode cX1_room 34 = .ok (.goto 4, 3) := by decide +kernel
theorem dX1_room_37 : decode cX1_room 37 = .ok (.iconst 0, 1) := by decide +kernel
theorem dX1_room_38 : decode cX1_room 38 = .ok (.putfield 44, 3) := by decide +kernel
theorem dX1_room_41 : decode cX1_room 41 = .ok (.aload_n 0, 1) := by decide +kernel
theorem dX1_room_42 : decode cX1_room 42 = .ok (.getfield 44, 3) := by decide +kernel
theorem dX1_room_45 : decode cX1_room 45 = .ok (.ifCond .le 5, 3) := by decide +kernel
theorem dX1_room_48 : decode cX1_room 48 = .ok (.iconst 0, 1) := by decide +kernel
theorem dX1_room_49 : decode cX1_room 49 = .ok (.ireturn, 1) := by decide +kernel
theorem dX1_room_50 : decode cX1_room 50 = .ok (.aload_n 0, 1) := by decide +kernel
theorem dX1_room_51 : decode cX1_room 51 = .ok (.getfield 23, 3) := by decide +kernel
theorem dX1_room_54 : decode cX1_room 54 = .ok (.bipush 6, 2) := by decide +kernel
theorem dX1_room_56 : decode cX1_room 56 = .ok (.iload_n 1, 1) := by decide +kernel
theorem dX1_room_57 : decode cX1_room 57 = .ok (.imul, 1) := by decide +kernel
theorem dX1_room_58 : decode cX1_room 58 = .ok (.iload_n 2, 1) := by decide +kernel
theorem dX1_room_59 : decode cX1_room 59 = .ok (.iadd, 1) := by decide +kernel
theorem dX1_room_60 : decode cX1_room 60 = .ok (.iaload, 1) := by decide +kernel
theorem dX1_room_61 : decode cX1_room 61 = .ok (.istore 4, 2) := by decide +kernel
theorem dX1_room_63 : decode cX1_room 63 = .ok (.aload_n 0, 1) := by decide +kernel
theorem dX1_room_64 : decode cX1_room 64 = .ok (.getfield 23, 3) := by decide +kernel
theorem dX1_room_67 : decode cX1_room 67 = .ok (.bipush 6, 2) := by decide +kernel
theorem dX1_room_69 : decode cX1_room 69 = .ok (.iload_n 1, 1) := by decide +kernel
theorem dX1_room_70 : decode cX1_room 70 = .ok (.imul, 1) := by decide +kernel
theorem dX1_room_71 : decode cX1_room 71 = .ok (.iload_n 2, 1) := by decide +kernel
theorem dX1_room_72 : decode cX1_room 72 = .ok (.iadd, 1) := by decide +kernel
theorem dX1_room_73 : decode cX1_room 73 = .ok (.iload_n 3, 1) := by decide +kernel
theorem dX1_room_74 : decode cX1_room 74 = .ok (.iastore, 1) := by decide +kernel
theorem dX1_room_75 : decode cX1_room 75 = .ok (.iload 4, 2) := by decide +kernel
theorem dX1_room_77 : decode cX1_room 77 = .ok (.ireturn, 1) := by decide +kernel
set_option maxRecDepth 20000 in
theorem ggX1_weigh_X1_isElement : GoodIn wsX1_weigh wsX1_isElement := goodIn_r _ [7, 8, 9, 10, 6, 11, 12, 13, 14, 15, 16, 17, 18, 19, 20, 21, 22] (by decide +kernel) (by decide +kernel)
set_option maxRecDepth 20000 in
theorem gX1_weigh_X1_isElement : GoodIn wsX1_weigh (wsV RX1 51 RX1 yX1_isElement wsX1_isElement) := goodIn_app (goodIn_of _ (by decide +kernel)) ggX1_weigh_X1_isElement
set_option maxRecDepth 20000 in
theorem ggX1_weigh_X1_isIn : GoodIn wsX1_weigh wsX1_isIn := goodIn_r _ [11] (by decide +kernel) (by decide +kernel)
set_option maxRecDepth 20000 in
theorem gX1_weigh_X1_isIn : GoodIn wsX1_weigh (va_wsS RX1 47 yX1_isIn wsX1_isIn) := goodIn_app (goodIn_of _ (by decide +kernel)) ggX1_weigh_X1_isIn
theorem dX1_weigh_0 : decode cX1_weigh 0 = .ok (.aload_n 0, 1) := by decide +kernel
theorem dX1_weigh_1 : decode cX1_weigh 1 = .ok (.aload_n 0, 1) := by decide +kernel
theorem dX1_weigh_2 : decode cX1_weigh 2 = .ok (.iload_n 1, 1) := by decide +kernel
theorem dX1_weigh_3 : decode cX1_weigh 3 = .ok (.invokevirtual 51, 3) := by decide +kernel
theorem dX1_weigh_6 : decode cX1_weigh 6 = .ok (.ifCond .ne 7, 3) := by decide +kernel
theorem dX1_weigh_9 : decode cX1_weigh 9 = .ok (.iconst 1, 1) := by decide +kernel
theorem dX1_weigh_10 : decode cX1_weigh 10 = .ok (.goto 19, 3) := by decide +kernel
theorem dX1_weigh_13 : decode cX1_weigh 13 = .ok (.iload_n 2, 1) := by decide +kernel
theorem dX1_weigh_14 : decode cX1_weigh 14 = .ok (.bipush (-20), 2) := by decide +kernel
theorem dX1_weigh_16 : decode cX1_weigh 16 = .ok (.bipush 20, 2) := by decide +kernel
theorem dX1_weigh_18 : decode cX1_weigh 18 = .ok (.invokestatic 47, 3) := by decide +kernel
theorem dX1_weigh_21 : decode cX1_weigh 21 = .ok (.ifCond .ne 7, 3) := by decide +kernel
theorem dX1_weigh_24 : decode cX1_weigh 24 = .ok (.iconst 2, 1) := by decide +kernel
theorem dX1_weigh_25 : decode cX1_weigh 25 = .ok (.goto 4, 3) := by decide +kernel
theorem dX1_weigh_28 : decode cX1_weigh 28 = .ok (.iconst 0, 1) := by decide +kernel
theorem dX1_weigh_29 : decode cX1_weigh 29 = .ok (.putfield 44, 3) := by decide +kernel
theorem dX1_weigh_32 : decode cX1_weigh 32 = .ok (.aload_n 0, 1) := by decide +kernel
theorem dX1_weigh_33 : decode cX1_weigh 33 = .ok (.getfield 44, 3) := by decide +kernel
theorem dX1_weigh_36 : decode cX1_weigh 36 = .ok (.ifCond .le 5, 3) := by decide +kernel
theorem dX1_weigh_39 : decode cX1_weigh 39 = .ok (.iconst 0, 1) := by decide +kernel
theorem dX1_weigh_40 : decode cX1_weigh 40 = .ok (.ireturn, 1) := by decide +kernel
theorem dX1_weigh_41 : decode cX1_weigh 41 = .ok (.aload_n 0, 1) := by decide +kernel
theorem dX1_weigh_42 : decode cX1_weigh 42 = .ok (.getfield 26, 3) := by decide +kernel
theorem dX1_weigh_45 : decode cX1_weigh 45 = .ok (.iload_n 1, 1) := by decide +kernel
theorem dX1_weigh_46 : decode cX1_weigh 46 = .ok (.iaload, 1) := by decide +kernel
theorem dX1_weigh_47 : decode cX1_weigh 47 = .ok (.istore_n 3, 1) := by decide +kernel
theorem dX1_weigh_48 : decode cX1_weigh 48 = .ok (.aload_n 0, 1) := by decide +kernel
theorem dX1_weigh_49 : decode cX1_weigh 49 = .ok (.getfield 26, 3) := by decide +kernel
theorem dX1_weigh_52 : decode cX1_weigh 52 = .ok (.iload_n 1, 1) := by decide +kernel
theorem dX1_weigh_53 : decode cX1_weigh 53 = .ok (.iload_n 2, 1) := by decide +kernel
theorem dX1_weigh_54 : decode cX1_weigh 54 = .ok (.iastore, 1) := by decide +kernel
theorem dX1_weigh_55 : decode cX1_weigh 55 = .ok (.iload_n 3, 1) := by decide +kernel
theorem dX1_weigh_56 : decode cX1_weigh 56 = .ok (.ireturn, 1) := by decide +kernel
set_option maxRecDepth 20000 in
theorem ggX1_covered_X1_has : GoodIn wsX1_covered wsX1_has := goodIn_r _ [6] (by decide +kernel) (by decide +kernel)
set_option maxRecDepth 20000 in
theorem gX1_covered_X1_has : GoodIn wsX1_covered (va_wsS RX1 55 yX1_has wsX1_has) := goodIn_app (goodIn_of _ (by decide +kernel)) ggX1_covered_X1_has
set_option maxRecDepth 20000 in
theorem ggX1_covered_X1_many : GoodIn wsX1_covered wsX1_many := goodIn_r _ [9] (by decide +kernel) (by decide +kernel)
set_option maxRecDepth 20000 in
theorem gX1_covered_X1_many : GoodIn wsX1_covered (va_wsS RX1 59 yX1_many wsX1_many) := goodIn_app (goodIn_of _ (by decide +kernel)) ggX1_covered_X1_many
theorem dX1_covered_0 : decode cX1_covered 0 = .ok (.iconst 0, 1) := by decide +kernel
theorem dX1_covered_1 : decode cX1_covered 1 = .ok (.istore_n 2, 1) := by decide +kernel
theorem dX1_covered_2 : decode cX1_covered 2 = .ok (.iconst 0, 1) := by decide +kernel
theorem dX1_covered_3 : decode cX1_covered 3 = .ok (.istore_n 3, 1) := by decide +kernel
theorem dX1_covered_4 : decode cX1_covered 4 = .ok (.iload_n 3, 1) := by decide +kernel
theorem dX1_covered_5 : decode cX1_covered 5 = .ok (.aload_n 0, 1) := by decide +kernel
theorem dX1_covered_6 : decode cX1_covered 6 = .ok (.getfield 7, 3) := by decide +kernel
theorem dX1_covered_9 : decode cX1_covered 9 = .ok (.if_icmp .ge 30, 3) := by decide +kernel
theorem dX1_covered_12 : decode cX1_covered 12 = .ok (.iload_n 2, 1) := by decide +kernel
theorem dX1_covered_13 : decode cX1_covered 13 = .ok (.iload_n 1, 1) := by decide +kernel
theorem dX1_covered_14 : decode cX1_covered 14 = .ok (.iload_n 3, 1) := by decide +kernel
theorem dX1_covered_15 : decode cX1_covered 15 = .ok (.invokestatic 55, 3) := by decide +kernel
theorem dX1_covered_18 : decode cX1_covered 18 = .ok (.ifCond .eq 12, 3) := by decide +kernel
theorem dX1_covered_21 : decode cX1_covered 21 = .ok (.aload_n 0, 1) := by decide +kernel
theorem dX1_covered_22 : decode cX1_covered 22 = .ok (.getfield 13, 3) := by decide +kernel
theorem dX1_covered_25 : decode cX1_covered 25 = .ok (.iload_n 3, 1) := by decide +kernel
theorem dX1_covered_26 : decode cX1_covered 26 = .ok (.iaload, 1) := by decide +kernel
theorem dX1_covered_27 : decode cX1_covered 27 = .ok (.goto 4, 3) := by decide +kernel
theorem dX1_covered_30 : decode cX1_covered 30 = .ok (.iconst 0, 1) := by decide +kernel
theorem dX1_covered_31 : decode cX1_covered 31 = .ok (.ior, 1) := by decide +kernel
theorem dX1_covered_32 : decode cX1_covered 32 = .ok (.istore_n 2, 1) := by decide +kernel
theorem dX1_covered_33 : decode cX1_covered 33 = .ok (.iinc 3 1, 3) := by decide +kernel
theorem dX1_covered_36 : decode cX1_covered 36 = .ok (.goto (-32), 3) := by decide +kernel
theorem dX1_covered_39 : decode cX1_covered 39 = .ok (.iload_n 2, 1) := by decide +kernel
theorem dX1_covered_40 : decode cX1_covered 40 = .ok (.invokestatic 59, 3) := by decide +kernel
theorem dX1_covered_43 : decode cX1_covered 43 = .ok (.ireturn, 1) := by decide +kernel
set_option maxRecDepth 20000 in
theorem ggX1_cutBy_X1_has : GoodIn wsX1_cutBy wsX1_has := goodIn_r _ [6] (by decide +kernel) (by decide +kernel)
set_option maxRecDepth 20000 in
theorem gX1_cutBy_X1_has : GoodIn wsX1_cutBy (va_wsS RX1 55 yX1_has wsX1_has) := goodIn_app (goodIn_of _ (by decide +kernel)) ggX1_cutBy_X1_has
theorem dX1_cutBy_0 : decode cX1_cutBy 0 = .ok (.iconst 0, 1) := by decide +kernel
theorem dX1_cutBy_1 : decode cX1_cutBy 1 = .ok (.istore_n 2, 1) := by decide +kernel
theorem dX1_cutBy_2 : decode cX1_cutBy 2 = .ok (.iconst 0, 1) := by decide +kernel
theorem dX1_cutBy_3 : decode cX1_cutBy 3 = .ok (.istore_n 3, 1) := by decide +kernel
theorem dX1_cutBy_4 : decode cX1_cutBy 4 = .ok (.iload_n 3, 1) := by decide +kernel
theorem dX1_cutBy_5 : decode cX1_cutBy 5 = .ok (.aload_n 0, 1) := by decide +kernel
theorem dX1_cutBy_6 : decode cX1_cutBy 6 = .ok (.getfield 7, 3) := by decide +kernel
theorem dX1_cutBy_9 : decode cX1_cutBy 9 = .ok (.if_icmp .ge 63, 3) := by decide +kernel
theorem dX1_cutBy_12 : decode cX1_cutBy 12 = .ok (.iconst 0, 1) := by decide +kernel
theorem dX1_cutBy_13 : decode cX1_cutBy 13 = .ok (.istore 4, 2) := by decide +kernel
theorem dX1_cutBy_15 : decode cX1_cutBy 15 = .ok (.iload 4, 2) := by decide +kernel
theorem dX1_cutBy_17 : decode cX1_cutBy 17 = .ok (.aload_n 0, 1) := by decide +kernel
theorem dX1_cutBy_18 : decode cX1_cutBy 18 = .ok (.getfield 7, 3) := by decide +kernel
theorem dX1_cutBy_21 : decode cX1_cutBy 21 = .ok (.if_icmp .ge 45, 3) := by decide +kernel
theorem dX1_cutBy_24 : decode cX1_cutBy 24 = .ok (.iload_n 2, 1) := by decide +kernel
theorem dX1_cutBy_25 : decode cX1_cutBy 25 = .ok (.iload_n 1, 1) := by decide +kernel
theorem dX1_cutBy_26 : decode cX1_cutBy 26 = .ok (.iload_n 3, 1) := by decide +kernel
theorem dX1_cutBy_27 : decode cX1_cutBy 27 = .ok (.invokestatic 55, 3) := by decide +kernel
theorem dX1_cutBy_30 : decode cX1_cutBy 30 = .ok (.ifCond .eq 27, 3) := by decide +kernel
theorem dX1_cutBy_33 : decode cX1_cutBy 33 = .ok (.iload_n 1, 1) := by decide +kernel
theorem dX1_cutBy_34 : decode cX1_cutBy 34 = .ok (.iload 4, 2) := by decide +kernel
theorem dX1_cutBy_36 : decode cX1_cutBy 36 = .ok (.invokestatic 55, 3) := by decide +kernel
theorem dX1_cutBy_39 : decode cX1_cutBy 39 = .ok (.ifCond .ne 18, 3) := by decide +kernel
theorem dX1_cutBy_42 : decode cX1_cutBy 42 = .ok (.aload_n 0, 1) := by decide +kernel
theorem dX1_cutBy_43 : decode cX1_cutBy 43 = .ok (.getfield 17, 3) := by decide +kernel
theorem dX1_cutBy_46 : decode cX1_cutBy 46 = .ok (.bipush 6, 2) := by decide +kernel
theorem dX1_cutBy_48 : decode cX1_cutBy 48 = .ok (.iload_n 3, 1) := by decide +kernel
theorem dX1_cutBy_49 : decode cX1_cutBy 49 = .ok (.imul, 1) := by decide +kernel
theorem dX1_cutBy_50 : decode cX1_cutBy 50 = .ok (.iload 4, 2) := by decide +kernel
theorem dX1_cutBy_52 : decode cX1_cutBy 52 = .ok (.iadd, 1) := by decide +kernel
theorem dX1_cutBy_53 : decode cX1_cutBy 53 = .ok (.iaload, 1) := by decide +kernel
theorem dX1_cutBy_54 : decode cX1_cutBy 54 = .ok (.goto 4, 3) := by decide +kernel
theorem dX1_cutBy_57 : decode cX1_cutBy 57 = .ok (.iconst 0, 1) := by decide +kernel
theorem dX1_cutBy_58 : decode cX1_cutBy 58 = .ok (.iadd, 1) := by decide +kernel
theorem dX1_cutBy_59 : decode cX1_cutBy 59 = .ok (.istore_n 2, 1) := by decide +kernel
theorem dX1_cutBy_60 : decode cX1_cutBy 60 = .ok (.iinc 4 1, 3) := by decide +kernel
theorem dX1_cutBy_63 : decode cX1_cutBy 63 = .ok (.goto (-48), 3) := by decide +kernel
theorem dX1_cutBy_66 : decode cX1_cutBy 66 = .ok (.iinc 3 1, 3) := by decide +kernel
theorem dX1_cutBy_69 : decode cX1_cutBy 69 = .ok (.goto (-65), 3) := by decide +kernel
theorem dX1_cutBy_72 : decode cX1_cutBy 72 = .ok (.iload_n 2, 1) := by decide +kernel
theorem dX1_cutBy_73 : decode cX1_cutBy 73 = .ok (.ireturn, 1) := by decide +kernel
set_option maxRecDepth 20000 in
theorem ggX1_ofColour_X1_has : GoodIn wsX1_ofColour wsX1_has := goodIn_r _ [6] (by decide +kernel) (by decide +kernel)
set_option maxRecDepth 20000 in
theorem gX1_ofColour_X1_has : GoodIn wsX1_ofColour (va_wsS RX1 55 yX1_has wsX1_has) := goodIn_app (goodIn_of _ (by decide +kernel)) ggX1_ofColour_X1_has
theorem dX1_ofColour_0 : decode cX1_ofColour 0 = .ok (.iconst 0, 1) := by decide +kernel
theorem dX1_ofColour_1 : decode cX1_ofColour 1 = .ok (.istore 4, 2) := by decide +kernel
theorem dX1_ofColour_3 : decode cX1_ofColour 3 = .ok (.iconst 0, 1) := by decide +kernel
theorem dX1_ofColour_4 : decode cX1_ofColour 4 = .ok (.istore 5, 2) := by decide +kernel
theorem dX1_ofColour_6 : decode cX1_ofColour 6 = .ok (.iload 5, 2) := by decide +kernel
theorem dX1_ofColour_8 : decode cX1_ofColour 8 = .ok (.aload_n 0, 1) := by decide +kernel
theorem dX1_ofColour_9 : decode cX1_ofColour 9 = .ok (.getfield 7, 3) := by decide +kernel
theorem dX1_ofColour_12 : decode cX1_ofColour 12 = .ok (.if_icmp .ge 44, 3) := by decide +kernel
theorem dX1_ofColour_15 : decode cX1_ofColour 15 = .ok (.iload 4, 2) := by decide +kernel
theorem dX1_ofColour_17 : decode cX1_ofColour 17 = .ok (.iload_n 3, 1) := by decide +kernel
theorem dX1_ofColour_18 : decode cX1_ofColour 18 = .ok (.iload 5, 2) := by decide +kernel
theorem dX1_ofColour_20 : decode cX1_ofColour 20 = .ok (.invokestatic 55, 3) := by decide +kernel
theorem dX1_ofColour_23 : decode cX1_ofColour 23 = .ok (.ifCond .eq 23, 3) := by decide +kernel
theorem dX1_ofColour_26 : decode cX1_ofColour 26 = .ok (.aload_n 0, 1) := by decide +kernel
theorem dX1_ofColour_27 : decode cX1_ofColour 27 = .ok (.getfield 20, 3) := by decide +kernel
theorem dX1_ofColour_30 : decode cX1_ofColour 30 = .ok (.bipush 6, 2) := by decide +kernel
theorem dX1_ofColour_32 : decode cX1_ofColour 32 = .ok (.iload_n 1, 1) := by decide +kernel
theorem dX1_ofColour_33 : decode cX1_ofColour 33 = .ok (.imul, 1) := by decide +kernel
theorem dX1_ofColour_34 : decode cX1_ofColour 34 = .ok (.iload 5, 2) := by decide +kernel
theorem dX1_ofColour_36 : decode cX1_ofColour 36 = .ok (.iadd, 1) := by decide +kernel
theorem dX1_ofColour_37 : decode cX1_ofColour 37 = .ok (.iaload, 1) := by decide +kernel
theorem dX1_ofColour_38 : decode cX1_ofColour 38 = .ok (.iload_n 2, 1) := by decide +kernel
theorem dX1_ofColour_39 : decode cX1_ofColour 39 = .ok (.if_icmp .ne 7, 3) := by decide +kernel
theorem dX1_ofColour_42 : decode cX1_ofColour 42 = .ok (.iconst 1, 1) := by decide +kernel
theorem dX1_ofColour_43 : decode cX1_ofColour 43 = .ok (.goto 4, 3) := by decide +kernel
theorem dX1_ofColour_46 : decode cX1_ofColour 46 = .ok (.iconst 0, 1) := by decide +kernel
theorem dX1_ofColour_47 : decode cX1_ofColour 47 = .ok (.iadd, 1) := by decide +kernel
theorem dX1_ofColour_48 : decode cX1_ofColour 48 = .ok (.istore 4, 2) := by decide +kernel
theorem dX1_ofColour_50 : decode cX1_ofColour 50 = .ok (.iinc 5 1, 3) := by decide +kernel
theorem dX1_ofColour_53 : decode cX1_ofColour 53 = .ok (.goto (-47), 3) := by decide +kernel
theorem dX1_ofColour_56 : decode cX1_ofColour 56 = .ok (.iload 4, 2) := by decide +kernel
theorem dX1_ofColour_58 : decode cX1_ofColour 58 = .ok (.ireturn, 1) := by decide +kernel
set_option maxRecDepth 20000 in
theorem ggX1_rank_X1_ofColour : GoodIn wsX1_rank wsX1_ofColour := goodIn_r _ [6, 7, 8, 9, 10, 5, 11, 12, 13, 14, 15, 16, 17, 18, 19, 20, 21, 22] (by decide +kernel) (by decide +kernel)
set_option maxRecDepth 20000 in
theorem gX1_rank_X1_ofColour : GoodIn wsX1_rank (wsV RX1 63 RX1 yX1_ofColour wsX1_ofColour) := goodIn_app (goodIn_of _ (by decide +kernel)) ggX1_rank_X1_ofColour
theorem dX1_rank_0 : decode cX1_rank 0 = .ok (.iconst 0, 1) := by decide +kernel
theorem dX1_rank_1 : decode cX1_rank 1 = .ok (.istore_n 3, 1) := by decide +kernel
theorem dX1_rank_2 : decode cX1_rank 2 = .ok (.iconst 0, 1) := by decide +kernel
theorem dX1_rank_3 : decode cX1_rank 3 = .ok (.istore 4, 2) := by decide +kernel
theorem dX1_rank_5 : decode cX1_rank 5 = .ok (.iload 4, 2) := by decide +kernel
theorem dX1_rank_7 : decode cX1_rank 7 = .ok (.bipush 6, 2) := by decide +kernel
theorem dX1_rank_9 : decode cX1_rank 9 = .ok (.if_icmp .ge 56, 3) := by decide +kernel
theorem dX1_rank_12 : decode cX1_rank 12 = .ok (.aload_n 0, 1) := by decide +kernel
theorem dX1_rank_13 : decode cX1_rank 13 = .ok (.iload_n 1, 1) := by decide +kernel
theorem dX1_rank_14 : decode cX1_rank 14 = .ok (.iload 4, 2) := by decide +kernel
theorem dX1_rank_16 : decode cX1_rank 16 = .ok (.iload_n 2, 1) := by decide +kernel
theorem dX1_rank_17 : decode cX1_rank 17 = .ok (.invokevirtual 63, 3) := by decide +kernel
theorem dX1_rank_20 : decode cX1_rank 20 = .ok (.istore 5, 2) := by decide +kernel
theorem dX1_rank_22 : decode cX1_rank 22 = .ok (.iload_n 3, 1) := by decide +kernel
theorem dX1_rank_23 : decode cX1_rank 23 = .ok (.iload 5, 2) := by decide +kernel
theorem dX1_rank_25 : decode cX1_rank 25 = .ok (.aload_n 0, 1) := by decide +kernel
theorem dX1_rank_26 : decode cX1_rank 26 = .ok (.getfield 23, 3) := by decide +kernel
theorem dX1_rank_29 : decode cX1_rank 29 = .ok (.bipush 6, 2) := by decide +kernel
theorem dX1_rank_31 : decode cX1_rank 31 = .ok (.iload_n 1, 1) := by decide +kernel
theorem dX1_rank_32 : decode cX1_rank 32 = .ok (.imul, 1) := by decide +kernel
theorem dX1_rank_33 : decode cX1_rank 33 = .ok (.iload 4, 2) := by decide +kernel
theorem dX1_rank_35 : decode cX1_rank 35 = .ok (.iadd, 1) := by decide +kernel
theorem dX1_rank_36 : decode cX1_rank 36 = .ok (.iaload, 1) := by decide +kernel
theorem dX1_rank_37 : decode cX1_rank 37 = .ok (.if_icmp .ge 8, 3) := by decide +kernel
theorem dX1_rank_40 : decode cX1_rank 40 = .ok (.iload 5, 2) := by decide +kernel
theorem dX1_rank_42 : decode cX1_rank 42 = .ok (.goto 15, 3) := by decide +kernel
theorem dX1_rank_45 : decode cX1_rank 45 = .ok (.aload_n 0, 1) := by decide +kernel
theorem dX1_rank_46 : decode cX1_rank 46 = .ok (.getfield 23, 3) := by decide +kernel
theorem dX1_rank_49 : decode cX1_rank 49 = .ok (.bipush 6, 2) := by decide +kernel
theorem dX1_rank_51 : decode cX1_rank 51 = .ok (.iload_n 1, 1) := by decide +kernel
theorem dX1_rank_52 : decode cX1_rank 52 = .ok (.imul, 1) := by decide +kernel
theorem dX1_rank_53 : decode cX1_rank 53 = .ok (.iload 4, 2) := by decide +kernel
theorem dX1_rank_55 : decode cX1_rank 55 = .ok (.iadd, 1) := by decide +kernel
theorem dX1_rank_56 : decode cX1_rank 56 = .ok (.iaload, 1) := by decide +kernel
theorem dX1_rank_57 : decode cX1_rank 57 = .ok (.iadd, 1) := by decide +kernel
theorem dX1_rank_58 : decode cX1_rank 58 = .ok (.istore_n 3, 1) := by decide +kernel
theorem dX1_rank_59 : decode cX1_rank 59 = .ok (.iinc 4 1, 3) := by decide +kernel
theorem dX1_rank_62 : decode cX1_rank 62 = .ok (.goto (-57), 3) := by decide +kernel
theorem dX1_rank_65 : decode cX1_rank 65 = .ok (.iload_n 3, 1) := by decide +kernel
theorem dX1_rank_66 : decode cX1_rank 66 = .ok (.ireturn, 1) := by decide +kernel
set_option maxRecDepth 20000 in
theorem ggX1_weight_X1_has : GoodIn wsX1_weight wsX1_has := goodIn_r _ [6] (by decide +kernel) (by decide +kernel)
set_option maxRecDepth 20000 in
theorem gX1_weight_X1_has : GoodIn wsX1_weight (va_wsS RX1 55 yX1_has wsX1_has) := goodIn_app (goodIn_of _ (by decide +kernel)) ggX1_weight_X1_has
theorem dX1_weight_0 : decode cX1_weight 0 = .ok (.iconst 0, 1) := by decide +kernel
theorem dX1_weight_1 : decode cX1_weight 1 = .ok (.istore_n 2, 1) := by decide +kernel
theorem dX1_weight_2 : decode cX1_weight 2 = .ok (.iconst 0, 1) := by decide +kernel
theorem dX1_weight_3 : decode cX1_weight 3 = .ok (.istore_n 3, 1) := by decide +kernel
theorem dX1_weight_4 : decode cX1_weight 4 = .ok (.iload_n 3, 1) := by decide +kernel
theorem dX1_weight_5 : decode cX1_weight 5 = .ok (.aload_n 0, 1) := by decide +kernel
theorem dX1_weight_6 : decode cX1_weight 6 = .ok (.getfield 7, 3) := by decide +kernel
theorem dX1_weight_9 : decode cX1_weight 9 = .ok (.if_icmp .ge 30, 3) := by decide +kernel
theorem dX1_weight_12 : decode cX1_weight 12 = .ok (.iload_n 2, 1) := by decide +kernel
theorem dX1_weight_13 : decode cX1_weight 13 = .ok (.iload_n 1, 1) := by decide +kernel
theorem dX1_weight_14 : decode cX1_weight 14 = .ok (.iload_n 3, 1) := by decide +kernel
theorem dX1_weight_15 : decode cX1_weight 15 = .ok (.invokestatic 55, 3) := by decide +kernel
theorem dX1_weight_18 : decode cX1_weight 18 = .ok (.ifCond .eq 12, 3) := by decide +kernel
theorem dX1_weight_21 : decode cX1_weight 21 = .ok (.aload_n 0, 1) := by decide +kernel
theorem dX1_weight_22 : decode cX1_weight 22 = .ok (.getfield 26, 3) := by decide +kernel
theorem dX1_weight_25 : decode cX1_weight 25 = .ok (.iload_n 3, 1) := by decide +kernel
theorem dX1_weight_26 : decode cX1_weight 26 = .ok (.iaload, 1) := by decide +kernel
theorem dX1_weight_27 : decode cX1_weight 27 = .ok (.goto 4, 3) := by decide +kernel
theorem dX1_weight_30 : decode cX1_weight 30 = .ok (.iconst 0, 1) := by decide +kernel
theorem dX1_weight_31 : decode cX1_weight 31 = .ok (.iadd, 1) := by decide +kernel
theorem dX1_weight_32 : decode cX1_weight 32 = .ok (.istore_n 2, 1) := by decide +kernel
theorem dX1_weight_33 : decode cX1_weight 33 = .ok (.iinc 3 1, 3) := by decide +kernel
theorem dX1_weight_36 : decode cX1_weight 36 = .ok (.goto (-32), 3) := by decide +kernel
theorem dX1_weight_39 : decode cX1_weight 39 = .ok (.iload_n 2, 1) := by decide +kernel
theorem dX1_weight_40 : decode cX1_weight 40 = .ok (.ireturn, 1) := by decide +kernel
set_option maxRecDepth 20000 in
theorem ggX1_make_X1_isIn : GoodIn wsX1_make wsX1_isIn := goodIn_r _ [7] (by decide +kernel) (by decide +kernel)
set_option maxRecDepth 20000 in
theorem gX1_make_X1_isIn : GoodIn wsX1_make (va_wsS RX1 47 yX1_isIn wsX1_isIn) := goodIn_app (goodIn_of _ (by decide +kernel)) ggX1_make_X1_isIn
set_option maxRecDepth 20000 in
theorem ggX1_make_X1_isSet : GoodIn wsX1_make wsX1_isSet := goodIn_r _ [11, 12, 4, 5, 6, 7, 44, 45, 46, 47, 48, 49, 50, 51, 52, 53, 54] (by decide +kernel) (by decide +kernel)
set_option maxRecDepth 20000 in
theorem gX1_make_X1_isSet : GoodIn wsX1_make (wsV RX1 67 RX1 yX1_isSet wsX1_isSet) := goodIn_app (goodIn_of _ (by decide +kernel)) ggX1_make_X1_isSet
set_option maxRecDepth 20000 in
theorem ggX1_make_X1_covered : GoodIn wsX1_make wsX1_covered := goodIn_r _ [16, 12, 17, 18, 19, 6, 20, 21, 22, 23, 44, 45, 46, 47, 48, 49, 50, 51, 52, 53, 54] (by decide +kernel) (by decide +kernel)
set_option maxRecDepth 20000 in
theorem gX1_make_X1_covered : GoodIn wsX1_make (wsV RX1 70 RX1 yX1_covered wsX1_covered) := goodIn_app (goodIn_of _ (by decide +kernel)) ggX1_make_X1_covered
set_option maxRecDepth 20000 in
theorem ggX1_make_X1_cutBy : GoodIn wsX1_make wsX1_cutBy := goodIn_r _ [27, 12, 28, 18, 19, 6, 20, 44, 45, 46, 47, 48, 49, 50, 51, 52, 53, 54] (by decide +kernel) (by decide +kernel)
set_option maxRecDepth 20000 in
theorem gX1_make_X1_cutBy : GoodIn wsX1_make (wsV RX1 73 RX1 yX1_cutBy wsX1_cutBy) := goodIn_app (goodIn_of _ (by decide +kernel)) ggX1_make_X1_cutBy
set_option maxRecDepth 20000 in
theorem ggX1_make_X1_weight : GoodIn wsX1_make wsX1_weight := goodIn_r _ [32, 12, 33, 18, 19, 6, 20, 44, 45, 46, 47, 48, 49, 50, 51, 52, 53, 54] (by decide +kernel) (by decide +kernel)
set_option maxRecDepth 20000 in
theorem gX1_make_X1_weight : GoodIn wsX1_make (wsV RX1 76 RX1 yX1_weight wsX1_weight) := goodIn_app (goodIn_of _ (by decide +kernel)) ggX1_make_X1_weight
set_option maxRecDepth 20000 in
theorem ggX1_make_X1_rank : GoodIn wsX1_make wsX1_rank := goodIn_r _ [37, 38, 39, 40, 41, 6, 42, 12, 43, 18, 19, 20, 44, 45, 46, 47, 48, 49, 50, 51, 52, 53, 54] (by decide +kernel) (by decide +kernel)
set_option maxRecDepth 20000 in
theorem gX1_make_X1_rank : GoodIn wsX1_make (wsV RX1 79 RX1 yX1_rank wsX1_rank) := goodIn_app (goodIn_of _ (by decide +kernel)) ggX1_make_X1_rank
theorem dX1_make_0 : decode cX1_make 0 = .ok (.aload_n 0, 1) := by decide +kernel
theorem dX1_make_1 : decode cX1_make 1 = .ok (.iload_n 1, 1) := by decide +kernel
theorem dX1_make_2 : decode cX1_make 2 = .ok (.iconst 0, 1) := by decide +kernel
theorem dX1_make_3 : decode cX1_make 3 = .ok (.iconst 4, 1) := by decide +kernel
theorem dX1_make_4 : decode cX1_make 4 = .ok (.invokestatic 47, 3) := by decide +kernel
theorem dX1_make_7 : decode cX1_make 7 = .ok (.ifCond .ne 7, 3) := by decide +kernel
theorem dX1_make_10 : decode cX1_make 10 = .ok (.iconst 1, 1) := by decide +kernel
theorem dX1_make_11 : decode cX1_make 11 = .ok (.goto 17, 3) := by decide +kernel
theorem dX1_make_14 : decode cX1_make 14 = .ok (.aload_n 0, 1) := by decide +kernel
theorem dX1_make_15 : decode cX1_make 15 = .ok (.getfield 38, 3) := by decide +kernel
theorem dX1_make_18 : decode cX1_make 18 = .ok (.bipush 8, 2) := by decide +kernel
theorem dX1_make_20 : decode cX1_make 20 = .ok (.if_icmp .ne 7, 3) := by decide +kernel
theorem dX1_make_23 : decode cX1_make 23 = .ok (.iconst 2, 1) := by decide +kernel
theorem dX1_make_24 : decode cX1_make 24 = .ok (.goto 4, 3) := by decide +kernel
theorem dX1_make_27 : decode cX1_make 27 = .ok (.iconst 0, 1) := by decide +kernel
theorem dX1_make_28 : decode cX1_make 28 = .ok (.putfield 44, 3) := by decide +kernel
theorem dX1_make_31 : decode cX1_make 31 = .ok (.aload_n 0, 1) := by decide +kernel
theorem dX1_make_32 : decode cX1_make 32 = .ok (.getfield 44, 3) := by decide +kernel
theorem dX1_make_35 : decode cX1_make 35 = .ok (.ifCond .le 5, 3) := by decide +kernel
theorem dX1_make_38 : decode cX1_make 38 = .ok (.iconst 0, 1) := by decide +kernel
theorem dX1_make_39 : decode cX1_make 39 = .ok (.ireturn, 1) := by decide +kernel
theorem dX1_make_40 : decode cX1_make 40 = .ok (.iconst 0, 1) := by decide +kernel
theorem dX1_make_41 : decode cX1_make 41 = .ok (.istore_n 2, 1) := by decide +kernel
theorem dX1_make_42 : decode cX1_make 42 = .ok (.aload_n 0, 1) := by decide +kernel
theorem dX1_make_43 : decode cX1_make 43 = .ok (.iload_n 2, 1) := by decide +kernel
theorem dX1_make_44 : decode cX1_make 44 = .ok (.invokevirtual 67, 3) := by decide +kernel
theorem dX1_make_47 : decode cX1_make 47 = .ok (.ifCond .eq 69, 3) := by decide +kernel
theorem dX1_make_50 : decode cX1_make 50 = .ok (.aload_n 0, 1) := by decide +kernel
theorem dX1_make_51 : decode cX1_make 51 = .ok (.getfield 29, 3) := by decide +kernel
theorem dX1_make_54 : decode cX1_make 54 = .ok (.bipush 64, 2) := by decide +kernel
theorem dX1_make_56 : decode cX1_make 56 = .ok (.aload_n 0, 1) := by decide +kernel
theorem dX1_make_57 : decode cX1_make 57 = .ok (.getfield 38, 3) := by decide +kernel
theorem dX1_make_60 : decode cX1_make 60 = .ok (.imul, 1) := by decide +kernel
theorem dX1_make_61 : decode cX1_make 61 = .ok (.iload_n 2, 1) := by decide +kernel
theorem dX1_make_62 : decode cX1_make 62 = .ok (.iadd, 1) := by decide +kernel
theorem dX1_make_63 : decode cX1_make 63 = .ok (.iload_n 1, 1) := by decide +kernel
theorem dX1_make_64 : decode cX1_make 64 = .ok (.ifCond .ne 11, 3) := by decide +kernel
theorem dX1_make_67 : decode cX1_make 67 = .ok (.aload_n 0, 1) := by decide +kernel
theorem dX1_make_68 : decode cX1_make 68 = .ok (.iload_n 2, 1) := by decide +kernel
theorem dX1_make_69 : decode cX1_make 69 = .ok (.invokevirtual 70, 3) := by decide +kernel
theorem dX1_make_72 : decode cX1_make 72 = .ok (.goto 37, 3) := by decide +kernel
theorem dX1_make_75 : decode cX1_make 75 = .ok (.iload_n 1, 1) := by decide +kernel
theorem dX1_make_76 : decode cX1_make 76 = .ok (.iconst 1, 1) := by decide +kernel
theorem dX1_make_77 : decode cX1_make 77 = .ok (.if_icmp .ne 11, 3) := by decide +kernel
theorem dX1_make_80 : decode cX1_make 80 = .ok (.aload_n 0, 1) := by decide +kernel
theorem dX1_make_81 : decode cX1_make 81 = .ok (.iload_n 2, 1) := by decide +kernel
theorem dX1_make_82 : decode cX1_make 82 = .ok (.invokevirtual 73, 3) := by decide +kernel
theorem dX1_make_85 : decode cX1_make 85 = .ok (.goto 24, 3) := by decide +kernel
theorem dX1_make_88 : decode cX1_make 88 = .ok (.iload_n 1, 1) := by decide +kernel
theorem dX1_make_89 : decode cX1_make 89 = .ok (.iconst 4, 1) := by decide +kernel
theorem dX1_make_90 : decode cX1_make 90 = .ok (.if_icmp .ne 11, 3) := by decide +kernel
theorem dX1_make_93 : decode cX1_make 93 = .ok (.aload_n 0, 1) := by decide +kernel
theorem dX1_make_94 : decode cX1_make 94 = .ok (.iload_n 2, 1) := by decide +kernel
theorem dX1_make_95 : decode cX1_make 95 = .ok (.invokevirtual 76, 3) := by decide +kernel
theorem dX1_make_98 : decode cX1_make 98 = .ok (.goto 11, 3) := by decide +kernel
theorem dX1_make_101 : decode cX1_make 101 = .ok (.aload_n 0, 1) := by decide +kernel
theorem dX1_make_102 : decode cX1_make 102 = .ok (.iload_n 1, 1) := by decide +kernel
theorem dX1_make_103 : decode cX1_make 103 = .ok (.iconst 2, 1) := by decide +kernel
theorem dX1_make_104 : decode cX1_make 104 = .ok (.isub, 1) := by decide +kernel
theorem dX1_make_105 : decode cX1_make 105 = .ok (.iload_n 2, 1) := by decide +kernel
theorem dX1_make_106 : decode cX1_make 106 = .ok (.invokevirtual 79, 3) := by decide +kernel
theorem dX1_make_109 : decode cX1_make 109 = .ok (.iastore, 1) := by decide +kernel
theorem dX1_make_110 : decode cX1_make 110 = .ok (.iinc 2 1, 3) := by decide +kernel
theorem dX1_make_113 : decode cX1_make 113 = .ok (.goto (-71), 3) := by decide +kernel
theorem dX1_make_116 : decode cX1_make 116 = .ok (.aload_n 0, 1) := by decide +kernel
theorem dX1_make_117 : decode cX1_make 117 = .ok (.dup, 1) := by decide +kernel
theorem dX1_make_118 : decode cX1_make 118 = .ok (.getfield 38, 3) := by decide +kernel
theorem dX1_make_121 : decode cX1_make 121 = .ok (.iconst 1, 1) := by decide +kernel
theorem dX1_make_122 : decode cX1_make 122 = .ok (.iadd, 1) := by decide +kernel
theorem dX1_make_123 : decode cX1_make 123 = .ok (.putfield 38, 3) := by decide +kernel
theorem dX1_make_126 : decode cX1_make 126 = .ok (.aload_n 0, 1) := by decide +kernel
theorem dX1_make_127 : decode cX1_make 127 = .ok (.getfield 38, 3) := by decide +kernel
theorem dX1_make_130 : decode cX1_make 130 = .ok (.iconst 1, 1) := by decide +kernel
theorem dX1_make_131 : decode cX1_make 131 = .ok (.isub, 1) := by decide +kernel
theorem dX1_make_132 : decode cX1_make 132 = .ok (.ireturn, 1) := by decide +kernel
set_option maxRecDepth 20000 in
theorem ggX1_sum_X1_isFunction : GoodIn wsX1_sum wsX1_isFunction := goodIn_r _ [8, 1, 9, 10, 7, 11, 17, 18, 19, 20, 21, 22, 23, 24, 25, 26, 27] (by decide +kernel) (by decide +kernel)
set_option maxRecDepth 20000 in
theorem gX1_sum_X1_isFunction : GoodIn wsX1_sum (wsV RX1 83 RX1 yX1_isFunction wsX1_isFunction) := goodIn_app (goodIn_of _ (by decide +kernel)) ggX1_sum_X1_isFunction
set_option maxRecDepth 20000 in
theorem ggX1_sum_X1_isSet : GoodIn wsX1_sum wsX1_isSet := goodIn_r _ [15, 16, 9, 10, 7, 11, 17, 18, 19, 20, 21, 22, 23, 24, 25, 26, 27] (by decide +kernel) (by decide +kernel)
set_option maxRecDepth 20000 in
theorem gX1_sum_X1_isSet : GoodIn wsX1_sum (wsV RX1 67 RX1 yX1_isSet wsX1_isSet) := goodIn_app (goodIn_of _ (by decide +kernel)) ggX1_sum_X1_isSet
theorem dX1_sum_0 : decode cX1_sum 0 = .ok (.aload_n 0, 1) := by decide +kernel
theorem dX1_sum_1 : decode cX1_sum 1 = .ok (.aload_n 0, 1) := by decide +kernel
theorem dX1_sum_2 : decode cX1_sum 2 = .ok (.iload_n 1, 1) := by decide +kernel
theorem dX1_sum_3 : decode cX1_sum 3 = .ok (.invokevirtual 83, 3) := by decide +kernel
theorem dX1_sum_6 : decode cX1_sum 6 = .ok (.ifCond .eq 11, 3) := by decide +kernel
theorem dX1_sum_9 : decode cX1_sum 9 = .ok (.aload_n 0, 1) := by decide +kernel
theorem dX1_sum_10 : decode cX1_sum 10 = .ok (.iload_n 2, 1) := by decide +kernel
theorem dX1_sum_11 : decode cX1_sum 11 = .ok (.invokevirtual 83, 3) := by decide +kernel
theorem dX1_sum_14 : decode cX1_sum 14 = .ok (.ifCond .ne 7, 3) := by decide +kernel
theorem dX1_sum_17 : decode cX1_sum 17 = .ok (.iconst 1, 1) := by decide +kernel
theorem dX1_sum_18 : decode cX1_sum 18 = .ok (.goto 17, 3) := by decide +kernel
theorem dX1_sum_21 : decode cX1_sum 21 = .ok (.aload_n 0, 1) := by decide +kernel
theorem dX1_sum_22 : decode cX1_sum 22 = .ok (.getfield 38, 3) := by decide +kernel
theorem dX1_sum_25 : decode cX1_sum 25 = .ok (.bipush 8, 2) := by decide +kernel
theorem dX1_sum_27 : decode cX1_sum 27 = .ok (.if_icmp .ne 7, 3) := by decide +kernel
theorem dX1_sum_30 : decode cX1_sum 30 = .ok (.iconst 2, 1) := by decide +kernel
theorem dX1_sum_31 : decode cX1_sum 31 = .ok (.goto 4, 3) := by decide +kernel
theorem dX1_sum_34 : decode cX1_sum 34 = .ok (.iconst 0, 1) := by decide +kernel
theorem dX1_sum_35 : decode cX1_sum 35 = .ok (.putfield 44, 3) := by decide +kernel
theorem dX1_sum_38 : decode cX1_sum 38 = .ok (.aload_n 0, 1) := by decide +kernel
theorem dX1_sum_39 : decode cX1_sum 39 = .ok (.getfield 44, 3) := by decide +kernel
theorem dX1_sum_42 : decode cX1_sum 42 = .ok (.ifCond .le 5, 3) := by decide +kernel
theorem dX1_sum_45 : decode cX1_sum 45 = .ok (.iconst 0, 1) := by decide +kernel
theorem dX1_sum_46 : decode cX1_sum 46 = .ok (.ireturn, 1) := by decide +kernel
theorem dX1_sum_47 : decode cX1_sum 47 = .ok (.iconst 0, 1) := by decide +kernel
theorem dX1_sum_48 : decode cX1_sum 48 = .ok (.istore_n 3, 1) := by decide +kernel
theorem dX1_sum_49 : decode cX1_sum 49 = .ok (.aload_n 0, 1) := by decide +kernel
theorem dX1_sum_50 : decode cX1_sum 50 = .ok (.iload_n 3, 1) := by decide +kernel
theorem dX1_sum_51 : decode cX1_sum 51 = .ok (.invokevirtual 67, 3) := by decide +kernel
theorem dX1_sum_54 : decode cX1_sum 54 = .ok (.ifCond .eq 46, 3) := by decide +kernel
theorem dX1_sum_57 : decode cX1_sum 57 = .ok (.aload_n 0, 1) := by decide +kernel
theorem dX1_sum_58 : decode cX1_sum 58 = .ok (.getfield 29, 3) := by decide +kernel
theorem dX1_sum_61 : decode cX1_sum 61 = .ok (.bipush 64, 2) := by decide +kernel
theorem dX1_sum_63 : decode cX1_sum 63 = .ok (.aload_n 0, 1) := by decide +kernel
theorem dX1_sum_64 : decode cX1_sum 64 = .ok (.getfield 38, 3) := by decide +kernel
theorem dX1_sum_67 : decode cX1_sum 67 = .ok (.imul, 1) := by decide +kernel
theorem dX1_sum_68 : decode cX1_sum 68 = .ok (.iload_n 3, 1) := by decide +kernel
theorem dX1_sum_69 : decode cX1_sum 69 = .ok (.iadd, 1) := by decide +kernel
theorem dX1_sum_70 : decode cX1_sum 70 = .ok (.aload_n 0, 1) := by decide +kernel
theorem dX1_sum_71 : decode cX1_sum 71 = .ok (.getfield 29, 3) := by decide +kernel
theorem dX1_sum_74 : decode cX1_sum 74 = .ok (.bipush 64, 2) := by decide +kernel
theorem dX1_sum_76 : decode cX1_sum 76 = .ok (.iload_n 1, 1) := by decide +kernel
theorem dX1_sum_77 : decode cX1_sum 77 = .ok (.imul, 1) := by decide +kernel
theorem dX1_sum_78 : decode cX1_sum 78 = .ok (.iload_n 3, 1) := by decide +kernel
theorem dX1_sum_79 : decode cX1_sum 79 = .ok (.iadd, 1) := by decide +kernel
theorem dX1_sum_80 : decode cX1_sum 80 = .ok (.iaload, 1) := by decide +kernel
theorem dX1_sum_81 : decode cX1_sum 81 = .ok (.aload_n 0, 1) := by decide +kernel
theorem dX1_sum_82 : decode cX1_sum 82 = .ok (.getfield 29, 3) := by decide +kernel
theorem dX1_sum_85 : decode cX1_sum 85 = .ok (.bipush 64, 2) := by decide +kernel
theorem dX1_sum_87 : decode cX1_sum 87 = .ok (.iload_n 2, 1) := by decide +kernel
theorem dX1_sum_88 : decode cX1_sum 88 = .ok (.imul, 1) := by decide +kernel
theorem dX1_sum_89 : decode cX1_sum 89 = .ok (.iload_n 3, 1) := by decide +kernel
theorem dX1_sum_90 : decode cX1_sum 90 = .ok (.iadd, 1) := by decide +kernel
theorem dX1_sum_91 : decode cX1_sum 91 = .ok (.iaload, 1) := by decide +kernel
theorem dX1_sum_92 : decode cX1_sum 92 = .ok (.iadd, 1) := by decide +kernel
theorem dX1_sum_93 : decode cX1_sum 93 = .ok (.iastore, 1) := by decide +kernel
theorem dX1_sum_94 : decode cX1_sum 94 = .ok (.iinc 3 1, 3) := by decide +kernel
theorem dX1_sum_97 : decode cX1_sum 97 = .ok (.goto (-48), 3) := by decide +kernel
theorem dX1_sum_100 : decode cX1_sum 100 = .ok (.aload_n 0, 1) := by decide +kernel
theorem dX1_sum_101 : decode cX1_sum 101 = .ok (.dup, 1) := by decide +kernel
theorem dX1_sum_102 : decode cX1_sum 102 = .ok (.getfield 38, 3) := by decide +kernel
theorem dX1_sum_105 : decode cX1_sum 105 = .ok (.iconst 1, 1) := by decide +kernel
theorem dX1_sum_106 : decode cX1_sum 106 = .ok (.iadd, 1) := by decide +kernel
theorem dX1_sum_107 : decode cX1_sum 107 = .ok (.putfield 38, 3) := by decide +kernel
theorem dX1_sum_110 : decode cX1_sum 110 = .ok (.aload_n 0, 1) := by decide +kernel
theorem dX1_sum_111 : decode cX1_sum 111 = .ok (.getfield 38, 3) := by decide +kernel
theorem dX1_sum_114 : decode cX1_sum 114 = .ok (.iconst 1, 1) := by decide +kernel
theorem dX1_sum_115 : decode cX1_sum 115 = .ok (.isub, 1) := by decide +kernel
theorem dX1_sum_116 : decode cX1_sum 116 = .ok (.ireturn, 1) := by decide +kernel
set_option maxRecDepth 20000 in
theorem ggX1_contract_X1_isFunction : GoodIn wsX1_contract wsX1_isFunction := goodIn_r _ [8, 1, 9, 10, 7, 11, 17, 18, 19, 20, 21, 22, 23, 24, 25, 26, 27] (by decide +kernel) (by decide +kernel)
set_option maxRecDepth 20000 in
theorem gX1_contract_X1_isFunction : GoodIn wsX1_contract (wsV RX1 83 RX1 yX1_isFunction wsX1_isFunction) := goodIn_app (goodIn_of _ (by decide +kernel)) ggX1_contract_X1_isFunction
set_option maxRecDepth 20000 in
theorem ggX1_contract_X1_isSet : GoodIn wsX1_contract wsX1_isSet := goodIn_r _ [15, 16, 9, 10, 7, 11, 17, 18, 19, 20, 21, 22, 23, 24, 25, 26, 27] (by decide +kernel) (by decide +kernel)
set_option maxRecDepth 20000 in
theorem gX1_contract_X1_isSet : GoodIn wsX1_contract (wsV RX1 67 RX1 yX1_isSet wsX1_isSet) := goodIn_app (goodIn_of _ (by decide +kernel)) ggX1_contract_X1_isSet
theorem dX1_contract_0 : decode cX1_contract 0 = .ok (.aload_n 0, 1) := by decide +kernel
theorem dX1_contract_1 : decode cX1_contract 1 = .ok (.aload_n 0, 1) := by decide +kernel
theorem dX1_contract_2 : decode cX1_contract 2 = .ok (.iload_n 1, 1) := by decide +kernel
theorem dX1_contract_3 : decode cX1_contract 3 = .ok (.invokevirtual 83, 3) := by decide +kernel
theorem dX1_contract_6 : decode cX1_contract 6 = .ok (.ifCond .ne 7, 3) := by decide +kernel
theorem dX1_contract_9 : decode cX1_contract 9 = .ok (.iconst 1, 1) := by decide +kernel
theorem dX1_contract_10 : decode cX1_contract 10 = .ok (.goto 29, 3) := by decide +kernel
theorem dX1_contract_13 : decode cX1_contract 13 = .ok (.aload_n 0, 1) := by decide +kernel
theorem dX1_contract_14 : decode cX1_contract 14 = .ok (.iload_n 2, 1) := by decide +kernel
theorem dX1_contract_15 : decode cX1_contract 15 = .ok (.invokevirtual 67, 3) := by decide +kernel
theorem dX1_contract_18 : decode cX1_contract 18 = .ok (.ifCond .ne 7, 3) := by decide +kernel
theorem dX1_contract_21 : decode cX1_contract 21 = .ok (.iconst 2, 1) := by decide +kernel
theorem dX1_contract_22 : decode cX1_contract 22 = .ok (.goto 17, 3) := by decide +kernel
theorem dX1_contract_25 : decode cX1_contract 25 = .ok (.aload_n 0, 1) := by decide +kernel
theorem dX1_contract_26 : decode cX1_contract 26 = .ok (.getfield 38, 3) := by decide +kernel
theorem dX1_contract_29 : decode cX1_contract 29 = .ok (.bipush 8, 2) := by decide +kernel
theorem dX1_contract_31 : decode cX1_contract 31 = .ok (.if_icmp .ne 7, 3) := by decide +kernel
theorem dX1_contract_34 : decode cX1_contract 34 = .ok (.iconst 3, 1) := by decide +kernel
theorem dX1_contract_35 : decode cX1_contract 35 = .ok (.goto 4, 3) := by decide +kernel
theorem dX1_contract_38 : decode cX1_contract 38 = .ok (.iconst 0, 1) := by decide +kernel
theorem dX1_contract_39 : decode cX1_contract 39 = .ok (.putfield 44, 3) := by decide +kernel
theorem dX1_contract_42 : decode cX1_contract 42 = .ok (.aload_n 0, 1) := by decide +kernel
theorem dX1_contract_43 : decode cX1_contract 43 = .ok (.getfield 44, 3) := by decide +kernel
theorem dX1_contract_46 : decode cX1_contract 46 = .ok (.ifCond .le 5, 3) := by decide +kernel
theorem dX1_contract_49 : decode cX1_contract 49 = .ok (.iconst 0, 1) := by decide +kernel
theorem dX1_contract_50 : decode cX1_contract 50 = .ok (.ireturn, 1) := by decide +kernel
theorem dX1_contract_51 : decode cX1_contract 51 = .ok (.iconst 0, 1) := by decide +kernel
theorem dX1_contract_52 : decode cX1_contract 52 = .ok (.istore_n 3, 1) := by decide +kernel
theorem dX1_contract_53 : decode cX1_contract 53 = .ok (.aload_n 0, 1) := by decide +kernel
theorem dX1_contract_54 : decode cX1_contract 54 = .ok (.iload_n 3, 1) := by decide +kernel
theorem dX1_contract_55 : decode cX1_contract 55 = .ok (.invokevirtual 67, 3) := by decide +kernel
theorem dX1_contract_58 : decode cX1_contract 58 = .ok (.ifCond .eq 48, 3) := by decide +kernel
theorem dX1_contract_61 : decode cX1_contract 61 = .ok (.aload_n 0, 1) := by decide +kernel
theorem dX1_contract_62 : decode cX1_contract 62 = .ok (.getfield 29, 3) := by decide +kernel
theorem dX1_contract_65 : decode cX1_contract 65 = .ok (.bipush 64, 2) := by decide +kernel
theorem dX1_contract_67 : decode cX1_contract 67 = .ok (.aload_n 0, 1) := by decide +kernel
theorem dX1_contract_68 : decode cX1_contract 68 = .ok (.getfield 38, 3) := by decide +kernel
theorem dX1_contract_71 : decode cX1_contract 71 = .ok (.imul, 1) := by decide +kernel
theorem dX1_contract_72 : decode cX1_contract 72 = .ok (.iload_n 3, 1) := by decide +kernel
theorem dX1_contract_73 : decode cX1_contract 73 = .ok (.iadd, 1) := by decide +kernel
theorem dX1_contract_74 : decode cX1_contract 74 = .ok (.aload_n 0, 1) := by decide +kernel
theorem dX1_contract_75 : decode cX1_contract 75 = .ok (.getfield 29, 3) := by decide +kernel
theorem dX1_contract_78 : decode cX1_contract 78 = .ok (.bipush 64, 2) := by decide +kernel
theorem dX1_contract_80 : decode cX1_contract 80 = .ok (.iload_n 1, 1) := by decide +kernel
theorem dX1_contract_81 : decode cX1_contract 81 = .ok (.imul, 1) := by decide +kernel
theorem dX1_contract_82 : decode cX1_contract 82 = .ok (.iload_n 3, 1) := by decide +kernel
theorem dX1_contract_83 : decode cX1_contract 83 = .ok (.iload_n 2, 1) := by decide +kernel
theorem dX1_contract_84 : decode cX1_contract 84 = .ok (.ior, 1) := by decide +kernel
theorem dX1_contract_85 : decode cX1_contract 85 = .ok (.iadd, 1) := by decide +kernel
theorem dX1_contract_86 : decode cX1_contract 86 = .ok (.iaload, 1) := by decide +kernel
theorem dX1_contract_87 : decode cX1_contract 87 = .ok (.aload_n 0, 1) := by decide +kernel
theorem dX1_contract_88 : decode cX1_contract 88 = .ok (.getfield 29, 3) := by decide +kernel
theorem dX1_contract_91 : decode cX1_contract 91 = .ok (.bipush 64, 2) := by decide +kernel
theorem dX1_contract_93 : decode cX1_contract 93 = .ok (.iload_n 1, 1) := by decide +kernel
theorem dX1_contract_94 : decode cX1_contract 94 = .ok (.imul, 1) := by decide +kernel
theorem dX1_contract_95 : decode cX1_contract 95 = .ok (.iload_n 2, 1) := by decide +kernel
theorem dX1_contract_96 : decode cX1_contract 96 = .ok (.iadd, 1) := by decide +kernel
theorem dX1_contract_97 : decode cX1_contract 97 = .ok (.iaload, 1) := by decide +kernel
theorem dX1_contract_98 : decode cX1_contract 98 = .ok (.isub, 1) := by decide +kernel
theorem dX1_contract_99 : decode cX1_contract 99 = .ok (.iastore, 1) := by decide +kernel
theorem dX1_contract_100 : decode cX1_contract 100 = .ok (.iinc 3 1, 3) := by decide +kernel
theorem dX1_contract_103 : decode cX1_contract 103 = .ok (.goto (-50), 3) := by decide +kernel
theorem dX1_contract_106 : decode cX1_contract 106 = .ok (.aload_n 0, 1) := by decide +kernel
theorem dX1_contract_107 : decode cX1_contract 107 = .ok (.dup, 1) := by decide +kernel
theorem dX1_contract_108 : decode cX1_contract 108 = .ok (.getfield 38, 3) := by decide +kernel
theorem dX1_contract_111 : decode cX1_contract 111 = .ok (.iconst 1, 1) := by decide +kernel
theorem dX1_contract_112 : decode cX1_contract 112 = .ok (.iadd, 1) := by decide +kernel
theorem dX1_contract_113 : decode cX1_contract 113 = .ok (.putfield 38, 3) := by decide +kernel
theorem dX1_contract_116 : decode cX1_contract 116 = .ok (.aload_n 0, 1) := by decide +kernel
theorem dX1_contract_117 : decode cX1_contract 117 = .ok (.getfield 38, 3) := by decide +kernel
theorem dX1_contract_120 : decode cX1_contract 120 = .ok (.iconst 1, 1) := by decide +kernel
theorem dX1_contract_121 : decode cX1_contract 121 = .ok (.isub, 1) := by decide +kernel
theorem dX1_contract_122 : decode cX1_contract 122 = .ok (.ireturn, 1) := by decide +kernel
set_option maxRecDepth 20000 in
theorem ggX1_cap_X1_isFunction : GoodIn wsX1_cap wsX1_isFunction := goodIn_r _ [8, 1, 9, 10, 7, 11, 17, 18, 19, 20, 21, 22, 23, 24, 25, 26, 27] (by decide +kernel) (by decide +kernel)
set_option maxRecDepth 20000 in
theorem gX1_cap_X1_isFunction : GoodIn wsX1_cap (wsV RX1 83 RX1 yX1_isFunction wsX1_isFunction) := goodIn_app (goodIn_of _ (by decide +kernel)) ggX1_cap_X1_isFunction
set_option maxRecDepth 20000 in
theorem ggX1_cap_X1_isIn : GoodIn wsX1_cap wsX1_isIn := goodIn_r _ [11] (by decide +kernel) (by decide +kernel)
set_option maxRecDepth 20000 in
theorem gX1_cap_X1_isIn : GoodIn wsX1_cap (va_wsS RX1 47 yX1_isIn wsX1_isIn) := goodIn_app (goodIn_of _ (by decide +kernel)) ggX1_cap_X1_isIn
set_option maxRecDepth 20000 in
theorem ggX1_cap_X1_isSet : GoodIn wsX1_cap wsX1_isSet := goodIn_r _ [15, 16, 9, 10, 7, 11, 17, 18, 19, 20, 21, 22, 23, 24, 25, 26, 27] (by decide +kernel) (by decide +kernel)
set_option maxRecDepth 20000 in
theorem gX1_cap_X1_isSet : GoodIn wsX1_cap (wsV RX1 67 RX1 yX1_isSet wsX1_isSet) := goodIn_app (goodIn_of _ (by decide +kernel)) ggX1_cap_X1_isSet
theorem dX1_cap_0 : decode cX1_cap 0 = .ok (.aload_n 0, 1) := by decide +kernel
theorem dX1_cap_1 : decode cX1_cap 1 = .ok (.aload_n 0, 1) := by decide +kernel
theorem dX1_cap_2 : decode cX1_cap 2 = .ok (.iload_n 1, 1) := by decide +kernel
theorem dX1_cap_3 : decode cX1_cap 3 = .ok (.invokevirtual 83, 3) := by decide +kernel
theorem dX1_cap_6 : decode cX1_cap 6 = .ok (.ifCond .ne 7, 3) := by decide +kernel
theorem dX1_cap_9 : decode cX1_cap 9 = .ok (.iconst 1, 1) := by decide +kernel
theorem dX1_cap_10 : decode cX1_cap 10 = .ok (.goto 31, 3) := by decide +kernel
theorem dX1_cap_13 : decode cX1_cap 13 = .ok (.iload_n 2, 1) := by decide +kernel
theorem dX1_cap_14 : decode cX1_cap 14 = .ok (.iconst 0, 1) := by decide +kernel
theorem dX1_cap_15 : decode cX1_cap 15 = .ok (.bipush 100, 2) := by decide +kernel
theorem dX1_cap_17 : decode cX1_cap 17 = .ok (.invokestatic 47, 3) := by decide +kernel
theorem dX1_cap_20 : decode cX1_cap 20 = .ok (.ifCond .ne 7, 3) := by decide +kernel
theorem dX1_cap_23 : decode cX1_cap 23 = .ok (.iconst 2, 1) := by decide +kernel
theorem dX1_cap_24 : decode cX1_cap 24 = .ok (.goto 17, 3) := by decide +kernel
theorem dX1_cap_27 : decode cX1_cap 27 = .ok (.aload_n 0, 1) := by decide +kernel
theorem dX1_cap_28 : decode cX1_cap 28 = .ok (.getfield 38, 3) := by decide +kernel
theorem dX1_cap_31 : decode cX1_cap 31 = .ok (.bipush 8, 2) := by decide +kernel
theorem dX1_cap_33 : decode cX1_cap 33 = .ok (.if_icmp .ne 7, 3) := by decide +kernel
theorem dX1_cap_36 : decode cX1_cap 36 = .ok (.iconst 3, 1) := by decide +kernel
theorem dX1_cap_37 : decode cX1_cap 37 = .ok (.goto 4, 3) := by decide +kernel
theorem dX1_cap_40 : decode cX1_cap 40 = .ok (.iconst 0, 1) := by decide +kernel
theorem dX1_cap_41 : decode cX1_cap 41 = .ok (.putfield 44, 3) := by decide +kernel
theorem dX1_cap_44 : decode cX1_cap 44 = .ok (.aload_n 0, 1) := by decide +kernel
theorem dX1_cap_45 : decode cX1_cap 45 = .ok (.getfield 44, 3) := by decide +kernel
theorem dX1_cap_48 : decode cX1_cap 48 = .ok (.ifCond .le 5, 3) := by decide +kernel
theorem dX1_cap_51 : decode cX1_cap 51 = .ok (.iconst 0, 1) := by decide +kernel
theorem dX1_cap_52 : decode cX1_cap 52 = .ok (.ireturn, 1) := by decide +kernel
theorem dX1_cap_53 : decode cX1_cap 53 = .ok (.iconst 0, 1) := by decide +kernel
theorem dX1_cap_54 : decode cX1_cap 54 = .ok (.istore_n 3, 1) := by decide +kernel
theorem dX1_cap_55 : decode cX1_cap 55 = .ok (.aload_n 0, 1) := by decide +kernel
theorem dX1_cap_56 : decode cX1_cap 56 = .ok (.iload_n 3, 1) := by decide +kernel
theorem dX1_cap_57 : decode cX1_cap 57 = .ok (.invokevirtual 67, 3) := by decide +kernel
theorem dX1_cap_60 : decode cX1_cap 60 = .ok (.ifCond .eq 48, 3) := by decide +kernel
theorem dX1_cap_63 : decode cX1_cap 63 = .ok (.aload_n 0, 1) := by decide +kernel
theorem dX1_cap_64 : decode cX1_cap 64 = .ok (.getfield 29, 3) := by decide +kernel
theorem dX1_cap_67 : decode cX1_cap 67 = .ok (.bipush 64, 2) := by decide +kernel
theorem dX1_cap_69 : decode cX1_cap 69 = .ok (.iload_n 1, 1) := by decide +kernel
theorem dX1_cap_70 : decode cX1_cap 70 = .ok (.imul, 1) := by decide +kernel
theorem dX1_cap_71 : decode cX1_cap 71 = .ok (.iload_n 3, 1) := by decide +kernel
theorem dX1_cap_72 : decode cX1_cap 72 = .ok (.iadd, 1) := by decide +kernel
theorem dX1_cap_73 : decode cX1_cap 73 = .ok (.iaload, 1) := by decide +kernel
theorem dX1_cap_74 : decode cX1_cap 74 = .ok (.istore 4, 2) := by decide +kernel
theorem dX1_cap_76 : decode cX1_cap 76 = .ok (.aload_n 0, 1) := by decide +kernel
theorem dX1_cap_77 : decode cX1_cap 77 = .ok (.getfield 29, 3) := by decide +kernel
theorem dX1_cap_80 : decode cX1_cap 80 = .ok (.bipush 64, 2) := by decide +kernel
theorem dX1_cap_82 : decode cX1_cap 82 = .ok (.aload_n 0, 1) := by decide +kernel
theorem dX1_cap_83 : decode cX1_cap 83 = .ok (.getfield 38, 3) := by decide +kernel
theorem dX1_cap_86 : decode cX1_cap 86 = .ok (.imul, 1) := by decide +kernel
theorem dX1_cap_87 : decode cX1_cap 87 = .ok (.iload_n 3, 1) := by decide +kernel
theorem dX1_cap_88 : decode cX1_cap 88 = .ok (.iadd, 1) := by decide +kernel
theorem dX1_cap_89 : decode cX1_cap 89 = .ok (.iload 4, 2) := by decide +kernel
theorem dX1_cap_91 : decode cX1_cap 91 = .ok (.iload_n 2, 1) := by decide +kernel
theorem dX1_cap_92 : decode cX1_cap 92 = .ok (.if_icmp .ge 8, 3) := by decide +kernel
theorem dX1_cap_95 : decode cX1_cap 95 = .ok (.iload 4, 2) := by decide +kernel
theorem dX1_cap_97 : decode cX1_cap 97 = .ok (.goto 4, 3) := by decide +kernel
theorem dX1_cap_100 : decode cX1_cap 100 = .ok (.iload_n 2, 1) := by decide +kernel
theorem dX1_cap_101 : decode cX1_cap 101 = .ok (.iastore, 1) := by decide +kernel
theorem dX1_cap_102 : decode cX1_cap 102 = .ok (.iinc 3 1, 3) := by decide +kernel
theorem dX1_cap_105 : decode cX1_cap 105 = .ok (.goto (-50), 3) := by decide +kernel
theorem dX1_cap_108 : decode cX1_cap 108 = .ok (.aload_n 0, 1) := by decide +kernel
theorem dX1_cap_109 : decode cX1_cap 109 = .ok (.dup, 1) := by decide +kernel
theorem dX1_cap_110 : decode cX1_cap 110 = .ok (.getfield 38, 3) := by decide +kernel
theorem dX1_cap_113 : decode cX1_cap 113 = .ok (.iconst 1, 1) := by decide +kernel
theorem dX1_cap_114 : decode cX1_cap 114 = .ok (.iadd, 1) := by decide +kernel
theorem dX1_cap_115 : decode cX1_cap 115 = .ok (.putfield 38, 3) := by decide +kernel
theorem dX1_cap_118 : decode cX1_cap 118 = .ok (.aload_n 0, 1) := by decide +kernel
theorem dX1_cap_119 : decode cX1_cap 119 = .ok (.getfield 38, 3) := by decide +kernel
theorem dX1_cap_122 : decode cX1_cap 122 = .ok (.iconst 1, 1) := by decide +kernel
theorem dX1_cap_123 : decode cX1_cap 123 = .ok (.isub, 1) := by decide +kernel
theorem dX1_cap_124 : decode cX1_cap 124 = .ok (.ireturn, 1) := by decide +kernel
set_option maxRecDepth 20000 in
theorem ggX1_value_X1_isFunction : GoodIn wsX1_value wsX1_isFunction := goodIn_r _ [7, 8, 9, 10, 6, 11, 17, 18, 19, 20, 21, 22, 23, 24, 25, 26, 27] (by decide +kernel) (by decide +kernel)
set_option maxRecDepth 20000 in
theorem gX1_value_X1_isFunction : GoodIn wsX1_value (wsV RX1 83 RX1 yX1_isFunction wsX1_isFunction) := goodIn_app (goodIn_of _ (by decide +kernel)) ggX1_value_X1_isFunction
set_option maxRecDepth 20000 in
theorem ggX1_value_X1_isSet : GoodIn wsX1_value wsX1_isSet := goodIn_r _ [15, 16, 9, 10, 6, 11, 17, 18, 19, 20, 21, 22, 23, 24, 25, 26, 27] (by decide +kernel) (by decide +kernel)
set_option maxRecDepth 20000 in
theorem gX1_value_X1_isSet : GoodIn wsX1_value (wsV RX1 67 RX1 yX1_isSet wsX1_isSet) := goodIn_app (goodIn_of _ (by decide +kernel)) ggX1_value_X1_isSet
theorem dX1_value_0 : decode cX1_value 0 = .ok (.aload_n 0, 1) := by decide +kernel
theorem dX1_value_1 : decode cX1_value 1 = .ok (.aload_n 0, 1) := by decide +kernel
theorem dX1_value_2 : decode cX1_value 2 = .ok (.iload_n 1, 1) := by decide +kernel
theorem dX1_value_3 : decode cX1_value 3 = .ok (.invokevirtual 83, 3) := by decide +kernel
theorem dX1_value_6 : decode cX1_value 6 = .ok (.ifCond .ne 7, 3) := by decide +kernel
theorem dX1_value_9 : decode cX1_value 9 = .ok (.iconst 1, 1) := by decide +kernel
theorem dX1_value_10 : decode cX1_value 10 = .ok (.goto 16, 3) := by decide +kernel
theorem dX1_value_13 : decode cX1_value 13 = .ok (.aload_n 0, 1) := by decide +kernel
theorem dX1_value_14 : decode cX1_value 14 = .ok (.iload_n 2, 1) := by decide +kernel
theorem dX1_value_15 : decode cX1_value 15 = .ok (.invokevirtual 67, 3) := by decide +kernel
theorem dX1_value_18 : decode cX1_value 18 = .ok (.ifCond .ne 7, 3) := by decide +kernel
theorem dX1_value_21 : decode cX1_value 21 = .ok (.iconst 2, 1) := by decide +kernel
theorem dX1_value_22 : decode cX1_value 22 = .ok (.goto 4, 3) := by decide +kernel
theorem dX1_value_25 : decode cX1_value 25 = .ok (.iconst 0, 1) := by decide +kernel
theorem dX1_value_26 : decode cX1_value 26 = .ok (.putfield 44, 3) := by decide +kernel
theorem dX1_value_29 : decode cX1_value 29 = .ok (.aload_n 0, 1) := by decide +kernel
theorem dX1_value_30 : decode cX1_value 30 = .ok (.getfield 44, 3) := by decide +kernel
theorem dX1_value_33 : decode cX1_value 33 = .ok (.ifCond .le 7, 3) := by decide +kernel
theorem dX1_value_36 : decode cX1_value 36 = .ok (.iconst 0, 1) := by decide +kernel
theorem dX1_value_37 : decode cX1_value 37 = .ok (.goto 14, 3) := by decide +kernel
theorem dX1_value_40 : decode cX1_value 40 = .ok (.aload_n 0, 1) := by decide +kernel
theorem dX1_value_41 : decode cX1_value 41 = .ok (.getfield 29, 3) := by decide +kernel
theorem dX1_value_44 : decode cX1_value 44 = .ok (.bipush 64, 2) := by decide +kernel
theorem dX1_value_46 : decode cX1_value 46 = .ok (.iload_n 1, 1) := by decide +kernel
theorem dX1_value_47 : decode cX1_value 47 = .ok (.imul, 1) := by decide +kernel
theorem dX1_value_48 : decode cX1_value 48 = .ok (.iload_n 2, 1) := by decide +kernel
theorem dX1_value_49 : decode cX1_value 49 = .ok (.iadd, 1) := by decide +kernel
theorem dX1_value_50 : decode cX1_value 50 = .ok (.iaload, 1) := by decide +kernel
theorem dX1_value_51 : decode cX1_value 51 = .ok (.ireturn, 1) := by decide +kernel
set_option maxRecDepth 20000 in
theorem ggX1_hasLaw_X1_isSet : GoodIn wsX1_hasLaw wsX1_isSet := goodIn_r _ [7, 1, 8, 9, 6, 10, 14, 15, 16, 17, 18, 19, 20, 21, 22, 23, 24] (by decide +kernel) (by decide +kernel)
set_option maxRecDepth 20000 in
theorem gX1_hasLaw_X1_isSet : GoodIn wsX1_hasLaw (wsV RX1 67 RX1 yX1_isSet wsX1_isSet) := goodIn_app (goodIn_of _ (by decide +kernel)) ggX1_hasLaw_X1_isSet
set_option maxRecDepth 20000 in
theorem ggX1_hasLaw_X1_has : GoodIn wsX1_hasLaw wsX1_has := goodIn_r _ [13] (by decide +kernel) (by decide +kernel)
set_option maxRecDepth 20000 in
theorem gX1_hasLaw_X1_has : GoodIn wsX1_hasLaw (va_wsS RX1 55 yX1_has wsX1_has) := goodIn_app (goodIn_of _ (by decide +kernel)) ggX1_hasLaw_X1_has
theorem dX1_hasLaw_0 : decode cX1_hasLaw 0 = .ok (.iconst 1, 1) := by decide +kernel
theorem dX1_hasLaw_1 : decode cX1_hasLaw 1 = .ok (.istore_n 2, 1) := by decide +kernel
theorem dX1_hasLaw_2 : decode cX1_hasLaw 2 = .ok (.iconst 0, 1) := by decide +kernel
theorem dX1_hasLaw_3 : decode cX1_hasLaw 3 = .ok (.istore_n 3, 1) := by decide +kernel
theorem dX1_hasLaw_4 : decode cX1_hasLaw 4 = .ok (.aload_n 0, 1) := by decide +kernel
theorem dX1_hasLaw_5 : decode cX1_hasLaw 5 = .ok (.iload_n 3, 1) := by decide +kernel
theorem dX1_hasLaw_6 : decode cX1_hasLaw 6 = .ok (.invokevirtual 67, 3) := by decide +kernel
theorem dX1_hasLaw_9 : decode cX1_hasLaw 9 = .ok (.ifCond .eq 148, 3) := by decide +kernel
theorem dX1_hasLaw_12 : decode cX1_hasLaw 12 = .ok (.iconst 0, 1) := by decide +kernel
theorem dX1_hasLaw_13 : decode cX1_hasLaw 13 = .ok (.istore 4, 2) := by decide +kernel
theorem dX1_hasLaw_15 : decode cX1_hasLaw 15 = .ok (.iload 4, 2) := by decide +kernel
theorem dX1_hasLaw_17 : decode cX1_hasLaw 17 = .ok (.aload_n 0, 1) := by decide +kernel
theorem dX1_hasLaw_18 : decode cX1_hasLaw 18 = .ok (.getfield 7, 3) := by decide +kernel
theorem dX1_hasLaw_21 : decode cX1_hasLaw 21 = .ok (.if_icmp .ge 130, 3) := by decide +kernel
theorem dX1_hasLaw_24 : decode cX1_hasLaw 24 = .ok (.iconst 0, 1) := by decide +kernel
theorem dX1_hasLaw_25 : decode cX1_hasLaw 25 = .ok (.istore 5, 2) := by decide +kernel
theorem dX1_hasLaw_27 : decode cX1_hasLaw 27 = .ok (.iload 5, 2) := by decide +kernel
theorem dX1_hasLaw_29 : decode cX1_hasLaw 29 = .ok (.iload 4, 2) := by decide +kernel
theorem dX1_hasLaw_31 : decode cX1_hasLaw 31 = .ok (.if_icmp .ge 114, 3) := by decide +kernel
theorem dX1_hasLaw_34 : decode cX1_hasLaw 34 = .ok (.bipush 64, 2) := by decide +kernel
theorem dX1_hasLaw_36 : decode cX1_hasLaw 36 = .ok (.iload_n 1, 1) := by decide +kernel
theorem dX1_hasLaw_37 : decode cX1_hasLaw 37 = .ok (.imul, 1) := by decide +kernel
theorem dX1_hasLaw_38 : decode cX1_hasLaw 38 = .ok (.istore 6, 2) := by decide +kernel
theorem dX1_hasLaw_40 : decode cX1_hasLaw 40 = .ok (.iload_n 3, 1) := by decide +kernel
theorem dX1_hasLaw_41 : decode cX1_hasLaw 41 = .ok (.iload 4, 2) := by decide +kernel
theorem dX1_hasLaw_43 : decode cX1_hasLaw 43 = .ok (.invokestatic 55, 3) := by decide +kernel
theorem dX1_hasLaw_46 : decode cX1_hasLaw 46 = .ok (.ifCond .ne 16, 3) := by decide +kernel
theorem dX1_hasLaw_49 : decode cX1_hasLaw 49 = .ok (.iload_n 3, 1) := by decide +kernel
theorem dX1_hasLaw_50 : decode cX1_hasLaw 50 = .ok (.iload 5, 2) := by decide +kernel
theorem dX1_hasLaw_52 : decode cX1_hasLaw 52 = .ok (.invokestatic 55, 3) := by decide +kernel
theorem dX1_hasLaw_55 : decode cX1_hasLaw 55 = .ok (.ifCond .ne 7, 3) := by decide +kernel
theorem dX1_hasLaw_58 : decode cX1_hasLaw 58 = .ok (.iconst 1, 1) := by decide +kernel
theorem dX1_hasLaw_59 : decode cX1_hasLaw 59 = .ok (.goto 4, 3) := by decide +kernel
theorem dX1_hasLaw_62 : decode cX1_hasLaw 62 = .ok (.iconst 0, 1) := by decide +kernel
theorem dX1_hasLaw_63 : decode cX1_hasLaw 63 = .ok (.istore 7, 2) := by decide +kernel
theorem dX1_hasLaw_65 : decode cX1_hasLaw 65 = .ok (.iload_n 2, 1) := by decide +kernel
theorem dX1_hasLaw_66 : decode cX1_hasLaw 66 = .ok (.iload 7, 2) := by decide +kernel
theorem dX1_hasLaw_68 : decode cX1_hasLaw 68 = .ok (.ifCond .eq 64, 3) := by decide +kernel
theorem dX1_hasLaw_71 : decode cX1_hasLaw 71 = .ok (.aload_n 0, 1) := by decide +kernel
theorem dX1_hasLaw_72 : decode cX1_hasLaw 72 = .ok (.getfield 29, 3) := by decide +kernel
theorem dX1_hasLaw_75 : decode cX1_hasLaw 75 = .ok (.iload 6, 2) := by decide +kernel
theorem dX1_hasLaw_77 : decode cX1_hasLaw 77 = .ok (.iload_n 3, 1) := by decide +kernel
theorem dX1_hasLaw_78 : decode cX1_hasLaw 78 = .ok (.iconst 1, 1) := by decide +kernel
theorem dX1_hasLaw_79 : decode cX1_hasLaw 79 = .ok (.iload 4, 2) := by decide +kernel
theorem dX1_hasLaw_81 : decode cX1_hasLaw 81 = .ok (.ishl, 1) := by decide +kernel
theorem dX1_hasLaw_82 : decode cX1_hasLaw 82 = .ok (.ior, 1) := by decide +kernel
theorem dX1_hasLaw_83 : decode cX1_hasLaw 83 = .ok (.iadd, 1) := by decide +kernel
theorem dX1_hasLaw_84 : decode cX1_hasLaw 84 = .ok (.iaload, 1) := by decide +kernel
theorem dX1_hasLaw_85 : decode cX1_hasLaw 85 = .ok (.aload_n 0, 1) := by decide +kernel
theorem dX1_hasLaw_86 : decode cX1_hasLaw 86 = .ok (.getfield 29, 3) := by decide +kernel
theorem dX1_hasLaw_89 : decode cX1_hasLaw 89 = .ok (.iload 6, 2) := by decide +kernel
theorem dX1_hasLaw_91 : decode cX1_hasLaw 91 = .ok (.iload_n 3, 1) := by decide +kernel
theorem dX1_hasLaw_92 : decode cX1_hasLaw 92 = .ok (.iconst 1, 1) := by decide +kernel
theorem dX1_hasLaw_93 : decode cX1_hasLaw 93 = .ok (.iload 5, 2) := by decide +kernel
theorem dX1_hasLaw_95 : decode cX1_hasLaw 95 = .ok (.ishl, 1) := by decide +kernel
theorem dX1_hasLaw_96 : decode cX1_hasLaw 96 = .ok (.ior, 1) := by decide +kernel
theorem dX1_hasLaw_97 : decode cX1_hasLaw 97 = .ok (.iadd, 1) := by decide +kernel
theorem dX1_hasLaw_98 : decode cX1_hasLaw 98 = .ok (.iaload, 1) := by decide +kernel
theorem dX1_hasLaw_99 : decode cX1_hasLaw 99 = .ok (.iadd, 1) := by decide +kernel
theorem dX1_hasLaw_100 : decode cX1_hasLaw 100 = .ok (.aload_n 0, 1) := by decide +kernel
theorem dX1_hasLaw_101 : decode cX1_hasLaw 101 = .ok (.getfield 29, 3) := by decide +kernel
theorem dX1_hasLaw_104 : decode cX1_hasLaw 104 = .ok (.iload 6, 2) := by decide +kernel
theorem dX1_hasLaw_106 : decode cX1_hasLaw 106 = .ok (.iload_n 3, 1) := by decide +kernel
theorem dX1_hasLaw_107 : decode cX1_hasLaw 107 = .ok (.iadd, 1) := by decide +kernel
theorem dX1_hasLaw_108 : decode cX1_hasLaw 108 = .ok (.iaload, 1) := by decide +kernel
theorem dX1_hasLaw_109 : decode cX1_hasLaw 109 = .ok (.aload_n 0, 1) := by decide +kernel
theorem dX1_hasLaw_110 : decode cX1_hasLaw 110 = .ok (.getfield 29, 3) := by decide +kernel
theorem dX1_hasLaw_113 : decode cX1_hasLaw 113 = .ok (.iload 6, 2) := by decide +kernel
theorem dX1_hasLaw_115 : decode cX1_hasLaw 115 = .ok (.iload_n 3, 1) := by decide +kernel
theorem dX1_hasLaw_116 : decode cX1_hasLaw 116 = .ok (.iconst 1, 1) := by decide +kernel
theorem dX1_hasLaw_117 : decode cX1_hasLaw 117 = .ok (.iload 4, 2) := by decide +kernel
theorem dX1_hasLaw_119 : decode cX1_hasLaw 119 = .ok (.ishl, 1) := by decide +kernel
theorem dX1_hasLaw_120 : decode cX1_hasLaw 120 = .ok (.ior, 1) := by decide +kernel
theorem dX1_hasLaw_121 : decode cX1_hasLaw 121 = .ok (.iconst 1, 1) := by decide +kernel
theorem dX1_hasLaw_122 : decode cX1_hasLaw 122 = .ok (.iload 5, 2) := by decide +kernel
theorem dX1_hasLaw_124 : decode cX1_hasLaw 124 = .ok (.ishl, 1) := by decide +kernel
theorem dX1_hasLaw_125 : decode cX1_hasLaw 125 = .ok (.ior, 1) := by decide +kernel
theorem dX1_hasLaw_126 : decode cX1_hasLaw 126 = .ok (.iadd, 1) := by decide +kernel
theorem dX1_hasLaw_127 : decode cX1_hasLaw 127 = .ok (.iaload, 1) := by decide +kernel
theorem dX1_hasLaw_128 : decode cX1_hasLaw 128 = .ok (.iadd, 1) := by decide +kernel
theorem dX1_hasLaw_129 : decode cX1_hasLaw 129 = .ok (.if_icmp .lt 7, 3) := by decide +kernel
theorem dX1_hasLaw_132 : decode cX1_hasLaw 132 = .ok (.iconst 1, 1) := by decide +kernel
theorem dX1_hasLaw_133 : decode cX1_hasLaw 133 = .ok (.goto 4, 3) := by decide +kernel
theorem dX1_hasLaw_136 : decode cX1_hasLaw 136 = .ok (.iconst 0, 1) := by decide +kernel
theorem dX1_hasLaw_137 : decode cX1_hasLaw 137 = .ok (.iand, 1) := by decide +kernel
theorem dX1_hasLaw_138 : decode cX1_hasLaw 138 = .ok (.istore_n 2, 1) := by decide +kernel
theorem dX1_hasLaw_139 : decode cX1_hasLaw 139 = .ok (.iinc 5 1, 3) := by decide +kernel
theorem dX1_hasLaw_142 : decode cX1_hasLaw 142 = .ok (.goto (-115), 3) := by decide +kernel
theorem dX1_hasLaw_145 : decode cX1_hasLaw 145 = .ok (.iinc 4 1, 3) := by decide +kernel
theorem dX1_hasLaw_148 : decode cX1_hasLaw 148 = .ok (.goto (-133), 3) := by decide +kernel
theorem dX1_hasLaw_151 : decode cX1_hasLaw 151 = .ok (.iinc 3 1, 3) := by decide +kernel
theorem dX1_hasLaw_154 : decode cX1_hasLaw 154 = .ok (.goto (-150), 3) := by decide +kernel
theorem dX1_hasLaw_157 : decode cX1_hasLaw 157 = .ok (.iload_n 2, 1) := by decide +kernel
theorem dX1_hasLaw_158 : decode cX1_hasLaw 158 = .ok (.ireturn, 1) := by decide +kernel
set_option maxRecDepth 20000 in
theorem ggX1_isLawful_X1_isFunction : GoodIn wsX1_isLawful wsX1_isFunction := goodIn_r _ [6, 7, 8, 9, 5, 10, 24, 25, 26, 27, 28, 29, 30, 31, 32, 33, 34] (by decide +kernel) (by decide +kernel)
set_option maxRecDepth 20000 in
theorem gX1_isLawful_X1_isFunction : GoodIn wsX1_isLawful (wsV RX1 83 RX1 yX1_isFunction wsX1_isFunction) := goodIn_app (goodIn_of _ (by decide +kernel)) ggX1_isLawful_X1_isFunction
set_option maxRecDepth 20000 in
theorem ggX1_isLawful_X1_hasLaw : GoodIn wsX1_isLawful wsX1_hasLaw := goodIn_r _ [14, 15, 16, 17, 18, 19, 5, 20, 8, 9, 10, 21, 22, 23, 24, 25, 26, 27, 28, 29, 30, 31, 32, 33, 34] (by decide +kernel) (by decide +kernel)
set_option maxRecDepth 20000 in
theorem gX1_isLawful_X1_hasLaw : GoodIn wsX1_isLawful (wsV RX1 86 RX1 yX1_hasLaw wsX1_hasLaw) := goodIn_app (goodIn_of _ (by decide +kernel)) ggX1_isLawful_X1_hasLaw
theorem dX1_isLawful_0 : decode cX1_isLawful 0 = .ok (.aload_n 0, 1) := by decide +kernel
theorem dX1_isLawful_1 : decode cX1_isLawful 1 = .ok (.aload_n 0, 1) := by decide +kernel
theorem dX1_isLawful_2 : decode cX1_isLawful 2 = .ok (.iload_n 1, 1) := by decide +kernel
theorem dX1_isLawful_3 : decode cX1_isLawful 3 = .ok (.invokevirtual 83, 3) := by decide +kernel
theorem dX1_isLawful_6 : decode cX1_isLawful 6 = .ok (.ifCond .eq 7, 3) := by decide +kernel
theorem dX1_isLawful_9 : decode cX1_isLawful 9 = .ok (.iconst 0, 1) := by decide +kernel
theorem dX1_isLawful_10 : decode cX1_isLawful 10 = .ok (.goto 4, 3) := by decide +kernel
theorem dX1_isLawful_13 : decode cX1_isLawful 13 = .ok (.iconst 1, 1) := by decide +kernel
theorem dX1_isLawful_14 : decode cX1_isLawful 14 = .ok (.putfield 44, 3) := by decide +kernel
theorem dX1_isLawful_17 : decode cX1_isLawful 17 = .ok (.aload_n 0, 1) := by decide +kernel
theorem dX1_isLawful_18 : decode cX1_isLawful 18 = .ok (.getfield 44, 3) := by decide +kernel
theorem dX1_isLawful_21 : decode cX1_isLawful 21 = .ok (.ifCond .ne 15, 3) := by decide +kernel
theorem dX1_isLawful_24 : decode cX1_isLawful 24 = .ok (.aload_n 0, 1) := by decide +kernel
theorem dX1_isLawful_25 : decode cX1_isLawful 25 = .ok (.iload_n 1, 1) := by decide +kernel
theorem dX1_isLawful_26 : decode cX1_isLawful 26 = .ok (.invokevirtual 86, 3) := by decide +kernel
theorem dX1_isLawful_29 : decode cX1_isLawful 29 = .ok (.ifCond .eq 7, 3) := by decide +kernel
theorem dX1_isLawful_32 : decode cX1_isLawful 32 = .ok (.iconst 1, 1) := by decide +kernel
theorem dX1_isLawful_33 : decode cX1_isLawful 33 = .ok (.goto 4, 3) := by decide +kernel
theorem dX1_isLawful_36 : decode cX1_isLawful 36 = .ok (.iconst 0, 1) := by decide +kernel
theorem dX1_isLawful_37 : decode cX1_isLawful 37 = .ok (.ireturn, 1) := by decide +kernel
set_option maxRecDepth 20000 in
theorem ggX1_rises_X1_isFunction : GoodIn wsX1_rises wsX1_isFunction := goodIn_r _ [8, 9, 10, 11, 7, 12, 17, 18, 19, 20, 21, 22, 23, 24, 25, 26, 27] (by decide +kernel) (by decide +kernel)
set_option maxRecDepth 20000 in
theorem gX1_rises_X1_isFunction : GoodIn wsX1_rises (wsV RX1 83 RX1 yX1_isFunction wsX1_isFunction) := goodIn_app (goodIn_of _ (by decide +kernel)) ggX1_rises_X1_isFunction
set_option maxRecDepth 20000 in
theorem ggX1_rises_X1_isSet : GoodIn wsX1_rises wsX1_isSet := goodIn_r _ [16, 2, 10, 11, 7, 12, 17, 18, 19, 20, 21, 22, 23, 24, 25, 26, 27] (by decide +kernel) (by decide +kernel)
set_option maxRecDepth 20000 in
theorem gX1_rises_X1_isSet : GoodIn wsX1_rises (wsV RX1 67 RX1 yX1_isSet wsX1_isSet) := goodIn_app (goodIn_of _ (by decide +kernel)) ggX1_rises_X1_isSet
theorem dX1_rises_0 : decode cX1_rises 0 = .ok (.aload_n 0, 1) := by decide +kernel
theorem dX1_rises_1 : decode cX1_rises 1 = .ok (.aload_n 0, 1) := by decide +kernel
theorem dX1_rises_2 : decode cX1_rises 2 = .ok (.iload_n 1, 1) := by decide +kernel
theorem dX1_rises_3 : decode cX1_rises 3 = .ok (.invokevirtual 83, 3) := by decide +kernel
theorem dX1_rises_6 : decode cX1_rises 6 = .ok (.ifCond .eq 7, 3) := by decide +kernel
theorem dX1_rises_9 : decode cX1_rises 9 = .ok (.iconst 0, 1) := by decide +kernel
theorem dX1_rises_10 : decode cX1_rises 10 = .ok (.goto 4, 3) := by decide +kernel
theorem dX1_rises_13 : decode cX1_rises 13 = .ok (.iconst 1, 1) := by decide +kernel
theorem dX1_rises_14 : decode cX1_rises 14 = .ok (.putfield 44, 3) := by decide +kernel
theorem dX1_rises_17 : decode cX1_rises 17 = .ok (.aload_n 0, 1) := by decide +kernel
theorem dX1_rises_18 : decode cX1_rises 18 = .ok (.getfield 44, 3) := by decide +kernel
theorem dX1_rises_21 : decode cX1_rises 21 = .ok (.ifCond .ne 7, 3) := by decide +kernel
theorem dX1_rises_24 : decode cX1_rises 24 = .ok (.iconst 1, 1) := by decide +kernel
theorem dX1_rises_25 : decode cX1_rises 25 = .ok (.goto 4, 3) := by decide +kernel
theorem dX1_rises_28 : decode cX1_rises 28 = .ok (.iconst 0, 1) := by decide +kernel
theorem dX1_rises_29 : decode cX1_rises 29 = .ok (.istore_n 2, 1) := by decide +kernel
theorem dX1_rises_30 : decode cX1_rises 30 = .ok (.iconst 0, 1) := by decide +kernel
theorem dX1_rises_31 : decode cX1_rises 31 = .ok (.istore_n 3, 1) := by decide +kernel
theorem dX1_rises_32 : decode cX1_rises 32 = .ok (.aload_n 0, 1) := by decide +kernel
theorem dX1_rises_33 : decode cX1_rises 33 = .ok (.iload_n 3, 1) := by decide +kernel
theorem dX1_rises_34 : decode cX1_rises 34 = .ok (.invokevirtual 67, 3) := by decide +kernel
theorem dX1_rises_37 : decode cX1_rises 37 = .ok (.ifCond .eq 69, 3) := by decide +kernel
theorem dX1_rises_40 : decode cX1_rises 40 = .ok (.iload_n 2, 1) := by decide +kernel
theorem dX1_rises_41 : decode cX1_rises 41 = .ok (.ifCond .eq 65, 3) := by decide +kernel
theorem dX1_rises_44 : decode cX1_rises 44 = .ok (.iconst 0, 1) := by decide +kernel
theorem dX1_rises_45 : decode cX1_rises 45 = .ok (.istore 4, 2) := by decide +kernel
theorem dX1_rises_47 : decode cX1_rises 47 = .ok (.iload 4, 2) := by decide +kernel
theorem dX1_rises_49 : decode cX1_rises 49 = .ok (.aload_n 0, 1) := by decide +kernel
theorem dX1_rises_50 : decode cX1_rises 50 = .ok (.getfield 7, 3) := by decide +kernel
theorem dX1_rises_53 : decode cX1_rises 53 = .ok (.if_icmp .ge 47, 3) := by decide +kernel
theorem dX1_rises_56 : decode cX1_rises 56 = .ok (.iload_n 2, 1) := by decide +kernel
theorem dX1_rises_57 : decode cX1_rises 57 = .ok (.aload_n 0, 1) := by decide +kernel
theorem dX1_rises_58 : decode cX1_rises 58 = .ok (.getfield 29, 3) := by decide +kernel
theorem dX1_rises_61 : decode cX1_rises 61 = .ok (.bipush 64, 2) := by decide +kernel
theorem dX1_rises_63 : decode cX1_rises 63 = .ok (.iload_n 1, 1) := by decide +kernel
theorem dX1_rises_64 : decode cX1_rises 64 = .ok (.imul, 1) := by decide +kernel
theorem dX1_rises_65 : decode cX1_rises 65 = .ok (.iload_n 3, 1) := by decide +kernel
theorem dX1_rises_66 : decode cX1_rises 66 = .ok (.iadd, 1) := by decide +kernel
theorem dX1_rises_67 : decode cX1_rises 67 = .ok (.iaload, 1) := by decide +kernel
theorem dX1_rises_68 : decode cX1_rises 68 = .ok (.aload_n 0, 1) := by decide +kernel
theorem dX1_rises_69 : decode cX1_rises 69 = .ok (.getfield 29, 3) := by decide +kernel
theorem dX1_rises_72 : decode cX1_rises 72 = .ok (.bipush 64, 2) := by decide +kernel
theorem dX1_rises_74 : decode cX1_rises 74 = .ok (.iload_n 1, 1) := by decide +kernel
theorem dX1_rises_75 : decode cX1_rises 75 = .ok (.imul, 1) := by decide +kernel
theorem dX1_rises_76 : decode cX1_rises 76 = .ok (.iload_n 3, 1) := by decide +kernel
theorem dX1_rises_77 : decode cX1_rises 77 = .ok (.iconst 1, 1) := by decide +kernel
theorem dX1_rises_78 : decode cX1_rises 78 = .ok (.iload 4, 2) := by decide +kernel
theorem dX1_rises_80 : decode cX1_rises 80 = .ok (.ishl, 1) := by decide +kernel
theorem dX1_rises_81 : decode cX1_rises 81 = .ok (.ior, 1) := by decide +kernel
theorem dX1_rises_82 : decode cX1_rises 82 = .ok (.iadd, 1) := by decide +kernel
theorem dX1_rises_83 : decode cX1_rises 83 = .ok (.iaload, 1) := by decide +kernel
theorem dX1_rises_84 : decode cX1_rises 84 = .ok (.if_icmp .gt 7, 3) := by decide +kernel
theorem dX1_rises_87 : decode cX1_rises 87 = .ok (.iconst 1, 1) := by decide +kernel
theorem dX1_rises_88 : decode cX1_rises 88 = .ok (.goto 4, 3) := by decide +kernel
theorem dX1_rises_91 : decode cX1_rises 91 = .ok (.iconst 0, 1) := by decide +kernel
theorem dX1_rises_92 : decode cX1_rises 92 = .ok (.iand, 1) := by decide +kernel
theorem dX1_rises_93 : decode cX1_rises 93 = .ok (.istore_n 2, 1) := by decide +kernel
theorem dX1_rises_94 : decode cX1_rises 94 = .ok (.iinc 4 1, 3) := by decide +kernel
theorem dX1_rises_97 : decode cX1_rises 97 = .ok (.goto (-50), 3) := by decide +kernel
theorem dX1_rises_100 : decode cX1_rises 100 = .ok (.iinc 3 1, 3) := by decide +kernel
theorem dX1_rises_103 : decode cX1_rises 103 = .ok (.goto (-71), 3) := by decide +kernel
theorem dX1_rises_106 : decode cX1_rises 106 = .ok (.iload_n 2, 1) := by decide +kernel
theorem dX1_rises_107 : decode cX1_rises 107 = .ok (.ireturn, 1) := by decide +kernel
set_option maxRecDepth 20000 in
theorem ggX1_leastOf_X1_isSet : GoodIn wsX1_leastOf wsX1_isSet := goodIn_r _ [6, 7, 8, 9, 5, 10, 11, 12, 13, 14, 15, 16, 17, 18, 19, 20, 21] (by decide +kernel) (by decide +kernel)
set_option maxRecDepth 20000 in
theorem gX1_leastOf_X1_isSet : GoodIn wsX1_leastOf (wsV RX1 67 RX1 yX1_isSet wsX1_isSet) := goodIn_app (goodIn_of _ (by decide +kernel)) ggX1_leastOf_X1_isSet
theorem dX1_leastOf_0 : decode cX1_leastOf 0 = .ok (.iconst 0, 1) := by decide +kernel
theorem dX1_leastOf_1 : decode cX1_leastOf 1 = .ok (.istore_n 2, 1) := by decide +kernel
theorem dX1_leastOf_2 : decode cX1_leastOf 2 = .ok (.iconst 0, 1) := by decide +kernel
theorem dX1_leastOf_3 : decode cX1_leastOf 3 = .ok (.istore_n 3, 1) := by decide +kernel
theorem dX1_leastOf_4 : decode cX1_leastOf 4 = .ok (.aload_n 0, 1) := by decide +kernel
theorem dX1_leastOf_5 : decode cX1_leastOf 5 = .ok (.iload_n 3, 1) := by decide +kernel
theorem dX1_leastOf_6 : decode cX1_leastOf 6 = .ok (.invokevirtual 67, 3) := by decide +kernel
theorem dX1_leastOf_9 : decode cX1_leastOf 9 = .ok (.ifCond .eq 40, 3) := by decide +kernel
theorem dX1_leastOf_12 : decode cX1_leastOf 12 = .ok (.aload_n 0, 1) := by decide +kernel
theorem dX1_leastOf_13 : decode cX1_leastOf 13 = .ok (.getfield 29, 3) := by decide +kernel
theorem dX1_leastOf_16 : decode cX1_leastOf 16 = .ok (.bipush 64, 2) := by decide +kernel
theorem dX1_leastOf_18 : decode cX1_leastOf 18 = .ok (.iload_n 1, 1) := by decide +kernel
theorem dX1_leastOf_19 : decode cX1_leastOf 19 = .ok (.imul, 1) := by decide +kernel
theorem dX1_leastOf_20 : decode cX1_leastOf 20 = .ok (.iload_n 3, 1) := by decide +kernel
theorem dX1_leastOf_21 : decode cX1_leastOf 21 = .ok (.iadd, 1) := by decide +kernel
theorem dX1_leastOf_22 : decode cX1_leastOf 22 = .ok (.iaload, 1) := by decide +kernel
theorem dX1_leastOf_23 : decode cX1_leastOf 23 = .ok (.iload_n 2, 1) := by decide +kernel
theorem dX1_leastOf_24 : decode cX1_leastOf 24 = .ok (.if_icmp .ge 17, 3) := by decide +kernel
theorem dX1_leastOf_27 : decode cX1_leastOf 27 = .ok (.aload_n 0, 1) := by decide +kernel
theorem dX1_leastOf_28 : decode cX1_leastOf 28 = .ok (.getfield 29, 3) := by decide +kernel
theorem dX1_leastOf_31 : decode cX1_leastOf 31 = .ok (.bipush 64, 2) := by decide +kernel
theorem dX1_leastOf_33 : decode cX1_leastOf 33 = .ok (.iload_n 1, 1) := by decide +kernel
theorem dX1_leastOf_34 : decode cX1_leastOf 34 = .ok (.imul, 1) := by decide +kernel
theorem dX1_leastOf_35 : decode cX1_leastOf 35 = .ok (.iload_n 3, 1) := by decide +kernel
theorem dX1_leastOf_36 : decode cX1_leastOf 36 = .ok (.iadd, 1) := by decide +kernel
theorem dX1_leastOf_37 : decode cX1_leastOf 37 = .ok (.iaload, 1) := by decide +kernel
theorem dX1_leastOf_38 : decode cX1_leastOf 38 = .ok (.goto 4, 3) := by decide +kernel
theorem dX1_leastOf_41 : decode cX1_leastOf 41 = .ok (.iload_n 2, 1) := by decide +kernel
theorem dX1_leastOf_42 : decode cX1_leastOf 42 = .ok (.istore_n 2, 1) := by decide +kernel
theorem dX1_leastOf_43 : decode cX1_leastOf 43 = .ok (.iinc 3 1, 3) := by decide +kernel
theorem dX1_leastOf_46 : decode cX1_leastOf 46 = .ok (.goto (-42), 3) := by decide +kernel
theorem dX1_leastOf_49 : decode cX1_leastOf 49 = .ok (.iload_n 2, 1) := by decide +kernel
theorem dX1_leastOf_50 : decode cX1_leastOf 50 = .ok (.ireturn, 1) := by decide +kernel
set_option maxRecDepth 20000 in
theorem ggX1_least_X1_isFunction : GoodIn wsX1_least wsX1_isFunction := goodIn_r _ [6, 7, 8, 9, 5, 10, 28, 29, 30, 31, 32, 33, 34, 35, 36, 37, 38] (by decide +kernel) (by decide +kernel)
set_option maxRecDepth 20000 in
theorem gX1_least_X1_isFunction : GoodIn wsX1_least (wsV RX1 83 RX1 yX1_isFunction wsX1_isFunction) := goodIn_app (goodIn_of _ (by decide +kernel)) ggX1_least_X1_isFunction
set_option maxRecDepth 20000 in
theorem ggX1_least_X1_hasLaw : GoodIn wsX1_least wsX1_hasLaw := goodIn_r _ [14, 15, 16, 17, 18, 19, 5, 20, 8, 9, 10, 21, 22, 23, 28, 29, 30, 31, 32, 33, 34, 35, 36, 37, 38] (by decide +kernel) (by decide +kernel)
set_option maxRecDepth 20000 in
theorem gX1_least_X1_hasLaw : GoodIn wsX1_least (wsV RX1 86 RX1 yX1_hasLaw wsX1_hasLaw) := goodIn_app (goodIn_of _ (by decide +kernel)) ggX1_least_X1_hasLaw
set_option maxRecDepth 20000 in
theorem ggX1_least_X1_leastOf : GoodIn wsX1_least wsX1_leastOf := goodIn_r _ [27, 16, 17, 18, 19, 5, 20, 15, 8, 9, 10, 28, 29, 30, 31, 32, 33, 34, 35, 36, 37, 38] (by decide +kernel) (by decide +kernel)
set_option maxRecDepth 20000 in
theorem gX1_least_X1_leastOf : GoodIn wsX1_least (wsV RX1 89 RX1 yX1_leastOf wsX1_leastOf) := goodIn_app (goodIn_of _ (by decide +kernel)) ggX1_least_X1_leastOf
theorem dX1_least_0 : decode cX1_least 0 = .ok (.aload_n 0, 1) := by decide +kernel
theorem dX1_least_1 : decode cX1_least 1 = .ok (.aload_n 0, 1) := by decide +kernel
theorem dX1_least_2 : decode cX1_least 2 = .ok (.iload_n 1, 1) := by decide +kernel
theorem dX1_least_3 : decode cX1_least 3 = .ok (.invokevirtual 83, 3) := by decide +kernel
theorem dX1_least_6 : decode cX1_least 6 = .ok (.ifCond .ne 7, 3) := by decide +kernel
theorem dX1_least_9 : decode cX1_least 9 = .ok (.iconst 1, 1) := by decide +kernel
theorem dX1_least_10 : decode cX1_least 10 = .ok (.goto 16, 3) := by decide +kernel
theorem dX1_least_13 : decode cX1_least 13 = .ok (.aload_n 0, 1) := by decide +kernel
theorem dX1_least_14 : decode cX1_least 14 = .ok (.iload_n 1, 1) := by decide +kernel
theorem dX1_least_15 : decode cX1_least 15 = .ok (.invokevirtual 86, 3) := by decide +kernel
theorem dX1_least_18 : decode cX1_least 18 = .ok (.ifCond .ne 7, 3) := by decide +kernel
theorem dX1_least_21 : decode cX1_least 21 = .ok (.iconst 2, 1) := by decide +kernel
theorem dX1_least_22 : decode cX1_least 22 = .ok (.goto 4, 3) := by decide +kernel
theorem dX1_least_25 : decode cX1_least 25 = .ok (.iconst 0, 1) := by decide +kernel
theorem dX1_least_26 : decode cX1_least 26 = .ok (.putfield 44, 3) := by decide +kernel
theorem dX1_least_29 : decode cX1_least 29 = .ok (.aload_n 0, 1) := by decide +kernel
theorem dX1_least_30 : decode cX1_least 30 = .ok (.getfield 44, 3) := by decide +kernel
theorem dX1_least_33 : decode cX1_least 33 = .ok (.ifCond .le 7, 3) := by decide +kernel
theorem dX1_least_36 : decode cX1_least 36 = .ok (.iconst 0, 1) := by decide +kernel
theorem dX1_least_37 : decode cX1_least 37 = .ok (.goto 8, 3) := by decide +kernel
theorem dX1_least_40 : decode cX1_least 40 = .ok (.aload_n 0, 1) := by decide +kernel
theorem dX1_least_41 : decode cX1_least 41 = .ok (.iload_n 1, 1) := by decide +kernel
theorem dX1_least_42 : decode cX1_least 42 = .ok (.invokevirtual 89, 3) := by decide +kernel
theorem dX1_least_45 : decode cX1_least 45 = .ok (.ireturn, 1) := by decide +kernel
set_option maxRecDepth 20000 in
theorem ggX1_leastSets_X1_isFunction : GoodIn wsX1_leastSets wsX1_isFunction := goodIn_r _ [8, 9, 10, 11, 7, 12, 28, 29, 30, 31, 32, 33, 34, 35, 36, 37, 38] (by decide +kernel) (by decide +kernel)
set_option maxRecDepth 20000 in
theorem gX1_leastSets_X1_isFunction : GoodIn wsX1_leastSets (wsV RX1 83 RX1 yX1_isFunction wsX1_isFunction) := goodIn_app (goodIn_of _ (by decide +kernel)) ggX1_leastSets_X1_isFunction
set_option maxRecDepth 20000 in
theorem ggX1_leastSets_X1_hasLaw : GoodIn wsX1_leastSets wsX1_hasLaw := goodIn_r _ [16, 2, 3, 17, 18, 19, 7, 20, 10, 11, 12, 21, 22, 23, 28, 29, 30, 31, 32, 33, 34, 35, 36, 37, 38] (by decide +kernel) (by decide +kernel)
set_option maxRecDepth 20000 in
theorem gX1_leastSets_X1_hasLaw : GoodIn wsX1_leastSets (wsV RX1 86 RX1 yX1_hasLaw wsX1_hasLaw) := goodIn_app (goodIn_of _ (by decide +kernel)) ggX1_leastSets_X1_hasLaw
set_option maxRecDepth 20000 in
theorem ggX1_leastSets_X1_leastOf : GoodIn wsX1_leastSets wsX1_leastOf := goodIn_r _ [27, 3, 17, 18, 19, 7, 20, 2, 10, 11, 12, 28, 29, 30, 31, 32, 33, 34, 35, 36, 37, 38] (by decide +kernel) (by decide +kernel)
set_option maxRecDepth 20000 in
theorem gX1_leastSets_X1_leastOf : GoodIn wsX1_leastSets (wsV RX1 89 RX1 yX1_leastOf wsX1_leastOf) := goodIn_app (goodIn_of _ (by decide +kernel)) ggX1_leastSets_X1_leastOf
set_option maxRecDepth 20000 in
theorem ggX1_leastSets_X1_isSet : GoodIn wsX1_leastSets wsX1_isSet := goodIn_r _ [20, 2, 10, 11, 7, 12, 28, 29, 30, 31, 32, 33, 34, 35, 36, 37, 38] (by decide +kernel) (by decide +kernel)
set_option maxRecDepth 20000 in
theorem gX1_leastSets_X1_isSet : GoodIn wsX1_leastSets (wsV RX1 67 RX1 yX1_isSet wsX1_isSet) := goodIn_app (goodIn_of _ (by decide +kernel)) ggX1_leastSets_X1_isSet
theorem dX1_leastSets_0 : decode cX1_leastSets 0 = .ok (.aload_n 0, 1) := by decide +kernel
theorem dX1_leastSets_1 : decode cX1_leastSets 1 = .ok (.aload_n 0, 1) := by decide +kernel
theorem dX1_leastSets_2 : decode cX1_leastSets 2 = .ok (.iload_n 1, 1) := by decide +kernel
theorem dX1_leastSets_3 : decode cX1_leastSets 3 = .ok (.invokevirtual 83, 3) := by decide +kernel
theorem dX1_leastSets_6 : decode cX1_leastSets 6 = .ok (.ifCond .ne 7, 3) := by decide +kernel
theorem dX1_leastSets_9 : decode cX1_leastSets 9 = .ok (.iconst 1, 1) := by decide +kernel
theorem dX1_leastSets_10 : decode cX1_leastSets 10 = .ok (.goto 16, 3) := by decide +kernel
theorem dX1_leastSets_13 : decode cX1_leastSets 13 = .ok (.aload_n 0, 1) := by decide +kernel
theorem dX1_leastSets_14 : decode cX1_leastSets 14 = .ok (.iload_n 1, 1) := by decide +kernel
theorem dX1_leastSets_15 : decode cX1_leastSets 15 = .ok (.invokevirtual 86, 3) := by decide +kernel
theorem dX1_leastSets_18 : decode cX1_leastSets 18 = .ok (.ifCond .ne 7, 3) := by decide +kernel
theorem dX1_leastSets_21 : decode cX1_leastSets 21 = .ok (.iconst 2, 1) := by decide +kernel
theorem dX1_leastSets_22 : decode cX1_leastSets 22 = .ok (.goto 4, 3) := by decide +kernel
theorem dX1_leastSets_25 : decode cX1_leastSets 25 = .ok (.iconst 0, 1) := by decide +kernel
theorem dX1_leastSets_26 : decode cX1_leastSets 26 = .ok (.putfield 44, 3) := by decide +kernel
theorem dX1_leastSets_29 : decode cX1_leastSets 29 = .ok (.aload_n 0, 1) := by decide +kernel
theorem dX1_leastSets_30 : decode cX1_leastSets 30 = .ok (.getfield 44, 3) := by decide +kernel
theorem dX1_leastSets_33 : decode cX1_leastSets 33 = .ok (.ifCond .le 5, 3) := by decide +kernel
theorem dX1_leastSets_36 : decode cX1_leastSets 36 = .ok (.iconst 0, 1) := by decide +kernel
theorem dX1_leastSets_37 : decode cX1_leastSets 37 = .ok (.ireturn, 1) := by decide +kernel
theorem dX1_leastSets_38 : decode cX1_leastSets 38 = .ok (.aload_n 0, 1) := by decide +kernel
theorem dX1_leastSets_39 : decode cX1_leastSets 39 = .ok (.iload_n 1, 1) := by decide +kernel
theorem dX1_leastSets_40 : decode cX1_leastSets 40 = .ok (.invokevirtual 89, 3) := by decide +kernel
theorem dX1_leastSets_43 : decode cX1_leastSets 43 = .ok (.istore_n 3, 1) := by decide +kernel
theorem dX1_leastSets_44 : decode cX1_leastSets 44 = .ok (.iconst 1, 1) := by decide +kernel
theorem dX1_leastSets_45 : decode cX1_leastSets 45 = .ok (.aload_n 0, 1) := by decide +kernel
theorem dX1_leastSets_46 : decode cX1_leastSets 46 = .ok (.getfield 7, 3) := by decide +kernel
theorem dX1_leastSets_49 : decode cX1_leastSets 49 = .ok (.ishl, 1) := by decide +kernel
theorem dX1_leastSets_50 : decode cX1_leastSets 50 = .ok (.iconst 1, 1) := by decide +kernel
theorem dX1_leastSets_51 : decode cX1_leastSets 51 = .ok (.isub, 1) := by decide +kernel
theorem dX1_leastSets_52 : decode cX1_leastSets 52 = .ok (.istore 4, 2) := by decide +kernel
theorem dX1_leastSets_54 : decode cX1_leastSets 54 = .ok (.iconst 0, 1) := by decide +kernel
theorem dX1_leastSets_55 : decode cX1_leastSets 55 = .ok (.istore 5, 2) := by decide +kernel
theorem dX1_leastSets_57 : decode cX1_leastSets 57 = .ok (.iconst 0, 1) := by decide +kernel
theorem dX1_leastSets_58 : decode cX1_leastSets 58 = .ok (.istore 6, 2) := by decide +kernel
theorem dX1_leastSets_60 : decode cX1_leastSets 60 = .ok (.aload_n 0, 1) := by decide +kernel
theorem dX1_leastSets_61 : decode cX1_leastSets 61 = .ok (.iload 6, 2) := by decide +kernel
theorem dX1_leastSets_63 : decode cX1_leastSets 63 = .ok (.invokevirtual 67, 3) := by decide +kernel
theorem dX1_leastSets_66 : decode cX1_leastSets 66 = .ok (.ifCond .eq 64, 3) := by decide +kernel
theorem dX1_leastSets_69 : decode cX1_leastSets 69 = .ok (.iload 4, 2) := by decide +kernel
theorem dX1_leastSets_71 : decode cX1_leastSets 71 = .ok (.aload_n 0, 1) := by decide +kernel
theorem dX1_leastSets_72 : decode cX1_leastSets 72 = .ok (.getfield 29, 3) := by decide +kernel
theorem dX1_leastSets_75 : decode cX1_leastSets 75 = .ok (.bipush 64, 2) := by decide +kernel
theorem dX1_leastSets_77 : decode cX1_leastSets 77 = .ok (.iload_n 1, 1) := by decide +kernel
theorem dX1_leastSets_78 : decode cX1_leastSets 78 = .ok (.imul, 1) := by decide +kernel
theorem dX1_leastSets_79 : decode cX1_leastSets 79 = .ok (.iload 6, 2) := by decide +kernel
theorem dX1_leastSets_81 : decode cX1_leastSets 81 = .ok (.iadd, 1) := by decide +kernel
theorem dX1_leastSets_82 : decode cX1_leastSets 82 = .ok (.iaload, 1) := by decide +kernel
theorem dX1_leastSets_83 : decode cX1_leastSets 83 = .ok (.iload_n 3, 1) := by decide +kernel
theorem dX1_leastSets_84 : decode cX1_leastSets 84 = .ok (.if_icmp .ne 8, 3) := by decide +kernel
theorem dX1_leastSets_87 : decode cX1_leastSets 87 = .ok (.iload 6, 2) := by decide +kernel
theorem dX1_leastSets_89 : decode cX1_leastSets 89 = .ok (.goto 5, 3) := by decide +kernel
theorem dX1_leastSets_92 : decode cX1_leastSets 92 = .ok (.iload 4, 2) := by decide +kernel
theorem dX1_leastSets_94 : decode cX1_leastSets 94 = .ok (.iand, 1) := by decide +kernel
theorem dX1_leastSets_95 : decode cX1_leastSets 95 = .ok (.istore 4, 2) := by decide +kernel
theorem dX1_leastSets_97 : decode cX1_leastSets 97 = .ok (.iload 5, 2) := by decide +kernel
theorem dX1_leastSets_99 : decode cX1_leastSets 99 = .ok (.aload_n 0, 1) := by decide +kernel
theorem dX1_leastSets_100 : decode cX1_leastSets 100 = .ok (.getfield 29, 3) := by decide +kernel
theorem dX1_leastSets_103 : decode cX1_leastSets 103 = .ok (.bipush 64, 2) := by decide +kernel
theorem dX1_leastSets_105 : decode cX1_leastSets 105 = .ok (.iload_n 1, 1) := by decide +kernel
theorem dX1_leastSets_106 : decode cX1_leastSets 106 = .ok (.imul, 1) := by decide +kernel
theorem dX1_leastSets_107 : decode cX1_leastSets 107 = .ok (.iload 6, 2) := by decide +kernel
theorem dX1_leastSets_109 : decode cX1_leastSets 109 = .ok (.iadd, 1) := by decide +kernel
theorem dX1_leastSets_110 : decode cX1_leastSets 110 = .ok (.iaload, 1) := by decide +kernel
theorem dX1_leastSets_111 : decode cX1_leastSets 111 = .ok (.iload_n 3, 1) := by decide +kernel
theorem dX1_leastSets_112 : decode cX1_leastSets 112 = .ok (.if_icmp .ne 8, 3) := by decide +kernel
theorem dX1_leastSets_115 : decode cX1_leastSets 115 = .ok (.iload 6, 2) := by decide +kernel
theorem dX1_leastSets_117 : decode cX1_leastSets 117 = .ok (.goto 4, 3) := by decide +kernel
theorem dX1_leastSets_120 : decode cX1_leastSets 120 = .ok (.iconst 0, 1) := by decide +kernel
theorem dX1_leastSets_121 : decode cX1_leastSets 121 = .ok (.ior, 1) := by decide +kernel
theorem dX1_leastSets_122 : decode cX1_leastSets 122 = .ok (.istore 5, 2) := by decide +kernel
theorem dX1_leastSets_124 : decode cX1_leastSets 124 = .ok (.iinc 6 1, 3) := by decide +kernel
theorem dX1_leastSets_127 : decode cX1_leastSets 127 = .ok (.goto (-67), 3) := by decide +kernel
theorem dX1_leastSets_130 : decode cX1_leastSets 130 = .ok (.iload_n 2, 1) := by decide +kernel
theorem dX1_leastSets_131 : decode cX1_leastSets 131 = .ok (.ifCond .eq 8, 3) := by decide +kernel
theorem dX1_leastSets_134 : decode cX1_leastSets 134 = .ok (.iload 5, 2) := by decide +kernel
theorem dX1_leastSets_136 : decode cX1_leastSets 136 = .ok (.goto 5, 3) := by decide +kernel
theorem dX1_leastSets_139 : decode cX1_leastSets 139 = .ok (.iload 4, 2) := by decide +kernel
theorem dX1_leastSets_141 : decode cX1_leastSets 141 = .ok (.ireturn, 1) := by decide +kernel
set_option maxRecDepth 20000 in
theorem ggX1_leastSet_X1_leastSets : GoodIn wsX1_leastSet wsX1_leastSets := goodIn_r _ [5, 6, 7, 8, 9, 10, 11, 4, 12, 13, 14, 15, 16, 17, 18, 19, 20, 21, 22, 23, 24, 25, 26, 27, 28, 29, 30, 31, 32, 33, 34, 35, 36, 37, 38, 39, 40, 41, 42] (by decide +kernel) (by decide +kernel)
set_option maxRecDepth 20000 in
theorem gX1_leastSet_X1_leastSets : GoodIn wsX1_leastSet (wsV RX1 92 RX1 yX1_leastSets wsX1_leastSets) := goodIn_app (goodIn_of _ (by decide +kernel)) ggX1_leastSet_X1_leastSets
theorem dX1_leastSet_0 : decode cX1_leastSet 0 = .ok (.aload_n 0, 1) := by decide +kernel
theorem dX1_leastSet_1 : decode cX1_leastSet 1 = .ok (.iload_n 1, 1) := by decide +kernel
theorem dX1_leastSet_2 : decode cX1_leastSet 2 = .ok (.iload_n 2, 1) := by decide +kernel
theorem dX1_leastSet_3 : decode cX1_leastSet 3 = .ok (.invokevirtual 92, 3) := by decide +kernel
theorem dX1_leastSet_6 : decode cX1_leastSet 6 = .ok (.ireturn, 1) := by decide +kernel
set_option maxRecDepth 20000 in
theorem ggX1_leastSetAnew_X1_leastSets : GoodIn wsX1_leastSetAnew wsX1_leastSets := goodIn_r _ [5, 6, 7, 8, 9, 10, 11, 4, 12, 13, 14, 15, 16, 17, 18, 19, 20, 21, 22, 23, 24, 25, 26, 27, 28, 29, 30, 31, 32, 33, 34, 35, 36, 37, 38, 39, 40, 41, 42] (by decide +kernel) (by decide +kernel)
set_option maxRecDepth 20000 in
theorem gX1_leastSetAnew_X1_leastSets : GoodIn wsX1_leastSetAnew (wsV RX1 92 RX1 yX1_leastSets wsX1_leastSets) := goodIn_app (goodIn_of _ (by decide +kernel)) ggX1_leastSetAnew_X1_leastSets
theorem dX1_leastSetAnew_0 : decode cX1_leastSetAnew 0 = .ok (.aload_n 0, 1) := by decide +kernel
theorem dX1_leastSetAnew_1 : decode cX1_leastSetAnew 1 = .ok (.iload_n 1, 1) := by decide +kernel
theorem dX1_leastSetAnew_2 : decode cX1_leastSetAnew 2 = .ok (.iload_n 2, 1) := by decide +kernel
theorem dX1_leastSetAnew_3 : decode cX1_leastSetAnew 3 = .ok (.invokevirtual 92, 3) := by decide +kernel
theorem dX1_leastSetAnew_6 : decode cX1_leastSetAnew 6 = .ok (.ireturn, 1) := by decide +kernel
theorem dX1_placeOf_0 : decode cX1_placeOf 0 = .ok (.iconst (-1), 1) := by decide +kernel
theorem dX1_placeOf_1 : decode cX1_placeOf 1 = .ok (.istore_n 2, 1) := by decide +kernel
theorem dX1_placeOf_2 : decode cX1_placeOf 2 = .ok (.iconst 0, 1) := by decide +kernel
theorem dX1_placeOf_3 : decode cX1_placeOf 3 = .ok (.istore_n 3, 1) := by decide +kernel
theorem dX1_placeOf_4 : decode cX1_placeOf 4 = .ok (.iload_n 3, 1) := by decide +kernel
theorem dX1_placeOf_5 : decode cX1_placeOf 5 = .ok (.aload_n 0, 1) := by decide +kernel
theorem dX1_placeOf_6 : decode cX1_placeOf 6 = .ok (.getfield 41, 3) := by decide +kernel
theorem dX1_placeOf_9 : decode cX1_placeOf 9 = .ok (.if_icmp .ge 25, 3) := by decide +kernel
theorem dX1_placeOf_12 : decode cX1_placeOf 12 = .ok (.aload_n 0, 1) := by decide +kernel
theorem dX1_placeOf_13 : decode cX1_placeOf 13 = .ok (.getfield 32, 3) := by decide +kernel
theorem dX1_placeOf_16 : decode cX1_placeOf 16 = .ok (.iload_n 3, 1) := by decide +kernel
theorem dX1_placeOf_17 : decode cX1_placeOf 17 = .ok (.iaload, 1) := by decide +kernel
theorem dX1_placeOf_18 : decode cX1_placeOf 18 = .ok (.iload_n 1, 1) := by decide +kernel
theorem dX1_placeOf_19 : decode cX1_placeOf 19 = .ok (.if_icmp .ne 7, 3) := by decide +kernel
theorem dX1_placeOf_22 : decode cX1_placeOf 22 = .ok (.iload_n 3, 1) := by decide +kernel
theorem dX1_placeOf_23 : decode cX1_placeOf 23 = .ok (.goto 4, 3) := by decide +kernel
theorem dX1_placeOf_26 : decode cX1_placeOf 26 = .ok (.iload_n 2, 1) := by decide +kernel
theorem dX1_placeOf_27 : decode cX1_placeOf 27 = .ok (.istore_n 2, 1) := by decide +kernel
theorem dX1_placeOf_28 : decode cX1_placeOf 28 = .ok (.iinc 3 1, 3) := by decide +kernel
theorem dX1_placeOf_31 : decode cX1_placeOf 31 = .ok (.goto (-27), 3) := by decide +kernel
theorem dX1_placeOf_34 : decode cX1_placeOf 34 = .ok (.iload_n 2, 1) := by decide +kernel
theorem dX1_placeOf_35 : decode cX1_placeOf 35 = .ok (.ireturn, 1) := by decide +kernel
set_option maxRecDepth 20000 in
theorem ggX1_order_X1_isElement : GoodIn wsX1_order wsX1_isElement := goodIn_r _ [9, 2, 10, 11, 8, 12, 17, 18, 19, 20, 21, 22, 23, 24, 25, 26, 27] (by decide +kernel) (by decide +kernel)
set_option maxRecDepth 20000 in
theorem gX1_order_X1_isElement : GoodIn wsX1_order (wsV RX1 51 RX1 yX1_isElement wsX1_isElement) := goodIn_app (goodIn_of _ (by decide +kernel)) ggX1_order_X1_isElement
set_option maxRecDepth 20000 in
theorem ggX1_order_X1_placeOf : GoodIn wsX1_order wsX1_placeOf := goodIn_r _ [16, 1, 4, 17, 18, 19, 20, 21, 22, 23, 24, 25, 26, 27] (by decide +kernel) (by decide +kernel)
set_option maxRecDepth 20000 in
theorem gX1_order_X1_placeOf : GoodIn wsX1_order (wsV RX1 96 RX1 yX1_placeOf wsX1_placeOf) := goodIn_app (goodIn_of _ (by decide +kernel)) ggX1_order_X1_placeOf
theorem dX1_order_0 : decode cX1_order 0 = .ok (.aload_n 0, 1) := by decide +kernel
theorem dX1_order_1 : decode cX1_order 1 = .ok (.aload_n 0, 1) := by decide +kernel
theorem dX1_order_2 : decode cX1_order 2 = .ok (.iload_n 1, 1) := by decide +kernel
theorem dX1_order_3 : decode cX1_order 3 = .ok (.invokevirtual 51, 3) := by decide +kernel
theorem dX1_order_6 : decode cX1_order 6 = .ok (.ifCond .ne 7, 3) := by decide +kernel
theorem dX1_order_9 : decode cX1_order 9 = .ok (.iconst 1, 1) := by decide +kernel
theorem dX1_order_10 : decode cX1_order 10 = .ok (.goto 28, 3) := by decide +kernel
theorem dX1_order_13 : decode cX1_order 13 = .ok (.aload_n 0, 1) := by decide +kernel
theorem dX1_order_14 : decode cX1_order 14 = .ok (.getfield 41, 3) := by decide +kernel
theorem dX1_order_17 : decode cX1_order 17 = .ok (.aload_n 0, 1) := by decide +kernel
theorem dX1_order_18 : decode cX1_order 18 = .ok (.getfield 7, 3) := by decide +kernel
theorem dX1_order_21 : decode cX1_order 21 = .ok (.if_icmp .ge 16, 3) := by decide +kernel
theorem dX1_order_24 : decode cX1_order 24 = .ok (.aload_n 0, 1) := by decide +kernel
theorem dX1_order_25 : decode cX1_order 25 = .ok (.iload_n 1, 1) := by decide +kernel
theorem dX1_order_26 : decode cX1_order 26 = .ok (.invokevirtual 96, 3) := by decide +kernel
theorem dX1_order_29 : decode cX1_order 29 = .ok (.iconst (-1), 1) := by decide +kernel
theorem dX1_order_30 : decode cX1_order 30 = .ok (.if_icmp .eq 7, 3) := by decide +kernel
theorem dX1_order_33 : decode cX1_order 33 = .ok (.iconst 2, 1) := by decide +kernel
theorem dX1_order_34 : decode cX1_order 34 = .ok (.goto 4, 3) := by decide +kernel
theorem dX1_order_37 : decode cX1_order 37 = .ok (.iconst 0, 1) := by decide +kernel
theorem dX1_order_38 : decode cX1_order 38 = .ok (.putfield 44, 3) := by decide +kernel
theorem dX1_order_41 : decode cX1_order 41 = .ok (.aload_n 0, 1) := by decide +kernel
theorem dX1_order_42 : decode cX1_order 42 = .ok (.getfield 44, 3) := by decide +kernel
theorem dX1_order_45 : decode cX1_order 45 = .ok (.ifCond .le 5, 3) := by decide +kernel
theorem dX1_order_48 : decode cX1_order 48 = .ok (.iconst 0, 1) := by decide +kernel
theorem dX1_order_49 : decode cX1_order 49 = .ok (.ireturn, 1) := by decide +kernel
theorem dX1_order_50 : decode cX1_order 50 = .ok (.aload_n 0, 1) := by decide +kernel
theorem dX1_order_51 : decode cX1_order 51 = .ok (.aload_n 0, 1) := by decide +kernel
theorem dX1_order_52 : decode cX1_order 52 = .ok (.getfield 41, 3) := by decide +kernel
theorem dX1_order_55 : decode cX1_order 55 = .ok (.aload_n 0, 1) := by decide +kernel
theorem dX1_order_56 : decode cX1_order 56 = .ok (.getfield 7, 3) := by decide +kernel
theorem dX1_order_59 : decode cX1_order 59 = .ok (.if_icmp .ne 7, 3) := by decide +kernel
theorem dX1_order_62 : decode cX1_order 62 = .ok (.iconst 0, 1) := by decide +kernel
theorem dX1_order_63 : decode cX1_order 63 = .ok (.goto 7, 3) := by decide +kernel
theorem dX1_order_66 : decode cX1_order 66 = .ok (.aload_n 0, 1) := by decide +kernel
theorem dX1_order_67 : decode cX1_order 67 = .ok (.getfield 41, 3) := by decide +kernel
theorem dX1_order_70 : decode cX1_order 70 = .ok (.putfield 41, 3) := by decide +kernel
theorem dX1_order_73 : decode cX1_order 73 = .ok (.aload_n 0, 1) := by decide +kernel
theorem dX1_order_74 : decode cX1_order 74 = .ok (.getfield 32, 3) := by decide +kernel
theorem dX1_order_77 : decode cX1_order 77 = .ok (.aload_n 0, 1) := by decide +kernel
theorem dX1_order_78 : decode cX1_order 78 = .ok (.getfield 41, 3) := by decide +kernel
theorem dX1_order_81 : decode cX1_order 81 = .ok (.iload_n 1, 1) := by decide +kernel
theorem dX1_order_82 : decode cX1_order 82 = .ok (.iastore, 1) := by decide +kernel
theorem dX1_order_83 : decode cX1_order 83 = .ok (.aload_n 0, 1) := by decide +kernel
theorem dX1_order_84 : decode cX1_order 84 = .ok (.dup, 1) := by decide +kernel
theorem dX1_order_85 : decode cX1_order 85 = .ok (.getfield 41, 3) := by decide +kernel
theorem dX1_order_88 : decode cX1_order 88 = .ok (.iconst 1, 1) := by decide +kernel
theorem dX1_order_89 : decode cX1_order 89 = .ok (.iadd, 1) := by decide +kernel
theorem dX1_order_90 : decode cX1_order 90 = .ok (.putfield 41, 3) := by decide +kernel
theorem dX1_order_93 : decode cX1_order 93 = .ok (.aload_n 0, 1) := by decide +kernel
theorem dX1_order_94 : decode cX1_order 94 = .ok (.getfield 41, 3) := by decide +kernel
theorem dX1_order_97 : decode cX1_order 97 = .ok (.ireturn, 1) := by decide +kernel
set_option maxRecDepth 20000 in
theorem ggX1_corner_X1_isFunction : GoodIn wsX1_corner wsX1_isFunction := goodIn_r _ [8, 9, 10, 11, 7, 12, 23, 24, 25, 26, 27, 28, 29, 30, 31, 32, 33] (by decide +kernel) (by decide +kernel)
set_option maxRecDepth 20000 in
theorem gX1_corner_X1_isFunction : GoodIn wsX1_corner (wsV RX1 83 RX1 yX1_isFunction wsX1_isFunction) := goodIn_app (goodIn_of _ (by decide +kernel)) ggX1_corner_X1_isFunction
set_option maxRecDepth 20000 in
theorem ggX1_corner_X1_isElement : GoodIn wsX1_corner wsX1_isElement := goodIn_r _ [16, 17, 10, 11, 7, 12, 23, 24, 25, 26, 27, 28, 29, 30, 31, 32, 33] (by decide +kernel) (by decide +kernel)
set_option maxRecDepth 20000 in
theorem gX1_corner_X1_isElement : GoodIn wsX1_corner (wsV RX1 51 RX1 yX1_isElement wsX1_isElement) := goodIn_app (goodIn_of _ (by decide +kernel)) ggX1_corner_X1_isElement
set_option maxRecDepth 20000 in
theorem ggX1_corner_X1_placeOf : GoodIn wsX1_corner wsX1_placeOf := goodIn_r _ [21, 22, 2, 23, 24, 25, 26, 27, 28, 29, 30, 31, 32, 33] (by decide +kernel) (by decide +kernel)
set_option maxRecDepth 20000 in
theorem gX1_corner_X1_placeOf : GoodIn wsX1_corner (wsV RX1 96 RX1 yX1_placeOf wsX1_placeOf) := goodIn_app (goodIn_of _ (by decide +kernel)) ggX1_corner_X1_placeOf
theorem dX1_corner_0 : decode cX1_corner 0 = .ok (.aload_n 0, 1) := by decide +kernel
theorem dX1_corner_1 : decode cX1_corner 1 = .ok (.aload_n 0, 1) := by decide +kernel
theorem dX1_corner_2 : decode cX1_corner 2 = .ok (.iload_n 1, 1) := by decide +kernel
theorem dX1_corner_3 : decode cX1_corner 3 = .ok (.invokevirtual 83, 3) := by decide +kernel
theorem dX1_corner_6 : decode cX1_corner 6 = .ok (.ifCond .eq 11, 3) := by decide +kernel
theorem dX1_corner_9 : decode cX1_corner 9 = .ok (.aload_n 0, 1) := by decide +kernel
theorem dX1_corner_10 : decode cX1_corner 10 = .ok (.iload_n 2, 1) := by decide +kernel
theorem dX1_corner_11 : decode cX1_corner 11 = .ok (.invokevirtual 51, 3) := by decide +kernel
theorem dX1_corner_14 : decode cX1_corner 14 = .ok (.ifCond .ne 7, 3) := by decide +kernel
theorem dX1_corner_17 : decode cX1_corner 17 = .ok (.iconst 1, 1) := by decide +kernel
theorem dX1_corner_18 : decode cX1_corner 18 = .ok (.goto 17, 3) := by decide +kernel
theorem dX1_corner_21 : decode cX1_corner 21 = .ok (.aload_n 0, 1) := by decide +kernel
theorem dX1_corner_22 : decode cX1_corner 22 = .ok (.iload_n 2, 1) := by decide +kernel
theorem dX1_corner_23 : decode cX1_corner 23 = .ok (.invokevirtual 96, 3) := by decide +kernel
theorem dX1_corner_26 : decode cX1_corner 26 = .ok (.iconst (-1), 1) := by decide +kernel
theorem dX1_corner_27 : decode cX1_corner 27 = .ok (.if_icmp .ne 7, 3) := by decide +kernel
theorem dX1_corner_30 : decode cX1_corner 30 = .ok (.iconst 2, 1) := by decide +kernel
theorem dX1_corner_31 : decode cX1_corner 31 = .ok (.goto 4, 3) := by decide +kernel
theorem dX1_corner_34 : decode cX1_corner 34 = .ok (.iconst 0, 1) := by decide +kernel
theorem dX1_corner_35 : decode cX1_corner 35 = .ok (.putfield 44, 3) := by decide +kernel
theorem dX1_corner_38 : decode cX1_corner 38 = .ok (.aload_n 0, 1) := by decide +kernel
theorem dX1_corner_39 : decode cX1_corner 39 = .ok (.getfield 44, 3) := by decide +kernel
theorem dX1_corner_42 : decode cX1_corner 42 = .ok (.ifCond .le 5, 3) := by decide +kernel
theorem dX1_corner_45 : decode cX1_corner 45 = .ok (.iconst 0, 1) := by decide +kernel
theorem dX1_corner_46 : decode cX1_corner 46 = .ok (.ireturn, 1) := by decide +kernel
theorem dX1_corner_47 : decode cX1_corner 47 = .ok (.iconst 0, 1) := by decide +kernel
theorem dX1_corner_48 : decode cX1_corner 48 = .ok (.istore_n 3, 1) := by decide +kernel
theorem dX1_corner_49 : decode cX1_corner 49 = .ok (.iconst 0, 1) := by decide +kernel
theorem dX1_corner_50 : decode cX1_corner 50 = .ok (.istore 4, 2) := by decide +kernel
theorem dX1_corner_52 : decode cX1_corner 52 = .ok (.iload 4, 2) := by decide +kernel
theorem dX1_corner_54 : decode cX1_corner 54 = .ok (.aload_n 0, 1) := by decide +kernel
theorem dX1_corner_55 : decode cX1_corner 55 = .ok (.iload_n 2, 1) := by decide +kernel
theorem dX1_corner_56 : decode cX1_corner 56 = .ok (.invokevirtual 96, 3) := by decide +kernel
theorem dX1_corner_59 : decode cX1_corner 59 = .ok (.if_icmp .ge 21, 3) := by decide +kernel
theorem dX1_corner_62 : decode cX1_corner 62 = .ok (.iload_n 3, 1) := by decide +kernel
theorem dX1_corner_63 : decode cX1_corner 63 = .ok (.iconst 1, 1) := by decide +kernel
theorem dX1_corner_64 : decode cX1_corner 64 = .ok (.aload_n 0, 1) := by decide +kernel
theorem dX1_corner_65 : decode cX1_corner 65 = .ok (.getfield 32, 3) := by decide +kernel
theorem dX1_corner_68 : decode cX1_corner 68 = .ok (.iload 4, 2) := by decide +kernel
theorem dX1_corner_70 : decode cX1_corner 70 = .ok (.iaload, 1) := by decide +kernel
theorem dX1_corner_71 : decode cX1_corner 71 = .ok (.ishl, 1) := by decide +kernel
theorem dX1_corner_72 : decode cX1_corner 72 = .ok (.ior, 1) := by decide +kernel
theorem dX1_corner_73 : decode cX1_corner 73 = .ok (.istore_n 3, 1) := by decide +kernel
theorem dX1_corner_74 : decode cX1_corner 74 = .ok (.iinc 4 1, 3) := by decide +kernel
theorem dX1_corner_77 : decode cX1_corner 77 = .ok (.goto (-25), 3) := by decide +kernel
theorem dX1_corner_80 : decode cX1_corner 80 = .ok (.aload_n 0, 1) := by decide +kernel
theorem dX1_corner_81 : decode cX1_corner 81 = .ok (.getfield 29, 3) := by decide +kernel
theorem dX1_corner_84 : decode cX1_corner 84 = .ok (.bipush 64, 2) := by decide +kernel
theorem dX1_corner_86 : decode cX1_corner 86 = .ok (.iload_n 1, 1) := by decide +kernel
theorem dX1_corner_87 : decode cX1_corner 87 = .ok (.imul, 1) := by decide +kernel
theorem dX1_corner_88 : decode cX1_corner 88 = .ok (.iload_n 3, 1) := by decide +kernel
theorem dX1_corner_89 : decode cX1_corner 89 = .ok (.iconst 1, 1) := by decide +kernel
theorem dX1_corner_90 : decode cX1_corner 90 = .ok (.iload_n 2, 1) := by decide +kernel
theorem dX1_corner_91 : decode cX1_corner 91 = .ok (.ishl, 1) := by decide +kernel
theorem dX1_corner_92 : decode cX1_corner 92 = .ok (.ior, 1) := by decide +kernel
theorem dX1_corner_93 : decode cX1_corner 93 = .ok (.iadd, 1) := by decide +kernel
theorem dX1_corner_94 : decode cX1_corner 94 = .ok (.iaload, 1) := by decide +kernel
theorem dX1_corner_95 : decode cX1_corner 95 = .ok (.aload_n 0, 1) := by decide +kernel
theorem dX1_corner_96 : decode cX1_corner 96 = .ok (.getfield 29, 3) := by decide +kernel
theorem dX1_corner_99 : decode cX1_corner 99 = .ok (.bipush 64, 2) := by decide +kernel
theorem dX1_corner_101 : decode cX1_corner 101 = .ok (.iload_n 1, 1) := by decide +kernel
theorem dX1_corner_102 : decode cX1_corner 102 = .ok (.imul, 1) := by decide +kernel
theorem dX1_corner_103 : decode cX1_corner 103 = .ok (.iload_n 3, 1) := by decide +kernel
theorem dX1_corner_104 : decode cX1_corner 104 = .ok (.iadd, 1) := by decide +kernel
theorem dX1_corner_105 : decode cX1_corner 105 = .ok (.iaload, 1) := by decide +kernel
theorem dX1_corner_106 : decode cX1_corner 106 = .ok (.isub, 1) := by decide +kernel
theorem dX1_corner_107 : decode cX1_corner 107 = .ok (.ireturn, 1) := by decide +kernel
set_option maxRecDepth 20000 in
theorem ggX1_greedy_X1_isFunction : GoodIn wsX1_greedy wsX1_isFunction := goodIn_r _ [8, 9, 10, 11, 7, 12, 16, 17, 18, 19, 20, 21, 22, 23, 24, 25, 26] (by decide +kernel) (by decide +kernel)
set_option maxRecDepth 20000 in
theorem gX1_greedy_X1_isFunction : GoodIn wsX1_greedy (wsV RX1 83 RX1 yX1_isFunction wsX1_isFunction) := goodIn_app (goodIn_of _ (by decide +kernel)) ggX1_greedy_X1_isFunction
set_option maxRecDepth 20000 in
theorem ggX1_greedy_X1_isIn : GoodIn wsX1_greedy wsX1_isIn := goodIn_r _ [12] (by decide +kernel) (by decide +kernel)
set_option maxRecDepth 20000 in
theorem gX1_greedy_X1_isIn : GoodIn wsX1_greedy (va_wsS RX1 47 yX1_isIn wsX1_isIn) := goodIn_app (goodIn_of _ (by decide +kernel)) ggX1_greedy_X1_isIn
set_option maxRecDepth 20000 in
theorem ggX1_greedy_X1_many : GoodIn wsX1_greedy wsX1_many := goodIn_r _ [15] (by decide +kernel) (by decide +kernel)
set_option maxRecDepth 20000 in
theorem gX1_greedy_X1_many : GoodIn wsX1_greedy (va_wsS RX1 59 yX1_many wsX1_many) := goodIn_app (goodIn_of _ (by decide +kernel)) ggX1_greedy_X1_many
theorem dX1_greedy_0 : decode cX1_greedy 0 = .ok (.aload_n 0, 1) := by decide +kernel
theorem dX1_greedy_1 : decode cX1_greedy 1 = .ok (.aload_n 0, 1) := by decide +kernel
theorem dX1_greedy_2 : decode cX1_greedy 2 = .ok (.iload_n 1, 1) := by decide +kernel
theorem dX1_greedy_3 : decode cX1_greedy 3 = .ok (.invokevirtual 83, 3) := by decide +kernel
theorem dX1_greedy_6 : decode cX1_greedy 6 = .ok (.ifCond .ne 7, 3) := by decide +kernel
theorem dX1_greedy_9 : decode cX1_greedy 9 = .ok (.iconst 1, 1) := by decide +kernel
theorem dX1_greedy_10 : decode cX1_greedy 10 = .ok (.goto 18, 3) := by decide +kernel
theorem dX1_greedy_13 : decode cX1_greedy 13 = .ok (.iload_n 2, 1) := by decide +kernel
theorem dX1_greedy_14 : decode cX1_greedy 14 = .ok (.iconst 0, 1) := by decide +kernel
theorem dX1_greedy_15 : decode cX1_greedy 15 = .ok (.bipush 6, 2) := by decide +kernel
theorem dX1_greedy_17 : decode cX1_greedy 17 = .ok (.invokestatic 47, 3) := by decide +kernel
theorem dX1_greedy_20 : decode cX1_greedy 20 = .ok (.ifCond .ne 7, 3) := by decide +kernel
theorem dX1_greedy_23 : decode cX1_greedy 23 = .ok (.iconst 2, 1) := by decide +kernel
theorem dX1_greedy_24 : decode cX1_greedy 24 = .ok (.goto 4, 3) := by decide +kernel
theorem dX1_greedy_27 : decode cX1_greedy 27 = .ok (.iconst 0, 1) := by decide +kernel
theorem dX1_greedy_28 : decode cX1_greedy 28 = .ok (.putfield 44, 3) := by decide +kernel
theorem dX1_greedy_31 : decode cX1_greedy 31 = .ok (.aload_n 0, 1) := by decide +kernel
theorem dX1_greedy_32 : decode cX1_greedy 32 = .ok (.getfield 44, 3) := by decide +kernel
theorem dX1_greedy_35 : decode cX1_greedy 35 = .ok (.ifCond .le 5, 3) := by decide +kernel
theorem dX1_greedy_38 : decode cX1_greedy 38 = .ok (.iconst 0, 1) := by decide +kernel
theorem dX1_greedy_39 : decode cX1_greedy 39 = .ok (.ireturn, 1) := by decide +kernel
theorem dX1_greedy_40 : decode cX1_greedy 40 = .ok (.iconst 0, 1) := by decide +kernel
theorem dX1_greedy_41 : decode cX1_greedy 41 = .ok (.istore_n 3, 1) := by decide +kernel
theorem dX1_greedy_42 : decode cX1_greedy 42 = .ok (.iconst (-1), 1) := by decide +kernel
theorem dX1_greedy_43 : decode cX1_greedy 43 = .ok (.istore 4, 2) := by decide +kernel
theorem dX1_greedy_45 : decode cX1_greedy 45 = .ok (.iload_n 3, 1) := by decide +kernel
theorem dX1_greedy_46 : decode cX1_greedy 46 = .ok (.iload 4, 2) := by decide +kernel
theorem dX1_greedy_48 : decode cX1_greedy 48 = .ok (.if_icmp .eq 77, 3) := by decide +kernel
theorem dX1_greedy_51 : decode cX1_greedy 51 = .ok (.iload_n 3, 1) := by decide +kernel
theorem dX1_greedy_52 : decode cX1_greedy 52 = .ok (.invokestatic 59, 3) := by decide +kernel
theorem dX1_greedy_55 : decode cX1_greedy 55 = .ok (.iload_n 2, 1) := by decide +kernel
theorem dX1_greedy_56 : decode cX1_greedy 56 = .ok (.if_icmp .ge 69, 3) := by decide +kernel
theorem dX1_greedy_59 : decode cX1_greedy 59 = .ok (.iload_n 3, 1) := by decide +kernel
theorem dX1_greedy_60 : decode cX1_greedy 60 = .ok (.istore 4, 2) := by decide +kernel
theorem dX1_greedy_62 : decode cX1_greedy 62 = .ok (.iconst 0, 1) := by decide +kernel
theorem dX1_greedy_63 : decode cX1_greedy 63 = .ok (.istore 5, 2) := by decide +kernel
theorem dX1_greedy_65 : decode cX1_greedy 65 = .ok (.iload 5, 2) := by decide +kernel
theorem dX1_greedy_67 : decode cX1_greedy 67 = .ok (.aload_n 0, 1) := by decide +kernel
theorem dX1_greedy_68 : decode cX1_greedy 68 = .ok (.getfield 7, 3) := by decide +kernel
theorem dX1_greedy_71 : decode cX1_greedy 71 = .ok (.if_icmp .ge 51, 3) := by decide +kernel
theorem dX1_greedy_74 : decode cX1_greedy 74 = .ok (.iload 4, 2) := by decide +kernel
theorem dX1_greedy_76 : decode cX1_greedy 76 = .ok (.iconst 1, 1) := by decide +kernel
theorem dX1_greedy_77 : decode cX1_greedy 77 = .ok (.iload 5, 2) := by decide +kernel
theorem dX1_greedy_79 : decode cX1_greedy 79 = .ok (.ishl, 1) := by decide +kernel
theorem dX1_greedy_80 : decode cX1_greedy 80 = .ok (.ior, 1) := by decide +kernel
theorem dX1_greedy_81 : decode cX1_greedy 81 = .ok (.istore 6, 2) := by decide +kernel
theorem dX1_greedy_83 : decode cX1_greedy 83 = .ok (.aload_n 0, 1) := by decide +kernel
theorem dX1_greedy_84 : decode cX1_greedy 84 = .ok (.getfield 29, 3) := by decide +kernel
theorem dX1_greedy_87 : decode cX1_greedy 87 = .ok (.bipush 64, 2) := by decide +kernel
theorem dX1_greedy_89 : decode cX1_greedy 89 = .ok (.iload_n 1, 1) := by decide +kernel
theorem dX1_greedy_90 : decode cX1_greedy 90 = .ok (.imul, 1) := by decide +kernel
theorem dX1_greedy_91 : decode cX1_greedy 91 = .ok (.iload 6, 2) := by decide +kernel
theorem dX1_greedy_93 : decode cX1_greedy 93 = .ok (.iadd, 1) := by decide +kernel
theorem dX1_greedy_94 : decode cX1_greedy 94 = .ok (.iaload, 1) := by decide +kernel
theorem dX1_greedy_95 : decode cX1_greedy 95 = .ok (.aload_n 0, 1) := by decide +kernel
theorem dX1_greedy_96 : decode cX1_greedy 96 = .ok (.getfield 29, 3) := by decide +kernel
theorem dX1_greedy_99 : decode cX1_greedy 99 = .ok (.bipush 64, 2) := by decide +kernel
theorem dX1_greedy_101 : decode cX1_greedy 101 = .ok (.iload_n 1, 1) := by decide +kernel
theorem dX1_greedy_102 : decode cX1_greedy 102 = .ok (.imul, 1) := by decide +kernel
theorem dX1_greedy_103 : decode cX1_greedy 103 = .ok (.iload_n 3, 1) := by decide +kernel
theorem dX1_greedy_104 : decode cX1_greedy 104 = .ok (.iadd, 1) := by decide +kernel
theorem dX1_greedy_105 : decode cX1_greedy 105 = .ok (.iaload, 1) := by decide +kernel
theorem dX1_greedy_106 : decode cX1_greedy 106 = .ok (.if_icmp .le 8, 3) := by decide +kernel
theorem dX1_greedy_109 : decode cX1_greedy 109 = .ok (.iload 6, 2) := by decide +kernel
theorem dX1_greedy_111 : decode cX1_greedy 111 = .ok (.goto 4, 3) := by decide +kernel
theorem dX1_greedy_114 : decode cX1_greedy 114 = .ok (.iload_n 3, 1) := by decide +kernel
theorem dX1_greedy_115 : decode cX1_greedy 115 = .ok (.istore_n 3, 1) := by decide +kernel
theorem dX1_greedy_116 : decode cX1_greedy 116 = .ok (.iinc 5 1, 3) := by decide +kernel
theorem dX1_greedy_119 : decode cX1_greedy 119 = .ok (.goto (-54), 3) := by decide +kernel
theorem dX1_greedy_122 : decode cX1_greedy 122 = .ok (.goto (-77), 3) := by decide +kernel
theorem dX1_greedy_125 : decode cX1_greedy 125 = .ok (.iload_n 3, 1) := by decide +kernel
theorem dX1_greedy_126 : decode cX1_greedy 126 = .ok (.ireturn, 1) := by decide +kernel
set_option maxRecDepth 20000 in
theorem ggX1_best_X1_isFunction : GoodIn wsX1_best wsX1_isFunction := goodIn_r _ [7, 8, 9, 10, 6, 11, 20, 21, 22, 23, 24, 25, 26, 27, 28, 29, 30] (by decide +kernel) (by decide +kernel)
set_option maxRecDepth 20000 in
theorem gX1_best_X1_isFunction : GoodIn wsX1_best (wsV RX1 83 RX1 yX1_isFunction wsX1_isFunction) := goodIn_app (goodIn_of _ (by decide +kernel)) ggX1_best_X1_isFunction
set_option maxRecDepth 20000 in
theorem ggX1_best_X1_isIn : GoodIn wsX1_best wsX1_isIn := goodIn_r _ [11] (by decide +kernel) (by decide +kernel)
set_option maxRecDepth 20000 in
theorem gX1_best_X1_isIn : GoodIn wsX1_best (va_wsS RX1 47 yX1_isIn wsX1_isIn) := goodIn_app (goodIn_of _ (by decide +kernel)) ggX1_best_X1_isIn
set_option maxRecDepth 20000 in
theorem ggX1_best_X1_isSet : GoodIn wsX1_best wsX1_isSet := goodIn_r _ [15, 16, 9, 10, 6, 11, 20, 21, 22, 23, 24, 25, 26, 27, 28, 29, 30] (by decide +kernel) (by decide +kernel)
set_option maxRecDepth 20000 in
theorem gX1_best_X1_isSet : GoodIn wsX1_best (wsV RX1 67 RX1 yX1_isSet wsX1_isSet) := goodIn_app (goodIn_of _ (by decide +kernel)) ggX1_best_X1_isSet
set_option maxRecDepth 20000 in
theorem ggX1_best_X1_many : GoodIn wsX1_best wsX1_many := goodIn_r _ [19] (by decide +kernel) (by decide +kernel)
set_option maxRecDepth 20000 in
theorem gX1_best_X1_many : GoodIn wsX1_best (va_wsS RX1 59 yX1_many wsX1_many) := goodIn_app (goodIn_of _ (by decide +kernel)) ggX1_best_X1_many
theorem dX1_best_0 : decode cX1_best 0 = .ok (.aload_n 0, 1) := by decide +kernel
theorem dX1_best_1 : decode cX1_best 1 = .ok (.aload_n 0, 1) := by decide +kernel
theorem dX1_best_2 : decode cX1_best 2 = .ok (.iload_n 1, 1) := by decide +kernel
theorem dX1_best_3 : decode cX1_best 3 = .ok (.invokevirtual 83, 3) := by decide +kernel
theorem dX1_best_6 : decode cX1_best 6 = .ok (.ifCond .ne 7, 3) := by decide +kernel
theorem dX1_best_9 : decode cX1_best 9 = .ok (.iconst 1, 1) := by decide +kernel
theorem dX1_best_10 : decode cX1_best 10 = .ok (.goto 18, 3) := by decide +kernel
theorem dX1_best_13 : decode cX1_best 13 = .ok (.iload_n 2, 1) := by decide +kernel
theorem dX1_best_14 : decode cX1_best 14 = .ok (.iconst 0, 1) := by decide +kernel
theorem dX1_best_15 : decode cX1_best 15 = .ok (.bipush 6, 2) := by decide +kernel
theorem dX1_best_17 : decode cX1_best 17 = .ok (.invokestatic 47, 3) := by decide +kernel
theorem dX1_best_20 : decode cX1_best 20 = .ok (.ifCond .ne 7, 3) := by decide +kernel
theorem dX1_best_23 : decode cX1_best 23 = .ok (.iconst 2, 1) := by decide +kernel
theorem dX1_best_24 : decode cX1_best 24 = .ok (.goto 4, 3) := by decide +kernel
theorem dX1_best_27 : decode cX1_best 27 = .ok (.iconst 0, 1) := by decide +kernel
theorem dX1_best_28 : decode cX1_best 28 = .ok (.putfield 44, 3) := by decide +kernel
theorem dX1_best_31 : decode cX1_best 31 = .ok (.iconst 0, 1) := by decide +kernel
theorem dX1_best_32 : decode cX1_best 32 = .ok (.istore_n 3, 1) := by decide +kernel
theorem dX1_best_33 : decode cX1_best 33 = .ok (.iconst 0, 1) := by decide +kernel
theorem dX1_best_34 : decode cX1_best 34 = .ok (.istore 4, 2) := by decide +kernel
theorem dX1_best_36 : decode cX1_best 36 = .ok (.aload_n 0, 1) := by decide +kernel
theorem dX1_best_37 : decode cX1_best 37 = .ok (.iload 4, 2) := by decide +kernel
theorem dX1_best_39 : decode cX1_best 39 = .ok (.invokevirtual 67, 3) := by decide +kernel
theorem dX1_best_42 : decode cX1_best 42 = .ok (.ifCond .eq 58, 3) := by decide +kernel
theorem dX1_best_45 : decode cX1_best 45 = .ok (.aload_n 0, 1) := by decide +kernel
theorem dX1_best_46 : decode cX1_best 46 = .ok (.getfield 44, 3) := by decide +kernel
theorem dX1_best_49 : decode cX1_best 49 = .ok (.ifCond .ne 51, 3) := by decide +kernel
theorem dX1_best_52 : decode cX1_best 52 = .ok (.iload 4, 2) := by decide +kernel
theorem dX1_best_54 : decode cX1_best 54 = .ok (.invokestatic 59, 3) := by decide +kernel
theorem dX1_best_57 : decode cX1_best 57 = .ok (.iload_n 2, 1) := by decide +kernel
theorem dX1_best_58 : decode cX1_best 58 = .ok (.if_icmp .gt 34, 3) := by decide +kernel
theorem dX1_best_61 : decode cX1_best 61 = .ok (.aload_n 0, 1) := by decide +kernel
theorem dX1_best_62 : decode cX1_best 62 = .ok (.getfield 29, 3) := by decide +kernel
theorem dX1_best_65 : decode cX1_best 65 = .ok (.bipush 64, 2) := by decide +kernel
theorem dX1_best_67 : decode cX1_best 67 = .ok (.iload_n 1, 1) := by decide +kernel
theorem dX1_best_68 : decode cX1_best 68 = .ok (.imul, 1) := by decide +kernel
theorem dX1_best_69 : decode cX1_best 69 = .ok (.iload 4, 2) := by decide +kernel
theorem dX1_best_71 : decode cX1_best 71 = .ok (.iadd, 1) := by decide +kernel
theorem dX1_best_72 : decode cX1_best 72 = .ok (.iaload, 1) := by decide +kernel
theorem dX1_best_73 : decode cX1_best 73 = .ok (.iload_n 3, 1) := by decide +kernel
theorem dX1_best_74 : decode cX1_best 74 = .ok (.if_icmp .le 18, 3) := by decide +kernel
theorem dX1_best_77 : decode cX1_best 77 = .ok (.aload_n 0, 1) := by decide +kernel
theorem dX1_best_78 : decode cX1_best 78 = .ok (.getfield 29, 3) := by decide +kernel
theorem dX1_best_81 : decode cX1_best 81 = .ok (.bipush 64, 2) := by decide +kernel
theorem dX1_best_83 : decode cX1_best 83 = .ok (.iload_n 1, 1) := by decide +kernel
theorem dX1_best_84 : decode cX1_best 84 = .ok (.imul, 1) := by decide +kernel
theorem dX1_best_85 : decode cX1_best 85 = .ok (.iload 4, 2) := by decide +kernel
theorem dX1_best_87 : decode cX1_best 87 = .ok (.iadd, 1) := by decide +kernel
theorem dX1_best_88 : decode cX1_best 88 = .ok (.iaload, 1) := by decide +kernel
theorem dX1_best_89 : decode cX1_best 89 = .ok (.goto 4, 3) := by decide +kernel
theorem dX1_best_92 : decode cX1_best 92 = .ok (.iload_n 3, 1) := by decide +kernel
theorem dX1_best_93 : decode cX1_best 93 = .ok (.istore_n 3, 1) := by decide +kernel
theorem dX1_best_94 : decode cX1_best 94 = .ok (.iinc 4 1, 3) := by decide +kernel
theorem dX1_best_97 : decode cX1_best 97 = .ok (.goto (-61), 3) := by decide +kernel
theorem dX1_best_100 : decode cX1_best 100 = .ok (.iload_n 3, 1) := by decide +kernel
theorem dX1_best_101 : decode cX1_best 101 = .ok (.ireturn, 1) := by decide +kernel
set_option maxRecDepth 20000 in
theorem ggX1_isFair_X1_rank : GoodIn wsX1_isFair wsX1_rank := goodIn_r _ [5, 6, 7, 8, 9, 4, 10, 11, 12, 13, 14, 15, 19, 20, 21, 22, 23, 24, 25, 26, 27, 28, 29] (by decide +kernel) (by decide +kernel)
set_option maxRecDepth 20000 in
theorem gX1_isFair_X1_rank : GoodIn wsX1_isFair (wsV RX1 79 RX1 yX1_rank wsX1_rank) := goodIn_app (goodIn_of _ (by decide +kernel)) ggX1_isFair_X1_rank
set_option maxRecDepth 20000 in
theorem ggX1_isFair_X1_many : GoodIn wsX1_isFair wsX1_many := goodIn_r _ [18] (by decide +kernel) (by decide +kernel)
set_option maxRecDepth 20000 in
theorem gX1_isFair_X1_many : GoodIn wsX1_isFair (va_wsS RX1 59 yX1_many wsX1_many) := goodIn_app (goodIn_of _ (by decide +kernel)) ggX1_isFair_X1_many
theorem dX1_isFair_0 : decode cX1_isFair 0 = .ok (.aload_n 0, 1) := by decide +kernel
theorem dX1_isFair_1 : decode cX1_isFair 1 = .ok (.iload_n 1, 1) := by decide +kernel
theorem dX1_isFair_2 : decode cX1_isFair 2 = .ok (.iload_n 2, 1) := by decide +kernel
theorem dX1_isFair_3 : decode cX1_isFair 3 = .ok (.invokevirtual 79, 3) := by decide +kernel
theorem dX1_isFair_6 : decode cX1_isFair 6 = .ok (.iload_n 2, 1) := by decide +kernel
theorem dX1_isFair_7 : decode cX1_isFair 7 = .ok (.invokestatic 59, 3) := by decide +kernel
theorem dX1_isFair_10 : decode cX1_isFair 10 = .ok (.if_icmp .ne 7, 3) := by decide +kernel
theorem dX1_isFair_13 : decode cX1_isFair 13 = .ok (.iconst 1, 1) := by decide +kernel
theorem dX1_isFair_14 : decode cX1_isFair 14 = .ok (.goto 4, 3) := by decide +kernel
theorem dX1_isFair_17 : decode cX1_isFair 17 = .ok (.iconst 0, 1) := by decide +kernel
theorem dX1_isFair_18 : decode cX1_isFair 18 = .ok (.ireturn, 1) := by decide +kernel
set_option maxRecDepth 20000 in
theorem ggX1_commonSize_X1_isSet : GoodIn wsX1_commonSize wsX1_isSet := goodIn_r _ [5, 6, 7, 8, 4, 9, 30, 31, 32, 33, 34, 35, 36, 37, 38, 39, 40] (by decide +kernel) (by decide +kernel)
set_option maxRecDepth 20000 in
theorem gX1_commonSize_X1_isSet : GoodIn wsX1_commonSize (wsV RX1 67 RX1 yX1_isSet wsX1_isSet) := goodIn_app (goodIn_of _ (by decide +kernel)) ggX1_commonSize_X1_isSet
set_option maxRecDepth 20000 in
theorem ggX1_commonSize_X1_isFair : GoodIn wsX1_commonSize wsX1_isFair := goodIn_r _ [13, 14, 15, 16, 4, 17, 18, 19, 20, 21, 22, 6, 23, 24, 25, 26, 27, 28, 29, 30, 31, 32, 33, 34, 35, 36, 37, 38, 39, 40] (by decide +kernel) (by decide +kernel)
set_option maxRecDepth 20000 in
theorem gX1_commonSize_X1_isFair : GoodIn wsX1_commonSize (wsV RX1 99 RX1 yX1_isFair wsX1_isFair) := goodIn_app (goodIn_of _ (by decide +kernel)) ggX1_commonSize_X1_isFair
set_option maxRecDepth 20000 in
theorem ggX1_commonSize_X1_many : GoodIn wsX1_commonSize wsX1_many := goodIn_r _ [29] (by decide +kernel) (by decide +kernel)
set_option maxRecDepth 20000 in
theorem gX1_commonSize_X1_many : GoodIn wsX1_commonSize (va_wsS RX1 59 yX1_many wsX1_many) := goodIn_app (goodIn_of _ (by decide +kernel)) ggX1_commonSize_X1_many
theorem dX1_commonSize_0 : decode cX1_commonSize 0 = .ok (.iconst 0, 1) := by decide +kernel
theorem dX1_commonSize_1 : decode cX1_commonSize 1 = .ok (.istore_n 1, 1) := by decide +kernel
theorem dX1_commonSize_2 : decode cX1_commonSize 2 = .ok (.iconst 0, 1) := by decide +kernel
theorem dX1_commonSize_3 : decode cX1_commonSize 3 = .ok (.istore_n 2, 1) := by decide +kernel
theorem dX1_commonSize_4 : decode cX1_commonSize 4 = .ok (.aload_n 0, 1) := by decide +kernel
theorem dX1_commonSize_5 : decode cX1_commonSize 5 = .ok (.iload_n 2, 1) := by decide +kernel
theorem dX1_commonSize_6 : decode cX1_commonSize 6 = .ok (.invokevirtual 67, 3) := by decide +kernel
theorem dX1_commonSize_9 : decode cX1_commonSize 9 = .ok (.ifCond .eq 44, 3) := by decide +kernel
theorem dX1_commonSize_12 : decode cX1_commonSize 12 = .ok (.aload_n 0, 1) := by decide +kernel
theorem dX1_commonSize_13 : decode cX1_commonSize 13 = .ok (.iconst 0, 1) := by decide +kernel
theorem dX1_commonSize_14 : decode cX1_commonSize 14 = .ok (.iload_n 2, 1) := by decide +kernel
theorem dX1_commonSize_15 : decode cX1_commonSize 15 = .ok (.invokevirtual 99, 3) := by decide +kernel
theorem dX1_commonSize_18 : decode cX1_commonSize 18 = .ok (.ifCond .eq 27, 3) := by decide +kernel
theorem dX1_commonSize_21 : decode cX1_commonSize 21 = .ok (.aload_n 0, 1) := by decide +kernel
theorem dX1_commonSize_22 : decode cX1_commonSize 22 = .ok (.iconst 1, 1) := by decide +kernel
theorem dX1_commonSize_23 : decode cX1_commonSize 23 = .ok (.iload_n 2, 1) := by decide +kernel
theorem dX1_commonSize_24 : decode cX1_commonSize 24 = .ok (.invokevirtual 99, 3) := by decide +kernel
theorem dX1_commonSize_27 : decode cX1_commonSize 27 = .ok (.ifCond .eq 18, 3) := by decide +kernel
theorem dX1_commonSize_30 : decode cX1_commonSize 30 = .ok (.iload_n 2, 1) := by decide +kernel
theorem dX1_commonSize_31 : decode cX1_commonSize 31 = .ok (.invokestatic 59, 3) := by decide +kernel
theorem dX1_commonSize_34 : decode cX1_commonSize 34 = .ok (.iload_n 1, 1) := by decide +kernel
theorem dX1_commonSize_35 : decode cX1_commonSize 35 = .ok (.if_icmp .le 10, 3) := by decide +kernel
theorem dX1_commonSize_38 : decode cX1_commonSize 38 = .ok (.iload_n 2, 1) := by decide +kernel
theorem dX1_commonSize_39 : decode cX1_commonSize 39 = .ok (.invokestatic 59, 3) := by decide +kernel
theorem dX1_commonSize_42 : decode cX1_commonSize 42 = .ok (.goto 4, 3) := by decide +kernel
theorem dX1_commonSize_45 : decode cX1_commonSize 45 = .ok (.iload_n 1, 1) := by decide +kernel
theorem dX1_commonSize_46 : decode cX1_commonSize 46 = .ok (.istore_n 1, 1) := by decide +kernel
theorem dX1_commonSize_47 : decode cX1_commonSize 47 = .ok (.iinc 2 1, 3) := by decide +kernel
theorem dX1_commonSize_50 : decode cX1_commonSize 50 = .ok (.goto (-46), 3) := by decide +kernel
theorem dX1_commonSize_53 : decode cX1_commonSize 53 = .ok (.iload_n 1, 1) := by decide +kernel
theorem dX1_commonSize_54 : decode cX1_commonSize 54 = .ok (.ireturn, 1) := by decide +kernel
set_option maxRecDepth 20000 in
theorem ggX1_common_X1_commonSize : GoodIn wsX1_common wsX1_commonSize := goodIn_r _ [6, 7, 8, 9, 5, 10, 11, 12, 13, 14, 15, 16, 17, 18, 19, 20, 21, 22, 23, 24, 25, 26, 27, 28, 29, 30, 31, 32, 33, 34, 35, 36, 37, 38, 39, 40, 41, 42, 43, 44, 45] (by decide +kernel) (by decide +kernel)
set_option maxRecDepth 20000 in
theorem gX1_common_X1_commonSize : GoodIn wsX1_common (wsV RX1 102 RX1 yX1_commonSize wsX1_commonSize) := goodIn_app (goodIn_of _ (by decide +kernel)) ggX1_common_X1_commonSize
theorem dX1_common_0 : decode cX1_common 0 = .ok (.aload_n 0, 1) := by decide +kernel
theorem dX1_common_1 : decode cX1_common 1 = .ok (.iconst 0, 1) := by decide +kernel
theorem dX1_common_2 : decode cX1_common 2 = .ok (.putfield 44, 3) := by decide +kernel
theorem dX1_common_5 : decode cX1_common 5 = .ok (.aload_n 0, 1) := by decide +kernel
theorem dX1_common_6 : decode cX1_common 6 = .ok (.invokevirtual 102, 3) := by decide +kernel
theorem dX1_common_9 : decode cX1_common 9 = .ok (.ireturn, 1) := by decide +kernel
set_option maxRecDepth 20000 in
theorem ggX1_commonAnew_X1_commonSize : GoodIn wsX1_commonAnew wsX1_commonSize := goodIn_r _ [6, 7, 8, 9, 5, 10, 11, 12, 13, 14, 15, 16, 17, 18, 19, 20, 21, 22, 23, 24, 25, 26, 27, 28, 29, 30, 31, 32, 33, 34, 35, 36, 37, 38, 39, 40, 41, 42, 43, 44, 45] (by decide +kernel) (by decide +kernel)
set_option maxRecDepth 20000 in
theorem gX1_commonAnew_X1_commonSize : GoodIn wsX1_commonAnew (wsV RX1 102 RX1 yX1_commonSize wsX1_commonSize) := goodIn_app (goodIn_of _ (by decide +kernel)) ggX1_commonAnew_X1_commonSize
theorem dX1_commonAnew_0 : decode cX1_commonAnew 0 = .ok (.aload_n 0, 1) := by decide +kernel
theorem dX1_commonAnew_1 : decode cX1_commonAnew 1 = .ok (.iconst 0, 1) := by decide +kernel
theorem dX1_commonAnew_2 : decode cX1_commonAnew 2 = .ok (.putfield 44, 3) := by decide +kernel
theorem dX1_commonAnew_5 : decode cX1_commonAnew 5 = .ok (.aload_n 0, 1) := by decide +kernel
theorem dX1_commonAnew_6 : decode cX1_commonAnew 6 = .ok (.invokevirtual 102, 3) := by decide +kernel
theorem dX1_commonAnew_9 : decode cX1_commonAnew 9 = .ok (.ireturn, 1) := by decide +kernel
set_option maxRecDepth 20000 in
theorem ggX1_shares_X1_isFunction : GoodIn wsX1_shares wsX1_isFunction := goodIn_r _ [8, 9, 10, 11, 7, 12, 20, 21, 22, 23, 24, 25, 26, 27, 28, 29, 30] (by decide +kernel) (by decide +kernel)
set_option maxRecDepth 20000 in
theorem gX1_shares_X1_isFunction : GoodIn wsX1_shares (wsV RX1 83 RX1 yX1_isFunction wsX1_isFunction) := goodIn_app (goodIn_of _ (by decide +kernel)) ggX1_shares_X1_isFunction
set_option maxRecDepth 20000 in
theorem ggX1_shares_X1_isElement : GoodIn wsX1_shares wsX1_isElement := goodIn_r _ [16, 2, 10, 11, 7, 12, 20, 21, 22, 23, 24, 25, 26, 27, 28, 29, 30] (by decide +kernel) (by decide +kernel)
set_option maxRecDepth 20000 in
theorem gX1_shares_X1_isElement : GoodIn wsX1_shares (wsV RX1 51 RX1 yX1_isElement wsX1_isElement) := goodIn_app (goodIn_of _ (by decide +kernel)) ggX1_shares_X1_isElement
set_option maxRecDepth 20000 in
theorem ggX1_shares_X1_has : GoodIn wsX1_shares wsX1_has := goodIn_r _ [19] (by decide +kernel) (by decide +kernel)
set_option maxRecDepth 20000 in
theorem gX1_shares_X1_has : GoodIn wsX1_shares (va_wsS RX1 55 yX1_has wsX1_has) := goodIn_app (goodIn_of _ (by decide +kernel)) ggX1_shares_X1_has
theorem dX1_shares_0 : decode cX1_shares 0 = .ok (.aload_n 0, 1) := by decide +kernel
theorem dX1_shares_1 : decode cX1_shares 1 = .ok (.aload_n 0, 1) := by decide +kernel
theorem dX1_shares_2 : decode cX1_shares 2 = .ok (.iload_n 1, 1) := by decide +kernel
theorem dX1_shares_3 : decode cX1_shares 3 = .ok (.invokevirtual 83, 3) := by decide +kernel
theorem dX1_shares_6 : decode cX1_shares 6 = .ok (.ifCond .eq 15, 3) := by decide +kernel
theorem dX1_shares_9 : decode cX1_shares 9 = .ok (.aload_n 0, 1) := by decide +kernel
theorem dX1_shares_10 : decode cX1_shares 10 = .ok (.iload_n 2, 1) := by decide +kernel
theorem dX1_shares_11 : decode cX1_shares 11 = .ok (.invokevirtual 51, 3) := by decide +kernel
theorem dX1_shares_14 : decode cX1_shares 14 = .ok (.ifCond .eq 7, 3) := by decide +kernel
theorem dX1_shares_17 : decode cX1_shares 17 = .ok (.iconst 0, 1) := by decide +kernel
theorem dX1_shares_18 : decode cX1_shares 18 = .ok (.goto 4, 3) := by decide +kernel
theorem dX1_shares_21 : decode cX1_shares 21 = .ok (.iconst 1, 1) := by decide +kernel
theorem dX1_shares_22 : decode cX1_shares 22 = .ok (.putfield 44, 3) := by decide +kernel
theorem dX1_shares_25 : decode cX1_shares 25 = .ok (.aload_n 0, 1) := by decide +kernel
theorem dX1_shares_26 : decode cX1_shares 26 = .ok (.getfield 44, 3) := by decide +kernel
theorem dX1_shares_29 : decode cX1_shares 29 = .ok (.ifCond .le 5, 3) := by decide +kernel
theorem dX1_shares_32 : decode cX1_shares 32 = .ok (.iconst 0, 1) := by decide +kernel
theorem dX1_shares_33 : decode cX1_shares 33 = .ok (.ireturn, 1) := by decide +kernel
theorem dX1_shares_34 : decode cX1_shares 34 = .ok (.iconst 1, 1) := by decide +kernel
theorem dX1_shares_35 : decode cX1_shares 35 = .ok (.istore_n 3, 1) := by decide +kernel
theorem dX1_shares_36 : decode cX1_shares 36 = .ok (.iconst 2, 1) := by decide +kernel
theorem dX1_shares_37 : decode cX1_shares 37 = .ok (.istore 4, 2) := by decide +kernel
theorem dX1_shares_39 : decode cX1_shares 39 = .ok (.iload 4, 2) := by decide +kernel
theorem dX1_shares_41 : decode cX1_shares 41 = .ok (.aload_n 0, 1) := by decide +kernel
theorem dX1_shares_42 : decode cX1_shares 42 = .ok (.getfield 7, 3) := by decide +kernel
theorem dX1_shares_45 : decode cX1_shares 45 = .ok (.if_icmp .gt 14, 3) := by decide +kernel
theorem dX1_shares_48 : decode cX1_shares 48 = .ok (.iload_n 3, 1) := by decide +kernel
theorem dX1_shares_49 : decode cX1_shares 49 = .ok (.iload 4, 2) := by decide +kernel
theorem dX1_shares_51 : decode cX1_shares 51 = .ok (.imul, 1) := by decide +kernel
theorem dX1_shares_52 : decode cX1_shares 52 = .ok (.istore_n 3, 1) := by decide +kernel
theorem dX1_shares_53 : decode cX1_shares 53 = .ok (.iinc 4 1, 3) := by decide +kernel
theorem dX1_shares_56 : decode cX1_shares 56 = .ok (.goto (-17), 3) := by decide +kernel
theorem dX1_shares_59 : decode cX1_shares 59 = .ok (.iconst 0, 1) := by decide +kernel
theorem dX1_shares_60 : decode cX1_shares 60 = .ok (.istore 4, 2) := by decide +kernel
theorem dX1_shares_62 : decode cX1_shares 62 = .ok (.iconst 0, 1) := by decide +kernel
theorem dX1_shares_63 : decode cX1_shares 63 = .ok (.istore 5, 2) := by decide +kernel
theorem dX1_shares_65 : decode cX1_shares 65 = .ok (.iload 5, 2) := by decide +kernel
theorem dX1_shares_67 : decode cX1_shares 67 = .ok (.iload_n 3, 1) := by decide +kernel
theorem dX1_shares_68 : decode cX1_shares 68 = .ok (.if_icmp .ge 176, 3) := by decide +kernel
theorem dX1_shares_71 : decode cX1_shares 71 = .ok (.iload 5, 2) := by decide +kernel
theorem dX1_shares_73 : decode cX1_shares 73 = .ok (.istore 6, 2) := by decide +kernel
theorem dX1_shares_75 : decode cX1_shares 75 = .ok (.iconst 0, 1) := by decide +kernel
theorem dX1_shares_76 : decode cX1_shares 76 = .ok (.istore 7, 2) := by decide +kernel
theorem dX1_shares_78 : decode cX1_shares 78 = .ok (.iconst 0, 1) := by decide +kernel
theorem dX1_shares_79 : decode cX1_shares 79 = .ok (.istore 8, 2) := by decide +kernel
theorem dX1_shares_81 : decode cX1_shares 81 = .ok (.iconst 0, 1) := by decide +kernel
theorem dX1_shares_82 : decode cX1_shares 82 = .ok (.istore 9, 2) := by decide +kernel
theorem dX1_shares_84 : decode cX1_shares 84 = .ok (.iload 9, 2) := by decide +kernel
theorem dX1_shares_86 : decode cX1_shares 86 = .ok (.aload_n 0, 1) := by decide +kernel
theorem dX1_shares_87 : decode cX1_shares 87 = .ok (.getfield 7, 3) := by decide +kernel
theorem dX1_shares_90 : decode cX1_shares 90 = .ok (.if_icmp .ge 148, 3) := by decide +kernel
theorem dX1_shares_93 : decode cX1_shares 93 = .ok (.iload 8, 2) := by decide +kernel
theorem dX1_shares_95 : decode cX1_shares 95 = .ok (.ifCond .ne 143, 3) := by decide +kernel
theorem dX1_shares_98 : decode cX1_shares 98 = .ok (.iload 6, 2) := by decide +kernel
theorem dX1_shares_100 : decode cX1_shares 100 = .ok (.aload_n 0, 1) := by decide +kernel
theorem dX1_shares_101 : decode cX1_shares 101 = .ok (.getfield 7, 3) := by decide +kernel
theorem dX1_shares_104 : decode cX1_shares 104 = .ok (.iload 9, 2) := by decide +kernel
theorem dX1_shares_106 : decode cX1_shares 106 = .ok (.isub, 1) := by decide +kernel
theorem dX1_shares_107 : decode cX1_shares 107 = .ok (.irem, 1) := by decide +kernel
theorem dX1_shares_108 : decode cX1_shares 108 = .ok (.istore 10, 2) := by decide +kernel
theorem dX1_shares_110 : decode cX1_shares 110 = .ok (.iload 6, 2) := by decide +kernel
theorem dX1_shares_112 : decode cX1_shares 112 = .ok (.aload_n 0, 1) := by decide +kernel
theorem dX1_shares_113 : decode cX1_shares 113 = .ok (.getfield 7, 3) := by decide +kernel
theorem dX1_shares_116 : decode cX1_shares 116 = .ok (.iload 9, 2) := by decide +kernel
theorem dX1_shares_118 : decode cX1_shares 118 = .ok (.isub, 1) := by decide +kernel
theorem dX1_shares_119 : decode cX1_shares 119 = .ok (.idiv, 1) := by decide +kernel
theorem dX1_shares_120 : decode cX1_shares 120 = .ok (.istore 6, 2) := by decide +kernel
theorem dX1_shares_122 : decode cX1_shares 122 = .ok (.iconst 0, 1) := by decide +kernel
theorem dX1_shares_123 : decode cX1_shares 123 = .ok (.istore 11, 2) := by decide +kernel
theorem dX1_shares_125 : decode cX1_shares 125 = .ok (.iload 7, 2) := by decide +kernel
theorem dX1_shares_127 : decode cX1_shares 127 = .ok (.iload 11, 2) := by decide +kernel
theorem dX1_shares_129 : decode cX1_shares 129 = .ok (.invokestatic 55, 3) := by decide +kernel
theorem dX1_shares_132 : decode cX1_shares 132 = .ok (.ifCond .ne 8, 3) := by decide +kernel
theorem dX1_shares_135 : decode cX1_shares 135 = .ok (.iload 10, 2) := by decide +kernel
theorem dX1_shares_137 : decode cX1_shares 137 = .ok (.ifCond .le 29, 3) := by decide +kernel
theorem dX1_shares_140 : decode cX1_shares 140 = .ok (.iload 10, 2) := by decide +kernel
theorem dX1_shares_142 : decode cX1_shares 142 = .ok (.iload 7, 2) := by decide +kernel
theorem dX1_shares_144 : decode cX1_shares 144 = .ok (.iload 11, 2) := by decide +kernel
theorem dX1_shares_146 : decode cX1_shares 146 = .ok (.invokestatic 55, 3) := by decide +kernel
theorem dX1_shares_149 : decode cX1_shares 149 = .ok (.ifCond .eq 7, 3) := by decide +kernel
theorem dX1_shares_152 : decode cX1_shares 152 = .ok (.iconst 0, 1) := by decide +kernel
theorem dX1_shares_153 : decode cX1_shares 153 = .ok (.goto 4, 3) := by decide +kernel
theorem dX1_shares_156 : decode cX1_shares 156 = .ok (.iconst 1, 1) := by decide +kernel
theorem dX1_shares_157 : decode cX1_shares 157 = .ok (.isub, 1) := by decide +kernel
theorem dX1_shares_158 : decode cX1_shares 158 = .ok (.istore 10, 2) := by decide +kernel
theorem dX1_shares_160 : decode cX1_shares 160 = .ok (.iinc 11 1, 3) := by decide +kernel
theorem dX1_shares_163 : decode cX1_shares 163 = .ok (.goto (-38), 3) := by decide +kernel
theorem dX1_shares_166 : decode cX1_shares 166 = .ok (.iload 11, 2) := by decide +kernel
theorem dX1_shares_168 : decode cX1_shares 168 = .ok (.iload_n 2, 1) := by decide +kernel
theorem dX1_shares_169 : decode cX1_shares 169 = .ok (.if_icmp .ne 7, 3) := by decide +kernel
theorem dX1_shares_172 : decode cX1_shares 172 = .ok (.iconst 1, 1) := by decide +kernel
theorem dX1_shares_173 : decode cX1_shares 173 = .ok (.goto 4, 3) := by decide +kernel
theorem dX1_shares_176 : decode cX1_shares 176 = .ok (.iconst 0, 1) := by decide +kernel
theorem dX1_shares_177 : decode cX1_shares 177 = .ok (.istore 8, 2) := by decide +kernel
theorem dX1_shares_179 : decode cX1_shares 179 = .ok (.iload 4, 2) := by decide +kernel
theorem dX1_shares_181 : decode cX1_shares 181 = .ok (.iload 8, 2) := by decide +kernel
theorem dX1_shares_183 : decode cX1_shares 183 = .ok (.ifCond .eq 36, 3) := by decide +kernel
theorem dX1_shares_186 : decode cX1_shares 186 = .ok (.aload_n 0, 1) := by decide +kernel
theorem dX1_shares_187 : decode cX1_shares 187 = .ok (.getfield 29, 3) := by decide +kernel
theorem dX1_shares_190 : decode cX1_shares 190 = .ok (.bipush 64, 2) := by decide +kernel
theorem dX1_shares_192 : decode cX1_shares 192 = .ok (.iload_n 1, 1) := by decide +kernel
theorem dX1_shares_193 : decode cX1_shares 193 = .ok (.imul, 1) := by decide +kernel
theorem dX1_shares_194 : decode cX1_shares 194 = .ok (.iload 7, 2) := by decide +kernel
theorem dX1_shares_196 : decode cX1_shares 196 = .ok (.iconst 1, 1) := by decide +kernel
theorem dX1_shares_197 : decode cX1_shares 197 = .ok (.iload 11, 2) := by decide +kernel
theorem dX1_shares_199 : decode cX1_shares 199 = .ok (.ishl, 1) := by decide +kernel
theorem dX1_shares_200 : decode cX1_shares 200 = .ok (.ior, 1) := by decide +kernel
theorem dX1_shares_201 : decode cX1_shares 201 = .ok (.iadd, 1) := by decide +kernel
theorem dX1_shares_202 : decode cX1_shares 202 = .ok (.iaload, 1) := by decide +kernel
theorem dX1_shares_203 : decode cX1_shares 203 = .ok (.aload_n 0, 1) := by decide +kernel
theorem dX1_shares_204 : decode cX1_shares 204 = .ok (.getfield 29, 3) := by decide +kernel
theorem dX1_shares_207 : decode cX1_shares 207 = .ok (.bipush 64, 2) := by decide +kernel
theorem dX1_shares_209 : decode cX1_shares 209 = .ok (.iload_n 1, 1) := by decide +kernel
theorem dX1_shares_210 : decode cX1_shares 210 = .ok (.imul, 1) := by decide +kernel
theorem dX1_shares_211 : decode cX1_shares 211 = .ok (.iload 7, 2) := by decide +kernel
theorem dX1_shares_213 : decode cX1_shares 213 = .ok (.iadd, 1) := by decide +kernel
theorem dX1_shares_214 : decode cX1_shares 214 = .ok (.iaload, 1) := by decide +kernel
theorem dX1_shares_215 : decode cX1_shares 215 = .ok (.isub, 1) := by decide +kernel
theorem dX1_shares_216 : decode cX1_shares 216 = .ok (.goto 4, 3) := by decide +kernel
theorem dX1_shares_219 : decode cX1_shares 219 = .ok (.iconst 0, 1) := by decide +kernel
theorem dX1_shares_220 : decode cX1_shares 220 = .ok (.iadd, 1) := by decide +kernel
theorem dX1_shares_221 : decode cX1_shares 221 = .ok (.istore 4, 2) := by decide +kernel
theorem dX1_shares_223 : decode cX1_shares 223 = .ok (.iload 7, 2) := by decide +kernel
theorem dX1_shares_225 : decode cX1_shares 225 = .ok (.iconst 1, 1) := by decide +kernel
theorem dX1_shares_226 : decode cX1_shares 226 = .ok (.iload 11, 2) := by decide +kernel
theorem dX1_shares_228 : decode cX1_shares 228 = .ok (.ishl, 1) := by decide +kernel
theorem dX1_shares_229 : decode cX1_shares 229 = .ok (.ior, 1) := by decide +kernel
theorem dX1_shares_230 : decode cX1_shares 230 = .ok (.istore 7, 2) := by decide +kernel
theorem dX1_shares_232 : decode cX1_shares 232 = .ok (.iinc 9 1, 3) := by decide +kernel
theorem dX1_shares_235 : decode cX1_shares 235 = .ok (.goto (-151), 3) := by decide +kernel
theorem dX1_shares_238 : decode cX1_shares 238 = .ok (.iinc 5 1, 3) := by decide +kernel
theorem dX1_shares_241 : decode cX1_shares 241 = .ok (.goto (-176), 3) := by decide +kernel
theorem dX1_shares_244 : decode cX1_shares 244 = .ok (.iload 4, 2) := by decide +kernel
theorem dX1_shares_246 : decode cX1_shares 246 = .ok (.ireturn, 1) := by decide +kernel
set_option maxRecDepth 20000 in
theorem ggX1_share_X1_shares : GoodIn wsX1_share wsX1_shares := goodIn_r _ [5, 6, 7, 8, 9, 10, 11, 4, 12, 13, 14, 15, 16, 17, 18, 19, 20, 21, 22, 23, 24, 25, 26, 27, 28, 29, 30, 31, 32, 33, 34] (by decide +kernel) (by decide +kernel)
set_option maxRecDepth 20000 in
theorem gX1_share_X1_shares : GoodIn wsX1_share (wsV RX1 106 RX1 yX1_shares wsX1_shares) := goodIn_app (goodIn_of _ (by decide +kernel)) ggX1_share_X1_shares
theorem dX1_share_0 : decode cX1_share 0 = .ok (.aload_n 0, 1) := by decide +kernel
theorem dX1_share_1 : decode cX1_share 1 = .ok (.iload_n 1, 1) := by decide +kernel
theorem dX1_share_2 : decode cX1_share 2 = .ok (.iload_n 2, 1) := by decide +kernel
theorem dX1_share_3 : decode cX1_share 3 = .ok (.invokevirtual 106, 3) := by decide +kernel
theorem dX1_share_6 : decode cX1_share 6 = .ok (.ireturn, 1) := by decide +kernel
set_option maxRecDepth 20000 in
theorem ggX1_shareAnew_X1_shares : GoodIn wsX1_shareAnew wsX1_shares := goodIn_r _ [5, 6, 7, 8, 9, 10, 11, 4, 12, 13, 14, 15, 16, 17, 18, 19, 20, 21, 22, 23, 24, 25, 26, 27, 28, 29, 30, 31, 32, 33, 34] (by decide +kernel) (by decide +kernel)
set_option maxRecDepth 20000 in
theorem gX1_shareAnew_X1_shares : GoodIn wsX1_shareAnew (wsV RX1 106 RX1 yX1_shares wsX1_shares) := goodIn_app (goodIn_of _ (by decide +kernel)) ggX1_shareAnew_X1_shares
theorem dX1_shareAnew_0 : decode cX1_shareAnew 0 = .ok (.aload_n 0, 1) := by decide +kernel
theorem dX1_shareAnew_1 : decode cX1_shareAnew 1 = .ok (.iload_n 1, 1) := by decide +kernel
theorem dX1_shareAnew_2 : decode cX1_shareAnew 2 = .ok (.iload_n 2, 1) := by decide +kernel
theorem dX1_shareAnew_3 : decode cX1_shareAnew 3 = .ok (.invokevirtual 106, 3) := by decide +kernel
theorem dX1_shareAnew_6 : decode cX1_shareAnew 6 = .ok (.ireturn, 1) := by decide +kernel

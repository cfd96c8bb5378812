/-! The guild by hand: the states. -/
def GS0 : St := S0X
theorem iv_GS0 : Iv GS0 4 0 0 := by
  obtain ⟨_, _, _, h⟩ := fresh
  exact h
def GS1 : St := cvS GS0 true 0 0
theorem iv_GS1 : Iv GS1 4 0 0 := (s_cover (sm_rfl GS0) iv_GS0 (j := 0) (k := 0) (by decide) (by decide) true).choose_spec.2.2
def GS2 : St := cvS GS1 true 0 1
theorem iv_GS2 : Iv GS2 4 0 0 := (s_cover (sm_rfl GS1) iv_GS1 (j := 0) (k := 1) (by decide) (by decide) true).choose_spec.2.2
def GS3 : St := cvS GS2 true 1 1
theorem iv_GS3 : Iv GS3 4 0 0 := (s_cover (sm_rfl GS2) iv_GS2 (j := 1) (k := 1) (by decide) (by decide) true).choose_spec.2.2
def GS4 : St := cvS GS3 true 1 2
theorem iv_GS4 : Iv GS4 4 0 0 := (s_cover (sm_rfl GS3) iv_GS3 (j := 1) (k := 2) (by decide) (by decide) true).choose_spec.2.2
def GS5 : St := cvS GS4 true 2 2
theorem iv_GS5 : Iv GS5 4 0 0 := (s_cover (sm_rfl GS4) iv_GS4 (j := 2) (k := 2) (by decide) (by decide) true).choose_spec.2.2
def GS6 : St := cvS GS5 true 3 9
theorem iv_GS6 : Iv GS6 4 0 0 := (s_cover (sm_rfl GS5) iv_GS5 (j := 3) (k := 9) (by decide) (by decide) true).choose_spec.2.2
def GS7 : St := cvS GS6 true 3 8
theorem iv_GS7 : Iv GS7 4 0 0 := (s_cover (sm_rfl GS6) iv_GS6 (j := 3) (k := 8) (by decide) (by decide) true).choose_spec.2.2
def GS8 : St := cvS GS7 false 3 8
theorem iv_GS8 : Iv GS8 4 0 0 := (s_cover (sm_rfl GS7) iv_GS7 (j := 3) (k := 8) (by decide) (by decide) false).choose_spec.2.2
def GS9 : St := cvS GS8 true 3 9
theorem iv_GS9 : Iv GS9 4 0 0 := (s_cover (sm_rfl GS8) iv_GS8 (j := 3) (k := 9) (by decide) (by decide) true).choose_spec.2.2
def GS10 : St := nS GS9 4 0 (tb [0, 2, 2, 3, 1, 3, 2, 3, 1, 3, 3, 4, 2, 4, 3, 4])
theorem tb_GS10 : nS GS9 4 0 (tv GS9 4 0) = GS10 := tb_eq (by decide +kernel)
theorem iv_GS10 : Iv GS10 4 1 0 := by
  rw [← tb_GS10]
  exact (s_make (sm_rfl GS9) iv_GS9 (j := 0) (by decide) (by decide)).choose_spec.2.2
set_option maxRecDepth 100000 in
theorem lw_GS10_0 : lwB GS10 4 0 = true := by decide +kernel
def GS11 : St := cvS GS10 false 0 0
theorem iv_GS11 : Iv GS11 4 1 0 := (s_cover (sm_rfl GS10) iv_GS10 (j := 0) (k := 0) (by decide) (by decide) false).choose_spec.2.2
def GS12 : St := egS GS11 0 1 4
theorem iv_GS12 : Iv GS12 4 1 0 := (s_edge (sm_rfl GS11) iv_GS11 (a := 0) (b := 1) (w := 4) (by decide) (by decide) (by decide) (by decide)).choose_spec.2.2
def GS13 : St := egS GS12 1 0 5
theorem iv_GS13 : Iv GS13 4 1 0 := (s_edge (sm_rfl GS12) iv_GS12 (a := 1) (b := 0) (w := 5) (by decide) (by decide) (by decide) (by decide)).choose_spec.2.2
def GS14 : St := egS GS13 1 2 3
theorem iv_GS14 : Iv GS14 4 1 0 := (s_edge (sm_rfl GS13) iv_GS13 (a := 1) (b := 2) (w := 3) (by decide) (by decide) (by decide) (by decide)).choose_spec.2.2
def GS15 : St := egS GS14 0 3 2
theorem iv_GS15 : Iv GS15 4 1 0 := (s_edge (sm_rfl GS14) iv_GS14 (a := 0) (b := 3) (w := 2) (by decide) (by decide) (by decide) (by decide)).choose_spec.2.2
def GS16 : St := nS GS15 4 1 (tb [0, 7, 8, 5, 3, 10, 5, 2, 2, 5, 10, 3, 5, 8, 7, 0])
theorem tb_GS16 : nS GS15 4 1 (tv GS15 4 1) = GS16 := tb_eq (by decide +kernel)
theorem iv_GS16 : Iv GS16 4 2 0 := by
  rw [← tb_GS16]
  exact (s_make (sm_rfl GS15) iv_GS15 (j := 1) (by decide) (by decide)).choose_spec.2.2
set_option maxRecDepth 100000 in
theorem lw_GS16_1 : lwB GS16 4 1 = true := by decide +kernel
def GS17 : St := weS GS16 0 (-4)
theorem iv_GS17 : Iv GS17 4 2 0 := (s_weigh (sm_rfl GS16) iv_GS16 (e := 0) (x := (-4)) (by decide) (by decide) (by decide)).choose_spec.2.2
def GS18 : St := weS GS17 1 3
theorem iv_GS18 : Iv GS18 4 2 0 := (s_weigh (sm_rfl GS17) iv_GS17 (e := 1) (x := 3) (by decide) (by decide) (by decide)).choose_spec.2.2
def GS19 : St := weS GS18 2 9
theorem iv_GS19 : Iv GS19 4 2 0 := (s_weigh (sm_rfl GS18) iv_GS18 (e := 2) (x := 9) (by decide) (by decide) (by decide)).choose_spec.2.2
def GS20 : St := weS GS19 2 (-1)
theorem iv_GS20 : Iv GS20 4 2 0 := (s_weigh (sm_rfl GS19) iv_GS19 (e := 2) (x := (-1)) (by decide) (by decide) (by decide)).choose_spec.2.2
def GS21 : St := nS GS20 4 2 (tb [0, (-4), 3, (-1), (-1), (-5), 2, (-2), 0, (-4), 3, (-1), (-1), (-5), 2, (-2)])
theorem tb_GS21 : nS GS20 4 2 (tv GS20 4 4) = GS21 := tb_eq (by decide +kernel)
theorem iv_GS21 : Iv GS21 4 3 0 := by
  rw [← tb_GS21]
  exact (s_make (sm_rfl GS20) iv_GS20 (j := 4) (by decide) (by decide)).choose_spec.2.2
set_option maxRecDepth 100000 in
theorem lw_GS21_2 : lwB GS21 4 2 = true := by decide +kernel
def GS22 : St := nS GS21 4 3 (tb [0, 3, 11, 4, 2, 5, 7, 0, 2, 1, 13, 2, 4, 3, 9, (-2)])
theorem tb_GS22 : nS GS21 4 3 (gSum (GS21.2 5) 1 2) = GS22 := tb_eq (by decide +kernel)
theorem iv_GS22 : Iv GS22 4 4 0 := by
  rw [← tb_GS22]
  exact (s_sum (sm_rfl GS21) iv_GS21 (a := 1) (b := 2) (by decide) (by decide) (by decide)).choose_spec.2.2
set_option maxRecDepth 100000 in
theorem lw_GS22_3 : lwB GS22 4 3 = true := by decide +kernel
def GS23 : St := nS GS22 4 4 (tb [0, 0, (-2), (-2), 3, 3, (-5), (-5), (-2), (-2), (-4), (-4), 1, 1, (-7), (-7)])
theorem tb_GS23 : nS GS22 4 4 (gCon (GS22.2 5) 1 1) = GS23 := tb_eq (by decide +kernel)
theorem iv_GS23 : Iv GS23 4 5 0 := by
  rw [← tb_GS23]
  exact (s_con (sm_rfl GS22) iv_GS22 (a := 1) (b := 1) (by decide) (by decide) (by decide)).choose_spec.2.2
set_option maxRecDepth 100000 in
theorem lw_GS23_4 : lwB GS23 4 4 = true := by decide +kernel
def GS24 : St := nS GS23 4 5 (tb [0, 2, 2, 2, 1, 2, 2, 2, 1, 2, 2, 2, 2, 2, 2, 2])
theorem tb_GS24 : nS GS23 4 5 (gCap (GS23.2 5) 0 (nI 2)) = GS24 := tb_eq (by decide +kernel)
theorem iv_GS24 : Iv GS24 4 6 0 := by
  rw [← tb_GS24]
  exact (s_cap (sm_rfl GS23) iv_GS23 (a := 0) (p := 2) (by decide) (by decide) (by decide)).choose_spec.2.2
set_option maxRecDepth 100000 in
theorem lw_GS24_5 : lwB GS24 4 5 = true := by decide +kernel
def GS25 : St := nS GS24 4 6 (tb [0, (-4), 0, (-1), (-1), (-5), 0, (-2), 0, (-4), 0, (-1), (-1), (-5), 0, (-2)])
theorem tb_GS25 : nS GS24 4 6 (gCap (GS24.2 5) 2 (nI 0)) = GS25 := tb_eq (by decide +kernel)
theorem iv_GS25 : Iv GS25 4 7 0 := by
  rw [← tb_GS25]
  exact (s_cap (sm_rfl GS24) iv_GS24 (a := 2) (p := 0) (by decide) (by decide) (by decide)).choose_spec.2.2
set_option maxRecDepth 100000 in
theorem lw_GS25_6 : lwB GS25 4 6 = false := by decide +kernel
def GS26 : St := clS GS25 0 0 1
theorem iv_GS26 : Iv GS26 4 7 0 := (s_colour (sm_rfl GS25) iv_GS25 (f := 0) (e := 0) (c := 1) (by decide) (by decide) (by decide)).choose_spec.2.2
def GS27 : St := clS GS26 0 1 1
theorem iv_GS27 : Iv GS27 4 7 0 := (s_colour (sm_rfl GS26) iv_GS26 (f := 0) (e := 1) (c := 1) (by decide) (by decide) (by decide)).choose_spec.2.2
def GS28 : St := clS GS27 0 2 2
theorem iv_GS28 : Iv GS28 4 7 0 := (s_colour (sm_rfl GS27) iv_GS27 (f := 0) (e := 2) (c := 2) (by decide) (by decide) (by decide)).choose_spec.2.2
def GS29 : St := clS GS28 0 3 2
theorem iv_GS29 : Iv GS29 4 7 0 := (s_colour (sm_rfl GS28) iv_GS28 (f := 0) (e := 3) (c := 2) (by decide) (by decide) (by decide)).choose_spec.2.2
def GS30 : St := rmS GS29 0 1 2
theorem iv_GS30 : Iv GS30 4 7 0 := (s_room (sm_rfl GS29) iv_GS29 (f := 0) (c := 1) (w := 2) (by decide) (by decide) (by decide)).choose_spec.2.2
def GS31 : St := nS GS30 4 7 (tb [0, 1, 1, 2, 1, 2, 2, 3, 1, 2, 2, 3, 1, 2, 2, 3])
theorem tb_GS31 : nS GS30 4 7 (tv GS30 4 2) = GS31 := tb_eq (by decide +kernel)
theorem iv_GS31 : Iv GS31 4 8 0 := by
  rw [← tb_GS31]
  exact (s_make (sm_rfl GS30) iv_GS30 (j := 2) (by decide) (by decide)).choose_spec.2.2
set_option maxRecDepth 100000 in
theorem lw_GS31_7 : lwB GS31 4 7 = true := by decide +kernel
def GS32 : St := clS GS31 1 0 3
theorem iv_GS32 : Iv GS32 4 8 0 := (s_colour (sm_rfl GS31) iv_GS31 (f := 1) (e := 0) (c := 3) (by decide) (by decide) (by decide)).choose_spec.2.2
def GS33 : St := clS GS32 1 2 4
theorem iv_GS33 : Iv GS33 4 8 0 := (s_colour (sm_rfl GS32) iv_GS32 (f := 1) (e := 2) (c := 4) (by decide) (by decide) (by decide)).choose_spec.2.2
def GS34 : St := rmS GS33 1 0 2
theorem iv_GS34 : Iv GS34 4 8 0 := (s_room (sm_rfl GS33) iv_GS33 (f := 1) (c := 0) (w := 2) (by decide) (by decide) (by decide)).choose_spec.2.2
def GS35 : St := rmS GS34 0 2 2
theorem iv_GS35 : Iv GS35 4 8 0 := (s_room (sm_rfl GS34) iv_GS34 (f := 0) (c := 2) (w := 2) (by decide) (by decide) (by decide)).choose_spec.2.2
def GS36 : St := rmS GS35 1 3 0
theorem iv_GS36 : Iv GS36 4 8 0 := (s_room (sm_rfl GS35) iv_GS35 (f := 1) (c := 3) (w := 0) (by decide) (by decide) (by decide)).choose_spec.2.2
def GS37 : St := ordS GS36 0 2
theorem iv_GS37 : Iv GS37 4 8 1 := (s_order_more (sm_rfl GS36) iv_GS36 (e := 2) (by decide) (by decide) (by decide +kernel)).choose_spec.2.2
def GS38 : St := ordS GS37 1 0
theorem iv_GS38 : Iv GS38 4 8 2 := (s_order_more (sm_rfl GS37) iv_GS37 (e := 0) (by decide) (by decide) (by decide +kernel)).choose_spec.2.2
def GS39 : St := ordS GS38 2 1
theorem iv_GS39 : Iv GS39 4 8 3 := (s_order_more (sm_rfl GS38) iv_GS38 (e := 1) (by decide) (by decide) (by decide +kernel)).choose_spec.2.2
def GS40 : St := ordS GS39 3 3
theorem iv_GS40 : Iv GS40 4 8 4 := (s_order_more (sm_rfl GS39) iv_GS39 (e := 3) (by decide) (by decide) (by decide +kernel)).choose_spec.2.2
def GS41 : St := ordS GS40 0 3
theorem iv_GS41 : Iv GS41 4 8 1 := (s_order_anew (sm_rfl GS40) iv_GS40 (e := 3) (by decide)).choose_spec.2.2
def GS42 : St := ordS GS41 1 0
theorem iv_GS42 : Iv GS42 4 8 2 := (s_order_more (sm_rfl GS41) iv_GS41 (e := 0) (by decide) (by decide) (by decide +kernel)).choose_spec.2.2
def GS43 : St := elS GS42 2
theorem iv_GS43 : Iv GS43 2 0 0 := (s_elements (sm_rfl GS42) iv_GS42 (m := 2) (by decide) (by decide)).choose_spec.2.2
def GS44 : St := nS GS43 2 0 (tb [0, 0, 0, 0])
theorem tb_GS44 : nS GS43 2 0 (tv GS43 2 0) = GS44 := tb_eq (by decide +kernel)
theorem iv_GS44 : Iv GS44 2 1 0 := by
  rw [← tb_GS44]
  exact (s_make (sm_rfl GS43) iv_GS43 (j := 0) (by decide) (by decide)).choose_spec.2.2
def GS45 : St := nS GS44 2 1 (tb [0, 0, 0, 0])
theorem tb_GS45 : nS GS44 2 1 (tv GS44 2 1) = GS45 := tb_eq (by decide +kernel)
theorem iv_GS45 : Iv GS45 2 2 0 := by
  rw [← tb_GS45]
  exact (s_make (sm_rfl GS44) iv_GS44 (j := 1) (by decide) (by decide)).choose_spec.2.2
def GS46 : St := nS GS45 2 2 (tb [0, 1, 1, 1])
theorem tb_GS46 : nS GS45 2 2 (tv GS45 2 2) = GS46 := tb_eq (by decide +kernel)
theorem iv_GS46 : Iv GS46 2 3 0 := by
  rw [← tb_GS46]
  exact (s_make (sm_rfl GS45) iv_GS45 (j := 2) (by decide) (by decide)).choose_spec.2.2
def GS47 : St := nS GS46 2 3 (tb [0, 0, 0, 0])
theorem tb_GS47 : nS GS46 2 3 (tv GS46 2 4) = GS47 := tb_eq (by decide +kernel)
theorem iv_GS47 : Iv GS47 2 4 0 := by
  rw [← tb_GS47]
  exact (s_make (sm_rfl GS46) iv_GS46 (j := 4) (by decide) (by decide)).choose_spec.2.2
def GS48 : St := ordS GS47 0 1
theorem iv_GS48 : Iv GS48 2 4 1 := (s_order_more (sm_rfl GS47) iv_GS47 (e := 1) (by decide) (by decide) (by decide +kernel)).choose_spec.2.2
def GS49 : St := elS GS48 2
theorem iv_GS49 : Iv GS49 2 0 0 := (s_elements (sm_rfl GS48) iv_GS48 (m := 2) (by decide) (by decide)).choose_spec.2.2
def GS50 : St := ordS GS49 0 1
theorem iv_GS50 : Iv GS50 2 0 1 := (s_order_more (sm_rfl GS49) iv_GS49 (e := 1) (by decide) (by decide) (by decide +kernel)).choose_spec.2.2

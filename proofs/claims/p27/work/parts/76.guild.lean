/-! The guild by hand: the calls. -/
theorem gp_greed_363 {X : St} (h : Sm GS36 X) : ∃ Y, f_L_greed_363 X = some Y ∧ Sm GS36 Y := by
  unfold f_L_greed_363
  rw [show f_L_share X 1 0 0 = some X from s_Lshare h iv_GS36 (a := 1) (e := 0) (by decide) (by decide) (by decide +kernel), Option.bind_some]
  rw [show f_L_share X 3 1 72 = some X from s_Lshare h iv_GS36 (a := 3) (e := 1) (by decide) (by decide) (by decide +kernel), Option.bind_some]
  exact ⟨_, rfl, h⟩
theorem gp_greed_269 {X : St} (h : Sm GS35 X) : ∃ Y, f_L_greed_269 X = some Y ∧ Sm GS36 Y := by
  unfold f_L_greed_269
  obtain ⟨X44, eX44, hX44, -⟩ := s_room h iv_GS35 (f := 1) (c := 3) (w := 0) (by decide) (by decide) (by decide)
  have hX44 : Sm GS36 X44 := hX44
  rw [xv_ok (show f_X0_room X 1 3 0 = _ from eX44), if_pos (show GS35.2 3 (6 * 1 + 3) = 1 by decide +kernel)]
  obtain ⟨X45, eX45, hX45⟩ := s_common hX44 iv_GS36
  rw [eX45, Option.bind_some, if_pos (show nI (cmF GS36 4 (2 ^ 4)) = 3 from congrArg nI (cm_chk (J := 14) (m := 3) (by decide +kernel)))]
  rw [show f_L_share X45 0 0 36 = some X45 from s_Lshare hX45 iv_GS36 (a := 0) (e := 0) (by decide) (by decide) (by decide +kernel), Option.bind_some]
  rw [show f_L_share X45 0 1 24 = some X45 from s_Lshare hX45 iv_GS36 (a := 0) (e := 1) (by decide) (by decide) (by decide +kernel), Option.bind_some]
  rw [show f_L_share X45 0 2 12 = some X45 from s_Lshare hX45 iv_GS36 (a := 0) (e := 2) (by decide) (by decide) (by decide +kernel), Option.bind_some]
  rw [show f_L_share X45 0 3 24 = some X45 from s_Lshare hX45 iv_GS36 (a := 0) (e := 3) (by decide) (by decide) (by decide +kernel), Option.bind_some]
  rw [show f_L_share X45 2 0 (-96) = some X45 from s_Lshare hX45 iv_GS36 (a := 2) (e := 0) (by decide) (by decide) (by decide +kernel), Option.bind_some]
  rw [show f_L_share X45 2 3 0 = some X45 from s_Lshare hX45 iv_GS36 (a := 2) (e := 3) (by decide) (by decide) (by decide +kernel), Option.bind_some]
  rw [show f_L_share X45 1 2 0 = some X45 from s_Lshare hX45 iv_GS36 (a := 1) (e := 2) (by decide) (by decide) (by decide +kernel), Option.bind_some]
  exact gp_greed_363 hX45
theorem gp_greed_187 {X : St} (h : Sm GS31 X) : ∃ Y, f_L_greed_187 X = some Y ∧ Sm GS36 Y := by
  unfold f_L_greed_187
  obtain ⟨X37, eX37, hX37, -⟩ := s_colour h iv_GS31 (f := 1) (e := 0) (c := 3) (by decide) (by decide) (by decide)
  have hX37 : Sm GS32 X37 := hX37
  rw [xv_ok (show f_X0_colour X 1 0 3 = _ from eX37), if_pos (show GS31.2 2 (6 * 1 + 0) = 0 by decide +kernel)]
  obtain ⟨X38, eX38, hX38, -⟩ := s_colour hX37 iv_GS32 (f := 1) (e := 2) (c := 4) (by decide) (by decide) (by decide)
  have hX38 : Sm GS33 X38 := hX38
  rw [xv_ok (show f_X0_colour X37 1 2 4 = _ from eX38), if_pos (show GS32.2 2 (6 * 1 + 2) = 0 by decide +kernel)]
  obtain ⟨X39, eX39, hX39⟩ := s_common hX38 iv_GS33
  rw [eX39, Option.bind_some, if_pos (show nI (cmF GS33 4 (2 ^ 4)) = 3 from congrArg nI (cm_chk (J := 7) (m := 3) (by decide +kernel)))]
  rw [s_commonAnew hX39 iv_GS33, Option.bind_some, if_pos (show nI (cmF GS33 4 (2 ^ 4)) = 3 from congrArg nI (cm_chk (J := 7) (m := 3) (by decide +kernel)))]
  obtain ⟨X40, eX40, hX40, -⟩ := s_room hX39 iv_GS33 (f := 1) (c := 0) (w := 2) (by decide) (by decide) (by decide)
  have hX40 : Sm GS34 X40 := hX40
  rw [xv_ok (show f_X0_room X39 1 0 2 = _ from eX40), if_pos (show GS33.2 3 (6 * 1 + 0) = 1 by decide +kernel)]
  obtain ⟨X41, eX41, hX41⟩ := s_common hX40 iv_GS34
  rw [eX41, Option.bind_some, if_pos (show nI (cmF GS34 4 (2 ^ 4)) = 3 from congrArg nI (cm_chk (J := 7) (m := 3) (by decide +kernel)))]
  obtain ⟨X42, eX42, hX42, -⟩ := s_room hX41 iv_GS34 (f := 0) (c := 2) (w := 2) (by decide) (by decide) (by decide)
  have hX42 : Sm GS35 X42 := hX42
  rw [xv_ok (show f_X0_room X41 0 2 2 = _ from eX42), if_pos (show GS34.2 3 (6 * 0 + 2) = 1 by decide +kernel)]
  obtain ⟨X43, eX43, hX43⟩ := s_common hX42 iv_GS35
  rw [eX43, Option.bind_some, if_pos (show nI (cmF GS35 4 (2 ^ 4)) = 4 from congrArg nI (cm_chk (J := 15) (m := 4) (by decide +kernel)))]
  rw [s_commonAnew hX43 iv_GS35, Option.bind_some, if_pos (show nI (cmF GS35 4 (2 ^ 4)) = 4 from congrArg nI (cm_chk (J := 15) (m := 4) (by decide +kernel)))]
  exact gp_greed_269 hX43
theorem gp_greed_92 {X : St} (h : Sm GS31 X) : ∃ Y, f_L_greed_92 X = some Y ∧ Sm GS36 Y := by
  unfold f_L_greed_92
  rw [xv_ok (show f_X0_best X 1 1 = _ from s_best h iv_GS31 (a := 1) (m := 1) (by decide) (by decide)), if_pos (show mxF (rowf GS31 1) 1 (2 ^ 4) = 8 from mx_chk (i0 := 2) (by decide +kernel))]
  rw [xv_ok (show f_X0_best X 1 6 = _ from s_best h iv_GS31 (a := 1) (m := 6) (by decide) (by decide)), if_pos (show mxF (rowf GS31 1) 6 (2 ^ 4) = 10 from mx_chk (i0 := 5) (by decide +kernel))]
  rw [xv_ok (show f_X0_greedy X 2 4 = _ from s_greedy h iv_GS31 (a := 2) (m := 4) (by decide) (by decide)), if_pos (show nI (gW GS31 2 4 4 70 0) = 2 by decide +kernel)]
  rw [xv_ok (show f_X0_best X 2 5 = _ from s_best h iv_GS31 (a := 2) (m := 5) (by decide) (by decide)), if_pos (show mxF (rowf GS31 2) 5 (2 ^ 4) = 3 from mx_chk (i0 := 2) (by decide +kernel))]
  rw [xv_ok (show f_X0_greedy X 6 3 = _ from s_greedy h iv_GS31 (a := 6) (m := 3) (by decide) (by decide)), if_pos (show nI (gW GS31 6 4 3 70 0) = 0 by decide +kernel)]
  rw [xv_ok (show f_X0_best X 6 3 = _ from s_best h iv_GS31 (a := 6) (m := 3) (by decide) (by decide)), if_pos (show mxF (rowf GS31 6) 3 (2 ^ 4) = 0 from mx_chk (i0 := 0) (by decide +kernel))]
  rw [xv_ok (show f_X0_greedy X 4 6 = _ from s_greedy h iv_GS31 (a := 4) (m := 6) (by decide) (by decide)), if_pos (show nI (gW GS31 4 4 6 70 0) = 4 by decide +kernel)]
  rw [xv_ok (show f_X0_best X 4 6 = _ from s_best h iv_GS31 (a := 4) (m := 6) (by decide) (by decide)), if_pos (show mxF (rowf GS31 4) 6 (2 ^ 4) = 3 from mx_chk (i0 := 4) (by decide +kernel))]
  obtain ⟨X36, eX36, hX36⟩ := s_common h iv_GS31
  rw [eX36, Option.bind_some, if_pos (show nI (cmF GS31 4 (2 ^ 4)) = 1 from congrArg nI (cm_chk (J := 1) (m := 1) (by decide +kernel)))]
  exact gp_greed_187 hX36
theorem gp_greed {X : St} (h : Sm GS31 X) : ∃ Y, f_L_greed X = some Y ∧ Sm GS36 Y := by
  unfold f_L_greed
  rw [xv_ok (show f_X0_greedy X 0 0 = _ from s_greedy h iv_GS31 (a := 0) (m := 0) (by decide) (by decide)), if_pos (show nI (gW GS31 0 4 0 70 0) = 0 by decide +kernel)]
  rw [xv_ok (show f_X0_greedy X 0 1 = _ from s_greedy h iv_GS31 (a := 0) (m := 1) (by decide) (by decide)), if_pos (show nI (gW GS31 0 4 1 70 0) = 1 by decide +kernel)]
  rw [xv_ok (show f_X0_greedy X 0 2 = _ from s_greedy h iv_GS31 (a := 0) (m := 2) (by decide) (by decide)), if_pos (show nI (gW GS31 0 4 2 70 0) = 3 by decide +kernel)]
  rw [xv_ok (show f_X0_greedy X 0 6 = _ from s_greedy h iv_GS31 (a := 0) (m := 6) (by decide) (by decide)), if_pos (show nI (gW GS31 0 4 6 70 0) = 11 by decide +kernel)]
  rw [xv_ok (show f_X0_best X 0 0 = _ from s_best h iv_GS31 (a := 0) (m := 0) (by decide) (by decide)), if_pos (show mxF (rowf GS31 0) 0 (2 ^ 4) = 0 from mx_chk (i0 := 0) (by decide +kernel))]
  rw [xv_ok (show f_X0_best X 0 1 = _ from s_best h iv_GS31 (a := 0) (m := 1) (by decide) (by decide)), if_pos (show mxF (rowf GS31 0) 1 (2 ^ 4) = 2 from mx_chk (i0 := 1) (by decide +kernel))]
  rw [xv_ok (show f_X0_best X 0 2 = _ from s_best h iv_GS31 (a := 0) (m := 2) (by decide) (by decide)), if_pos (show mxF (rowf GS31 0) 2 (2 ^ 4) = 3 from mx_chk (i0 := 3) (by decide +kernel))]
  rw [xv_ok (show f_X0_best X 0 3 = _ from s_best h iv_GS31 (a := 0) (m := 3) (by decide) (by decide)), if_pos (show mxF (rowf GS31 0) 3 (2 ^ 4) = 4 from mx_chk (i0 := 11) (by decide +kernel))]
  rw [xv_ok (show f_X0_greedy X 1 6 = _ from s_greedy h iv_GS31 (a := 1) (m := 6) (by decide) (by decide)), if_pos (show nI (gW GS31 1 4 6 70 0) = 10 by decide +kernel)]
  exact gp_greed_92 h
theorem gp_orders_368 {X : St} (h : Sm GS49 X) : ∃ Y, f_L_orders_368 X = some Y ∧ Sm GS50 Y := by
  unfold f_L_orders_368
  rw [act_x10 (e := 0) (show f_X0_value X 0 0 = some (0 + 1, 0, X) from e_value1 (h.iv iv_GS49) (Or.inr (by decide)) 0), hd1, Option.bind_some, if_pos rfl]
  obtain ⟨X62, eX62, hX62, -⟩ := s_order_more h iv_GS49 (e := 1) (by decide) (by decide) (by decide +kernel)
  have hX62 : Sm GS50 X62 := hX62
  rw [xv_ok (show f_X0_order X 1 = _ from eX62), if_pos (show nI (0 + 1) = 1 by decide +kernel)]
  exact ⟨_, rfl, hX62⟩
theorem gp_orders_286 {X : St} (h : Sm GS44 X) : ∃ Y, f_L_orders_286 X = some Y ∧ Sm GS50 Y := by
  unfold f_L_orders_286
  rw [xv_ok (show f_X0_value X 0 3 = _ from s_value h iv_GS44 (a := 0) (s := 3) (by decide) (by decide)), if_pos (show GS44.2 5 (64 * 0 + 3) = 0 by decide +kernel)]
  obtain ⟨X57, eX57, hX57, -⟩ := s_make h iv_GS44 (j := 1) (by decide) (by decide)
  have hX57 : Sm GS45 X57 := by rw [← tb_GS45]; exact hX57
  rw [xv_ok (show f_X0_make X 1 = _ from eX57), if_pos (show nI 1 = 1 by decide +kernel)]
  rw [xv_ok (show f_X0_value X57 1 1 = _ from s_value hX57 iv_GS45 (a := 1) (s := 1) (by decide) (by decide)), if_pos (show GS45.2 5 (64 * 1 + 1) = 0 by decide +kernel)]
  obtain ⟨X58, eX58, hX58, -⟩ := s_make hX57 iv_GS45 (j := 2) (by decide) (by decide)
  have hX58 : Sm GS46 X58 := by rw [← tb_GS46]; exact hX58
  rw [xv_ok (show f_X0_make X57 2 = _ from eX58), if_pos (show nI 2 = 2 by decide +kernel)]
  rw [xv_ok (show f_X0_value X58 2 3 = _ from s_value hX58 iv_GS46 (a := 2) (s := 3) (by decide) (by decide)), if_pos (show GS46.2 5 (64 * 2 + 3) = 1 by decide +kernel)]
  obtain ⟨X59, eX59, hX59, -⟩ := s_make hX58 iv_GS46 (j := 4) (by decide) (by decide)
  have hX59 : Sm GS47 X59 := by rw [← tb_GS47]; exact hX59
  rw [xv_ok (show f_X0_make X58 4 = _ from eX59), if_pos (show nI 3 = 3 by decide +kernel)]
  rw [xv_ok (show f_X0_value X59 3 3 = _ from s_value hX59 iv_GS47 (a := 3) (s := 3) (by decide) (by decide)), if_pos (show GS47.2 5 (64 * 3 + 3) = 0 by decide +kernel)]
  obtain ⟨X60, eX60, hX60, -⟩ := s_order_more hX59 iv_GS47 (e := 1) (by decide) (by decide) (by decide +kernel)
  have hX60 : Sm GS48 X60 := hX60
  rw [xv_ok (show f_X0_order X59 1 = _ from eX60), if_pos (show nI (0 + 1) = 1 by decide +kernel)]
  obtain ⟨X61, eX61, hX61, -⟩ := s_elements hX60 iv_GS48 (m := 2) (by decide) (by decide)
  have hX61 : Sm GS49 X61 := hX61
  rw [xv_ok (show f_X0_elements X60 2 = _ from eX61), if_pos (show nI 2 = 2 by decide +kernel)]
  exact gp_orders_368 hX61
theorem gp_orders_193 {X : St} (h : Sm GS41 X) : ∃ Y, f_L_orders_193 X = some Y ∧ Sm GS50 Y := by
  unfold f_L_orders_193
  rw [xv_ok (show f_X0_corner X 1 3 = _ from s_corner h iv_GS41 (a := 1) (e := 3) (k0 := 0) (by decide) (by decide) (by decide) (show GS41.2 6 0 = nI 3 by decide +kernel)), if_pos (show gI GS41 1 3 (ahF GS41 0) = 2 by decide +kernel)]
  rw [act_x17 (e := 2) (show f_X0_corner X 0 0 = some (2 + 1, 0, X) from s_corner_not h iv_GS41 (a := 0) (e := 0) (by decide) (by decide) (by decide +kernel)), hd3, Option.bind_some, if_pos rfl]
  obtain ⟨X52, eX52, hX52, -⟩ := s_order_more h iv_GS41 (e := 0) (by decide) (by decide) (by decide +kernel)
  have hX52 : Sm GS42 X52 := hX52
  rw [xv_ok (show f_X0_order X 0 = _ from eX52), if_pos (show nI (1 + 1) = 2 by decide +kernel)]
  rw [xv_ok (show f_X0_corner X52 1 0 = _ from s_corner hX52 iv_GS42 (a := 1) (e := 0) (k0 := 1) (by decide) (by decide) (by decide) (show GS42.2 6 1 = nI 0 by decide +kernel)), if_pos (show gI GS42 1 0 (ahF GS42 1) = 3 by decide +kernel)]
  obtain ⟨X53, eX53, hX53⟩ := s_refuses hX52 iv_GS42
  rw [show f_L_refuses X52 4 8 = some X53 from eX53, Option.bind_some]
  obtain ⟨X54, eX54, hX54, -⟩ := s_elements hX53 iv_GS42 (m := 2) (by decide) (by decide)
  have hX54 : Sm GS43 X54 := hX54
  rw [xv_ok (show f_X0_elements X53 2 = _ from eX54), if_pos (show nI 4 = 4 by decide +kernel)]
  obtain ⟨X55, eX55, hX55⟩ := s_refuses hX54 iv_GS43
  rw [show f_L_refuses X54 2 0 = some X55 from eX55, Option.bind_some]
  rw [act_x17 (e := 0) (show f_X0_corner X55 0 0 = some (0 + 1, 0, X55) from e_corner1 (hX55.iv iv_GS43) (Or.inr (by decide)) 0), hd1, Option.bind_some, if_pos rfl]
  obtain ⟨X56, eX56, hX56, -⟩ := s_make hX55 iv_GS43 (j := 0) (by decide) (by decide)
  have hX56 : Sm GS44 X56 := by rw [← tb_GS44]; exact hX56
  rw [xv_ok (show f_X0_make X55 0 = _ from eX56), if_pos (show nI 0 = 0 by decide +kernel)]
  exact gp_orders_286 hX56
theorem gp_orders_103 {X : St} (h : Sm GS39 X) : ∃ Y, f_L_orders_103 X = some Y ∧ Sm GS50 Y := by
  unfold f_L_orders_103
  obtain ⟨X50, eX50, hX50, -⟩ := s_order_more h iv_GS39 (e := 3) (by decide) (by decide) (by decide +kernel)
  have hX50 : Sm GS40 X50 := hX50
  rw [xv_ok (show f_X0_order X 3 = _ from eX50), if_pos (show nI (3 + 1) = 4 by decide +kernel)]
  rw [xv_ok (show f_X0_corner X50 0 1 = _ from s_corner hX50 iv_GS40 (a := 0) (e := 1) (k0 := 2) (by decide) (by decide) (by decide) (show GS40.2 6 2 = nI 1 by decide +kernel)), if_pos (show gI GS40 0 1 (ahF GS40 2) = 0 by decide +kernel)]
  rw [xv_ok (show f_X0_corner X50 0 3 = _ from s_corner hX50 iv_GS40 (a := 0) (e := 3) (k0 := 3) (by decide) (by decide) (by decide) (show GS40.2 6 3 = nI 3 by decide +kernel)), if_pos (show gI GS40 0 3 (ahF GS40 3) = 1 by decide +kernel)]
  rw [xv_ok (show f_X0_corner X50 1 2 = _ from s_corner hX50 iv_GS40 (a := 1) (e := 2) (k0 := 0) (by decide) (by decide) (by decide) (show GS40.2 6 0 = nI 2 by decide +kernel)), if_pos (show gI GS40 1 2 (ahF GS40 0) = 3 by decide +kernel)]
  rw [xv_ok (show f_X0_corner X50 1 0 = _ from s_corner hX50 iv_GS40 (a := 1) (e := 0) (k0 := 1) (by decide) (by decide) (by decide) (show GS40.2 6 1 = nI 0 by decide +kernel)), if_pos (show gI GS40 1 0 (ahF GS40 1) = 7 by decide +kernel)]
  rw [xv_ok (show f_X0_corner X50 1 1 = _ from s_corner hX50 iv_GS40 (a := 1) (e := 1) (k0 := 2) (by decide) (by decide) (by decide) (show GS40.2 6 2 = nI 1 by decide +kernel)), if_pos (show gI GS40 1 1 (ahF GS40 2) = (-8) by decide +kernel)]
  rw [xv_ok (show f_X0_corner X50 1 3 = _ from s_corner hX50 iv_GS40 (a := 1) (e := 3) (k0 := 3) (by decide) (by decide) (by decide) (show GS40.2 6 3 = nI 3 by decide +kernel)), if_pos (show gI GS40 1 3 (ahF GS40 3) = (-2) by decide +kernel)]
  obtain ⟨X51, eX51, hX51, -⟩ := s_order_anew hX50 iv_GS40 (e := 3) (by decide)
  have hX51 : Sm GS41 X51 := hX51
  rw [xv_ok (show f_X0_order X50 3 = _ from eX51), if_pos (show (1 : Int32) = 1 by decide +kernel)]
  rw [xv_ok (show f_X0_corner X51 0 3 = _ from s_corner hX51 iv_GS41 (a := 0) (e := 3) (k0 := 0) (by decide) (by decide) (by decide) (show GS41.2 6 0 = nI 3 by decide +kernel)), if_pos (show gI GS41 0 3 (ahF GS41 0) = 1 by decide +kernel)]
  exact gp_orders_193 hX51
theorem gp_orders {X : St} (h : Sm GS36 X) : ∃ Y, f_L_orders X = some Y ∧ Sm GS50 Y := by
  unfold f_L_orders
  rw [act_x17 (e := 2) (show f_X0_corner X 0 0 = some (2 + 1, 0, X) from s_corner_not h iv_GS36 (a := 0) (e := 0) (by decide) (by decide) (by decide +kernel)), hd3, Option.bind_some, if_pos rfl]
  obtain ⟨X47, eX47, hX47, -⟩ := s_order_more h iv_GS36 (e := 2) (by decide) (by decide) (by decide +kernel)
  have hX47 : Sm GS37 X47 := hX47
  rw [xv_ok (show f_X0_order X 2 = _ from eX47), if_pos (show nI (0 + 1) = 1 by decide +kernel)]
  obtain ⟨X48, eX48, hX48, -⟩ := s_order_more hX47 iv_GS37 (e := 0) (by decide) (by decide) (by decide +kernel)
  have hX48 : Sm GS38 X48 := hX48
  rw [xv_ok (show f_X0_order X47 0 = _ from eX48), if_pos (show nI (1 + 1) = 2 by decide +kernel)]
  rw [act_x16 (e := 2) (show f_X0_order X48 2 = some (2 + 1, 0, X48) from s_order_told hX48 iv_GS38 (e := 2) (by decide) (by decide) (by decide +kernel)), hd3, Option.bind_some, if_pos rfl]
  rw [act_x16 (e := 2) (show f_X0_order X48 0 = some (2 + 1, 0, X48) from s_order_told hX48 iv_GS38 (e := 0) (by decide) (by decide) (by decide +kernel)), hd3, Option.bind_some, if_pos rfl]
  rw [xv_ok (show f_X0_corner X48 0 2 = _ from s_corner hX48 iv_GS38 (a := 0) (e := 2) (k0 := 0) (by decide) (by decide) (by decide) (show GS38.2 6 0 = nI 2 by decide +kernel)), if_pos (show gI GS38 0 2 (ahF GS38 0) = 1 by decide +kernel)]
  rw [xv_ok (show f_X0_corner X48 0 0 = _ from s_corner hX48 iv_GS38 (a := 0) (e := 0) (k0 := 1) (by decide) (by decide) (by decide) (show GS38.2 6 1 = nI 0 by decide +kernel)), if_pos (show gI GS38 0 0 (ahF GS38 1) = 2 by decide +kernel)]
  rw [act_x17 (e := 2) (show f_X0_corner X48 0 1 = some (2 + 1, 0, X48) from s_corner_not hX48 iv_GS38 (a := 0) (e := 1) (by decide) (by decide) (by decide +kernel)), hd3, Option.bind_some, if_pos rfl]
  obtain ⟨X49, eX49, hX49, -⟩ := s_order_more hX48 iv_GS38 (e := 1) (by decide) (by decide) (by decide +kernel)
  have hX49 : Sm GS39 X49 := hX49
  rw [xv_ok (show f_X0_order X48 1 = _ from eX49), if_pos (show nI (2 + 1) = 3 by decide +kernel)]
  exact gp_orders_103 hX49
theorem gp_guild_952 {X : St} (h : Sm GS50 X) : f_L_guild_952 X = some 1 := by
  unfold f_L_guild_952
  rw [gp_six, Option.bind_some]
theorem gp_guild_852 {X : St} (h : Sm GS31 X) : f_L_guild_852 X = some 1 := by
  unfold f_L_guild_852
  rw [xv_ok (show f_X0_isLawful X 7 = _ from s_isLawful h iv_GS31 (a := 7) (by decide)), if_neg (show ¬ bI (lwB GS31 4 7) = 0 by rw [lw_GS31_7]; decide)]
  rw [xv_ok (show f_X0_rises X 7 = _ from s_rises h iv_GS31 (a := 7) (by decide)), if_neg (show ¬ bI (rsB GS31 4 7) = 0 by decide +kernel)]
  rw [act_x6 (e := 2) (show f_X0_make X 3 = some (2 + 1, 0, X) from s_make8 (h.iv iv_GS31) (j := 3) (by decide)), hd3, Option.bind_some, if_pos rfl]
  rw [act_x7 (e := 2) (show f_X0_sum X 0 0 = some (2 + 1, 0, X) from s_sum8 (h.iv iv_GS31) (a := 0) (b := 0) (by decide) (by decide)), hd3, Option.bind_some, if_pos rfl]
  rw [act_x8 (e := 2) (show f_X0_contract X 0 0 = some (2 + 1, 0, X) from s_con8 (h.iv iv_GS31) (a := 0) (b := 0) (by decide) (by decide)), hd3, Option.bind_some, if_pos rfl]
  rw [act_x9 (e := 2) (show f_X0_cap X 0 0 = some (2 + 1, 0, X) from s_cap8 (h.iv iv_GS31) (a := 0) (p := 0) (by decide) (by decide)), hd3, Option.bind_some, if_pos rfl]
  obtain ⟨X34, eX34, hX34⟩ := s_refuses h iv_GS31
  rw [show f_L_refuses X 4 8 = some X34 from eX34, Option.bind_some]
  obtain ⟨X35, eX35, hX35⟩ := gp_greed hX34
  rw [eX35, Option.bind_some]
  obtain ⟨X46, eX46, hX46⟩ := gp_orders hX35
  rw [eX46, Option.bind_some]
  exact gp_guild_952 hX46
theorem gp_guild_756 {X : St} (h : Sm GS25 X) : f_L_guild_756 X = some 1 := by
  unfold f_L_guild_756
  obtain ⟨X28, eX28, hX28, -⟩ := s_colour h iv_GS25 (f := 0) (e := 0) (c := 1) (by decide) (by decide) (by decide)
  have hX28 : Sm GS26 X28 := hX28
  rw [xv_ok (show f_X0_colour X 0 0 1 = _ from eX28), if_pos (show GS25.2 2 (6 * 0 + 0) = 0 by decide +kernel)]
  obtain ⟨X29, eX29, hX29, -⟩ := s_colour hX28 iv_GS26 (f := 0) (e := 1) (c := 1) (by decide) (by decide) (by decide)
  have hX29 : Sm GS27 X29 := hX29
  rw [xv_ok (show f_X0_colour X28 0 1 1 = _ from eX29), if_pos (show GS26.2 2 (6 * 0 + 1) = 0 by decide +kernel)]
  obtain ⟨X30, eX30, hX30, -⟩ := s_colour hX29 iv_GS27 (f := 0) (e := 2) (c := 2) (by decide) (by decide) (by decide)
  have hX30 : Sm GS28 X30 := hX30
  rw [xv_ok (show f_X0_colour X29 0 2 2 = _ from eX30), if_pos (show GS27.2 2 (6 * 0 + 2) = 0 by decide +kernel)]
  obtain ⟨X31, eX31, hX31, -⟩ := s_colour hX30 iv_GS28 (f := 0) (e := 3) (c := 2) (by decide) (by decide) (by decide)
  have hX31 : Sm GS29 X31 := hX31
  rw [xv_ok (show f_X0_colour X30 0 3 2 = _ from eX31), if_pos (show GS28.2 2 (6 * 0 + 3) = 0 by decide +kernel)]
  obtain ⟨X32, eX32, hX32, -⟩ := s_room hX31 iv_GS29 (f := 0) (c := 1) (w := 2) (by decide) (by decide) (by decide)
  have hX32 : Sm GS30 X32 := hX32
  rw [xv_ok (show f_X0_room X31 0 1 2 = _ from eX32), if_pos (show GS29.2 3 (6 * 0 + 1) = 1 by decide +kernel)]
  obtain ⟨X33, eX33, hX33, -⟩ := s_make hX32 iv_GS30 (j := 2) (by decide) (by decide)
  have hX33 : Sm GS31 X33 := by rw [← tb_GS31]; exact hX33
  rw [xv_ok (show f_X0_make X32 2 = _ from eX33), if_pos (show nI 7 = 7 by decide +kernel)]
  rw [xv_ok (show f_X0_value X33 7 15 = _ from s_value hX33 iv_GS31 (a := 7) (s := 15) (by decide) (by decide)), if_pos (show GS31.2 5 (64 * 7 + 15) = 3 by decide +kernel)]
  rw [xv_ok (show f_X0_value X33 7 12 = _ from s_value hX33 iv_GS31 (a := 7) (s := 12) (by decide) (by decide)), if_pos (show GS31.2 5 (64 * 7 + 12) = 1 by decide +kernel)]
  rw [xv_ok (show f_X0_value X33 7 3 = _ from s_value hX33 iv_GS31 (a := 7) (s := 3) (by decide) (by decide)), if_pos (show GS31.2 5 (64 * 7 + 3) = 2 by decide +kernel)]
  exact gp_guild_852 hX33
theorem gp_guild_650 {X : St} (h : Sm GS24 X) : f_L_guild_650 X = some 1 := by
  unfold f_L_guild_650
  rw [xv_ok (show f_X0_rises X 5 = _ from s_rises h iv_GS24 (a := 5) (by decide)), if_neg (show ¬ bI (rsB GS24 4 5) = 0 by decide +kernel)]
  obtain ⟨X27, eX27, hX27, -⟩ := s_cap h iv_GS24 (a := 2) (p := 0) (by decide) (by decide) (by decide)
  have hX27 : Sm GS25 X27 := by rw [← tb_GS25]; exact hX27
  rw [xv_ok (show f_X0_cap X 2 0 = _ from eX27), if_pos (show nI 6 = 6 by decide +kernel)]
  rw [xv_ok (show f_X0_value X27 6 2 = _ from s_value hX27 iv_GS25 (a := 6) (s := 2) (by decide) (by decide)), if_pos (show GS25.2 5 (64 * 6 + 2) = 0 by decide +kernel)]
  rw [xv_ok (show f_X0_value X27 6 3 = _ from s_value hX27 iv_GS25 (a := 6) (s := 3) (by decide) (by decide)), if_pos (show GS25.2 5 (64 * 6 + 3) = (-1) by decide +kernel)]
  rw [xv_ok (show f_X0_value X27 6 1 = _ from s_value hX27 iv_GS25 (a := 6) (s := 1) (by decide) (by decide)), if_pos (show GS25.2 5 (64 * 6 + 1) = (-4) by decide +kernel)]
  rw [xv_ok (show f_X0_isLawful X27 6 = _ from s_isLawful hX27 iv_GS25 (a := 6) (by decide)), if_pos (show bI (lwB GS25 4 6) = 0 by rw [lw_GS25_6]; decide)]
  rw [act_x13 (e := 2) (show f_X0_least X27 6 = some (2 + 1, 0, X27) from (no_law hX27 iv_GS25 (a := 6) (by decide) lw_GS25_6).1), hd3, Option.bind_some, if_pos rfl]
  rw [act_x14 (e := 2) (show ∀ p, f_X0_leastSet X27 6 p = some (2 + 1, 0, X27) from fun p => ((no_law hX27 iv_GS25 (a := 6) (by decide) lw_GS25_6).2 p).1), hd3, Option.bind_some, if_pos rfl]
  rw [act_x15 (e := 2) (show ∀ p, f_X0_leastSetAnew X27 6 p = some (2 + 1, 0, X27) from fun p => ((no_law hX27 iv_GS25 (a := 6) (by decide) lw_GS25_6).2 p).2), hd3, Option.bind_some, if_pos rfl]
  exact gp_guild_756 hX27
theorem gp_guild_555 {X : St} (h : Sm GS23 X) : f_L_guild_555 X = some 1 := by
  unfold f_L_guild_555
  rw [xv_ok (show f_X0_value X 4 2 = _ from s_value h iv_GS23 (a := 4) (s := 2) (by decide) (by decide)), if_pos (show GS23.2 5 (64 * 4 + 2) = (-2) by decide +kernel)]
  rw [xv_ok (show f_X0_value X 4 3 = _ from s_value h iv_GS23 (a := 4) (s := 3) (by decide) (by decide)), if_pos (show GS23.2 5 (64 * 4 + 3) = (-2) by decide +kernel)]
  rw [xv_ok (show f_X0_value X 4 14 = _ from s_value h iv_GS23 (a := 4) (s := 14) (by decide) (by decide)), if_pos (show GS23.2 5 (64 * 4 + 14) = (-7) by decide +kernel)]
  rw [xv_ok (show f_X0_isLawful X 4 = _ from s_isLawful h iv_GS23 (a := 4) (by decide)), if_neg (show ¬ bI (lwB GS23 4 4) = 0 by rw [lw_GS23_4]; decide)]
  rw [show f_L_least X 4 (-7) 14 15 = some X from s_Lleast h iv_GS23 (a := 4) (r0 := 14) (r1 := 15) (by decide) lw_GS23_4 (by decide +kernel), Option.bind_some]
  obtain ⟨X26, eX26, hX26, -⟩ := s_cap h iv_GS23 (a := 0) (p := 2) (by decide) (by decide) (by decide)
  have hX26 : Sm GS24 X26 := by rw [← tb_GS24]; exact hX26
  rw [xv_ok (show f_X0_cap X 0 2 = _ from eX26), if_pos (show nI 5 = 5 by decide +kernel)]
  rw [xv_ok (show f_X0_value X26 5 15 = _ from s_value hX26 iv_GS24 (a := 5) (s := 15) (by decide) (by decide)), if_pos (show GS24.2 5 (64 * 5 + 15) = 2 by decide +kernel)]
  rw [xv_ok (show f_X0_value X26 5 4 = _ from s_value hX26 iv_GS24 (a := 5) (s := 4) (by decide) (by decide)), if_pos (show GS24.2 5 (64 * 5 + 4) = 1 by decide +kernel)]
  rw [xv_ok (show f_X0_isLawful X26 5 = _ from s_isLawful hX26 iv_GS24 (a := 5) (by decide)), if_neg (show ¬ bI (lwB GS24 4 5) = 0 by rw [lw_GS24_5]; decide)]
  exact gp_guild_650 hX26
theorem gp_guild_462 {X : St} (h : Sm GS22 X) : f_L_guild_462 X = some 1 := by
  unfold f_L_guild_462
  rw [xv_ok (show f_X0_value X 3 1 = _ from s_value h iv_GS22 (a := 3) (s := 1) (by decide) (by decide)), if_pos (show GS22.2 5 (64 * 3 + 1) = 3 by decide +kernel)]
  rw [xv_ok (show f_X0_value X 3 7 = _ from s_value h iv_GS22 (a := 3) (s := 7) (by decide) (by decide)), if_pos (show GS22.2 5 (64 * 3 + 7) = 0 by decide +kernel)]
  rw [xv_ok (show f_X0_value X 3 9 = _ from s_value h iv_GS22 (a := 3) (s := 9) (by decide) (by decide)), if_pos (show GS22.2 5 (64 * 3 + 9) = 1 by decide +kernel)]
  rw [xv_ok (show f_X0_value X 3 15 = _ from s_value h iv_GS22 (a := 3) (s := 15) (by decide) (by decide)), if_pos (show GS22.2 5 (64 * 3 + 15) = (-2) by decide +kernel)]
  rw [xv_ok (show f_X0_isLawful X 3 = _ from s_isLawful h iv_GS22 (a := 3) (by decide)), if_neg (show ¬ bI (lwB GS22 4 3) = 0 by rw [lw_GS22_3]; decide)]
  rw [show f_L_least X 3 (-2) 15 15 = some X from s_Lleast h iv_GS22 (a := 3) (r0 := 15) (r1 := 15) (by decide) lw_GS22_3 (by decide +kernel), Option.bind_some]
  obtain ⟨X25, eX25, hX25, -⟩ := s_con h iv_GS22 (a := 1) (b := 1) (by decide) (by decide) (by decide)
  have hX25 : Sm GS23 X25 := by rw [← tb_GS23]; exact hX25
  rw [xv_ok (show f_X0_contract X 1 1 = _ from eX25), if_pos (show nI 4 = 4 by decide +kernel)]
  rw [xv_ok (show f_X0_value X25 4 0 = _ from s_value hX25 iv_GS23 (a := 4) (s := 0) (by decide) (by decide)), if_pos (show GS23.2 5 (64 * 4 + 0) = 0 by decide +kernel)]
  rw [xv_ok (show f_X0_value X25 4 1 = _ from s_value hX25 iv_GS23 (a := 4) (s := 1) (by decide) (by decide)), if_pos (show GS23.2 5 (64 * 4 + 1) = 0 by decide +kernel)]
  exact gp_guild_555 hX25
theorem gp_guild_368 {X : St} (h : Sm GS18 X) : f_L_guild_368 X = some 1 := by
  unfold f_L_guild_368
  obtain ⟨X21, eX21, hX21, -⟩ := s_weigh h iv_GS18 (e := 2) (x := 9) (by decide) (by decide) (by decide)
  have hX21 : Sm GS19 X21 := hX21
  rw [xv_ok (show f_X0_weigh X 2 9 = _ from eX21), if_pos (show GS18.2 4 2 = 0 by decide +kernel)]
  obtain ⟨X22, eX22, hX22, -⟩ := s_weigh hX21 iv_GS19 (e := 2) (x := (-1)) (by decide) (by decide) (by decide)
  have hX22 : Sm GS20 X22 := hX22
  rw [xv_ok (show f_X0_weigh X21 2 (-1) = _ from eX22), if_pos (show GS19.2 4 2 = 9 by decide +kernel)]
  obtain ⟨X23, eX23, hX23, -⟩ := s_make hX22 iv_GS20 (j := 4) (by decide) (by decide)
  have hX23 : Sm GS21 X23 := by rw [← tb_GS21]; exact hX23
  rw [xv_ok (show f_X0_make X22 4 = _ from eX23), if_pos (show nI 2 = 2 by decide +kernel)]
  rw [xv_ok (show f_X0_value X23 2 15 = _ from s_value hX23 iv_GS21 (a := 2) (s := 15) (by decide) (by decide)), if_pos (show GS21.2 5 (64 * 2 + 15) = (-2) by decide +kernel)]
  rw [xv_ok (show f_X0_value X23 2 10 = _ from s_value hX23 iv_GS21 (a := 2) (s := 10) (by decide) (by decide)), if_pos (show GS21.2 5 (64 * 2 + 10) = 3 by decide +kernel)]
  rw [xv_ok (show f_X0_isLawful X23 2 = _ from s_isLawful hX23 iv_GS21 (a := 2) (by decide)), if_neg (show ¬ bI (lwB GS21 4 2) = 0 by rw [lw_GS21_2]; decide)]
  rw [xv_ok (show f_X0_rises X23 2 = _ from s_rises hX23 iv_GS21 (a := 2) (by decide)), if_pos (show bI (rsB GS21 4 2) = 0 by decide +kernel)]
  rw [show f_L_least X23 2 (-5) 5 13 = some X23 from s_Lleast hX23 iv_GS21 (a := 2) (r0 := 5) (r1 := 13) (by decide) lw_GS21_2 (by decide +kernel), Option.bind_some]
  obtain ⟨X24, eX24, hX24, -⟩ := s_sum hX23 iv_GS21 (a := 1) (b := 2) (by decide) (by decide) (by decide)
  have hX24 : Sm GS22 X24 := by rw [← tb_GS22]; exact hX24
  rw [xv_ok (show f_X0_sum X23 1 2 = _ from eX24), if_pos (show nI 3 = 3 by decide +kernel)]
  exact gp_guild_462 hX24
theorem gp_guild_278 {X : St} (h : Sm GS16 X) : f_L_guild_278 X = some 1 := by
  unfold f_L_guild_278
  rw [xv_ok (show f_X0_value X 1 2 = _ from s_value h iv_GS16 (a := 1) (s := 2) (by decide) (by decide)), if_pos (show GS16.2 5 (64 * 1 + 2) = 8 by decide +kernel)]
  rw [xv_ok (show f_X0_value X 1 3 = _ from s_value h iv_GS16 (a := 1) (s := 3) (by decide) (by decide)), if_pos (show GS16.2 5 (64 * 1 + 3) = 5 by decide +kernel)]
  rw [xv_ok (show f_X0_value X 1 10 = _ from s_value h iv_GS16 (a := 1) (s := 10) (by decide) (by decide)), if_pos (show GS16.2 5 (64 * 1 + 10) = 10 by decide +kernel)]
  rw [xv_ok (show f_X0_value X 1 15 = _ from s_value h iv_GS16 (a := 1) (s := 15) (by decide) (by decide)), if_pos (show GS16.2 5 (64 * 1 + 15) = 0 by decide +kernel)]
  rw [xv_ok (show f_X0_isLawful X 1 = _ from s_isLawful h iv_GS16 (a := 1) (by decide)), if_neg (show ¬ bI (lwB GS16 4 1) = 0 by rw [lw_GS16_1]; decide)]
  rw [xv_ok (show f_X0_rises X 1 = _ from s_rises h iv_GS16 (a := 1) (by decide)), if_pos (show bI (rsB GS16 4 1) = 0 by decide +kernel)]
  rw [show f_L_least X 1 0 0 15 = some X from s_Lleast h iv_GS16 (a := 1) (r0 := 0) (r1 := 15) (by decide) lw_GS16_1 (by decide +kernel), Option.bind_some]
  obtain ⟨X19, eX19, hX19, -⟩ := s_weigh h iv_GS16 (e := 0) (x := (-4)) (by decide) (by decide) (by decide)
  have hX19 : Sm GS17 X19 := hX19
  rw [xv_ok (show f_X0_weigh X 0 (-4) = _ from eX19), if_pos (show GS16.2 4 0 = 0 by decide +kernel)]
  obtain ⟨X20, eX20, hX20, -⟩ := s_weigh hX19 iv_GS17 (e := 1) (x := 3) (by decide) (by decide) (by decide)
  have hX20 : Sm GS18 X20 := hX20
  rw [xv_ok (show f_X0_weigh X19 1 3 = _ from eX20), if_pos (show GS17.2 4 1 = 0 by decide +kernel)]
  exact gp_guild_368 hX20
theorem gp_guild_184 {X : St} (h : Sm GS10 X) : f_L_guild_184 X = some 1 := by
  unfold f_L_guild_184
  rw [show f_L_least X 0 0 0 0 = some X from s_Lleast h iv_GS10 (a := 0) (r0 := 0) (r1 := 0) (by decide) lw_GS10_0 (by decide +kernel), Option.bind_some]
  obtain ⟨X13, eX13, hX13, -⟩ := s_cover h iv_GS10 (j := 0) (k := 0) (by decide) (by decide) false
  have hX13 : Sm GS11 X13 := hX13
  rw [xv_ok (show f_X0_cover X 0 0 0 = _ from eX13), if_neg (show ¬ bI ((nt (GS10.2 0 0)).testBit 0) = 0 by decide +kernel)]
  rw [xv_ok (show f_X0_value X13 0 1 = _ from s_value hX13 iv_GS11 (a := 0) (s := 1) (by decide) (by decide)), if_pos (show GS11.2 5 (64 * 0 + 1) = 2 by decide +kernel)]
  obtain ⟨X14, eX14, hX14, -⟩ := s_edge hX13 iv_GS11 (a := 0) (b := 1) (w := 4) (by decide) (by decide) (by decide) (by decide)
  have hX14 : Sm GS12 X14 := hX14
  rw [xv_ok (show f_X0_edge X13 0 1 4 = _ from eX14), if_pos (show GS11.2 1 (6 * 0 + 1) = 0 by decide +kernel)]
  obtain ⟨X15, eX15, hX15, -⟩ := s_edge hX14 iv_GS12 (a := 1) (b := 0) (w := 5) (by decide) (by decide) (by decide) (by decide)
  have hX15 : Sm GS13 X15 := hX15
  rw [xv_ok (show f_X0_edge X14 1 0 5 = _ from eX15), if_pos (show GS12.2 1 (6 * 1 + 0) = 4 by decide +kernel)]
  obtain ⟨X16, eX16, hX16, -⟩ := s_edge hX15 iv_GS13 (a := 1) (b := 2) (w := 3) (by decide) (by decide) (by decide) (by decide)
  have hX16 : Sm GS14 X16 := hX16
  rw [xv_ok (show f_X0_edge X15 1 2 3 = _ from eX16), if_pos (show GS13.2 1 (6 * 1 + 2) = 0 by decide +kernel)]
  obtain ⟨X17, eX17, hX17, -⟩ := s_edge hX16 iv_GS14 (a := 0) (b := 3) (w := 2) (by decide) (by decide) (by decide) (by decide)
  have hX17 : Sm GS15 X17 := hX17
  rw [xv_ok (show f_X0_edge X16 0 3 2 = _ from eX17), if_pos (show GS14.2 1 (6 * 0 + 3) = 0 by decide +kernel)]
  obtain ⟨X18, eX18, hX18, -⟩ := s_make hX17 iv_GS15 (j := 1) (by decide) (by decide)
  have hX18 : Sm GS16 X18 := by rw [← tb_GS16]; exact hX18
  rw [xv_ok (show f_X0_make X17 1 = _ from eX18), if_pos (show nI 1 = 1 by decide +kernel)]
  rw [xv_ok (show f_X0_value X18 1 1 = _ from s_value hX18 iv_GS16 (a := 1) (s := 1) (by decide) (by decide)), if_pos (show GS16.2 5 (64 * 1 + 1) = 7 by decide +kernel)]
  exact gp_guild_278 hX18
theorem gp_guild_97 {X : St} (h : Sm GS7 X) : f_L_guild_97 X = some 1 := by
  unfold f_L_guild_97
  obtain ⟨X10, eX10, hX10, -⟩ := s_cover h iv_GS7 (j := 3) (k := 8) (by decide) (by decide) false
  have hX10 : Sm GS8 X10 := hX10
  rw [xv_ok (show f_X0_cover X 3 8 0 = _ from eX10), if_neg (show ¬ bI ((nt (GS7.2 0 3)).testBit 8) = 0 by decide +kernel)]
  obtain ⟨X11, eX11, hX11, -⟩ := s_cover hX10 iv_GS8 (j := 3) (k := 9) (by decide) (by decide) true
  have hX11 : Sm GS9 X11 := hX11
  rw [xv_ok (show f_X0_cover X10 3 9 1 = _ from eX11), if_neg (show ¬ bI ((nt (GS8.2 0 3)).testBit 9) = 0 by decide +kernel)]
  obtain ⟨X12, eX12, hX12, -⟩ := s_make hX11 iv_GS9 (j := 0) (by decide) (by decide)
  have hX12 : Sm GS10 X12 := by rw [← tb_GS10]; exact hX12
  rw [xv_ok (show f_X0_make X11 0 = _ from eX12), if_pos (show nI 0 = 0 by decide +kernel)]
  rw [xv_ok (show f_X0_value X12 0 0 = _ from s_value hX12 iv_GS10 (a := 0) (s := 0) (by decide) (by decide)), if_pos (show GS10.2 5 (64 * 0 + 0) = 0 by decide +kernel)]
  rw [xv_ok (show f_X0_value X12 0 3 = _ from s_value hX12 iv_GS10 (a := 0) (s := 3) (by decide) (by decide)), if_pos (show GS10.2 5 (64 * 0 + 3) = 3 by decide +kernel)]
  rw [xv_ok (show f_X0_value X12 0 6 = _ from s_value hX12 iv_GS10 (a := 0) (s := 6) (by decide) (by decide)), if_pos (show GS10.2 5 (64 * 0 + 6) = 2 by decide +kernel)]
  rw [xv_ok (show f_X0_value X12 0 15 = _ from s_value hX12 iv_GS10 (a := 0) (s := 15) (by decide) (by decide)), if_pos (show GS10.2 5 (64 * 0 + 15) = 4 by decide +kernel)]
  rw [xv_ok (show f_X0_isLawful X12 0 = _ from s_isLawful hX12 iv_GS10 (a := 0) (by decide)), if_neg (show ¬ bI (lwB GS10 4 0) = 0 by rw [lw_GS10_0]; decide)]
  rw [xv_ok (show f_X0_rises X12 0 = _ from s_rises hX12 iv_GS10 (a := 0) (by decide)), if_neg (show ¬ bI (rsB GS10 4 0) = 0 by decide +kernel)]
  exact gp_guild_184 hX12
theorem gp_guild : f_L_guild = some 1 := by
  have h : Sm GS0 S0X := sm_rfl S0X
  unfold f_L_guild
  obtain ⟨X1, eX1, hX1⟩ := s_refuses h iv_GS0
  rw [show f_L_refuses S0X 4 0 = some X1 from eX1, Option.bind_some]
  obtain ⟨X2, eX2, hX2⟩ := s_common hX1 iv_GS0
  rw [eX2, Option.bind_some, if_pos (show nI (cmF GS0 4 (2 ^ 4)) = 1 from congrArg nI (cm_chk (J := 1) (m := 1) (by decide +kernel)))]
  obtain ⟨X3, eX3, hX3, -⟩ := s_cover hX2 iv_GS0 (j := 0) (k := 0) (by decide) (by decide) true
  have hX3 : Sm GS1 X3 := hX3
  rw [xv_ok (show f_X0_cover X2 0 0 1 = _ from eX3), if_pos (show bI ((nt (GS0.2 0 0)).testBit 0) = 0 by decide +kernel)]
  obtain ⟨X4, eX4, hX4, -⟩ := s_cover hX3 iv_GS1 (j := 0) (k := 1) (by decide) (by decide) true
  have hX4 : Sm GS2 X4 := hX4
  rw [xv_ok (show f_X0_cover X3 0 1 1 = _ from eX4), if_pos (show bI ((nt (GS1.2 0 0)).testBit 1) = 0 by decide +kernel)]
  obtain ⟨X5, eX5, hX5, -⟩ := s_cover hX4 iv_GS2 (j := 1) (k := 1) (by decide) (by decide) true
  have hX5 : Sm GS3 X5 := hX5
  rw [xv_ok (show f_X0_cover X4 1 1 1 = _ from eX5), if_pos (show bI ((nt (GS2.2 0 1)).testBit 1) = 0 by decide +kernel)]
  obtain ⟨X6, eX6, hX6, -⟩ := s_cover hX5 iv_GS3 (j := 1) (k := 2) (by decide) (by decide) true
  have hX6 : Sm GS4 X6 := hX6
  rw [xv_ok (show f_X0_cover X5 1 2 1 = _ from eX6), if_pos (show bI ((nt (GS3.2 0 1)).testBit 2) = 0 by decide +kernel)]
  obtain ⟨X7, eX7, hX7, -⟩ := s_cover hX6 iv_GS4 (j := 2) (k := 2) (by decide) (by decide) true
  have hX7 : Sm GS5 X7 := hX7
  rw [xv_ok (show f_X0_cover X6 2 2 1 = _ from eX7), if_pos (show bI ((nt (GS4.2 0 2)).testBit 2) = 0 by decide +kernel)]
  obtain ⟨X8, eX8, hX8, -⟩ := s_cover hX7 iv_GS5 (j := 3) (k := 9) (by decide) (by decide) true
  have hX8 : Sm GS6 X8 := hX8
  rw [xv_ok (show f_X0_cover X7 3 9 1 = _ from eX8), if_pos (show bI ((nt (GS5.2 0 3)).testBit 9) = 0 by decide +kernel)]
  obtain ⟨X9, eX9, hX9, -⟩ := s_cover hX8 iv_GS6 (j := 3) (k := 8) (by decide) (by decide) true
  have hX9 : Sm GS7 X9 := hX9
  rw [xv_ok (show f_X0_cover X8 3 8 1 = _ from eX9), if_pos (show bI ((nt (GS6.2 0 3)).testBit 8) = 0 by decide +kernel)]
  exact gp_guild_97 hX9

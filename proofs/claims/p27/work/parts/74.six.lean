/-! One element, and six: the calls. -/
theorem gp_six_489 {X : St} (h : Sm HS50 X) : f_L_six_489 X = some 1 := by
  unfold f_L_six_489
  obtain ⟨X55, eX55, hX55⟩ := s_refuses h iv_HS50
  rw [show f_L_refuses X 6 8 = some X55 from eX55, Option.bind_some]
theorem gp_six_387 {X : St} (h : Sm HS46 X) : f_L_six_387 X = some 1 := by
  unfold f_L_six_387
  obtain ⟨X48, eX48, hX48, -⟩ := s_con h iv_HS46 (a := 6) (b := 1) (by decide) (by decide) (by decide)
  have hX48 : Sm HS47 X48 := by rw [← tb_HS47]; exact hX48
  rw [xv_ok (show f_X0_contract X 6 1 = _ from eX48), if_pos (show nI 7 = 7 by decide +kernel)]
  rw [xv_ok (show f_X0_value X48 7 62 = _ from s_value hX48 iv_HS47 (a := 7) (s := 62) (by decide) (by decide)), if_pos (show HS47.2 5 (64 * 7 + 62) = (-3200) by decide +kernel)]
  rw [show f_L_least X48 7 (-3200) 62 63 = some X48 from s_Lleast hX48 iv_HS47 (a := 7) (r0 := 62) (r1 := 63) (by decide) lw_HS47_7 (by decide +kernel), Option.bind_some]
  obtain ⟨X49, eX49, hX49⟩ := s_common hX48 iv_HS47
  rw [eX49, Option.bind_some, if_pos (show nI (cmF HS47 6 (2 ^ 6)) = 1 from congrArg nI (cm_chk (J := 1) (m := 1) (by decide +kernel)))]
  obtain ⟨X50, eX50, hX50, -⟩ := s_room hX49 iv_HS47 (f := 0) (c := 0) (w := 6) (by decide) (by decide) (by decide)
  have hX50 : Sm HS48 X50 := hX50
  rw [xv_ok (show f_X0_room X49 0 0 6 = _ from eX50), if_pos (show HS47.2 3 (6 * 0 + 0) = 1 by decide +kernel)]
  obtain ⟨X51, eX51, hX51, -⟩ := s_room hX50 iv_HS48 (f := 1) (c := 0) (w := 4) (by decide) (by decide) (by decide)
  have hX51 : Sm HS49 X51 := hX51
  rw [xv_ok (show f_X0_room X50 1 0 4 = _ from eX51), if_pos (show HS48.2 3 (6 * 1 + 0) = 1 by decide +kernel)]
  obtain ⟨X52, eX52, hX52⟩ := s_common hX51 iv_HS49
  rw [eX52, Option.bind_some, if_pos (show nI (cmF HS49 6 (2 ^ 6)) = 4 from congrArg nI (cm_chk (J := 15) (m := 4) (by decide +kernel)))]
  obtain ⟨X53, eX53, hX53, -⟩ := s_room hX52 iv_HS49 (f := 0) (c := 0) (w := 0) (by decide) (by decide) (by decide)
  have hX53 : Sm HS50 X53 := hX53
  rw [xv_ok (show f_X0_room X52 0 0 0 = _ from eX53), if_pos (show HS49.2 3 (6 * 0 + 0) = 6 by decide +kernel)]
  obtain ⟨X54, eX54, hX54⟩ := s_common hX53 iv_HS50
  rw [eX54, Option.bind_some, if_pos (show nI (cmF HS50 6 (2 ^ 6)) = 0 from congrArg nI (cm_chk (J := 0) (m := 0) (by decide +kernel)))]
  exact gp_six_489 hX54
theorem gp_six_288 {X : St} (h : Sm HS41 X) : f_L_six_288 X = some 1 := by
  unfold f_L_six_288
  rw [xv_ok (show f_X0_value X 1 63 = _ from s_value h iv_HS41 (a := 1) (s := 63) (by decide) (by decide)), if_pos (show HS41.2 5 (64 * 1 + 63) = 7 by decide +kernel)]
  rw [show f_L_share X 1 5 840 = some X from s_Lshare h iv_HS41 (a := 1) (e := 5) (by decide) (by decide) (by decide +kernel), Option.bind_some]
  rw [show f_L_share X 0 3 0 = some X from s_Lshare h iv_HS41 (a := 0) (e := 3) (by decide) (by decide) (by decide +kernel), Option.bind_some]
  obtain ⟨X43, eX43, hX43, -⟩ := s_sum h iv_HS41 (a := 0) (b := 0) (by decide) (by decide) (by decide)
  have hX43 : Sm HS42 X43 := by rw [← tb_HS42]; exact hX43
  rw [xv_ok (show f_X0_sum X 0 0 = _ from eX43), if_pos (show nI 2 = 2 by decide +kernel)]
  obtain ⟨X44, eX44, hX44, -⟩ := s_sum hX43 iv_HS42 (a := 2) (b := 2) (by decide) (by decide) (by decide)
  have hX44 : Sm HS43 X44 := by rw [← tb_HS43]; exact hX44
  rw [xv_ok (show f_X0_sum X43 2 2 = _ from eX44), if_pos (show nI 3 = 3 by decide +kernel)]
  obtain ⟨X45, eX45, hX45, -⟩ := s_sum hX44 iv_HS43 (a := 3) (b := 3) (by decide) (by decide) (by decide)
  have hX45 : Sm HS44 X45 := by rw [← tb_HS44]; exact hX45
  rw [xv_ok (show f_X0_sum X44 3 3 = _ from eX45), if_pos (show nI 4 = 4 by decide +kernel)]
  obtain ⟨X46, eX46, hX46, -⟩ := s_sum hX45 iv_HS44 (a := 4) (b := 4) (by decide) (by decide) (by decide)
  have hX46 : Sm HS45 X46 := by rw [← tb_HS45]; exact hX46
  rw [xv_ok (show f_X0_sum X45 4 4 = _ from eX46), if_pos (show nI 5 = 5 by decide +kernel)]
  obtain ⟨X47, eX47, hX47, -⟩ := s_sum hX46 iv_HS45 (a := 5) (b := 5) (by decide) (by decide) (by decide)
  have hX47 : Sm HS46 X47 := by rw [← tb_HS46]; exact hX47
  rw [xv_ok (show f_X0_sum X46 5 5 = _ from eX47), if_pos (show nI 6 = 6 by decide +kernel)]
  rw [xv_ok (show f_X0_value X47 6 7 = _ from s_value hX47 iv_HS46 (a := 6) (s := 7) (by decide) (by decide)), if_pos (show HS46.2 5 (64 * 6 + 7) = 5760 by decide +kernel)]
  exact gp_six_387 hX47
theorem gp_six_l6 {X : St} (h : Sm HS39 X) : f_L_six_129 1 X (nI 6) = some 1 := by
  rw [f_L_six_129, if_pos (show (6 : Int32) ≤ nI 6 by decide)]
  obtain ⟨X41, eX41, hX41, -⟩ := s_make h iv_HS39 (j := 1) (by decide) (by decide)
  have hX41 : Sm HS40 X41 := by rw [← tb_HS40]; exact hX41
  rw [xv_ok (show f_X0_make X 1 = _ from eX41), if_pos (show nI 0 = 0 by decide +kernel)]
  rw [xv_ok (show f_X0_value X41 0 7 = _ from s_value hX41 iv_HS40 (a := 0) (s := 7) (by decide) (by decide)), if_pos (show HS40.2 5 (64 * 0 + 7) = 180 by decide +kernel)]
  rw [xv_ok (show f_X0_value X41 0 1 = _ from s_value hX41 iv_HS40 (a := 0) (s := 1) (by decide) (by decide)), if_pos (show HS40.2 5 (64 * 0 + 1) = 100 by decide +kernel)]
  rw [xv_ok (show f_X0_best X41 0 6 = _ from s_best hX41 iv_HS40 (a := 0) (m := 6) (by decide) (by decide)), if_pos (show mxF (rowf HS40 0) 6 (2 ^ 6) = 180 from mx_chk (i0 := 7) (by decide +kernel))]
  rw [xv_ok (show f_X0_greedy X41 0 6 = _ from s_greedy hX41 iv_HS40 (a := 0) (m := 6) (by decide) (by decide)), if_pos (show nI (gW HS40 0 6 6 70 0) = 7 by decide +kernel)]
  rw [xv_ok (show f_X0_greedy X41 0 2 = _ from s_greedy hX41 iv_HS40 (a := 0) (m := 2) (by decide) (by decide)), if_pos (show nI (gW HS40 0 6 2 70 0) = 3 by decide +kernel)]
  rw [show f_L_least X41 0 0 0 63 = some X41 from s_Lleast hX41 iv_HS40 (a := 0) (r0 := 0) (r1 := 63) (by decide) lw_HS40_0 (by decide +kernel), Option.bind_some]
  obtain ⟨X42, eX42, hX42, -⟩ := s_make hX41 iv_HS40 (j := 0) (by decide) (by decide)
  have hX42 : Sm HS41 X42 := by rw [← tb_HS41]; exact hX42
  rw [xv_ok (show f_X0_make X41 0 = _ from eX42), if_pos (show nI 1 = 1 by decide +kernel)]
  exact gp_six_288 hX42
theorem gp_six_l5 {X : St} (h : Sm HS31 X) : f_L_six_129 2 X (nI 5) = some 1 := by
  rw [f_L_six_129, if_neg (show ¬ (6 : Int32) ≤ nI 5 by decide)]
  obtain ⟨X33, eX33, hX33, -⟩ := s_weigh h iv_HS31 (e := 5) (x := 20) (by decide) (by decide) (by decide)
  have hX33 : Sm HS32 X33 := hX33
  rw [xv_ok (show f_X0_weigh X (nI 5) 20 = _ from eX33), if_pos (show HS31.2 4 5 = 0 by decide +kernel)]
  obtain ⟨X34, eX34, hX34, -⟩ := s_cover hX33 iv_HS32 (j := 5) (k := 5) (by decide) (by decide) true
  have hX34 : Sm HS33 X34 := hX34
  rw [xv_ok (show f_X0_cover X33 (nI 5) (nI 5) 1 = _ from eX34), if_pos (show bI ((nt (HS32.2 0 5)).testBit 5) = 0 by decide +kernel)]
  obtain ⟨X35, eX35, hX35, -⟩ := s_cover hX34 iv_HS33 (j := 5) (k := 9) (by decide) (by decide) true
  have hX35 : Sm HS34 X35 := hX35
  rw [xv_ok (show f_X0_cover X34 (nI 5) 9 1 = _ from eX35), if_pos (show bI ((nt (HS33.2 0 5)).testBit 9) = 0 by decide +kernel)]
  rw [show (0 : Int32) = nI 0 from rfl]
  obtain ⟨X36, eX36, hX36, -⟩ := s_edge hX35 iv_HS34 (a := 5) (b := 0) (w := 20) (by decide) (by decide) (by decide) (by decide)
  have hX36 : Sm HS35 X36 := hX36
  rw [f_L_six_170, if_neg (show ¬ nI 5 ≤ nI 0 by decide), xv_ok (show f_X0_edge X35 (nI 5) (nI 0) 20 = _ from eX36), if_pos (show HS34.2 1 (6 * 5 + 0) = 0 by decide +kernel), bnd_eq, show nI 0 + 1 = nI 1 from rfl]
  obtain ⟨X37, eX37, hX37, -⟩ := s_edge hX36 iv_HS35 (a := 5) (b := 1) (w := 20) (by decide) (by decide) (by decide) (by decide)
  have hX37 : Sm HS36 X37 := hX37
  rw [f_L_six_170, if_neg (show ¬ nI 5 ≤ nI 1 by decide), xv_ok (show f_X0_edge X36 (nI 5) (nI 1) 20 = _ from eX37), if_pos (show HS35.2 1 (6 * 5 + 1) = 0 by decide +kernel), bnd_eq, show nI 1 + 1 = nI 2 from rfl]
  obtain ⟨X38, eX38, hX38, -⟩ := s_edge hX37 iv_HS36 (a := 5) (b := 2) (w := 20) (by decide) (by decide) (by decide) (by decide)
  have hX38 : Sm HS37 X38 := hX38
  rw [f_L_six_170, if_neg (show ¬ nI 5 ≤ nI 2 by decide), xv_ok (show f_X0_edge X37 (nI 5) (nI 2) 20 = _ from eX38), if_pos (show HS36.2 1 (6 * 5 + 2) = 0 by decide +kernel), bnd_eq, show nI 2 + 1 = nI 3 from rfl]
  obtain ⟨X39, eX39, hX39, -⟩ := s_edge hX38 iv_HS37 (a := 5) (b := 3) (w := 20) (by decide) (by decide) (by decide) (by decide)
  have hX39 : Sm HS38 X39 := hX39
  rw [f_L_six_170, if_neg (show ¬ nI 5 ≤ nI 3 by decide), xv_ok (show f_X0_edge X38 (nI 5) (nI 3) 20 = _ from eX39), if_pos (show HS37.2 1 (6 * 5 + 3) = 0 by decide +kernel), bnd_eq, show nI 3 + 1 = nI 4 from rfl]
  obtain ⟨X40, eX40, hX40, -⟩ := s_edge hX39 iv_HS38 (a := 5) (b := 4) (w := 20) (by decide) (by decide) (by decide) (by decide)
  have hX40 : Sm HS39 X40 := hX40
  rw [f_L_six_170, if_neg (show ¬ nI 5 ≤ nI 4 by decide), xv_ok (show f_X0_edge X39 (nI 5) (nI 4) 20 = _ from eX40), if_pos (show HS38.2 1 (6 * 5 + 4) = 0 by decide +kernel), bnd_eq, show nI 4 + 1 = nI 5 from rfl]
  rw [f_L_six_170, if_pos (show nI 5 ≤ nI 5 by decide), bnd_eq, show nI 5 + 1 = nI 6 from rfl]
  exact gp_six_l6 hX40
theorem gp_six_l4 {X : St} (h : Sm HS24 X) : f_L_six_129 3 X (nI 4) = some 1 := by
  rw [f_L_six_129, if_neg (show ¬ (6 : Int32) ≤ nI 4 by decide)]
  obtain ⟨X26, eX26, hX26, -⟩ := s_weigh h iv_HS24 (e := 4) (x := 20) (by decide) (by decide) (by decide)
  have hX26 : Sm HS25 X26 := hX26
  rw [xv_ok (show f_X0_weigh X (nI 4) 20 = _ from eX26), if_pos (show HS24.2 4 4 = 0 by decide +kernel)]
  obtain ⟨X27, eX27, hX27, -⟩ := s_cover hX26 iv_HS25 (j := 4) (k := 4) (by decide) (by decide) true
  have hX27 : Sm HS26 X27 := hX27
  rw [xv_ok (show f_X0_cover X26 (nI 4) (nI 4) 1 = _ from eX27), if_pos (show bI ((nt (HS25.2 0 4)).testBit 4) = 0 by decide +kernel)]
  obtain ⟨X28, eX28, hX28, -⟩ := s_cover hX27 iv_HS26 (j := 4) (k := 9) (by decide) (by decide) true
  have hX28 : Sm HS27 X28 := hX28
  rw [xv_ok (show f_X0_cover X27 (nI 4) 9 1 = _ from eX28), if_pos (show bI ((nt (HS26.2 0 4)).testBit 9) = 0 by decide +kernel)]
  rw [show (0 : Int32) = nI 0 from rfl]
  obtain ⟨X29, eX29, hX29, -⟩ := s_edge hX28 iv_HS27 (a := 4) (b := 0) (w := 20) (by decide) (by decide) (by decide) (by decide)
  have hX29 : Sm HS28 X29 := hX29
  rw [f_L_six_170, if_neg (show ¬ nI 4 ≤ nI 0 by decide), xv_ok (show f_X0_edge X28 (nI 4) (nI 0) 20 = _ from eX29), if_pos (show HS27.2 1 (6 * 4 + 0) = 0 by decide +kernel), bnd_eq, show nI 0 + 1 = nI 1 from rfl]
  obtain ⟨X30, eX30, hX30, -⟩ := s_edge hX29 iv_HS28 (a := 4) (b := 1) (w := 20) (by decide) (by decide) (by decide) (by decide)
  have hX30 : Sm HS29 X30 := hX30
  rw [f_L_six_170, if_neg (show ¬ nI 4 ≤ nI 1 by decide), xv_ok (show f_X0_edge X29 (nI 4) (nI 1) 20 = _ from eX30), if_pos (show HS28.2 1 (6 * 4 + 1) = 0 by decide +kernel), bnd_eq, show nI 1 + 1 = nI 2 from rfl]
  obtain ⟨X31, eX31, hX31, -⟩ := s_edge hX30 iv_HS29 (a := 4) (b := 2) (w := 20) (by decide) (by decide) (by decide) (by decide)
  have hX31 : Sm HS30 X31 := hX31
  rw [f_L_six_170, if_neg (show ¬ nI 4 ≤ nI 2 by decide), xv_ok (show f_X0_edge X30 (nI 4) (nI 2) 20 = _ from eX31), if_pos (show HS29.2 1 (6 * 4 + 2) = 0 by decide +kernel), bnd_eq, show nI 2 + 1 = nI 3 from rfl]
  obtain ⟨X32, eX32, hX32, -⟩ := s_edge hX31 iv_HS30 (a := 4) (b := 3) (w := 20) (by decide) (by decide) (by decide) (by decide)
  have hX32 : Sm HS31 X32 := hX32
  rw [f_L_six_170, if_neg (show ¬ nI 4 ≤ nI 3 by decide), xv_ok (show f_X0_edge X31 (nI 4) (nI 3) 20 = _ from eX32), if_pos (show HS30.2 1 (6 * 4 + 3) = 0 by decide +kernel), bnd_eq, show nI 3 + 1 = nI 4 from rfl]
  rw [f_L_six_170, if_pos (show nI 4 ≤ nI 4 by decide), bnd_eq, show nI 4 + 1 = nI 5 from rfl]
  exact gp_six_l5 hX32
theorem gp_six_l3 {X : St} (h : Sm HS18 X) : f_L_six_129 4 X (nI 3) = some 1 := by
  rw [f_L_six_129, if_neg (show ¬ (6 : Int32) ≤ nI 3 by decide)]
  obtain ⟨X20, eX20, hX20, -⟩ := s_weigh h iv_HS18 (e := 3) (x := 20) (by decide) (by decide) (by decide)
  have hX20 : Sm HS19 X20 := hX20
  rw [xv_ok (show f_X0_weigh X (nI 3) 20 = _ from eX20), if_pos (show HS18.2 4 3 = 0 by decide +kernel)]
  obtain ⟨X21, eX21, hX21, -⟩ := s_cover hX20 iv_HS19 (j := 3) (k := 3) (by decide) (by decide) true
  have hX21 : Sm HS20 X21 := hX21
  rw [xv_ok (show f_X0_cover X20 (nI 3) (nI 3) 1 = _ from eX21), if_pos (show bI ((nt (HS19.2 0 3)).testBit 3) = 0 by decide +kernel)]
  obtain ⟨X22, eX22, hX22, -⟩ := s_cover hX21 iv_HS20 (j := 3) (k := 9) (by decide) (by decide) true
  have hX22 : Sm HS21 X22 := hX22
  rw [xv_ok (show f_X0_cover X21 (nI 3) 9 1 = _ from eX22), if_pos (show bI ((nt (HS20.2 0 3)).testBit 9) = 0 by decide +kernel)]
  rw [show (0 : Int32) = nI 0 from rfl]
  obtain ⟨X23, eX23, hX23, -⟩ := s_edge hX22 iv_HS21 (a := 3) (b := 0) (w := 20) (by decide) (by decide) (by decide) (by decide)
  have hX23 : Sm HS22 X23 := hX23
  rw [f_L_six_170, if_neg (show ¬ nI 3 ≤ nI 0 by decide), xv_ok (show f_X0_edge X22 (nI 3) (nI 0) 20 = _ from eX23), if_pos (show HS21.2 1 (6 * 3 + 0) = 0 by decide +kernel), bnd_eq, show nI 0 + 1 = nI 1 from rfl]
  obtain ⟨X24, eX24, hX24, -⟩ := s_edge hX23 iv_HS22 (a := 3) (b := 1) (w := 20) (by decide) (by decide) (by decide) (by decide)
  have hX24 : Sm HS23 X24 := hX24
  rw [f_L_six_170, if_neg (show ¬ nI 3 ≤ nI 1 by decide), xv_ok (show f_X0_edge X23 (nI 3) (nI 1) 20 = _ from eX24), if_pos (show HS22.2 1 (6 * 3 + 1) = 0 by decide +kernel), bnd_eq, show nI 1 + 1 = nI 2 from rfl]
  obtain ⟨X25, eX25, hX25, -⟩ := s_edge hX24 iv_HS23 (a := 3) (b := 2) (w := 20) (by decide) (by decide) (by decide) (by decide)
  have hX25 : Sm HS24 X25 := hX25
  rw [f_L_six_170, if_neg (show ¬ nI 3 ≤ nI 2 by decide), xv_ok (show f_X0_edge X24 (nI 3) (nI 2) 20 = _ from eX25), if_pos (show HS23.2 1 (6 * 3 + 2) = 0 by decide +kernel), bnd_eq, show nI 2 + 1 = nI 3 from rfl]
  rw [f_L_six_170, if_pos (show nI 3 ≤ nI 3 by decide), bnd_eq, show nI 3 + 1 = nI 4 from rfl]
  exact gp_six_l4 hX25
theorem gp_six_l2 {X : St} (h : Sm HS13 X) : f_L_six_129 5 X (nI 2) = some 1 := by
  rw [f_L_six_129, if_neg (show ¬ (6 : Int32) ≤ nI 2 by decide)]
  obtain ⟨X15, eX15, hX15, -⟩ := s_weigh h iv_HS13 (e := 2) (x := 20) (by decide) (by decide) (by decide)
  have hX15 : Sm HS14 X15 := hX15
  rw [xv_ok (show f_X0_weigh X (nI 2) 20 = _ from eX15), if_pos (show HS13.2 4 2 = 0 by decide +kernel)]
  obtain ⟨X16, eX16, hX16, -⟩ := s_cover hX15 iv_HS14 (j := 2) (k := 2) (by decide) (by decide) true
  have hX16 : Sm HS15 X16 := hX16
  rw [xv_ok (show f_X0_cover X15 (nI 2) (nI 2) 1 = _ from eX16), if_pos (show bI ((nt (HS14.2 0 2)).testBit 2) = 0 by decide +kernel)]
  obtain ⟨X17, eX17, hX17, -⟩ := s_cover hX16 iv_HS15 (j := 2) (k := 9) (by decide) (by decide) true
  have hX17 : Sm HS16 X17 := hX17
  rw [xv_ok (show f_X0_cover X16 (nI 2) 9 1 = _ from eX17), if_pos (show bI ((nt (HS15.2 0 2)).testBit 9) = 0 by decide +kernel)]
  rw [show (0 : Int32) = nI 0 from rfl]
  obtain ⟨X18, eX18, hX18, -⟩ := s_edge hX17 iv_HS16 (a := 2) (b := 0) (w := 20) (by decide) (by decide) (by decide) (by decide)
  have hX18 : Sm HS17 X18 := hX18
  rw [f_L_six_170, if_neg (show ¬ nI 2 ≤ nI 0 by decide), xv_ok (show f_X0_edge X17 (nI 2) (nI 0) 20 = _ from eX18), if_pos (show HS16.2 1 (6 * 2 + 0) = 0 by decide +kernel), bnd_eq, show nI 0 + 1 = nI 1 from rfl]
  obtain ⟨X19, eX19, hX19, -⟩ := s_edge hX18 iv_HS17 (a := 2) (b := 1) (w := 20) (by decide) (by decide) (by decide) (by decide)
  have hX19 : Sm HS18 X19 := hX19
  rw [f_L_six_170, if_neg (show ¬ nI 2 ≤ nI 1 by decide), xv_ok (show f_X0_edge X18 (nI 2) (nI 1) 20 = _ from eX19), if_pos (show HS17.2 1 (6 * 2 + 1) = 0 by decide +kernel), bnd_eq, show nI 1 + 1 = nI 2 from rfl]
  rw [f_L_six_170, if_pos (show nI 2 ≤ nI 2 by decide), bnd_eq, show nI 2 + 1 = nI 3 from rfl]
  exact gp_six_l3 hX19
theorem gp_six_l1 {X : St} (h : Sm HS9 X) : f_L_six_129 6 X (nI 1) = some 1 := by
  rw [f_L_six_129, if_neg (show ¬ (6 : Int32) ≤ nI 1 by decide)]
  obtain ⟨X11, eX11, hX11, -⟩ := s_weigh h iv_HS9 (e := 1) (x := 20) (by decide) (by decide) (by decide)
  have hX11 : Sm HS10 X11 := hX11
  rw [xv_ok (show f_X0_weigh X (nI 1) 20 = _ from eX11), if_pos (show HS9.2 4 1 = 0 by decide +kernel)]
  obtain ⟨X12, eX12, hX12, -⟩ := s_cover hX11 iv_HS10 (j := 1) (k := 1) (by decide) (by decide) true
  have hX12 : Sm HS11 X12 := hX12
  rw [xv_ok (show f_X0_cover X11 (nI 1) (nI 1) 1 = _ from eX12), if_pos (show bI ((nt (HS10.2 0 1)).testBit 1) = 0 by decide +kernel)]
  obtain ⟨X13, eX13, hX13, -⟩ := s_cover hX12 iv_HS11 (j := 1) (k := 9) (by decide) (by decide) true
  have hX13 : Sm HS12 X13 := hX13
  rw [xv_ok (show f_X0_cover X12 (nI 1) 9 1 = _ from eX13), if_pos (show bI ((nt (HS11.2 0 1)).testBit 9) = 0 by decide +kernel)]
  rw [show (0 : Int32) = nI 0 from rfl]
  obtain ⟨X14, eX14, hX14, -⟩ := s_edge hX13 iv_HS12 (a := 1) (b := 0) (w := 20) (by decide) (by decide) (by decide) (by decide)
  have hX14 : Sm HS13 X14 := hX14
  rw [f_L_six_170, if_neg (show ¬ nI 1 ≤ nI 0 by decide), xv_ok (show f_X0_edge X13 (nI 1) (nI 0) 20 = _ from eX14), if_pos (show HS12.2 1 (6 * 1 + 0) = 0 by decide +kernel), bnd_eq, show nI 0 + 1 = nI 1 from rfl]
  rw [f_L_six_170, if_pos (show nI 1 ≤ nI 1 by decide), bnd_eq, show nI 1 + 1 = nI 2 from rfl]
  exact gp_six_l2 hX14
theorem gp_six_l0 {X : St} (h : Sm HS6 X) : f_L_six_129 7 X (nI 0) = some 1 := by
  rw [f_L_six_129, if_neg (show ¬ (6 : Int32) ≤ nI 0 by decide)]
  obtain ⟨X8, eX8, hX8, -⟩ := s_weigh h iv_HS6 (e := 0) (x := 20) (by decide) (by decide) (by decide)
  have hX8 : Sm HS7 X8 := hX8
  rw [xv_ok (show f_X0_weigh X (nI 0) 20 = _ from eX8), if_pos (show HS6.2 4 0 = 0 by decide +kernel)]
  obtain ⟨X9, eX9, hX9, -⟩ := s_cover hX8 iv_HS7 (j := 0) (k := 0) (by decide) (by decide) true
  have hX9 : Sm HS8 X9 := hX9
  rw [xv_ok (show f_X0_cover X8 (nI 0) (nI 0) 1 = _ from eX9), if_pos (show bI ((nt (HS7.2 0 0)).testBit 0) = 0 by decide +kernel)]
  obtain ⟨X10, eX10, hX10, -⟩ := s_cover hX9 iv_HS8 (j := 0) (k := 9) (by decide) (by decide) true
  have hX10 : Sm HS9 X10 := hX10
  rw [xv_ok (show f_X0_cover X9 (nI 0) 9 1 = _ from eX10), if_pos (show bI ((nt (HS8.2 0 0)).testBit 9) = 0 by decide +kernel)]
  rw [show (0 : Int32) = nI 0 from rfl]
  rw [f_L_six_170, if_pos (show nI 0 ≤ nI 0 by decide), bnd_eq, show nI 0 + 1 = nI 1 from rfl]
  exact gp_six_l1 hX10
theorem gp_six_96 {X : St} (h : Sm HS4 X) : f_L_six_96 X = some 1 := by
  unfold f_L_six_96
  obtain ⟨X5, eX5, hX5, -⟩ := s_order_anew h iv_HS4 (e := 0) (by decide)
  have hX5 : Sm HS5 X5 := hX5
  rw [xv_ok (show f_X0_order X 0 = _ from eX5), if_pos (show (1 : Int32) = 1 by decide +kernel)]
  obtain ⟨X6, eX6, hX6, -⟩ := s_elements hX5 iv_HS5 (m := 6) (by decide) (by decide)
  have hX6 : Sm HS6 X6 := hX6
  rw [xv_ok (show f_X0_elements X5 6 = _ from eX6), if_pos (show nI 1 = 1 by decide +kernel)]
  obtain ⟨X7, eX7, hX7⟩ := s_refuses hX6 iv_HS6
  rw [show f_L_refuses X6 6 0 = some X7 from eX7, Option.bind_some]
  exact gp_six_l0 hX7
theorem gp_six : f_L_six = some 1 := by
  have h : Sm HS0 S0X := sm_rfl S0X
  unfold f_L_six
  obtain ⟨X1, eX1, hX1, -⟩ := s_elements h iv_HS0 (m := 1) (by decide) (by decide)
  have hX1 : Sm HS1 X1 := hX1
  rw [xv_ok (show f_X0_elements S0X 1 = _ from eX1), if_pos (show nI 4 = 4 by decide +kernel)]
  obtain ⟨X2, eX2, hX2, -⟩ := s_weigh hX1 iv_HS1 (e := 0) (x := (-20)) (by decide) (by decide) (by decide)
  have hX2 : Sm HS2 X2 := hX2
  rw [xv_ok (show f_X0_weigh X1 0 (-20) = _ from eX2), if_pos (show HS1.2 4 0 = 0 by decide +kernel)]
  obtain ⟨X3, eX3, hX3, -⟩ := s_make hX2 iv_HS2 (j := 4) (by decide) (by decide)
  have hX3 : Sm HS3 X3 := by rw [← tb_HS3]; exact hX3
  rw [xv_ok (show f_X0_make X2 4 = _ from eX3), if_pos (show nI 0 = 0 by decide +kernel)]
  rw [xv_ok (show f_X0_isLawful X3 0 = _ from s_isLawful hX3 iv_HS3 (a := 0) (by decide)), if_neg (show ¬ bI (lwB HS3 1 0) = 0 by rw [lw_HS3_0]; decide)]
  rw [show f_L_least X3 0 (-20) 1 1 = some X3 from s_Lleast hX3 iv_HS3 (a := 0) (r0 := 1) (r1 := 1) (by decide) lw_HS3_0 (by decide +kernel), Option.bind_some]
  rw [show f_L_share X3 0 0 (-20) = some X3 from s_Lshare hX3 iv_HS3 (a := 0) (e := 0) (by decide) (by decide) (by decide +kernel), Option.bind_some]
  rw [xv_ok (show f_X0_greedy X3 0 6 = _ from s_greedy hX3 iv_HS3 (a := 0) (m := 6) (by decide) (by decide)), if_pos (show nI (gW HS3 0 1 6 70 0) = 0 by decide +kernel)]
  obtain ⟨X4, eX4, hX4, -⟩ := s_order_more hX3 iv_HS3 (e := 0) (by decide) (by decide) (by decide +kernel)
  have hX4 : Sm HS4 X4 := hX4
  rw [xv_ok (show f_X0_order X3 0 = _ from eX4), if_pos (show nI (0 + 1) = 1 by decide +kernel)]
  rw [xv_ok (show f_X0_corner X4 0 0 = _ from s_corner hX4 iv_HS4 (a := 0) (e := 0) (k0 := 0) (by decide) (by decide) (by decide) (show HS4.2 6 0 = nI 0 by decide +kernel)), if_pos (show gI HS4 0 0 (ahF HS4 0) = (-20) by decide +kernel)]
  exact gp_six_96 hX4

/-! One element, and six: the states. -/
def HS0 : St := S0X
theorem iv_HS0 : Iv HS0 4 0 0 := by
  obtain ⟨_, _, _, h⟩ := fresh
  exact h
def HS1 : St := elS HS0 1
theorem iv_HS1 : Iv HS1 1 0 0 := (s_elements (sm_rfl HS0) iv_HS0 (m := 1) (by decide) (by decide)).choose_spec.2.2
def HS2 : St := weS HS1 0 (-20)
theorem iv_HS2 : Iv HS2 1 0 0 := (s_weigh (sm_rfl HS1) iv_HS1 (e := 0) (x := (-20)) (by decide) (by decide) (by decide)).choose_spec.2.2
def HS3 : St := nS HS2 1 0 (tb [0, (-20)])
theorem tb_HS3 : nS HS2 1 0 (tv HS2 1 4) = HS3 := tb_eq (by decide +kernel)
theorem iv_HS3 : Iv HS3 1 1 0 := by
  rw [← tb_HS3]
  exact (s_make (sm_rfl HS2) iv_HS2 (j := 4) (by decide) (by decide)).choose_spec.2.2
set_option maxRecDepth 100000 in
theorem lw_HS3_0 : lwB HS3 1 0 = true := by decide +kernel
def HS4 : St := ordS HS3 0 0
theorem iv_HS4 : Iv HS4 1 1 1 := (s_order_more (sm_rfl HS3) iv_HS3 (e := 0) (by decide) (by decide) (by decide +kernel)).choose_spec.2.2
def HS5 : St := ordS HS4 0 0
theorem iv_HS5 : Iv HS5 1 1 1 := (s_order_anew (sm_rfl HS4) iv_HS4 (e := 0) (by decide)).choose_spec.2.2
def HS6 : St := elS HS5 6
theorem iv_HS6 : Iv HS6 6 0 0 := (s_elements (sm_rfl HS5) iv_HS5 (m := 6) (by decide) (by decide)).choose_spec.2.2
def HS7 : St := weS HS6 0 20
theorem iv_HS7 : Iv HS7 6 0 0 := (s_weigh (sm_rfl HS6) iv_HS6 (e := 0) (x := 20) (by decide) (by decide) (by decide)).choose_spec.2.2
def HS8 : St := cvS HS7 true 0 0
theorem iv_HS8 : Iv HS8 6 0 0 := (s_cover (sm_rfl HS7) iv_HS7 (j := 0) (k := 0) (by decide) (by decide) true).choose_spec.2.2
def HS9 : St := cvS HS8 true 0 9
theorem iv_HS9 : Iv HS9 6 0 0 := (s_cover (sm_rfl HS8) iv_HS8 (j := 0) (k := 9) (by decide) (by decide) true).choose_spec.2.2
def HS10 : St := weS HS9 1 20
theorem iv_HS10 : Iv HS10 6 0 0 := (s_weigh (sm_rfl HS9) iv_HS9 (e := 1) (x := 20) (by decide) (by decide) (by decide)).choose_spec.2.2
def HS11 : St := cvS HS10 true 1 1
theorem iv_HS11 : Iv HS11 6 0 0 := (s_cover (sm_rfl HS10) iv_HS10 (j := 1) (k := 1) (by decide) (by decide) true).choose_spec.2.2
def HS12 : St := cvS HS11 true 1 9
theorem iv_HS12 : Iv HS12 6 0 0 := (s_cover (sm_rfl HS11) iv_HS11 (j := 1) (k := 9) (by decide) (by decide) true).choose_spec.2.2
def HS13 : St := egS HS12 1 0 20
theorem iv_HS13 : Iv HS13 6 0 0 := (s_edge (sm_rfl HS12) iv_HS12 (a := 1) (b := 0) (w := 20) (by decide) (by decide) (by decide) (by decide)).choose_spec.2.2
def HS14 : St := weS HS13 2 20
theorem iv_HS14 : Iv HS14 6 0 0 := (s_weigh (sm_rfl HS13) iv_HS13 (e := 2) (x := 20) (by decide) (by decide) (by decide)).choose_spec.2.2
def HS15 : St := cvS HS14 true 2 2
theorem iv_HS15 : Iv HS15 6 0 0 := (s_cover (sm_rfl HS14) iv_HS14 (j := 2) (k := 2) (by decide) (by decide) true).choose_spec.2.2
def HS16 : St := cvS HS15 true 2 9
theorem iv_HS16 : Iv HS16 6 0 0 := (s_cover (sm_rfl HS15) iv_HS15 (j := 2) (k := 9) (by decide) (by decide) true).choose_spec.2.2
def HS17 : St := egS HS16 2 0 20
theorem iv_HS17 : Iv HS17 6 0 0 := (s_edge (sm_rfl HS16) iv_HS16 (a := 2) (b := 0) (w := 20) (by decide) (by decide) (by decide) (by decide)).choose_spec.2.2
def HS18 : St := egS HS17 2 1 20
theorem iv_HS18 : Iv HS18 6 0 0 := (s_edge (sm_rfl HS17) iv_HS17 (a := 2) (b := 1) (w := 20) (by decide) (by decide) (by decide) (by decide)).choose_spec.2.2
def HS19 : St := weS HS18 3 20
theorem iv_HS19 : Iv HS19 6 0 0 := (s_weigh (sm_rfl HS18) iv_HS18 (e := 3) (x := 20) (by decide) (by decide) (by decide)).choose_spec.2.2
def HS20 : St := cvS HS19 true 3 3
theorem iv_HS20 : Iv HS20 6 0 0 := (s_cover (sm_rfl HS19) iv_HS19 (j := 3) (k := 3) (by decide) (by decide) true).choose_spec.2.2
def HS21 : St := cvS HS20 true 3 9
theorem iv_HS21 : Iv HS21 6 0 0 := (s_cover (sm_rfl HS20) iv_HS20 (j := 3) (k := 9) (by decide) (by decide) true).choose_spec.2.2
def HS22 : St := egS HS21 3 0 20
theorem iv_HS22 : Iv HS22 6 0 0 := (s_edge (sm_rfl HS21) iv_HS21 (a := 3) (b := 0) (w := 20) (by decide) (by decide) (by decide) (by decide)).choose_spec.2.2
def HS23 : St := egS HS22 3 1 20
theorem iv_HS23 : Iv HS23 6 0 0 := (s_edge (sm_rfl HS22) iv_HS22 (a := 3) (b := 1) (w := 20) (by decide) (by decide) (by decide) (by decide)).choose_spec.2.2
def HS24 : St := egS HS23 3 2 20
theorem iv_HS24 : Iv HS24 6 0 0 := (s_edge (sm_rfl HS23) iv_HS23 (a := 3) (b := 2) (w := 20) (by decide) (by decide) (by decide) (by decide)).choose_spec.2.2
def HS25 : St := weS HS24 4 20
theorem iv_HS25 : Iv HS25 6 0 0 := (s_weigh (sm_rfl HS24) iv_HS24 (e := 4) (x := 20) (by decide) (by decide) (by decide)).choose_spec.2.2
def HS26 : St := cvS HS25 true 4 4
theorem iv_HS26 : Iv HS26 6 0 0 := (s_cover (sm_rfl HS25) iv_HS25 (j := 4) (k := 4) (by decide) (by decide) true).choose_spec.2.2
def HS27 : St := cvS HS26 true 4 9
theorem iv_HS27 : Iv HS27 6 0 0 := (s_cover (sm_rfl HS26) iv_HS26 (j := 4) (k := 9) (by decide) (by decide) true).choose_spec.2.2
def HS28 : St := egS HS27 4 0 20
theorem iv_HS28 : Iv HS28 6 0 0 := (s_edge (sm_rfl HS27) iv_HS27 (a := 4) (b := 0) (w := 20) (by decide) (by decide) (by decide) (by decide)).choose_spec.2.2
def HS29 : St := egS HS28 4 1 20
theorem iv_HS29 : Iv HS29 6 0 0 := (s_edge (sm_rfl HS28) iv_HS28 (a := 4) (b := 1) (w := 20) (by decide) (by decide) (by decide) (by decide)).choose_spec.2.2
def HS30 : St := egS HS29 4 2 20
theorem iv_HS30 : Iv HS30 6 0 0 := (s_edge (sm_rfl HS29) iv_HS29 (a := 4) (b := 2) (w := 20) (by decide) (by decide) (by decide) (by decide)).choose_spec.2.2
def HS31 : St := egS HS30 4 3 20
theorem iv_HS31 : Iv HS31 6 0 0 := (s_edge (sm_rfl HS30) iv_HS30 (a := 4) (b := 3) (w := 20) (by decide) (by decide) (by decide) (by decide)).choose_spec.2.2
def HS32 : St := weS HS31 5 20
theorem iv_HS32 : Iv HS32 6 0 0 := (s_weigh (sm_rfl HS31) iv_HS31 (e := 5) (x := 20) (by decide) (by decide) (by decide)).choose_spec.2.2
def HS33 : St := cvS HS32 true 5 5
theorem iv_HS33 : Iv HS33 6 0 0 := (s_cover (sm_rfl HS32) iv_HS32 (j := 5) (k := 5) (by decide) (by decide) true).choose_spec.2.2
def HS34 : St := cvS HS33 true 5 9
theorem iv_HS34 : Iv HS34 6 0 0 := (s_cover (sm_rfl HS33) iv_HS33 (j := 5) (k := 9) (by decide) (by decide) true).choose_spec.2.2
def HS35 : St := egS HS34 5 0 20
theorem iv_HS35 : Iv HS35 6 0 0 := (s_edge (sm_rfl HS34) iv_HS34 (a := 5) (b := 0) (w := 20) (by decide) (by decide) (by decide) (by decide)).choose_spec.2.2
def HS36 : St := egS HS35 5 1 20
theorem iv_HS36 : Iv HS36 6 0 0 := (s_edge (sm_rfl HS35) iv_HS35 (a := 5) (b := 1) (w := 20) (by decide) (by decide) (by decide) (by decide)).choose_spec.2.2
def HS37 : St := egS HS36 5 2 20
theorem iv_HS37 : Iv HS37 6 0 0 := (s_edge (sm_rfl HS36) iv_HS36 (a := 5) (b := 2) (w := 20) (by decide) (by decide) (by decide) (by decide)).choose_spec.2.2
def HS38 : St := egS HS37 5 3 20
theorem iv_HS38 : Iv HS38 6 0 0 := (s_edge (sm_rfl HS37) iv_HS37 (a := 5) (b := 3) (w := 20) (by decide) (by decide) (by decide) (by decide)).choose_spec.2.2
def HS39 : St := egS HS38 5 4 20
theorem iv_HS39 : Iv HS39 6 0 0 := (s_edge (sm_rfl HS38) iv_HS38 (a := 5) (b := 4) (w := 20) (by decide) (by decide) (by decide) (by decide)).choose_spec.2.2
def HS40 : St := nS HS39 6 0 (tb [0, 100, 100, 160, 100, 160, 160, 180, 100, 160, 160, 180, 160, 180, 180, 160, 100, 160, 160, 180, 160, 180, 180, 160, 160, 180, 180, 160, 180, 160, 160, 100, 100, 160, 160, 180, 160, 180, 180, 160, 160, 180, 180, 160, 180, 160, 160, 100, 160, 180, 180, 160, 180, 160, 160, 100, 180, 160, 160, 100, 160, 100, 100, 0])
theorem tb_HS40 : nS HS39 6 0 (tv HS39 6 1) = HS40 := tb_eq (by decide +kernel)
theorem iv_HS40 : Iv HS40 6 1 0 := by
  rw [← tb_HS40]
  exact (s_make (sm_rfl HS39) iv_HS39 (j := 1) (by decide) (by decide)).choose_spec.2.2
set_option maxRecDepth 100000 in
theorem lw_HS40_0 : lwB HS40 6 0 = true := by decide +kernel
def HS41 : St := nS HS40 6 1 (tb [0, 2, 2, 3, 2, 3, 3, 4, 2, 3, 3, 4, 3, 4, 4, 5, 2, 3, 3, 4, 3, 4, 4, 5, 3, 4, 4, 5, 4, 5, 5, 6, 2, 3, 3, 4, 3, 4, 4, 5, 3, 4, 4, 5, 4, 5, 5, 6, 3, 4, 4, 5, 4, 5, 5, 6, 4, 5, 5, 6, 5, 6, 6, 7])
theorem tb_HS41 : nS HS40 6 1 (tv HS40 6 0) = HS41 := tb_eq (by decide +kernel)
theorem iv_HS41 : Iv HS41 6 2 0 := by
  rw [← tb_HS41]
  exact (s_make (sm_rfl HS40) iv_HS40 (j := 0) (by decide) (by decide)).choose_spec.2.2
def HS42 : St := nS HS41 6 2 (tb [0, 200, 200, 320, 200, 320, 320, 360, 200, 320, 320, 360, 320, 360, 360, 320, 200, 320, 320, 360, 320, 360, 360, 320, 320, 360, 360, 320, 360, 320, 320, 200, 200, 320, 320, 360, 320, 360, 360, 320, 320, 360, 360, 320, 360, 320, 320, 200, 320, 360, 360, 320, 360, 320, 320, 200, 360, 320, 320, 200, 320, 200, 200, 0])
theorem tb_HS42 : nS HS41 6 2 (gSum (HS41.2 5) 0 0) = HS42 := tb_eq (by decide +kernel)
theorem iv_HS42 : Iv HS42 6 3 0 := by
  rw [← tb_HS42]
  exact (s_sum (sm_rfl HS41) iv_HS41 (a := 0) (b := 0) (by decide) (by decide) (by decide)).choose_spec.2.2
def HS43 : St := nS HS42 6 3 (tb [0, 400, 400, 640, 400, 640, 640, 720, 400, 640, 640, 720, 640, 720, 720, 640, 400, 640, 640, 720, 640, 720, 720, 640, 640, 720, 720, 640, 720, 640, 640, 400, 400, 640, 640, 720, 640, 720, 720, 640, 640, 720, 720, 640, 720, 640, 640, 400, 640, 720, 720, 640, 720, 640, 640, 400, 720, 640, 640, 400, 640, 400, 400, 0])
theorem tb_HS43 : nS HS42 6 3 (gSum (HS42.2 5) 2 2) = HS43 := tb_eq (by decide +kernel)
theorem iv_HS43 : Iv HS43 6 4 0 := by
  rw [← tb_HS43]
  exact (s_sum (sm_rfl HS42) iv_HS42 (a := 2) (b := 2) (by decide) (by decide) (by decide)).choose_spec.2.2
def HS44 : St := nS HS43 6 4 (tb [0, 800, 800, 1280, 800, 1280, 1280, 1440, 800, 1280, 1280, 1440, 1280, 1440, 1440, 1280, 800, 1280, 1280, 1440, 1280, 1440, 1440, 1280, 1280, 1440, 1440, 1280, 1440, 1280, 1280, 800, 800, 1280, 1280, 1440, 1280, 1440, 1440, 1280, 1280, 1440, 1440, 1280, 1440, 1280, 1280, 800, 1280, 1440, 1440, 1280, 1440, 1280, 1280, 800, 1440, 1280, 1280, 800, 1280, 800, 800, 0])
theorem tb_HS44 : nS HS43 6 4 (gSum (HS43.2 5) 3 3) = HS44 := tb_eq (by decide +kernel)
theorem iv_HS44 : Iv HS44 6 5 0 := by
  rw [← tb_HS44]
  exact (s_sum (sm_rfl HS43) iv_HS43 (a := 3) (b := 3) (by decide) (by decide) (by decide)).choose_spec.2.2
def HS45 : St := nS HS44 6 5 (tb [0, 1600, 1600, 2560, 1600, 2560, 2560, 2880, 1600, 2560, 2560, 2880, 2560, 2880, 2880, 2560, 1600, 2560, 2560, 2880, 2560, 2880, 2880, 2560, 2560, 2880, 2880, 2560, 2880, 2560, 2560, 1600, 1600, 2560, 2560, 2880, 2560, 2880, 2880, 2560, 2560, 2880, 2880, 2560, 2880, 2560, 2560, 1600, 2560, 2880, 2880, 2560, 2880, 2560, 2560, 1600, 2880, 2560, 2560, 1600, 2560, 1600, 1600, 0])
theorem tb_HS45 : nS HS44 6 5 (gSum (HS44.2 5) 4 4) = HS45 := tb_eq (by decide +kernel)
theorem iv_HS45 : Iv HS45 6 6 0 := by
  rw [← tb_HS45]
  exact (s_sum (sm_rfl HS44) iv_HS44 (a := 4) (b := 4) (by decide) (by decide) (by decide)).choose_spec.2.2
def HS46 : St := nS HS45 6 6 (tb [0, 3200, 3200, 5120, 3200, 5120, 5120, 5760, 3200, 5120, 5120, 5760, 5120, 5760, 5760, 5120, 3200, 5120, 5120, 5760, 5120, 5760, 5760, 5120, 5120, 5760, 5760, 5120, 5760, 5120, 5120, 3200, 3200, 5120, 5120, 5760, 5120, 5760, 5760, 5120, 5120, 5760, 5760, 5120, 5760, 5120, 5120, 3200, 5120, 5760, 5760, 5120, 5760, 5120, 5120, 3200, 5760, 5120, 5120, 3200, 5120, 3200, 3200, 0])
theorem tb_HS46 : nS HS45 6 6 (gSum (HS45.2 5) 5 5) = HS46 := tb_eq (by decide +kernel)
theorem iv_HS46 : Iv HS46 6 7 0 := by
  rw [← tb_HS46]
  exact (s_sum (sm_rfl HS45) iv_HS45 (a := 5) (b := 5) (by decide) (by decide) (by decide)).choose_spec.2.2
def HS47 : St := nS HS46 6 7 (tb [0, 0, 1920, 1920, 1920, 1920, 2560, 2560, 1920, 1920, 2560, 2560, 2560, 2560, 1920, 1920, 1920, 1920, 2560, 2560, 2560, 2560, 1920, 1920, 2560, 2560, 1920, 1920, 1920, 1920, 0, 0, 1920, 1920, 2560, 2560, 2560, 2560, 1920, 1920, 2560, 2560, 1920, 1920, 1920, 1920, 0, 0, 2560, 2560, 1920, 1920, 1920, 1920, 0, 0, 1920, 1920, 0, 0, 0, 0, (-3200), (-3200)])
theorem tb_HS47 : nS HS46 6 7 (gCon (HS46.2 5) 6 1) = HS47 := tb_eq (by decide +kernel)
theorem iv_HS47 : Iv HS47 6 8 0 := by
  rw [← tb_HS47]
  exact (s_con (sm_rfl HS46) iv_HS46 (a := 6) (b := 1) (by decide) (by decide) (by decide)).choose_spec.2.2
set_option maxRecDepth 100000 in
theorem lw_HS47_7 : lwB HS47 6 7 = true := by decide +kernel
def HS48 : St := rmS HS47 0 0 6
theorem iv_HS48 : Iv HS48 6 8 0 := (s_room (sm_rfl HS47) iv_HS47 (f := 0) (c := 0) (w := 6) (by decide) (by decide) (by decide)).choose_spec.2.2
def HS49 : St := rmS HS48 1 0 4
theorem iv_HS49 : Iv HS49 6 8 0 := (s_room (sm_rfl HS48) iv_HS48 (f := 1) (c := 0) (w := 4) (by decide) (by decide) (by decide)).choose_spec.2.2
def HS50 : St := rmS HS49 0 0 0
theorem iv_HS50 : Iv HS50 6 8 0 := (s_room (sm_rfl HS49) iv_HS49 (f := 0) (c := 0) (w := 0) (by decide) (by decide) (by decide)).choose_spec.2.2

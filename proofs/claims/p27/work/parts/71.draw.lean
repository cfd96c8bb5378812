/-! The rest of a drawn call, and the law's loop. -/
section DRX
variable {L : Nat} {xs : Nat → Int32} {K : St → Int32 → Int32 → Int32 → Option Int32} {X : St} {n F t : Nat} {x4 : Int32}
theorem g782_end (hI : Iv X n F t) {a m w : Nat} (ha : a < F) (hm : m ≤ 6) (hw : w < 2 ^ n) (hp : pc w ≤ m) (hv : 0 ≤ vl X a w) (k : Nat) : Go K x4 (f_L_law_782 L xs K (k + 1) X (nI n) (nI F) x4 (nI a) (nI m) (nI w) (nI (pc w)) (nI n)) := by
  have h6 := hI.1.2.2.2.2.1
  have s0 := sm_rfl X
  have e1 := s_value s0 hI ha hw
  rw [f_L_law_782, if_pos (Int32.le_refl _), if_neg (nlt hp (by omega)), xv_ok e1, xv_ok (s_best s0 hI ha hm)]
  have hmx : rowf X a w ≤ mxF (rowf X a) m (2 ^ n) := mx_ge _ m _ w hw hp
  have h0 : (0 : Int32) ≤ X.2 5 (64 * a + w) := Int32.le_iff_toInt_le.mpr hv
  rw [if_neg (show ¬ mxF (rowf X a) m (2 ^ n) < X.2 5 (64 * a + w) from Int32.not_lt.mpr hmx), xv_ok e1, if_pos h0, xv_ok (s_isLawful s0 hI ha)]
  cases hL : lwB X n a with
  | false =>
    rw [if_pos (show bI false = 0 from rfl)]
    exact g912 hI
  | true =>
    obtain ⟨r, -, r2, r3, r4⟩ := ls_at hI ha hL 1
    rw [if_neg (show ¬ bI true = 0 from one_ne), xv_ok (s_leastSet s0 hI ha hL 0), xv_ok (s_leastSetAnew s0 hI ha hL 0), if_pos rfl, xv_ok (s_leastSet s0 hI ha hL 1), xv_ok (s_leastSetAnew s0 hI ha hL 1), if_pos rfl, xv_ok (s_leastSet s0 hI ha hL 1), r3, xv_ok (s_value s0 hI ha r2), xv_ok (s_least s0 hI ha hL), if_pos r4.symm]
    exact g912 hI
theorem g782 (hI : Iv X n F t) {a m w : Nat} (ha : a < F) (hm : m ≤ 6) (hw : w < 2 ^ n) (hp : pc w ≤ m) (hv : 0 ≤ vl X a w) : ∀ k i, i ≤ n → n < i + k → Go K x4 (f_L_law_782 L xs K k X (nI n) (nI F) x4 (nI a) (nI m) (nI w) (nI (cn w.testBit i)) (nI i)) := fun k => by
  have h6 := hI.1.2.2.2.2.1
  have p6 := pow6 h6
  induction k with
  | zero => intro i h1 h2; omega
  | succ k ih =>
    intro i h1 h2
    by_cases c : i = n
    · subst c
      rw [← pc_n hw (by omega)]
      exact g782_end hI ha hm hw hp hv k
    · rw [f_L_law_782, if_neg (nI_ge (a := i) (b := n) (by omega) (by omega)), bnd_eq, bnd_eq, bitv_nI (by omega) (by omega), nI_1]
      have e : nI (cn w.testBit i) + (if w.testBit i then 1 else 0 : Int32) = nI (cn w.testBit (i + 1)) := by
        show _ = nI (cn w.testBit i + _)
        rw [← nI_add]
        cases w.testBit i <;> rfl
      rw [e]
      exact ih (i + 1) (by omega) (by omega)
theorem gtake (hI : Iv X n F t) {a m : Nat} (ha : a < F) (hm : m ≤ 6) : Go K x4 (xv (f_X0_greedy X (nI a) (nI m)) fun v12 S13 => (f_L_law_782 L xs K 7 S13 (nI n) (nI F) x4 (nI a) (nI m) v12 0 0)) := by
  have h6 := hI.1.2.2.2.2.1
  obtain ⟨w1, w2, w3⟩ := gW_prop (S := X) (a := a) (m := m) h6 70 0 (pow1 n) (by rw [pc_zero]; omega)
  rw [xv_ok (s_greedy (sm_rfl X) hI ha hm)]
  refine g782 hI ha hm w1 w2 ?_ 7 0 (by omega) (by omega)
  have hz : X.2 5 (64 * a + 0) = 0 := (hI.2.2.2.2.2.2.1 a ha).1
  have e : vl X a 0 = 0 := by
    unfold vl
    rw [hz]; rfl
  rw [e] at w3
  exact w3
/-- what an element has by the corner is no great number -/
theorem corner_ne (hI : Iv X n F t) {a s e : Nat} (ha : a < F) (hs : s < 2 ^ n) (he : e < n) : ¬ gI X a e s = -7000003 := fun c => by
  have h6 := hI.1.2.2.2.2.1
  have hV := hI.2.2.2.2.2.2.1
  have h8 := hI.1.2.2.2.2.2.1
  have b1 := vl_bd hV h8 ha (or_lt hs he)
  have b2 := vl_bd hV h8 ha hs
  unfold vl at b1 b2
  have c2 := congrArg Int32.toInt c
  unfold gI at c2
  rw [sub_toInt (by omega) (by omega), show (-7000003 : Int32).toInt = -7000003 from rfl] at c2
  omega
theorem g122 (hI : Iv X n F t) {w y z : Nat} (hw : w < 17) (hy : y < 2 ^ 31) (hz : z < 2 ^ 31) : Go K x4 (f_L_law_122 L xs K X (nI n) (nI F) x4 (nI w) (nI y) (nI z)) := by
  have h1 := hI.1.2.2.2.1
  have h6 := hI.1.2.2.2.2.1
  have h8 := hI.1.2.2.2.2.2.1
  have htn := hI.1.2.2.2.2.2.2
  have p6 := pow6 h6
  have p1 := pow1 n
  have s0 := sm_rfl X
  have hn0 := nI_nz h1 (by omega)
  have yn := Nat.mod_lt y h1
  have zn := Nat.mod_lt z h1
  have mz := m_n hz h1 (by omega)
  have my := m_n hy h1 (by omega)
  unfold f_L_law_122
  by_cases c3 : w < 3
  · rw [if_neg (show ¬ (3 : Int32) ≤ nI w from nI_ge (b := 3) c3 (by omega)), if_neg hn0, my, m_10 hz, m_3 hy]
    by_cases c : y % 3 = 0
    · rw [if_pos (show nI (y % 3) ≤ 0 by rw [c]; decide)]
      exact g150 (b := false) hI hy hz rfl rfl (by rw [c]; rfl)
    · rw [if_neg (show ¬ nI (y % 3) ≤ 0 from nI_ge (a := 0) (by omega) (by omega))]
      exact g150 (b := true) hI hy hz rfl rfl (decide_eq_true (show 0 < y % 3 by omega)).symm
  rw [if_pos (show (3 : Int32) ≤ nI w from nI_le (a := 3) (by omega) (by omega))]
  by_cases c5 : w < 5
  · rw [if_neg (show ¬ (5 : Int32) ≤ nI w from nI_ge (b := 5) c5 (by omega)), if_neg hn0, if_neg hn0, my, mz, m_21 hz]
    by_cases c : y % n = z % n
    · have e := e_edge3 hI (a := y % n) yn (nI (z % 21))
      rw [← c, act_x2 (e := 1) (show f_X0_edge X (nI (y % n)) (nI (y % n)) (nI (z % 21)) = some (1 + 1, 0, X) from e), hd2, Option.bind_some, bnd_eq, if_pos rfl]
      exact g284 hI hy hz ⟨fun _ => c, fun _ => rfl⟩
    · obtain ⟨X1, e1, s1, i1⟩ := s_edge s0 hI yn zn c (show z % 21 ≤ 20 by omega)
      obtain ⟨X2, e2, s2, i2⟩ := s_edge s1 i1 zn yn (fun d => c d.symm) (show z % 21 ≤ 20 by omega)
      obtain ⟨g, hg, eg⟩ := hI.2.2.1.1 (6 * (y % n) + z % n) (by omega)
      have e3 : (egS X (y % n) (z % n) (z % 21)).2 1 (6 * (z % n) + y % n) = nI (z % 21) := by
        show upd (upd (X.2 1) (6 * (y % n) + z % n) (nI (z % 21))) (6 * (z % n) + y % n) (nI (z % 21)) (6 * (z % n) + y % n) = _
        exact pk_us
      rw [eg] at e1
      rw [e3] at e2
      have hne : ¬ nI g = -7000002 := fun d => nI_pos (show g < 2 ^ 31 by omega) (by rw [d]; decide)
      rw [act_2 e1, Option.bind_some, bnd_eq, if_neg hne, if_neg (nI_pos (by omega)), if_neg (show ¬ (20 : Int32) < nI g from nlt (b := 20) hg (by omega)), if_neg hn0, if_neg hn0, act_2 e2, Option.bind_some, if_pos rfl]
      exact g284 (s2.iv i2) hy hz ⟨fun d => absurd d hne, fun d => absurd d c⟩
  rw [if_pos (show (5 : Int32) ≤ nI w from nI_le (a := 5) (by omega) (by omega))]
  by_cases c7 : w < 7
  · have y2 : y / 2 < 2 ^ 31 := by omega
    obtain ⟨X1, e1, s1, i1⟩ := s_colour s0 hI (f := y % 2) (e := z % n) (c := y / 2 % 6) (by omega) zn (by omega)
    obtain ⟨X2, e2, s2, i2⟩ := s_colour s1 i1 (f := y % 2) (e := z % n) (c := y / 2 % 6) (by omega) zn (by omega)
    obtain ⟨X3, e3, s3, i3⟩ := s_room s2 i2 (f := y % 2) (c := z % 6) (w := y / 2 % 7) (by omega) (by omega) (by omega)
    obtain ⟨g, hg, eg⟩ := hI.2.2.2.1 (6 * (y % 2) + z % n) (by omega)
    obtain ⟨q, hq, eq⟩ := i2.2.2.2.2.1 (6 * (y % 2) + z % 6) (by omega)
    have e4 : (clS X (y % 2) (z % n) (y / 2 % 6)).2 2 (6 * (y % 2) + z % n) = nI (y / 2 % 6) := by
      show upd (X.2 2) (6 * (y % 2) + z % n) (nI (y / 2 % 6)) (6 * (y % 2) + z % n) = _
      exact pk_us
    rw [eg] at e1
    rw [e4] at e2
    rw [eq] at e3
    rw [if_neg (show ¬ (7 : Int32) ≤ nI w from nI_ge (b := 7) c7 (by omega)), if_neg hn0, mz, m_2 hy, d_2 hy, m_6 y2, m_6 hz, m_7 y2, xv_ok e1, if_neg (show ¬ (5 : Int32) < nI g from nlt (b := 5) (by omega) (by omega)), if_neg hn0, xv_ok e2, if_pos rfl, xv_ok e3, if_pos (show nI q ≤ (6 : Int32) from nI_le (b := 6) hq (by omega))]
    exact g912 (s3.iv i3)
  rw [if_pos (show (7 : Int32) ≤ nI w from nI_le (a := 7) (by omega) (by omega))]
  by_cases c8 : w = 7
  · subst c8
    have hx : (nI (z % 41) - 20).toInt = (z % 41 : Int) - 20 := pk_sub_toInt (a := z % 41) (b := 20) (by omega) (by omega)
    obtain ⟨X1, e1, s1, i1⟩ := s_weigh s0 hI yn (x := nI (z % 41) - 20) (by omega) (by omega)
    obtain ⟨X2, e2, s2, i2⟩ := s_weigh s1 i1 yn (x := nI (z % 41) - 20) (by omega) (by omega)
    have e3 : (weS X (y % n) (nI (z % 41) - 20)).2 4 (y % n) = nI (z % 41) - 20 := by
      show upd (X.2 4) (y % n) (nI (z % 41) - 20) (y % n) = _
      exact pk_us
    rw [e3] at e2
    have hb := (hI.2.2.2.2.2.1 (y % n) (by omega)).2
    rw [if_pos (show nI 7 = (7 : Int32) from rfl), if_neg hn0, my, m_41 hz, xv_ok e1, if_neg (show ¬ (20 : Int32) < X.2 4 (y % n) from fun d => by
      have := Int32.lt_iff_toInt_lt.mp d
      rw [show (20 : Int32).toInt = 20 from rfl] at this
      omega), if_neg hn0, xv_ok e2, if_pos rfl]
    exact g912 (s2.iv i2)
  rw [if_neg (show ¬ nI w = (7 : Int32) from nI_ne (b := 7) c8 (by omega) (by omega))]
  by_cases c11 : w < 11
  · rw [if_pos (show nI w < (11 : Int32) from nI_lt (b := 11) c11 (by omega))]
    exact g474 hI hy
  rw [if_neg (show ¬ nI w < (11 : Int32) from nlt (a := 11) (by omega) (by omega))]
  by_cases hF : F = 0
  · rw [if_pos (show nI F = 0 by rw [hF]; rfl)]
    exact g474 hI hy
  have hF1 : 1 ≤ F := by omega
  have hF0 := nI_nz hF1 (by omega)
  have yF := Nat.mod_lt y hF1
  have zF := Nat.mod_lt z hF1
  have myF := m_n hy hF1 (show F < 2 ^ 31 by omega)
  have mzF := m_n hz hF1 (show F < 2 ^ 31 by omega)
  rw [if_neg hF0]
  by_cases c14 : w < 14
  · rw [if_neg (show ¬ (14 : Int32) ≤ nI w from nI_ge (b := 14) c14 (by omega))]
    rcases (show w = 11 ∨ w = 12 ∨ w = 13 by omega) with rfl | rfl | rfl
    · rw [if_pos (show nI 11 = (11 : Int32) from rfl), if_neg hF0, if_neg hF0, myF, mzF]
      by_cases c : F < 8
      · obtain ⟨X1, e1, s1, i1⟩ := s_sum s0 hI c yF zF
        rw [act_7 e1, Option.bind_some]
        exact g636 hI c s1 i1
      · have e : F = 8 := by omega
        subst e
        rw [act_x7 (e := 2) (show f_X0_sum X (nI (y % 8)) (nI (z % 8)) = some (2 + 1, 0, X) from s_sum8 hI (by omega) (by omega)), hd3, Option.bind_some]
        exact g636_8 hI
    · have hz2 : nI z - nI z / nI (2 ^ n) * nI (2 ^ n) = nI (z % 2 ^ n) := pk_rem hz (by omega) (by omega)
      have zs := Nat.mod_lt z (show 0 < 2 ^ n by omega)
      rw [if_neg (show ¬ nI 12 = (11 : Int32) by decide), if_pos (show nI 12 = (12 : Int32) from rfl), if_neg hF0, bit_nI (by omega), if_neg (nI_nz p1 (by omega)), myF, hz2]
      by_cases c : F < 8
      · obtain ⟨X1, e1, s1, i1⟩ := s_con s0 hI c yF zs
        rw [act_8 e1, Option.bind_some]
        exact g636 hI c s1 i1
      · have e : F = 8 := by omega
        subst e
        rw [act_x8 (e := 2) (show f_X0_contract X (nI (y % 8)) (nI (z % 2 ^ n)) = some (2 + 1, 0, X) from s_con8 hI (by omega) zs), hd3, Option.bind_some]
        exact g636_8 hI
    · rw [if_neg (show ¬ nI 13 = (11 : Int32) by decide), if_neg (show ¬ nI 13 = (12 : Int32) by decide), if_neg hF0, myF, m_101 hz]
      by_cases c : F < 8
      · obtain ⟨X1, e1, s1, i1⟩ := s_cap s0 hI c yF (show z % 101 ≤ 100 by omega)
        rw [act_9 e1, Option.bind_some]
        exact g636 hI c s1 i1
      · have e : F = 8 := by omega
        subst e
        rw [act_x9 (e := 2) (show f_X0_cap X (nI (y % 8)) (nI (z % 101)) = some (2 + 1, 0, X) from s_cap8 hI (by omega) (by omega)), hd3, Option.bind_some]
        exact g636_8 hI
  rw [if_pos (show (14 : Int32) ≤ nI w from nI_le (a := 14) (by omega) (by omega))]
  by_cases c15 : w = 14
  · subst c15
    rw [if_pos (show nI 14 = (14 : Int32) from rfl), if_neg hn0, mz]
    by_cases ht : t = n
    · subst ht
      obtain ⟨X1, e1, s1, i1⟩ := s_order_anew s0 hI zn
      have e2 := s_corner s1 i1 (a := 0) (e := z % t) (k0 := 0) (by omega) zn (by omega) (show upd (X.2 6) 0 (nI (z % t)) 0 = _ from pk_us)
      have hne := corner_ne i1 (a := 0) (e := z % t) (by omega) (ahF_lt i1.2.2.2.2.2.2.2 h6 0 (by omega)) zn
      rw [act_16 e1, Option.bind_some, bnd_eq, if_neg (show ¬ (1 : Int32) = -7000003 by decide), if_neg (show ¬ (1 : Int32) < 1 by decide), if_neg (show ¬ nI t < (1 : Int32) from nlt (a := 1) h1 (by omega)), if_neg hn0, act_17 (show f_X0_corner X1 0 (nI (z % t)) = _ from e2), Option.bind_some, if_neg hne]
      exact g912 (s1.iv i1)
    · by_cases hc : plF (X.2 6) (nI (z % n)) t = -1
      · obtain ⟨X1, e1, s1, i1⟩ := s_order_more s0 hI (show t < n by omega) zn hc
        have e2 := s_corner s1 i1 (a := 0) (e := z % n) (k0 := t) (by omega) zn (by omega) (show upd (X.2 6) t (nI (z % n)) t = _ from pk_us)
        have hne := corner_ne i1 (a := 0) (e := z % n) (by omega) (ahF_lt i1.2.2.2.2.2.2.2 h6 t (by omega)) zn
        rw [act_16 e1, Option.bind_some, bnd_eq, if_neg (show ¬ nI (t + 1) = -7000003 from fun d => nI_pos (show t + 1 < 2 ^ 31 by omega) (by rw [d]; decide)), if_neg (show ¬ nI (t + 1) < (1 : Int32) from nlt (a := 1) (by omega) (by omega)), if_neg (show ¬ nI n < nI (t + 1) from nlt (by omega) (by omega)), if_neg hn0, act_17 (show f_X0_corner X1 0 (nI (z % n)) = _ from e2), Option.bind_some, if_neg hne]
        exact g912 (s1.iv i1)
      · rw [act_x16 (e := 2) (show f_X0_order X (nI (z % n)) = some (2 + 1, 0, X) from s_order_told s0 hI (by omega) zn hc), hd3, Option.bind_some, bnd_eq, if_pos rfl]
        exact g912 hI
  rw [if_neg (show ¬ nI w = (14 : Int32) from nI_ne (b := 14) c15 (by omega) (by omega)), if_neg hF0, myF, m_7 hz, bnd_eq, bnd_eq]
  exact gtake hI yF (by omega)
theorem g53 (hI : Iv X n F t) {v : Nat} (hv : v < 2 ^ 31) : Go K x4 (f_L_law_53 L xs K X (nI n) (nI F) x4 (nI v)) := by
  have y1 : v / 17 < 2 ^ 31 := by omega
  have y2 : v / 17 / 30 < 2 ^ 31 := by omega
  have y5 : v / 17 / 5 < 2 ^ 31 := by omega
  unfold f_L_law_53
  rw [m_17 hv, bnd_eq, d_17 hv, bnd_eq, d_30 y1, bnd_eq]
  by_cases c : v % 17 = 0
  · rw [if_pos (show nI (v % 17) = 0 by rw [c]; rfl), m_5 y1]
    by_cases d : v / 17 % 5 = 0
    · obtain ⟨X1, e1, s1, i1⟩ := s_elements (sm_rfl X) hI (m := 1 + v / 17 / 5 % 6) (by omega) (by omega)
      have em : (1 : Int32) + nI (v / 17 / 5 % 6) = nI (1 + v / 17 / 5 % 6) := nI_add 1 _
      rw [if_pos (show nI (v / 17 % 5) = 0 by rw [d]; rfl), d_5 y1, m_6 y5, em, xv_ok e1, if_pos rfl, bnd_eq]
      exact g912 (F := 0) (s1.iv i1)
    · rw [if_neg (nI_nz (by omega) (by omega))]
      exact g122 hI (by omega) y1 y2
  · rw [if_neg (nI_nz (by omega) (by omega))]
    exact g122 hI (by omega) y1 y2
theorem to_nI (x : Int32) : x = nI x.toBitVec.toNat := Int32.toBitVec_inj.mp (BitVec.ofNat_toNat 32 x.toBitVec).symm
end DRX
theorem law_run {L : Nat} {xs : Nat → Int32} (hL : L ≤ 260) : ∀ k j (X : St) (n F t : Nat), Iv X n F t → j ≤ 80 → 80 < j + k → f_L_law_23 L xs k X (nI n) (nI F) (nI j) = some 1 := fun k => by
  induction k with
  | zero => intro j X n F t hI h1 h2; omega
  | succ k ih =>
    intro j X n F t hI h1 h2
    rw [f_L_law_23]
    by_cases c : j = 80
    · rw [if_pos (show (80 : Int32) ≤ nI j by rw [c]; decide)]
    · rw [if_neg (show ¬ (80 : Int32) ≤ nI j from nI_ge (a := j) (b := 80) (by omega) (by omega))]
      have hgo : ∀ {r : Option Int32}, Go (f_L_law_23 L xs k) (nI j) r → r = some 1 := fun {r} hr => by
        obtain ⟨X1, n1, F1, t1, e, i⟩ := hr
        rw [e, nI_1]
        exact ih (j + 1) X1 n1 F1 t1 i (by omega) (by omega)
      by_cases h0 : L = 0
      · rw [if_pos (show Int32.ofNat L = 0 by rw [h0]; rfl), show (103 : Int32) * nI j = nI (103 * j) from pk_mul 103 j]
        exact hgo (g53 hI (by omega))
      · have hz : ¬ Int32.ofNat L = 0 := nI_nz (n := L) (by omega) (by omega)
        have em : nI j - nI j / Int32.ofNat L * Int32.ofNat L = nI (j % L) := m_n (n := L) (by omega) (by omega) (by omega)
        have hlt : xs (j % L) = nI (xs (j % L)).toBitVec.toNat := to_nI _
        have hb : (xs (j % L)).toBitVec.toNat < 2 ^ 32 := (xs (j % L)).toBitVec.isLt
        have eu : ((nI (xs (j % L)).toBitVec.toNat).toUInt32 >>> ((8 : Int32).toUInt32 &&& Int32.toUInt32 31)).toInt32 = nI ((xs (j % L)).toBitVec.toNat / 2 ^ 8) := pk_ushrN hb 8 8 (by decide)
        rw [if_neg hz, if_neg hz, em, rd_nI (Nat.mod_lt _ (by omega)) (by omega), Option.bind_some, hlt, eu]
        exact hgo (g53 hI (by omega))

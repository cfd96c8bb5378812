/-! One drawn call: what the law asks of it holds, and it goes on. -/
def Go (K : St → Int32 → Int32 → Int32 → Option Int32) (x4 : Int32) (r : Option Int32) : Prop := ∃ (X : St) (n F t : Nat), r = K X (nI n) (nI F) (x4 + 1) ∧ Iv X n F t
theorem nI_nz {n : Nat} (h1 : 1 ≤ n) (h : n < 2 ^ 31) : ¬ nI n = 0 := nI_ne (b := 0) (by omega) h (by omega)
section NUM
variable {v : Nat}
theorem m_2 (h : v < 2 ^ 31) : nI v - nI v / 2 * 2 = nI (v % 2) := pk_rem (d := 2) h (by omega) (by omega)
theorem m_3 (h : v < 2 ^ 31) : nI v - nI v / 3 * 3 = nI (v % 3) := pk_rem (d := 3) h (by omega) (by omega)
theorem m_5 (h : v < 2 ^ 31) : nI v - nI v / 5 * 5 = nI (v % 5) := pk_rem (d := 5) h (by omega) (by omega)
theorem m_6 (h : v < 2 ^ 31) : nI v - nI v / 6 * 6 = nI (v % 6) := pk_rem (d := 6) h (by omega) (by omega)
theorem m_7 (h : v < 2 ^ 31) : nI v - nI v / 7 * 7 = nI (v % 7) := pk_rem (d := 7) h (by omega) (by omega)
theorem m_10 (h : v < 2 ^ 31) : nI v - nI v / 10 * 10 = nI (v % 10) := pk_rem (d := 10) h (by omega) (by omega)
theorem m_17 (h : v < 2 ^ 31) : nI v - nI v / 17 * 17 = nI (v % 17) := pk_rem (d := 17) h (by omega) (by omega)
theorem m_21 (h : v < 2 ^ 31) : nI v - nI v / 21 * 21 = nI (v % 21) := pk_rem (d := 21) h (by omega) (by omega)
theorem m_41 (h : v < 2 ^ 31) : nI v - nI v / 41 * 41 = nI (v % 41) := pk_rem (d := 41) h (by omega) (by omega)
theorem m_101 (h : v < 2 ^ 31) : nI v - nI v / 101 * 101 = nI (v % 101) := pk_rem (d := 101) h (by omega) (by omega)
theorem d_2 (h : v < 2 ^ 31) : nI v / 2 = nI (v / 2) := pk_div (d := 2) h (by omega) (by omega)
theorem d_5 (h : v < 2 ^ 31) : nI v / 5 = nI (v / 5) := pk_div (d := 5) h (by omega) (by omega)
theorem d_17 (h : v < 2 ^ 31) : nI v / 17 = nI (v / 17) := pk_div (d := 17) h (by omega) (by omega)
theorem d_30 (h : v < 2 ^ 31) : nI v / 30 = nI (v / 30) := pk_div (d := 30) h (by omega) (by omega)
theorem m_n {n : Nat} (h : v < 2 ^ 31) (h1 : 1 ≤ n) (h2 : n < 2 ^ 31) : nI v - nI v / nI n * nI n = nI (v % n) := pk_rem h h1 h2
end NUM
section DRW
variable {L : Nat} {xs : Nat → Int32} {K : St → Int32 → Int32 → Int32 → Option Int32} {X : St} {n F t : Nat} {x4 : Int32}
theorem g912 (hI : Iv X n F t) : Go K x4 (f_L_law_912 L xs K X (nI n) (nI F) x4) := by
  obtain ⟨X1, e1, h1⟩ := s_common (sm_rfl X) hI
  unfold f_L_law_912
  rw [e1, Option.bind_some, s_commonAnew h1 hI, Option.bind_some, if_pos rfl]
  by_cases c : x4 - x4 / 16 * 16 = 0
  · obtain ⟨X2, e2, h2⟩ := s_refuses h1 hI
    rw [if_pos c, e2, Option.bind_some, bnd_eq]
    exact ⟨X2, n, F, t, rfl, h2.iv hI⟩
  · rw [if_neg c, bnd_eq]
    exact ⟨X1, n, F, t, rfl, h1.iv hI⟩
-- ---- cover
theorem g192 (hI : Iv X n F t) {y : Nat} (hy : y < 2 ^ 31) (x9 s0 : Int32) : Go K x4 (f_L_law_192 L xs K X (nI n) (nI F) x4 (nI y) x9 s0 s0) := by
  have h1 := hI.1.2.2.2.1
  have h6 := hI.1.2.2.2.2.1
  unfold f_L_law_192
  rw [if_pos rfl]
  by_cases c : x9 = 0
  · rw [if_pos c]; exact g912 hI
  · rw [if_neg c, if_neg (nI_nz h1 (by omega)), m_n hy h1 (by omega), if_pos (nI_lt (Nat.mod_lt _ h1) (by omega))]
    exact g912 hI
theorem g150 (hI : Iv X n F t) {y z j k : Nat} (hy : y < 2 ^ 31) (hz : z < 2 ^ 31) (hj : j = y % n) (hk : k = z % 10) {b : Bool} (hb : b = decide (0 < y % 3)) : Go K x4 (f_L_law_150 L xs K X (nI n) (nI F) x4 (nI y) (nI z) (nI j) (nI k) (bI b)) := by
  have h1 := hI.1.2.2.2.1
  have h6 := hI.1.2.2.2.2.1
  have hjn : j < n := by rw [hj]; exact Nat.mod_lt _ h1
  have hkn : k < 10 := by omega
  obtain ⟨X1, e1, s1, i1⟩ := s_cover (sm_rfl X) hI hjn hkn b
  obtain ⟨X2, e2, s2, i2⟩ := s_cover s1 i1 hjn hkn b
  rw [cvS_at hI hjn hkn b] at e2
  have iX := s2.iv i2
  unfold f_L_law_150 f_L_law_177
  rw [xv_ok e1, if_neg (nI_nz h1 (by omega)), m_3 hy, m_n hy h1 (by omega), m_10 hz, ← hj, ← hk]
  by_cases c : y % 3 = 0
  · have hb0 : b = false := by rw [hb, c]; decide
    subst hb0
    have hp0 : nI (y % 3) ≤ 0 := by rw [c]; decide
    rw [if_pos hp0, xv_ok (show f_X0_cover X1 (nI j) (nI k) 0 = some (0, bI false, X2) from e2), if_pos hp0]
    exact g192 iX hy _ 0
  · have hb1 : b = true := by rw [hb]; exact decide_eq_true (by omega)
    subst hb1
    have hn0 : ¬ nI (y % 3) ≤ 0 := nI_ge (a := 0) (by omega) (by omega)
    rw [if_neg hn0, xv_ok (show f_X0_cover X1 (nI j) (nI k) 1 = some (0, bI true, X2) from e2), if_neg hn0]
    exact g192 iX hy _ 1
-- ---- edge
theorem g284 (hI : Iv X n F t) {y z : Nat} (hy : y < 2 ^ 31) (hz : z < 2 ^ 31) {x9 : Int32} (h : x9 = -7000002 ↔ y % n = z % n) : Go K x4 (f_L_law_284 L xs K X (nI n) (nI F) x4 (nI y) (nI z) x9) := by
  have h1 := hI.1.2.2.2.1
  have h6 := hI.1.2.2.2.2.1
  have ha := Nat.mod_lt y h1
  have hb := Nat.mod_lt z h1
  unfold f_L_law_284 f_L_law_296 f_L_law_312
  by_cases c : x9 = -7000002
  · have e := h.mp c
    rw [if_pos c, if_neg (nI_nz h1 (by omega)), if_neg (nI_nz h1 (by omega)), m_n hy h1 (by omega), m_n hz h1 (by omega), if_pos (by rw [e]), if_pos rfl]
    exact g912 hI
  · have e : ¬ y % n = z % n := fun d => c (h.mpr d)
    rw [if_neg c, if_neg (nI_nz h1 (by omega)), if_neg (nI_nz h1 (by omega)), m_n hy h1 (by omega), m_n hz h1 (by omega), if_neg (nI_ne e (by omega) (by omega)), if_pos rfl]
    exact g912 hI
-- ---- made
theorem g544 (hI : Iv X n F t) {F0 : Nat} (hF : F = if F0 < 8 then F0 + 1 else F0) (h8 : F0 ≤ 8) : Go K x4 (f_L_law_544 L xs K X (nI n) (nI F0) x4) := by
  unfold f_L_law_544 f_L_law_556
  by_cases c : F0 < 8
  · rw [if_pos c] at hF
    rw [if_neg (show ¬ (8 : Int32) ≤ nI F0 from nI_ge (b := 8) c (by omega)), bnd_eq, nI_1, ← hF]
    exact g912 hI
  · rw [if_neg c] at hF
    have e : F0 = 8 := by omega
    subst e
    subst hF
    rw [if_pos (show (8 : Int32) ≤ nI 8 by decide), bnd_eq]
    exact g912 hI
theorem g474 (hI : Iv X n F t) {y : Nat} (hy : y < 2 ^ 31) : Go K x4 (f_L_law_474 L xs K X (nI n) (nI F) x4 (nI y)) := by
  have h1 := hI.1.2.2.2.1
  have h6 := hI.1.2.2.2.2.1
  have h8 := hI.1.2.2.2.2.2.1
  have p1 := pow1 n
  unfold f_L_law_474 f_L_law_498
  rw [m_5 hy]
  by_cases c : F < 8
  · obtain ⟨X1, e1, s1, i1⟩ := s_make (sm_rfl X) hI c (show y % 5 ≤ 4 by omega)
    have hL := made_law (j := y % 5) hI (by omega)
    have n8 : ¬ (8 : Int32) ≤ nI F := nI_ge (b := 8) c (by omega)
    have g5 := g544 (K := K) (x4 := x4) (L := L) (xs := xs) (s1.iv i1) (F0 := F) (by rw [if_pos c]) h8
    rw [act_6 e1, Option.bind_some, if_neg n8, if_pos rfl, if_neg n8, xv_ok (show f_X0_value X1 (nI F) 0 = _ from s_value s1 i1 (a := F) (s := 0) (by omega) p1), if_pos (show (nS X n F (tv X n (y % 5))).2 5 (64 * F + 0) = 0 from (i1.2.2.2.2.2.2.1 F (by omega)).1), xv_ok (s_isLawful s1 i1 (a := F) (by omega)), hL, if_neg (show ¬ bI true = 0 from one_ne), xv_ok (s_rises s1 i1 (a := F) (by omega))]
    cases hr : rsB (nS X n F (tv X n (y % 5))) n F with
    | false =>
      rw [if_pos (show bI false = 0 from rfl)]
      exact g5
    | true =>
      rw [if_neg (show ¬ bI true = 0 from one_ne), xv_ok (s_least s1 i1 (a := F) (by omega) hL), if_pos (rises_least i1 (by omega) hr hL)]
      exact g5
  · have e : F = 8 := by omega
    subst e
    have p8 : (8 : Int32) ≤ nI 8 := by decide
    rw [act_x6 (e := 2) (show f_X0_make X (nI (y % 5)) = some (2 + 1, 0, X) from s_make8 hI (by omega)), hd3, Option.bind_some, if_pos p8, if_pos rfl, if_pos p8]
    exact g544 hI (F0 := 8) (by rw [if_neg (by omega)]) (by omega)
/-- behind a sum, a contraction or a cap -/
theorem g636 (hI : Iv X n F t) (hF : F < 8) {Y : St} {g : Nat → Int32} (hs : Sm (nS X n F g) Y) (hi : Iv (nS X n F g) n (F + 1) t) : Go K x4 (f_L_law_636 L xs K Y (nI n) (nI F) x4 (nI F)) := by
  have p1 := pow1 n
  have n8 : ¬ (8 : Int32) ≤ nI F := nI_ge (b := 8) hF (by omega)
  unfold f_L_law_636 f_L_law_652 f_L_law_669
  rw [if_neg n8, if_pos rfl, if_neg n8, bnd_eq, if_neg (nI_pos (by omega)), xv_ok (show f_X0_value Y (nI F) 0 = _ from s_value hs hi (a := F) (s := 0) (by omega) p1), if_pos (show (nS X n F g).2 5 (64 * F + 0) = 0 from (hi.2.2.2.2.2.2.1 F (by omega)).1), nI_1]
  exact g912 (hs.iv hi)
theorem g636_8 (hI : Iv X n 8 t) : Go K x4 (f_L_law_636 L xs K X (nI n) (nI 8) x4 (-7000003)) := by
  have p8 : (8 : Int32) ≤ nI 8 := by decide
  unfold f_L_law_636 f_L_law_652 f_L_law_669
  rw [if_pos p8, if_pos rfl, if_pos p8, bnd_eq, if_pos (show (-7000003 : Int32) < 0 by decide)]
  exact g912 hI
end DRW

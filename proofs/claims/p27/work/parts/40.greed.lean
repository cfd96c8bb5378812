/-! greedy, best, and common sets gone through. -/
def gdF (S : St) (a s : Nat) : Nat → Option Nat
  | 0 => none
  | i + 1 => if (gdF S a s i).elim 0 (gn S a s) < gn S a s i then some i else gdF S a s i
theorem gdF_spec (S : St) (a s : Nat) : ∀ i, gdF S a s i = none ∨ ∃ j, j < i ∧ gdF S a s i = some j ∧ 0 < gn S a s j := fun i => by
  induction i with
  | zero => exact Or.inl rfl
  | succ i ih =>
    rw [gdF]
    by_cases c : (gdF S a s i).elim 0 (gn S a s) < gn S a s i
    · rw [if_pos c]
      refine Or.inr ⟨i, by omega, rfl, ?_⟩
      rcases ih with h | ⟨j, hj, h, hp⟩
      · rw [h] at c; exact c
      · rw [h] at c
        have c2 : gn S a s j < gn S a s i := c
        omega
    · rw [if_neg c]
      rcases ih with h | ⟨j, hj, h, hp⟩
      · exact Or.inl h
      · exact Or.inr ⟨j, by omega, h, hp⟩
theorem gn_mem {S : St} {a s e : Nat} (h : s.testBit e = true) : gn S a s e = 0 := by
  have : s ||| 2 ^ e = s := by
    apply Nat.eq_of_testBit_eq
    intro i
    rw [tb_or]
    by_cases c : e = i
    · rw [← c, h]; rfl
    · rw [decide_eq_false c, Bool.or_false]
  unfold gn
  rw [this]
  omega
theorem cn_upd {P Q : Nat → Bool} {e : Nat} (h1 : P e = false) (h2 : Q e = true) (h : ∀ i, i ≠ e → Q i = P i) : ∀ n, cn Q n = cn P n + (if e < n then 1 else 0) := fun n => by
  induction n with
  | zero => rfl
  | succ n ih =>
    rw [cn, cn, ih]
    by_cases c : n = e
    · rw [c, h1, h2, if_neg (Nat.lt_irrefl e), if_pos (Nat.lt_succ_self e)]
      rfl
    · rw [h n c]
      by_cases d : e < n
      · rw [if_pos d, if_pos (show e < n + 1 by omega)]; omega
      · rw [if_neg d, if_neg (show ¬ e < n + 1 by omega), Nat.add_zero, Nat.add_zero]
theorem pc_or {s e : Nat} (he : e < 10) (h : s.testBit e = false) : pc (s ||| 2 ^ e) = pc s + 1 := by
  unfold pc
  rw [cn_upd (P := s.testBit) (e := e) h (by rw [tb_or, decide_eq_true rfl, Bool.or_true]) (fun i hi => by rw [tb_or, decide_eq_false (Ne.symm hi), Bool.or_false]) 10, if_pos he]
section GREED
variable {S : St} {n F a s : Nat}
/-- what both keep while they look for the next -/
def mostI (S : St) (a s : Nat) (o : Option Nat) : Int32 := o.elim 0 (fun j => S.2 5 (64 * a + (s ||| 2 ^ j)) - S.2 5 (64 * a + s))
def nextI (o : Option Nat) : Int32 := o.elim (-1) nI
def setN (s : Nat) (o : Option Nat) : Nat := o.elim s (fun j => s ||| 2 ^ j)
theorem gd_lt (i : Nat) (hi : i ≤ n) {j : Nat} (h : gdF S a s i = some j) : j < n := by
  rcases gdF_spec S a s i with h2 | ⟨k, hk, h2, -⟩
  · rw [h2] at h; exact absurd h (by simp)
  · rw [h2] at h
    have := Option.some.inj h
    omega
theorem mostI_toInt (hV : IvV S n F) (hF : F ≤ 8) (ha : a < F) (hs : s < 2 ^ n) (i : Nat) (hi : i ≤ n) : (mostI S a s (gdF S a s i)).toInt = (gdF S a s i).elim 0 (gn S a s) := by
  cases h : gdF S a s i with
  | none => show (0 : Int32).toInt = 0; decide
  | some j =>
    have hj := gd_lt i hi h
    have h1 := vl_bd hV hF ha hs
    have h2 := vl_bd hV hF ha (or_lt hs hj)
    show (S.2 5 (64 * a + (s ||| 2 ^ j)) - S.2 5 (64 * a + s)).toInt = gn S a s j
    unfold vl at h1 h2
    rw [sub_toInt (by omega) (by omega)]
    rfl
theorem setN_lt (hs : s < 2 ^ n) (i : Nat) (hi : i ≤ n) : setN s (gdF S a s i) < 2 ^ n := by
  cases h : gdF S a s i with
  | none => exact hs
  | some j => exact or_lt hs (gd_lt i hi h)
theorem greX (hn : S.1 0 = nI n) (hn6 : n ≤ 6) (hV : IvV S n F) (hF : F ≤ 8) (ha : a < F) (hs : s < 2 ^ n) : ∀ k i, i ≤ n → n < i + k → f_X0_greediest_8 S (nI a) (nI s) k (nextI (gdF S a s i)) (mostI S a s (gdF S a s i)) (nI i) = some (nextI (gdF S a s n)) := fun k => by
  have h6 := pow6 hn6
  induction k with
  | zero => intro i h1 h2; omega
  | succ k ih =>
    intro i h1 h2
    rw [f_X0_greediest_8, hn]
    by_cases hi : i = n
    · rw [if_pos (by rw [hi]; exact nI_le (Nat.le_refl n) (by omega)), hi]
    · rw [if_neg (nI_ge (a := i) (b := n) (by omega) (by omega))]
      have h3 := ih (i + 1) (by omega) (by omega)
      rw [gdF] at h3
      unfold bnd
      rw [nI_1]
      show (if f_X0_gain S (nI a) (nI s) (nI i) ≤ _ then _ else _) = _
      by_cases hc : f_X0_gain S (nI a) (nI s) (nI i) ≤ mostI S a s (gdF S a s i)
      · rw [if_pos hc]
        rw [Int32.le_iff_toInt_le, gain_toInt hV hF hn6 ha hs (by omega), mostI_toInt hV hF ha hs i h1] at hc
        rw [if_neg (by omega)] at h3
        exact h3
      · rw [if_neg hc]
        rw [Int32.le_iff_toInt_le, gain_toInt hV hF hn6 ha hs (by omega), mostI_toInt hV hF ha hs i h1] at hc
        rw [if_pos (by omega)] at h3
        rw [gain_nI hF hn6 ha hs (by omega)]
        exact h3
theorem greM (hn : S.1 0 = nI n) (hn6 : n ≤ 6) (hV : IvV S n F) (hF : F ≤ 8) (ha : a < F) (hs : s < 2 ^ n) (p : Int32) (K : St → Int32 → Int32 → Option (Int32 × St)) : ∀ k i, i ≤ n → n < i + k → f_X1_greedy_65 (nI a) p K k S (nI (setN s (gdF S a s i))) (nI s) (nI i) = K S (nI (setN s (gdF S a s n))) (nI s) := fun k => by
  have h6 := pow6 hn6
  induction k with
  | zero => intro i h1 h2; omega
  | succ k ih =>
    intro i h1 h2
    rw [f_X1_greedy_65, hn]
    by_cases hi : i = n
    · rw [if_pos (by rw [hi]; exact nI_le (Nat.le_refl n) (by omega)), hi]
    · rw [if_neg (nI_ge (a := i) (b := n) (by omega) (by omega))]
      have h3 := ih (i + 1) (by omega) (by omega)
      rw [gdF] at h3
      have h4 := or_lt (e := i) hs (by omega)
      have h5 := setN_lt (S := S) (a := a) hs i h1
      unfold bnd
      rw [bit_nI (show i < 10 by omega), nI_or, nI_1]
      show ((rdA 512 (S.2 5) (64 * nI a + nI (s ||| 2 ^ i))).bind _) = _
      rw [mul64', mul64', rd_nI (by omega) (by omega), Option.bind_some, rd_nI (by omega) (by omega), Option.bind_some]
      have h7 : (S.2 5 (64 * a + setN s (gdF S a s i))).toInt = vl S a s + (gdF S a s i).elim 0 (gn S a s) := by
        cases h : gdF S a s i with
        | none => show vl S a s = vl S a s + 0; omega
        | some j => show vl S a (s ||| 2 ^ j) = vl S a s + gn S a s j; unfold gn; omega
      by_cases hc : S.2 5 (64 * a + (s ||| 2 ^ i)) ≤ S.2 5 (64 * a + setN s (gdF S a s i))
      · rw [if_pos hc]
        rw [Int32.le_iff_toInt_le, h7] at hc
        rw [if_neg (by unfold gn at *; unfold vl at *; omega)] at h3
        exact h3
      · rw [if_neg hc]
        rw [Int32.le_iff_toInt_le, h7] at hc
        rw [if_pos (by have : gn S a s i = (S.2 5 (64 * a + (s ||| 2 ^ i))).toInt - vl S a s := rfl
                       omega)] at h3
        exact h3
end GREED
theorem greedy_both {S T : St} {n F a m : Nat} (hn : S.1 0 = nI n) (hT : T.1 0 = nI n) (h5 : T.2 5 = S.2 5) (hn6 : n ≤ 6) (hV : IvV S n F) (hF : F ≤ 8) (ha : a < F) (hm : m ≤ 6) : ∀ k s x, s < 2 ^ n → pc s ≤ 6 → 6 < pc s + k → x ≠ nI s → ∃ w, f_X0_greedy_23 S (nI a) (nI m) k (nI s) (nI (pc s)) = some (0, w, S) ∧ f_X1_greedy_45 (nI a) (nI m) k T (nI s) x = some (w, T) := fun k => by
  have h6 := pow6 hn6
  have hVT : IvV T n F := by unfold IvV; rw [h5]; exact hV
  have hg : ∀ s i, gdF T a s i = gdF S a s i := fun s i => by
    have e : gn T = gn S := by unfold gn vl; rw [h5]
    induction i with
    | zero => rfl
    | succ i ih => rw [gdF, gdF, ih, e]
  induction k with
  | zero => intro s x h1 h2 h3; omega
  | succ k ih =>
    intro s x hs hp hk hx
    rw [f_X0_greedy_23, f_X1_greedy_45, if_neg (show ¬ nI s = x from fun h => hx h.symm), many_nI (by omega), Option.bind_some]
    by_cases hmp : m ≤ pc s
    · rw [if_pos (nI_le hmp (by omega)), if_pos (nI_le hmp (by omega))]
      exact ⟨_, rfl, rfl⟩
    · have hge : ¬ nI m ≤ nI (pc s) := nI_ge (a := pc s) (b := m) (by omega) (by omega)
      rw [if_neg hge, if_neg hge]
      have l1 := greX hn hn6 hV hF ha hs 70 0 (by omega) (by omega)
      have l2 := greM (p := nI m) hT hn6 hVT hF ha hs (f_X1_greedy_45 (nI a) (nI m) k) 70 0 (by omega) (by omega)
      rw [hg] at l2
      rw [show f_X0_greediest S (nI a) (nI s) = _ from l1, Option.bind_some]
      rw [show f_X1_greedy_65 (nI a) (nI m) (f_X1_greedy_45 (nI a) (nI m) k) 70 T (nI s) (nI s) 0 = _ from l2, hg]
      rcases gdF_spec S a s n with h | ⟨j, hj, h, hpos⟩
      · rw [h, if_pos (show nextI none = -1 from rfl)]
        refine ⟨nI s, rfl, ?_⟩
        show f_X1_greedy_45 (nI a) (nI m) k T (nI s) (nI s) = _
        cases k with
        | zero => omega
        | succ k => rw [f_X1_greedy_45, if_pos rfl]
      · have hnb : s.testBit j = false := by
          cases c : s.testBit j with
          | false => rfl
          | true => rw [gn_mem c] at hpos; omega
        rw [h, if_neg (show ¬ nextI (some j) = -1 from fun c => nI_pos (show j < 2 ^ 31 by omega) (by rw [show nI j = -1 from c]; decide))]
        have hpc := pc_or (s := s) (e := j) (by omega) hnb
        obtain ⟨w, w1, w2⟩ := ih (s ||| 2 ^ j) (nI s) (or_lt hs hj) (by omega) (by omega) (by
          have h8 := or_lt hs hj
          refine nI_ne (fun c => ?_) (by omega) (by omega)
          rw [← c] at hpc
          omega)
        refine ⟨w, ?_, w2⟩
        unfold bnd
        show f_X0_greedy_23 S (nI a) (nI m) k (f_X0_with (nI s) (nI j)) (nI (pc s) + 1) = _
        rw [with_nI (by omega), nI_1, ← hpc]
        exact w1
theorem op_greedy {S T : St} {n F t : Nat} (hI : Iv S n F t) (hR : Rel S T) (p q : Int32) : Ag [1, 2] S (f_X0_greedy S p q) (f_X1_greedy T p q) := by
  have hIT := (hR.thr 0).iv hI
  obtain ⟨⟨i1, i2, i3, i4, i5, i6, i7⟩, hC, hE, hK, hRm, hW, hV, hO⟩ := id hI
  obtain ⟨⟨j1, j2, j3, j4, j5, j6, j7⟩, gC, gE, gK, gRm, gW, gV, gO⟩ := id hIT
  have h7 := pow1 n
  unfold f_X0_greedy f_X1_greedy f_X1_greedy_28
  have hth1 : Ag [1, 2] S (some (1, 0, S)) (some (0, sS T 3 1)) := Ag.no 0 1 rfl rfl rfl rfl (hR.thr 1)
  have hth2 : Ag [1, 2] S (some (2, 0, S)) (some (0, sS T 3 2)) := Ag.no 1 2 rfl rfl rfl rfl (hR.thr 2)
  rcases fn_test i2 (hR.2.1.trans i2) i6 p with ⟨a, ha, rfl, e1, e2⟩ | ⟨e1, e2⟩
  · rw [e1, nx1, z0, ne1 e2]
    rcases wi_test q 0 6 with ⟨h1, h2, e1, e2⟩ | ⟨e1, e2⟩
    · rw [e1, nx1, z0, ne1 e2, t0]
      obtain ⟨m, hm, rfl⟩ := le_lit (m := 6) h1 h2 (by omega)
      obtain ⟨w, w1, w2⟩ := greedy_both (T := sS T 3 0) (a := a) (m := m) i1 j1 (hR.2.2.2 5 (by decide)) i5 hV i6 ha hm 70 0 (-1) (by omega) (by decide) (by decide) (by decide)
      exact Ag.ok w1 w2 rfl (hR.thr 0) hI
    · rw [e1, nx0, z2, eq0 e2, t2]
      exact hth2
  · rw [e1, nx0, z1, eq0 e2, t1]
    exact hth1
-- ---- best
def mxF (f : Nat → Int32) (m : Nat) : Nat → Int32
  | 0 => 0
  | i + 1 => if m < pc i then mxF f m i else if f i ≤ mxF f m i then mxF f m i else f i
theorem bestX {S : St} {n a m : Nat} (hn : S.1 0 = nI n) (hn6 : n ≤ 6) (ha : a < 8) (hm : m ≤ 6) : ∀ k s, s ≤ 2 ^ n → 2 ^ n < s + k → f_X0_best_23 S (nI a) (nI m) k (mxF (rowf S a) m s) (nI s) = some (0, mxF (rowf S a) m (2 ^ n), S) := fun k => by
  have h6 := pow6 hn6
  induction k with
  | zero => intro i h1 h2; omega
  | succ k ih =>
    intro s h1 h2
    rw [f_X0_best_23]
    by_cases hi : s = 2 ^ n
    · rw [hi, if_pos (sets_ge hn hn6)]
    · have hp := pc_le s
      rw [if_neg (sets_le hn hn6 (by omega)), bc_nI (by omega), val_nI (by omega)]
      have h3 := ih (s + 1) (by omega) (by omega)
      rw [mxF] at h3
      unfold bnd
      rw [nI_1]
      by_cases hc : m < pc s
      · rw [if_pos hc] at h3
        rw [if_pos (nI_lt hc (by omega))]
        exact h3
      · rw [if_neg hc] at h3
        rw [if_neg (fun h => hc ((nI_ltI (by omega) (by omega)).mp h))]
        by_cases hd : rowf S a s ≤ mxF (rowf S a) m s
        · rw [if_pos hd] at h3
          rw [if_neg (show ¬ mxF (rowf S a) m s < S.2 5 (64 * a + s) from Int32.not_lt.mpr hd)]
          exact h3
        · rw [if_neg hd] at h3
          rw [if_pos (show mxF (rowf S a) m s < S.2 5 (64 * a + s) from Int32.not_le.mp hd)]
          exact h3
theorem bestM {S : St} {n a m : Nat} (hn : S.1 0 = nI n) (h3 : S.1 3 = 0) (hn6 : n ≤ 6) (ha : a < 8) (hm : m ≤ 6) : ∀ k s, s ≤ 2 ^ n → 2 ^ n < s + k → f_X1_best_36 (nI a) (nI m) k S (mxF (rowf S a) m s) (nI s) = some (mxF (rowf S a) m (2 ^ n), S) := fun k => by
  have h6 := pow6 hn6
  induction k with
  | zero => intro i h1 h2; omega
  | succ k ih =>
    intro s h1 h2
    rw [f_X1_best_36]
    by_cases hi : s = 2 ^ n
    · rw [hi, if_pos (isSet_ge hn hn6)]
    · have hp := pc_le s
      rw [if_neg (by rw [isSet_lt hn hn6 (by omega)]; exact one_ne), if_pos h3, many_nI (by omega), Option.bind_some, mul64', rd_nI (by omega) (by omega)]
      have h3 := ih (s + 1) (by omega) (by omega)
      rw [mxF] at h3
      unfold bnd
      rw [nI_1]
      by_cases hc : m < pc s
      · rw [if_pos hc] at h3
        rw [if_pos (nI_lt hc (by omega))]
        exact h3
      · rw [if_neg hc] at h3
        rw [if_neg (fun h => hc ((nI_ltI (by omega) (by omega)).mp h)), Option.bind_some, Option.bind_some]
        by_cases hd : rowf S a s ≤ mxF (rowf S a) m s
        · rw [if_pos hd] at h3
          rw [if_pos (show S.2 5 (64 * a + s) ≤ mxF (rowf S a) m s from hd)]
          exact h3
        · rw [if_neg hd] at h3
          rw [if_neg (show ¬ S.2 5 (64 * a + s) ≤ mxF (rowf S a) m s from hd)]
          exact h3
theorem bestN {T : St} {n : Nat} (hn : T.1 0 = nI n) (hn6 : n ≤ 6) (h3 : ¬ T.1 3 = 0) (p q : Int32) : f_X1_best_36 p q 70 T 0 0 = some (0, T) := by
  have h7 := pow1 n
  rw [f_X1_best_36, if_neg (by rw [show (0 : Int32) = nI 0 from rfl, isSet_lt hn hn6 (by omega)]; exact one_ne), if_neg h3]
theorem op_best {S T : St} {n F t : Nat} (hI : Iv S n F t) (hR : Rel S T) (p q : Int32) : Ag [1, 2] S (f_X0_best S p q) (f_X1_best T p q) := by
  have hIT := hR.iv hI
  obtain ⟨⟨i1, i2, i3, i4, i5, i6, i7⟩, hC, hE, hK, hRm, hW, hV, hO⟩ := id hI
  obtain ⟨⟨j1, j2, j3, j4, j5, j6, j7⟩, gC, gE, gK, gRm, gW, gV, gO⟩ := id hIT
  have h6 := pow6 i5
  have h7 := pow1 n
  unfold f_X0_best f_X1_best f_X1_best_28
  have hth1 : Ag [1, 2] S (some (1, 0, S)) (some (0, sS T 3 1)) := Ag.no 0 1 rfl rfl rfl rfl (hR.thr 1)
  have hth2 : Ag [1, 2] S (some (2, 0, S)) (some (0, sS T 3 2)) := Ag.no 1 2 rfl rfl rfl rfl (hR.thr 2)
  rcases fn_test i2 (hR.2.1.trans i2) i6 p with ⟨a, ha, rfl, e1, e2⟩ | ⟨e1, e2⟩
  · rw [e1, nx1, z0, ne1 e2]
    rcases wi_test q 0 6 with ⟨h1, h2, e1, e2⟩ | ⟨e1, e2⟩
    · rw [e1, nx1, z0, ne1 e2]
      obtain ⟨m, hm, rfl⟩ := le_lit (m := 6) h1 h2 (by omega)
      have l1 := bestX (a := a) i1 i5 (by omega) hm 70 0 (by omega) (by omega)
      have l2 := bestM (S := sS T 3 0) (a := a) j1 rfl i5 (by omega) hm 70 0 (by omega) (by omega)
      rw [show rowf (sS T 3 0) a = rowf S a by unfold rowf; rw [show (sS T 3 0).2 5 = S.2 5 from hR.2.2.2 5 (by decide)]] at l2
      exact Ag.ok l1 l2 rfl (hR.thr 0) hI
    · rw [e1, nx0, z2, eq0 e2, bestN (T := sS T 3 2) j1 i5 (by rw [sS_same]; decide)]
      exact hth2
  · rw [e1, nx0, z1, eq0 e2, bestN (T := sS T 3 1) j1 i5 (by rw [sS_same]; decide)]
    exact hth1

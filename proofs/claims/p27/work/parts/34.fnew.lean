/-! make, sum, contract, cap: the loops over all sets. -/
theorem sets_le {S : St} {n i : Nat} (hS : S.1 0 = nI n) (hn : n ≤ 6) (hi : i < 2 ^ n) : ¬ f_X0_sets S ≤ nI i := by
  have h6 := pow6 hn
  rw [sets_nI hS hn]
  exact nI_ge hi (by omega)
theorem sets_ge {S : St} {n : Nat} (hS : S.1 0 = nI n) (hn : n ≤ 6) : f_X0_sets S ≤ nI (2 ^ n) := by
  have h6 := pow6 hn
  rw [sets_nI hS hn]
  exact nI_le (Nat.le_refl _) (by omega)
/-- the class's states while it writes, and its end -/
def wS (S : St) (F : Nat) (g : Nat → Int32) (i : Nat) : St := sA S 5 (wv (S.2 5) F g i)
def nS (S : St) (n F : Nat) (g : Nat → Int32) : St := sS (wS S F g (2 ^ n)) 1 (nI (F + 1))
theorem put_new {S : St} {F i : Nat} {g : Nat → Int32} (hF : S.1 1 = nI F) (hF8 : F < 8) (hi : i < 64) : f_X0_putNew (wS S F g i) (nI i) (g i) = some (wS S F g (i + 1)) := by
  unfold f_X0_putNew wS
  rw [show (sA S 5 (wv (S.2 5) F g i)).1 1 = nI F from hF, mul64, put_nI (by omega) (by omega), sA_same, sA_sA, wv_step]
theorem wr_new {S : St} {F i : Nat} {g : Nat → Int32} (hF : S.1 1 = nI F) (hF8 : F < 8) (hi : i < 64) : wrA 512 ((wS S F g i).2 5) ((64 * (wS S F g i).1 1) + nI i) (g i) = some (wv (S.2 5) F g (i + 1)) := by
  unfold wS
  rw [show (sA S 5 (wv (S.2 5) F g i)).1 1 = nI F from hF, mul64', wr_nI (by omega) (by omega), sA_same, wv_step]
theorem w_sA {S : St} {F i : Nat} {g : Nat → Int32} : sA (wS S F g i) 5 (wv (S.2 5) F g (i + 1)) = wS S F g (i + 1) := sA_sA S 5 _ _
theorem end_new {S : St} {n F : Nat} {g : Nat → Int32} (hF : S.1 1 = nI F) : f_X0_countNew (wS S F g (2 ^ n)) = some (nI F, nS S n F g) := by
  unfold f_X0_countNew bnd
  rw [show (wS S F g (2 ^ n)).1 1 = nI F from hF, nI_1]
  rfl
theorem w_low {S : St} {F i j : Nat} {g : Nat → Int32} (h : j < 64 * F) : (wS S F g i).2 5 j = S.2 5 j := by
  unfold wS
  rw [sA_same, wv_low h]
theorem endM_new {S : St} {n F : Nat} {g : Nat → Int32} (hF : S.1 1 = nI F) : ((sS (wS S F g (2 ^ n)) 1 (((wS S F g (2 ^ n)).1 1) + 1)).1 1) - 1 = nI F ∧ sS (wS S F g (2 ^ n)) 1 (((wS S F g (2 ^ n)).1 1) + 1) = nS S n F g := by
  rw [show (wS S F g (2 ^ n)).1 1 = nI F from hF, nI_1]
  refine ⟨?_, rfl⟩
  rw [sS_same, ← nI_1]
  exact Int32.add_sub_cancel _ _
theorem make_loop {S : St} {n F j : Nat} (hn : S.1 0 = nI n) (hn6 : n ≤ 6) (hF : S.1 1 = nI F) (hF8 : F < 8) (hC : IvC S) (hE : IvE S) (hK : IvK S) (hR : IvR S) (hj : j ≤ 4) : ∀ k i, i ≤ 2 ^ n → 2 ^ n < i + k → f_X0_make_15 (nI j) k (wS S F (tv S n j) i) (nI i) = some (0, nI F, nS S n F (tv S n j)) := fun k => by
  have h6 := pow6 hn6
  induction k with
  | zero => intro i h1 h2; omega
  | succ k ih =>
    intro i h1 h2
    rw [f_X0_make_15]
    by_cases hi : i = 2 ^ n
    · rw [hi, if_pos (sets_ge (S := wS S F (tv S n j) (2 ^ n)) hn hn6), end_new hF]
      rfl
    · rw [if_neg (sets_le (S := wS S F (tv S n j) i) hn hn6 (by omega))]
      have e1 : f_X0_toldValue (wS S F (tv S n j) i) (nI j) (nI i) = some (tv S n j i) := by
        rw [tvX (S := wS S F (tv S n j) i) hn hn6 hC hE hK hR (by omega) hj]
        rw [tv_congr (S := S) (T := wS S F (tv S n j) i) (fun k hk => sA_other (show k ≠ 5 by omega))]
      rw [e1, Option.bind_some, put_new hF hF8 (by omega)]
      show bnd _ _ = _
      unfold bnd
      rw [nI_1]
      exact ih (i + 1) (by omega) (by omega)
theorem makeM_loop {S : St} {n F j : Nat} (hn : S.1 0 = nI n) (hn6 : n ≤ 6) (hF : S.1 1 = nI F) (hF8 : F < 8) (hC : IvC S) (hE : IvE S) (hK : IvK S) (hR : IvR S) (hj : j ≤ 4) : ∀ k i, i ≤ 2 ^ n → 2 ^ n < i + k → f_X1_make_42 (nI j) k (wS S F (tv S n j) i) (nI i) = some (nI F, nS S n F (tv S n j)) := fun k => by
  have h6 := pow6 hn6
  induction k with
  | zero => intro i h1 h2; omega
  | succ k ih =>
    intro i h1 h2
    rw [f_X1_make_42]
    by_cases hi : i = 2 ^ n
    · rw [hi, if_pos (isSet_ge (T := wS S F (tv S n j) (2 ^ n)) hn hn6)]
      obtain ⟨e1, e2⟩ := endM_new (n := n) (g := tv S n j) hF
      rw [e1, e2]
    · rw [if_neg (by rw [isSet_lt (T := wS S F (tv S n j) i) hn hn6 (by omega)]; exact one_ne)]
      have hT : ∀ k, k < 5 → (wS S F (tv S n j) i).2 k = S.2 k := fun k hk => sA_other (by omega)
      have hv := tv_congr hT n j i
      have h109 : ∀ v, v = tv S n j i → f_X1_make_109 (nI j) (f_X1_make_42 (nI j) k) (wS S F (tv S n j) i) (nI i) ((64 * ((wS S F (tv S n j) i).1 1)) + nI i) v = some (nI F, nS S n F (tv S n j)) := fun v hv => by
        unfold f_X1_make_109
        rw [hv, wr_new hF hF8 (by omega)]
        show bnd _ _ = _
        unfold bnd
        rw [nI_1, w_sA]
        exact ih (i + 1) (by omega) (by omega)
      rcases (show j = 0 ∨ j = 1 ∨ j = 2 ∨ j = 3 ∨ j = 4 by omega) with rfl | rfl | rfl | rfl | rfl
      · rw [if_pos (show nI 0 = 0 from rfl), show f_X1_covered (wS S F (tv S n 0) i) (nI i) = _ from covM_loop (S := wS S F (tv S n 0) i) hn hn6 hC (by omega) 70 0 (by omega) (by omega)]
        exact h109 _ hv
      · rw [if_neg (show ¬ nI 1 = 0 by decide), if_pos (show nI 1 = 1 from rfl), show f_X1_cutBy (wS S F (tv S n 1) i) (nI i) = _ from cutM_out (S := wS S F (tv S n 1) i) hn hn6 hE (by omega) 70 0 (by omega) (by omega)]
        exact h109 _ hv
      · rw [if_neg (show ¬ nI 2 = 0 by decide), if_neg (show ¬ nI 2 = 1 by decide), if_neg (show ¬ nI 2 = 4 by decide), show nI 2 - 2 = nI 0 from rfl, show f_X1_rank (wS S F (tv S n 2) i) (nI 0) (nI i) = _ from rankM_loop (S := wS S F (tv S n 2) i) hn hn6 hK hR (by omega) (by omega) 70 0 (by omega) (by omega)]
        exact h109 _ hv
      · rw [if_neg (show ¬ nI 3 = 0 by decide), if_neg (show ¬ nI 3 = 1 by decide), if_neg (show ¬ nI 3 = 4 by decide), show nI 3 - 2 = nI 1 from rfl, show f_X1_rank (wS S F (tv S n 3) i) (nI 1) (nI i) = _ from rankM_loop (S := wS S F (tv S n 3) i) hn hn6 hK hR (by omega) (by omega) 70 0 (by omega) (by omega)]
        exact h109 _ hv
      · rw [if_neg (show ¬ nI 4 = 0 by decide), if_neg (show ¬ nI 4 = 1 by decide), if_pos (show nI 4 = 4 from rfl), show f_X1_weight (wS S F (tv S n 4) i) (nI i) = _ from wtM_loop (S := wS S F (tv S n 4) i) hn hn6 (by omega) 70 0 (by omega) (by omega)]
        exact h109 _ hv
-- ---- sum
def gSum (f : Nat → Int32) (a b s : Nat) : Int32 := f (64 * a + s) + f (64 * b + s)
theorem sum_loop {S : St} {n F a b : Nat} (hn : S.1 0 = nI n) (hn6 : n ≤ 6) (hF : S.1 1 = nI F) (hF8 : F < 8) (ha : a < F) (hb : b < F) : ∀ k i, i ≤ 2 ^ n → 2 ^ n < i + k → f_X0_sum_30 (nI a) (nI b) k (wS S F (gSum (S.2 5) a b) i) (nI i) = some (0, nI F, nS S n F (gSum (S.2 5) a b)) := fun k => by
  have h6 := pow6 hn6
  induction k with
  | zero => intro i h1 h2; omega
  | succ k ih =>
    intro i h1 h2
    rw [f_X0_sum_30]
    by_cases hi : i = 2 ^ n
    · rw [hi, if_pos (sets_ge (S := wS S F (gSum (S.2 5) a b) (2 ^ n)) hn hn6), end_new hF]
      rfl
    · rw [if_neg (sets_le (S := wS S F (gSum (S.2 5) a b) i) hn hn6 (by omega))]
      rw [val_nI (by omega), val_nI (by omega), w_low (by omega), w_low (by omega)]
      show (f_X0_putNew (wS S F (gSum (S.2 5) a b) i) (nI i) (gSum (S.2 5) a b i)).bind _ = _
      rw [put_new hF hF8 (by omega)]
      show bnd _ _ = _
      unfold bnd
      rw [nI_1]
      exact ih (i + 1) (by omega) (by omega)
theorem sumM_loop {S : St} {n F a b : Nat} (hn : S.1 0 = nI n) (hn6 : n ≤ 6) (hF : S.1 1 = nI F) (hF8 : F < 8) (ha : a < F) (hb : b < F) : ∀ k i, i ≤ 2 ^ n → 2 ^ n < i + k → f_X1_sum_49 (nI a) (nI b) k (wS S F (gSum (S.2 5) a b) i) (nI i) = some (nI F, nS S n F (gSum (S.2 5) a b)) := fun k => by
  have h6 := pow6 hn6
  induction k with
  | zero => intro i h1 h2; omega
  | succ k ih =>
    intro i h1 h2
    rw [f_X1_sum_49]
    by_cases hi : i = 2 ^ n
    · rw [hi, if_pos (isSet_ge (T := wS S F (gSum (S.2 5) a b) (2 ^ n)) hn hn6)]
      obtain ⟨e1, e2⟩ := endM_new (n := n) (g := gSum (S.2 5) a b) hF
      rw [e1, e2]
    · rw [if_neg (by rw [isSet_lt (T := wS S F (gSum (S.2 5) a b) i) hn hn6 (by omega)]; exact one_ne)]
      rw [mul64', mul64', rd_nI (by omega) (by omega), rd_nI (by omega) (by omega), w_low (by omega), w_low (by omega)]
      show (wrA 512 ((wS S F (gSum (S.2 5) a b) i).2 5) ((64 * (wS S F (gSum (S.2 5) a b) i).1 1) + nI i) (gSum (S.2 5) a b i)).bind _ = _
      rw [wr_new hF hF8 (by omega)]
      show bnd _ _ = _
      unfold bnd
      rw [nI_1, w_sA]
      exact ih (i + 1) (by omega) (by omega)
-- ---- contract
def gCon (f : Nat → Int32) (a b s : Nat) : Int32 := f (64 * a + (s ||| b)) - f (64 * a + b)
theorem con_loop {S : St} {n F a b : Nat} (hn : S.1 0 = nI n) (hn6 : n ≤ 6) (hF : S.1 1 = nI F) (hF8 : F < 8) (ha : a < F) (hb : b < 2 ^ n) : ∀ k i, i ≤ 2 ^ n → 2 ^ n < i + k → f_X0_contract_22 (nI a) (nI b) k (wS S F (gCon (S.2 5) a b) i) (nI i) = some (0, nI F, nS S n F (gCon (S.2 5) a b)) := fun k => by
  have h6 := pow6 hn6
  induction k with
  | zero => intro i h1 h2; omega
  | succ k ih =>
    intro i h1 h2
    rw [f_X0_contract_22]
    by_cases hi : i = 2 ^ n
    · rw [hi, if_pos (sets_ge (S := wS S F (gCon (S.2 5) a b) (2 ^ n)) hn hn6), end_new hF]
      rfl
    · rw [if_neg (sets_le (S := wS S F (gCon (S.2 5) a b) i) hn hn6 (by omega))]
      have hor : i ||| b < 2 ^ n := Nat.or_lt_two_pow (by omega) hb
      rw [nI_or, val_nI (by omega), val_nI (by omega), w_low (by omega), w_low (by omega)]
      show (f_X0_putNew (wS S F (gCon (S.2 5) a b) i) (nI i) (gCon (S.2 5) a b i)).bind _ = _
      rw [put_new hF hF8 (by omega)]
      show bnd _ _ = _
      unfold bnd
      rw [nI_1]
      exact ih (i + 1) (by omega) (by omega)
theorem conM_loop {S : St} {n F a b : Nat} (hn : S.1 0 = nI n) (hn6 : n ≤ 6) (hF : S.1 1 = nI F) (hF8 : F < 8) (ha : a < F) (hb : b < 2 ^ n) : ∀ k i, i ≤ 2 ^ n → 2 ^ n < i + k → f_X1_contract_53 (nI a) (nI b) k (wS S F (gCon (S.2 5) a b) i) (nI i) = some (nI F, nS S n F (gCon (S.2 5) a b)) := fun k => by
  have h6 := pow6 hn6
  induction k with
  | zero => intro i h1 h2; omega
  | succ k ih =>
    intro i h1 h2
    rw [f_X1_contract_53]
    by_cases hi : i = 2 ^ n
    · rw [hi, if_pos (isSet_ge (T := wS S F (gCon (S.2 5) a b) (2 ^ n)) hn hn6)]
      obtain ⟨e1, e2⟩ := endM_new (n := n) (g := gCon (S.2 5) a b) hF
      rw [e1, e2]
    · rw [if_neg (by rw [isSet_lt (T := wS S F (gCon (S.2 5) a b) i) hn hn6 (by omega)]; exact one_ne)]
      have hor : i ||| b < 2 ^ n := Nat.or_lt_two_pow (by omega) hb
      rw [nI_or, mul64', mul64', rd_nI (by omega) (by omega), rd_nI (by omega) (by omega), w_low (by omega), w_low (by omega)]
      show (wrA 512 ((wS S F (gCon (S.2 5) a b) i).2 5) ((64 * (wS S F (gCon (S.2 5) a b) i).1 1) + nI i) (gCon (S.2 5) a b i)).bind _ = _
      rw [wr_new hF hF8 (by omega)]
      show bnd _ _ = _
      unfold bnd
      rw [nI_1, w_sA]
      exact ih (i + 1) (by omega) (by omega)
-- ---- cap
def gCap (f : Nat → Int32) (a : Nat) (p : Int32) (s : Nat) : Int32 := if p < f (64 * a + s) then p else f (64 * a + s)
theorem cap_loop {S : St} {n F a : Nat} {p : Int32} (hn : S.1 0 = nI n) (hn6 : n ≤ 6) (hF : S.1 1 = nI F) (hF8 : F < 8) (ha : a < F) : ∀ k i, i ≤ 2 ^ n → 2 ^ n < i + k → f_X0_cap_24 (nI a) p k (wS S F (gCap (S.2 5) a p) i) (nI i) = some (0, nI F, nS S n F (gCap (S.2 5) a p)) := fun k => by
  have h6 := pow6 hn6
  induction k with
  | zero => intro i h1 h2; omega
  | succ k ih =>
    intro i h1 h2
    rw [f_X0_cap_24]
    by_cases hi : i = 2 ^ n
    · rw [hi, if_pos (sets_ge (S := wS S F (gCap (S.2 5) a p) (2 ^ n)) hn hn6), end_new hF]
      rfl
    · rw [if_neg (sets_le (S := wS S F (gCap (S.2 5) a p) i) hn hn6 (by omega))]
      rw [val_nI (by omega), w_low (by omega)]
      show (f_X0_putNew (wS S F (gCap (S.2 5) a p) i) (nI i) (gCap (S.2 5) a p i)).bind _ = _
      rw [put_new hF hF8 (by omega)]
      show bnd _ _ = _
      unfold bnd
      rw [nI_1]
      exact ih (i + 1) (by omega) (by omega)
theorem capM_loop {S : St} {n F a : Nat} {p : Int32} (hn : S.1 0 = nI n) (hn6 : n ≤ 6) (hF : S.1 1 = nI F) (hF8 : F < 8) (ha : a < F) : ∀ k i, i ≤ 2 ^ n → 2 ^ n < i + k → f_X1_cap_55 (nI a) p k (wS S F (gCap (S.2 5) a p) i) (nI i) = some (nI F, nS S n F (gCap (S.2 5) a p)) := fun k => by
  have h6 := pow6 hn6
  induction k with
  | zero => intro i h1 h2; omega
  | succ k ih =>
    intro i h1 h2
    rw [f_X1_cap_55]
    by_cases hi : i = 2 ^ n
    · rw [hi, if_pos (isSet_ge (T := wS S F (gCap (S.2 5) a p) (2 ^ n)) hn hn6)]
      obtain ⟨e1, e2⟩ := endM_new (n := n) (g := gCap (S.2 5) a p) hF
      rw [e1, e2]
    · rw [if_neg (by rw [isSet_lt (T := wS S F (gCap (S.2 5) a p) i) hn hn6 (by omega)]; exact one_ne)]
      rw [mul64', rd_nI (by omega) (by omega), w_low (by omega)]
      have h101 : ∀ v, v = gCap (S.2 5) a p i → f_X1_cap_101 (nI a) p (f_X1_cap_55 (nI a) p k) (wS S F (gCap (S.2 5) a p) i) (nI i) ((64 * ((wS S F (gCap (S.2 5) a p) i).1 1)) + nI i) v = some (nI F, nS S n F (gCap (S.2 5) a p)) := fun v hv => by
        unfold f_X1_cap_101
        rw [hv, wr_new hF hF8 (by omega)]
        show bnd _ _ = _
        unfold bnd
        rw [nI_1, w_sA]
        exact ih (i + 1) (by omega) (by omega)
      show (if p ≤ S.2 5 (64 * a + i) then _ else _) = _
      by_cases h : p ≤ S.2 5 (64 * a + i)
      · rw [if_pos h]
        refine h101 _ ?_
        unfold gCap
        by_cases h2 : p < S.2 5 (64 * a + i)
        · rw [if_pos h2]
        · rw [if_neg h2]
          exact Int32.le_antisymm h (Int32.not_lt.mp h2)
      · rw [if_neg h]
        refine h101 _ ?_
        unfold gCap
        rw [if_neg (fun h2 => h (Int32.le_of_lt h2))]

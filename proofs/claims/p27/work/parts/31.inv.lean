/-! What holds of a state, what two states share, the tests of arguments. -/
def IvN (S : St) (n F t : Nat) : Prop := S.1 0 = nI n ∧ S.1 1 = nI F ∧ S.1 2 = nI t ∧ 1 ≤ n ∧ n ≤ 6 ∧ F ≤ 8 ∧ t ≤ n
def IvC (S : St) : Prop := ∀ e, e < 6 → ∃ c, c < 1024 ∧ S.2 0 e = nI c
def IvE (S : St) : Prop := (∀ j, j < 36 → ∃ w, w ≤ 20 ∧ S.2 1 j = nI w) ∧ ∀ i j, i < 6 → j < 6 → S.2 1 (6 * i + j) = S.2 1 (6 * j + i)
def IvK (S : St) : Prop := ∀ j, j < 12 → ∃ c, c < 6 ∧ S.2 2 j = nI c
def IvR (S : St) : Prop := ∀ j, j < 12 → ∃ r, r ≤ 6 ∧ S.2 3 j = nI r
def IvW (S : St) : Prop := ∀ e, e < 6 → -20 ≤ (S.2 4 e).toInt ∧ (S.2 4 e).toInt ≤ 20
def IvV (S : St) (n F : Nat) : Prop := ∀ k, k < F → S.2 5 (64 * k) = 0 ∧ ∀ s, s < 2 ^ n → -(720 * 2 ^ k : Int) ≤ (S.2 5 (64 * k + s)).toInt ∧ (S.2 5 (64 * k + s)).toInt ≤ 720 * 2 ^ k
def IvO (S : St) (n t : Nat) : Prop := (∀ i, i < t → ∃ e, e < n ∧ S.2 6 i = nI e) ∧ ∀ i j, i < j → j < t → S.2 6 i ≠ S.2 6 j
def Iv (S : St) (n F t : Nat) : Prop := IvN S n F t ∧ IvC S ∧ IvE S ∧ IvK S ∧ IvR S ∧ IvW S ∧ IvV S n F ∧ IvO S n t
def Rel (S T : St) : Prop := T.1 0 = S.1 0 ∧ T.1 1 = S.1 1 ∧ T.1 2 = S.1 2 ∧ ∀ k, k < 7 → T.2 k = S.2 k
theorem Rel.thr {S T : St} (h : Rel S T) (v : Int32) : Rel S (sS T 3 v) := ⟨h.1, h.2.1, h.2.2.1, h.2.2.2⟩
theorem sS_same {S : St} {k : Nat} {v : Int32} : (sS S k v).1 k = v := if_pos rfl
theorem sS_other {S : St} {k j : Nat} {v : Int32} (h : j ≠ k) : (sS S k v).1 j = S.1 j := if_neg h
theorem sA_same {S : St} {k : Nat} {f : Nat → Int32} : (sA S k f).2 k = f := if_pos rfl
theorem sA_other {S : St} {k j : Nat} {f : Nat → Int32} (h : j ≠ k) : (sA S k f).2 j = S.2 j := if_neg h
/-- a number within a and b: both classes ask alike -/
theorem wi_test (p : Int32) (a b : Int32) : (a ≤ p ∧ p ≤ b ∧ f_X0_isWithin p a b = 1 ∧ f_X1_isIn p a b = 1) ∨ (f_X0_isWithin p a b = 0 ∧ f_X1_isIn p a b = 0) := by
  unfold f_X0_isWithin f_X1_isIn
  by_cases h1 : p < a
  · rw [if_pos h1]; exact Or.inr ⟨rfl, rfl⟩
  · rw [if_neg h1]
    by_cases h2 : b < p
    · rw [if_pos h2]; exact Or.inr ⟨rfl, rfl⟩
    · rw [if_neg h2]
      exact Or.inl ⟨Int32.not_lt.mp h1, Int32.not_lt.mp h2, rfl, rfl⟩
theorem below_iff {p : Int32} {n : Nat} (hn : n < 2 ^ 30) (h0 : ¬ p < 0) : nI n ≤ p ↔ nI n - 1 < p := by
  obtain ⟨j, hj, rfl⟩ := nI_of h0
  have e1 : (nI n - 1).toInt = (n : Int) - 1 := by
    rw [show (1 : Int32) = nI 1 from rfl]
    exact pk_sub_toInt hn (by omega)
  rw [Int32.lt_iff_toInt_lt, e1, nI_toInt hj, nI_leI (by omega) hj]
  omega
theorem below_test (p : Int32) {n : Nat} (hn : n < 2 ^ 30) : (∃ j, j < n ∧ p = nI j ∧ (if p < 0 then 0 else if nI n ≤ p then 0 else 1 : Int32) = 1 ∧ f_X1_isIn p 0 (nI n - 1) = 1) ∨ ((if p < 0 then 0 else if nI n ≤ p then 0 else 1 : Int32) = 0 ∧ f_X1_isIn p 0 (nI n - 1) = 0) := by
  unfold f_X1_isIn
  by_cases h1 : p < 0
  · rw [if_pos h1, if_pos h1]; exact Or.inr ⟨rfl, rfl⟩
  · rw [if_neg h1, if_neg h1]
    by_cases h2 : nI n ≤ p
    · rw [if_pos h2, if_pos ((below_iff hn h1).mp h2)]; exact Or.inr ⟨rfl, rfl⟩
    · rw [if_neg h2, if_neg (fun h => h2 ((below_iff hn h1).mpr h))]
      left
      rcases pk_ix p (show n < 2 ^ 31 by omega) with h | h | ⟨j, hj, e⟩
      · exact absurd h h1
      · exact absurd h h2
      · exact ⟨j, hj, e, rfl, rfl⟩
theorem el_test {S T : St} {n : Nat} (hS : S.1 0 = nI n) (hT : T.1 0 = nI n) (hn : n ≤ 6) (p : Int32) : (∃ j, j < n ∧ p = nI j ∧ f_X0_isElement S p = 1 ∧ f_X1_isElement T p = 1) ∨ (f_X0_isElement S p = 0 ∧ f_X1_isElement T p = 0) := by
  unfold f_X0_isElement f_X1_isElement
  rw [hS, hT]
  exact below_test p (by omega)
theorem fn_test {S T : St} {n : Nat} (hS : S.1 1 = nI n) (hT : T.1 1 = nI n) (hn : n ≤ 8) (p : Int32) : (∃ j, j < n ∧ p = nI j ∧ f_X0_isFunction S p = 1 ∧ f_X1_isFunction T p = 1) ∨ (f_X0_isFunction S p = 0 ∧ f_X1_isFunction T p = 0) := by
  unfold f_X0_isFunction f_X1_isFunction
  rw [hS, hT]
  exact below_test p (by omega)
theorem st_test {S T : St} {n : Nat} (hS : S.1 0 = nI n) (hT : T.1 0 = nI n) (hn : n ≤ 6) (p : Int32) : (∃ j, j < 2 ^ n ∧ p = nI j ∧ f_X0_isSet S p = 1 ∧ f_X1_isSet T p = 1) ∨ (f_X0_isSet S p = 0 ∧ f_X1_isSet T p = 0) := by
  unfold f_X0_isSet f_X1_isSet
  rw [sets_nI hS hn, hT, bit_nI (show n < 10 by omega)]
  have := pow6 hn
  exact below_test p (by omega)
theorem fam_test (p : Int32) : (∃ j, j < 2 ∧ p = nI j ∧ f_X0_isFamily p = 1 ∧ f_X1_isIn p 0 1 = 1) ∨ (f_X0_isFamily p = 0 ∧ f_X1_isIn p 0 1 = 0) := below_test p (n := 2) (by omega)
theorem col_test (p : Int32) : (∃ j, j < 6 ∧ p = nI j ∧ f_X0_isColour p = 1 ∧ f_X1_isIn p 0 5 = 1) ∨ (f_X0_isColour p = 0 ∧ f_X1_isIn p 0 5 = 0) := below_test p (n := 6) (by omega)
/-- a set in the reference's loops over all sets -/
theorem isSet_lt {T : St} {n s : Nat} (hT : T.1 0 = nI n) (hn : n ≤ 6) (h : s < 2 ^ n) : f_X1_isSet T (nI s) = 1 := by
  have h6 := pow6 hn
  rcases st_test (S := T) hT hT hn (nI s) with ⟨j, -, -, -, h1⟩ | ⟨h0, -⟩
  · exact h1
  · exfalso
    unfold f_X0_isSet at h0
    rw [sets_nI hT hn, if_neg (nI_pos (by omega)), if_neg (nI_ge h (by omega))] at h0
    exact absurd h0 (by decide)
theorem isSet_ge {T : St} {n : Nat} (hT : T.1 0 = nI n) (hn : n ≤ 6) : f_X1_isSet T (nI (2 ^ n)) = 0 := by
  have h6 := pow6 hn
  rcases st_test (S := T) hT hT hn (nI (2 ^ n)) with ⟨j, hj, e, -, -⟩ | ⟨-, h0⟩
  · have := (nI_eq (by omega) (by omega)).mp e
    omega
  · exact h0
/-- a range's numbers -/
theorem le_lit {p : Int32} {m : Nat} (h0 : (0 : Int32) ≤ p) (h1 : p ≤ nI m) (hm : m < 2 ^ 30) : ∃ j, j ≤ m ∧ p = nI j := by
  obtain ⟨j, hj, rfl⟩ := nI_of (Int32.not_lt.mpr h0)
  exact ⟨j, (nI_leI hj (by omega)).mp h1, rfl⟩

/-! What is told has the law of lessening returns, by every kind. -/
def Sb (g : Nat → Int32) (n : Nat) : Prop := ∀ s o t, s < 2 ^ n → o < t → t < n → s.testBit o = false → s.testBit t = false → (g ((s ||| 2 ^ t) ||| 2 ^ o)).toInt + (g s).toInt ≤ (g (s ||| 2 ^ o)).toInt + (g (s ||| 2 ^ t)).toInt
section MAD
variable {S : St} {n : Nat}
theorem nS_vl {F : Nat} {g : Nat → Int32} {x : Nat} (hx : x < 2 ^ n) : vl (nS S n F g) F x = (g x).toInt := by
  show (wv (S.2 5) F g (2 ^ n) (64 * F + x)).toInt = _
  rw [wv_at hx]
theorem sb_law {F : Nat} {g : Nat → Int32} (h : Sb g n) : lwB (nS S n F g) n F = true := by
  refine (lwB_iff _ _ _).mpr (fun s hs o t ho ht => ?_)
  unfold qlw
  cases c1 : s.testBit o with
  | true => rfl
  | false =>
    cases c2 : s.testBit t with
    | true => rfl
    | false =>
      have h1 := h s o t hs ho ht c1 c2
      have h2 := or_lt hs (show o < n by omega)
      have h3 := or_lt hs ht
      have h4 := or_lt h3 (show o < n by omega)
      show decide (gn (nS S n F g) F (s ||| 2 ^ t) o ≤ gn (nS S n F g) F s o) = true
      refine decide_eq_true ?_
      unfold gn
      rw [nS_vl h4, nS_vl h3, nS_vl h2, nS_vl hs]
      omega
theorem cn4 {A B C D : Nat → Bool} (h : ∀ p, (if A p then 1 else 0) + (if B p then 1 else 0) ≤ (if C p then 1 else 0) + (if D p then 1 else 0 : Nat)) : ∀ k, cn A k + cn B k ≤ cn C k + cn D k := fun k => by
  induction k with
  | zero => exact Nat.le_refl _
  | succ k ih =>
    have h1 := h k
    show cn A k + (if A k then 1 else 0) + (cn B k + (if B k then 1 else 0)) ≤ cn C k + (if C k then 1 else 0) + (cn D k + (if D k then 1 else 0))
    omega
theorem cnf : ∀ k, cn (fun _ => false) k = 0 := fun k => by
  induction k with
  | zero => rfl
  | succ k ih =>
    show cn (fun _ => false) k + 0 = 0
    rw [ih]
theorem cvF_tb (s p : Nat) : ∀ i, (cvF S s i).testBit p = true ↔ ∃ e, e < i ∧ s.testBit e = true ∧ (nt (S.2 0 e)).testBit p = true := fun i => by
  induction i with
  | zero =>
    constructor
    · intro h
      rw [show cvF S s 0 = 0 from rfl, Nat.zero_testBit] at h
      exact absurd h (by decide)
    · intro ⟨e, h, _⟩; omega
  | succ i ih =>
    rw [cvF]
    cases c : s.testBit i with
    | true =>
      rw [if_pos rfl, Nat.testBit_or, Bool.or_eq_true, ih]
      constructor
      · intro h
        rcases h with ⟨e, h1, h2, h3⟩ | h
        · exact ⟨e, by omega, h2, h3⟩
        · exact ⟨i, by omega, c, h⟩
      · intro ⟨e, h1, h2, h3⟩
        by_cases he : e = i
        · subst he; exact Or.inr h3
        · exact Or.inl ⟨e, by omega, h2, h3⟩
    | false =>
      rw [if_neg (by decide), ih]
      constructor
      · intro ⟨e, h1, h2, h3⟩; exact ⟨e, by omega, h2, h3⟩
      · intro ⟨e, h1, h2, h3⟩
        by_cases he : e = i
        · subst he; rw [c] at h2; exact absurd h2 (by decide)
        · exact ⟨e, by omega, h2, h3⟩
theorem cover4 (s o t : Nat) : pc (cvF S ((s ||| 2 ^ t) ||| 2 ^ o) n) + pc (cvF S s n) ≤ pc (cvF S (s ||| 2 ^ o) n) + pc (cvF S (s ||| 2 ^ t) n) := by
  unfold pc
  refine cn4 (fun p => ?_) 10
  have hA : (cvF S ((s ||| 2 ^ t) ||| 2 ^ o) n).testBit p = true → (cvF S (s ||| 2 ^ o) n).testBit p = true ∨ (cvF S (s ||| 2 ^ t) n).testBit p = true := fun h => by
    obtain ⟨e, h1, h2, h3⟩ := (cvF_tb _ p n).mp h
    rw [tb_or, Bool.or_eq_true] at h2
    rcases h2 with h2 | h2
    · exact Or.inr ((cvF_tb _ p n).mpr ⟨e, h1, h2, h3⟩)
    · exact Or.inl ((cvF_tb _ p n).mpr ⟨e, h1, by rw [tb_or, h2, Bool.or_true], h3⟩)
  have hB : (cvF S s n).testBit p = true → (cvF S (s ||| 2 ^ o) n).testBit p = true ∧ (cvF S (s ||| 2 ^ t) n).testBit p = true := fun h => by
    obtain ⟨e, h1, h2, h3⟩ := (cvF_tb _ p n).mp h
    exact ⟨(cvF_tb _ p n).mpr ⟨e, h1, by rw [tb_or, h2]; rfl, h3⟩, (cvF_tb _ p n).mpr ⟨e, h1, by rw [tb_or, h2]; rfl, h3⟩⟩
  cases a : (cvF S ((s ||| 2 ^ t) ||| 2 ^ o) n).testBit p <;> cases b : (cvF S s n).testBit p <;> cases c : (cvF S (s ||| 2 ^ o) n).testBit p <;> cases d : (cvF S (s ||| 2 ^ t) n).testBit p <;> simp_all
theorem cut4 {s o t : Nat} (hot : o < t) : ctF S ((s ||| 2 ^ t) ||| 2 ^ o) n + ctF S s n ≤ ctF S (s ||| 2 ^ o) n + ctF S (s ||| 2 ^ t) n := by
  unfold ctF
  rw [← sm_add, ← sm_add]
  refine sm_le (fun a _ => ?_)
  rw [← sm_add, ← sm_add]
  refine sm_le (fun b _ => ?_)
  unfold cE
  simp only [tb_or]
  generalize wE S a b = w
  by_cases h1 : o = a
  · have h2 : ¬ t = a := by omega
    by_cases h3 : o = b
    · have h4 : ¬ t = b := by omega
      rw [decide_eq_true h1, decide_eq_false h2, decide_eq_true h3, decide_eq_false h4]
      cases s.testBit a <;> cases s.testBit b <;> simp
    · by_cases h4 : t = b
      · rw [decide_eq_true h1, decide_eq_false h2, decide_eq_false h3, decide_eq_true h4]
        cases s.testBit a <;> cases s.testBit b <;> simp
      · rw [decide_eq_true h1, decide_eq_false h2, decide_eq_false h3, decide_eq_false h4]
        cases s.testBit a <;> cases s.testBit b <;> simp
  · by_cases h2 : t = a
    · by_cases h3 : o = b
      · have h4 : ¬ t = b := by omega
        rw [decide_eq_false h1, decide_eq_true h2, decide_eq_true h3, decide_eq_false h4]
        cases s.testBit a <;> cases s.testBit b <;> simp
      · by_cases h4 : t = b
        · rw [decide_eq_false h1, decide_eq_true h2, decide_eq_false h3, decide_eq_true h4]
          cases s.testBit a <;> cases s.testBit b <;> simp
        · rw [decide_eq_false h1, decide_eq_true h2, decide_eq_false h3, decide_eq_false h4]
          cases s.testBit a <;> cases s.testBit b <;> simp
    · by_cases h3 : o = b
      · have h4 : ¬ t = b := by omega
        rw [decide_eq_false h1, decide_eq_false h2, decide_eq_true h3, decide_eq_false h4]
        cases s.testBit a <;> cases s.testBit b <;> simp
      · by_cases h4 : t = b
        · rw [decide_eq_false h1, decide_eq_false h2, decide_eq_false h3, decide_eq_true h4]
          cases s.testBit a <;> cases s.testBit b <;> simp
        · rw [decide_eq_false h1, decide_eq_false h2, decide_eq_false h3, decide_eq_false h4]
          cases s.testBit a <;> cases s.testBit b <;> simp
theorem cut_bd (hE : IvE S) (hn6 : n ≤ 6) (s : Nat) : ctF S s n ≤ 720 := by
  unfold ctF
  have h1 : ∀ a, a < n → sm (cE S s a) n ≤ 120 := fun a ha => by
    refine Nat.le_trans (sm_le (g := fun _ => 20) (fun b hb => ?_)) (by rw [sm_const]; omega)
    have := (wE_of hE (show a < 6 by omega) (show b < 6 by omega)).2
    unfold cE
    split
    · split
      · omega
      · exact this
    · omega
  refine Nat.le_trans (sm_le (g := fun _ => 120) h1) (by rw [sm_const]; omega)
theorem rank4 {s o t f : Nat} (hot : o < t) (ht : t < n) (h1 : s.testBit o = false) (h2 : s.testBit t = false) : rkF S n f ((s ||| 2 ^ t) ||| 2 ^ o) + rkF S n f s ≤ rkF S n f (s ||| 2 ^ o) + rkF S n f (s ||| 2 ^ t) := by
  unfold rkF
  rw [← sm_add, ← sm_add]
  refine sm_le (fun c _ => ?_)
  have h3 : (s ||| 2 ^ t).testBit o = false := by rw [tb_or, h1, decide_eq_false (show ¬ t = o by omega)]; rfl
  rw [ct_or (show o < n by omega) h3, ct_or ht h2, ct_or (show o < n by omega) h1]
  split <;> split <;> omega
theorem wt_or {s e : Nat} (h : s.testBit e = false) : ∀ i, wtF S (s ||| 2 ^ e) i = if e < i then wtF S s i + S.2 4 e else wtF S s i := fun i => by
  induction i with
  | zero => rw [if_neg (by omega)]; rfl
  | succ i ih =>
    rw [wtF, wtF, tb_or]
    by_cases he : e = i
    · subst he
      rw [decide_eq_true rfl, Bool.or_true, if_pos rfl, h, if_neg (show ¬ false = true by decide), if_pos (by omega), ih, if_neg (by omega)]
    · rw [decide_eq_false he, Bool.or_false, ih]
      by_cases c : e < i
      · rw [if_pos c, if_pos (show e < i + 1 by omega)]
        cases s.testBit i
        · rfl
        · rw [if_pos rfl, if_pos rfl, Int32.add_assoc, Int32.add_comm (S.2 4 e), ← Int32.add_assoc]
      · rw [if_neg c, if_neg (show ¬ e < i + 1 by omega)]
theorem tv_sb {F t j : Nat} (hI : Iv S n F t) (hj : j ≤ 4) : Sb (tv S n j) n := by
  obtain ⟨⟨i1, i2, i3, i4, i5, i6, i7⟩, hC, hE, hK, hRm, hW, hV, hO⟩ := id hI
  intro s o t hs ho ht h1 h2
  have hp : ∀ x, (nI (pc (cvF S x n))).toInt = (pc (cvF S x n) : Int) := fun x => nI_toInt (by have := pc_le (cvF S x n); omega)
  have hc : ∀ x, (nI (ctF S x n)).toInt = (ctF S x n : Int) := fun x => nI_toInt (by have := cut_bd (n := n) hE i5 x; omega)
  have hr : ∀ f, f < 2 → ∀ x, (nI (rkF S n f x)).toInt = (rkF S n f x : Int) := fun f hf x => nI_toInt (by have := rk_le (n := n) (s := x) hRm hf; omega)
  unfold tv
  rcases (show j = 0 ∨ j = 1 ∨ j = 2 ∨ j = 3 ∨ j = 4 by omega) with rfl | rfl | rfl | rfl | rfl
  · simp only [if_true]
    rw [hp, hp, hp, hp]
    have := cover4 (S := S) (n := n) s o t
    omega
  · simp only [if_true, Nat.one_ne_zero, if_false]
    rw [hc, hc, hc, hc]
    have := cut4 (S := S) (n := n) (s := s) ho
    omega
  · simp only [show ¬ (2 : Nat) = 0 by decide, show ¬ (2 : Nat) = 1 by decide, if_true, if_false]
    rw [hr 0 (by omega), hr 0 (by omega), hr 0 (by omega), hr 0 (by omega)]
    have := rank4 (S := S) (n := n) (f := 0) ho ht h1 h2
    omega
  · simp only [show ¬ (3 : Nat) = 0 by decide, show ¬ (3 : Nat) = 1 by decide, show ¬ (3 : Nat) = 2 by decide, if_true, if_false]
    rw [hr 1 (by omega), hr 1 (by omega), hr 1 (by omega), hr 1 (by omega)]
    have := rank4 (S := S) (n := n) (f := 1) ho ht h1 h2
    omega
  · simp only [show ¬ (4 : Nat) = 0 by decide, show ¬ (4 : Nat) = 1 by decide, show ¬ (4 : Nat) = 2 by decide, show ¬ (4 : Nat) = 3 by decide, if_false]
    have h3 : (s ||| 2 ^ t).testBit o = false := by rw [tb_or, h1, decide_eq_false (show ¬ t = o by omega)]; rfl
    rw [wt_or h3 n, if_pos (show o < n by omega), wt_or h1 n, if_pos (show o < n by omega)]
    have b1 := wtF_bd hW s n i5
    have b2 := wtF_bd hW (s ||| 2 ^ t) n i5
    have b3 := hW o (by omega)
    rw [add_toInt (by omega) (by omega), add_toInt (by omega) (by omega)]
    omega
theorem made_law {F t j : Nat} (hI : Iv S n F t) (hj : j ≤ 4) : lwB (nS S n F (tv S n j)) n F = true := sb_law (tv_sb hI hj)
/-- where a function rises its least value is that of the empty set -/
theorem rises_least {F t a : Nat} (hI : Iv S n F t) (ha : a < F) (hr : rsB S n a = true) (hL : lwB S n a = true) : lsV S n a = 0 := by
  obtain ⟨⟨i1, i2, i3, i4, i5, i6, i7⟩, hC, hE, hK, hRm, hW, hV, hO⟩ := id hI
  have h7 := pow1 n
  obtain ⟨r, -, r2, -, r4⟩ := ls_at hI ha hL 0
  have hz : rowf S a 0 = 0 := (hV a ha).1
  have h1 : lsV S n a ≤ rowf S a 0 := mn_le _ _ 0 (by omega)
  have h2 : ∀ m s, s < 2 ^ n → pc s = m → 0 ≤ vl S a s := fun m => by
    induction m with
    | zero =>
      intro s hs hp
      have : s = 0 := by
        refine Nat.eq_of_testBit_eq (fun i => ?_)
        rw [Nat.zero_testBit]
        by_cases hi : i < 10
        · exact cn_none 10 hp i hi
        · exact tb_hi hs (by omega)
      rw [this]
      show 0 ≤ (rowf S a 0).toInt
      rw [hz]; decide
    | succ m ih =>
      intro s hs hp
      have hex : ∃ e, e < n ∧ s.testBit e = true := Classical.byContradiction (fun hno => by
        have : pc s = 0 := by
          unfold pc
          rw [cn_congr (Q := fun _ => false) (fun i hi => ?_)]
          · exact cnf 10
          · cases c : s.testBit i with
            | false => rfl
            | true =>
              exact absurd ⟨i, Classical.byContradiction (fun h => by rw [tb_hi hs (by omega)] at c; exact absurd c (by decide)), c⟩ hno
        omega)
      obtain ⟨e, he, hb⟩ := hex
      have hs10 : s < 1024 := Nat.lt_of_lt_of_le hs (by have := pow6 i5; omega)
      have hw := wo_or hs10 (show e < 10 by omega) hb
      have hwe := wo_self hs10 (show e < 10 by omega)
      have hwl : wo s e < 2 ^ n := Nat.lt_of_le_of_lt (wo_le s e) hs
      have hpc := pc_or (s := wo s e) (e := e) (by omega) hwe
      rw [hw] at hpc
      have h3 := ih (wo s e) hwl (by omega)
      have h4 := (al_iff _ _).mp ((al_iff _ _).mp hr (wo s e) hwl) e he
      have h5 : 0 ≤ gn S a (wo s e) e := of_decide_eq_true h4
      unfold gn at h5
      rw [hw] at h5
      omega
  have h3 := h2 (pc r) r r2 rfl
  have h4 : (0 : Int32) ≤ lsV S n a := by
    rw [r4]
    exact Int32.le_iff_toInt_le.mpr h3
  rw [hz] at h1
  exact Int32.le_antisymm h1 h4
end MAD

/-! least, leastSet: what is searched is what is gone through. -/
theorem mn_le (f : Nat → Int32) : ∀ k i, i < k → mnF f k ≤ f i := fun k => by
  induction k with
  | zero => intro i h; omega
  | succ k ih =>
    intro i h
    rw [mnF]
    by_cases c : mnF f k ≤ f k
    · rw [if_pos c]
      by_cases d : i = k
      · rw [d]; exact c
      · exact ih i (by omega)
    · rw [if_neg c]
      by_cases d : i = k
      · rw [d]; exact Int32.le_refl _
      · exact Int32.le_trans (Int32.le_of_lt (Int32.not_le.mp c)) (ih i (by omega))
theorem mn_ex (f : Nat → Int32) (h0 : f 0 = 0) : ∀ k, ∃ i, i < k + 1 ∧ mnF f (k + 1) = f i := fun k => by
  induction k with
  | zero =>
    refine ⟨0, by omega, ?_⟩
    rw [mnF, mnF, h0]
    split <;> rfl
  | succ k ih =>
    obtain ⟨i, hi, h⟩ := ih
    rw [mnF]
    by_cases c : mnF f (k + 1) ≤ f (k + 1)
    · rw [if_pos c]; exact ⟨i, by omega, h⟩
    · rw [if_neg c]; exact ⟨k + 1, by omega, rfl⟩
theorem mt_iff (f : Nat → Int32) (x : Int32) (n j : Nat) : ∀ k, (mtF f x n k).testBit j = true ↔ j < n ∧ ∀ i, i < k → f i = x → i.testBit j = true := fun k => by
  induction k with
  | zero =>
    rw [mtF, tb_full]
    exact ⟨fun h => ⟨of_decide_eq_true h, fun i hi => absurd hi (by omega)⟩, fun h => decide_eq_true h.1⟩
  | succ k ih =>
    rw [mtF]
    by_cases c : f k = x
    · rw [if_pos c, Nat.testBit_and, Bool.and_eq_true, ih]
      refine ⟨fun h => ⟨h.1.1, fun i hi hx => ?_⟩, fun h => ⟨⟨h.1, fun i hi => h.2 i (by omega)⟩, h.2 k (by omega) c⟩⟩
      by_cases d : i = k
      · rw [d]; exact h.2
      · exact h.1.2 i (by omega) hx
    · rw [if_neg c, ih]
      refine ⟨fun h => ⟨h.1, fun i hi hx => ?_⟩, fun h => ⟨h.1, fun i hi => h.2 i (by omega)⟩⟩
      by_cases d : i = k
      · rw [d] at hx; exact absurd hx c
      · exact h.2 i (by omega) hx
theorem wh_iff (f : Nat → Int32) (x : Int32) (j : Nat) : ∀ k, (whF f x k).testBit j = true ↔ ∃ i, i < k ∧ f i = x ∧ i.testBit j = true := fun k => by
  induction k with
  | zero =>
    rw [whF, Nat.zero_testBit]
    exact ⟨fun h => absurd h (by decide), fun ⟨i, hi, _⟩ => absurd hi (by omega)⟩
  | succ k ih =>
    rw [whF]
    by_cases c : f k = x
    · rw [if_pos c, Nat.testBit_or, Bool.or_eq_true, ih]
      constructor
      · rintro (⟨i, hi, h⟩ | h)
        · exact ⟨i, by omega, h⟩
        · exact ⟨k, by omega, c, h⟩
      · rintro ⟨i, hi, h1, h2⟩
        by_cases d : i = k
        · rw [d] at h2; exact Or.inr h2
        · exact Or.inl ⟨i, by omega, h1, h2⟩
    · rw [if_neg c, ih]
      constructor
      · rintro ⟨i, hi, h⟩; exact ⟨i, by omega, h⟩
      · rintro ⟨i, hi, h1, h2⟩
        by_cases d : i = k
        · rw [d] at h1; exact absurd h1 c
        · exact ⟨i, by omega, h1, h2⟩
section OPL
variable {S : St} {n F a r : Nat} {g : Bool}
theorem mn_at (hV : IvV S n F) (ha : a < F) (hr : r < 2 ^ n) (hx : ∀ s, s < 2 ^ n → vl S a r ≤ vl S a s) : mnF (rowf S a) (2 ^ n) = S.2 5 (64 * a + r) := by
  have h7 := pow1 n
  have h0 : rowf S a 0 = 0 := (hV a ha).1
  obtain ⟨i, hi, h⟩ := mn_ex (rowf S a) h0 (2 ^ n - 1)
  rw [show 2 ^ n - 1 + 1 = 2 ^ n by omega] at h hi
  refine Int32.le_antisymm (mn_le (rowf S a) (2 ^ n) r hr) ?_
  rw [h, Int32.le_iff_toInt_le]
  exact hx i hi
theorem row_eq {s : Nat} : rowf S a s = S.2 5 (64 * a + r) ↔ vl S a s = vl S a r := ⟨fun h => congrArg Int32.toInt h, fun h => Int32.toInt_inj.mp h⟩
theorem mt_at (hr : r < 2 ^ n) (hx : ∀ s, s < 2 ^ n → vl S a s = vl S a r → sub r s) : mtF (rowf S a) (S.2 5 (64 * a + r)) n (2 ^ n) = r := by
  refine sub_eq (fun j hj => ?_) (fun j hj => ?_)
  · exact ((mt_iff _ _ _ _ _).mp hj).2 r hr rfl
  · refine (mt_iff _ _ _ _ _).mpr ⟨?_, fun i hi h => hx i hi (row_eq.mp h) j hj⟩
    refine Classical.byContradiction (fun c => ?_)
    rw [tb_hi hr (by omega)] at hj
    exact absurd hj (by decide)
theorem wh_at (hr : r < 2 ^ n) (hx : ∀ s, s < 2 ^ n → vl S a s = vl S a r → sub s r) : whF (rowf S a) (S.2 5 (64 * a + r)) (2 ^ n) = r := by
  refine sub_eq (fun j hj => ?_) (fun j hj => ?_)
  · obtain ⟨i, hi, h1, h2⟩ := (wh_iff _ _ _ _).mp hj
    exact hx i hi (row_eq.mp h1) j h2
  · exact (wh_iff _ _ _ _).mpr ⟨r, hr, rfl, hj⟩
end OPL
theorem op_least {S T : St} {n F t : Nat} (hI : Iv S n F t) (hR : Rel S T) (p : Int32) : Ag [1, 3] S (f_X0_least S p) (f_X1_least T p) := by
  have hIT := hR.iv hI
  obtain ⟨⟨i1, i2, i3, i4, i5, i6, i7⟩, hC, hE, hK, hRm, hW, hV, hO⟩ := id hI
  obtain ⟨⟨j1, j2, j3, j4, j5, j6, j7⟩, gC, gE, gK, gRm, gW, gV, gO⟩ := id hIT
  have h6 := pow6 i5
  have h7 := pow1 n
  unfold f_X0_least f_X1_least f_X1_least_26
  have hth1 : Ag [1, 3] S (some (1, 0, S)) (some (0, sS T 3 1)) := Ag.no 0 1 rfl rfl rfl rfl (hR.thr 1)
  have hth2 : Ag [1, 3] S (some (3, 0, S)) (some (0, sS T 3 2)) := Ag.no 1 3 rfl rfl rfl rfl (hR.thr 2)
  rcases fn_test i2 (hR.2.1.trans i2) i6 p with ⟨a, ha, rfl, e1, e2⟩ | ⟨e1, e2⟩
  · rw [e1, nx1, z0, ne1 e2, hasLawX i1 i5 hV i6 ha, hasLawM j1 j5 gV j6 ha, Option.bind_some, Option.bind_some, lwB_rel (S := S) (T := T) (hR.2.2.2 5 (by decide))]
    cases hL : lwB S n a with
    | false =>
      rw [show bI false = 0 from rfl, nx0, z3, eq0 (show (0 : Int32) = 0 from rfl), t2]
      exact hth2
    | true =>
      rw [show bI true = 1 from rfl, nx1, z0, ne1 (show (1 : Int32) = 1 from rfl), t0]
      obtain ⟨r, r1, r2, r3⟩ := lb_all (g := false) (p := 0) i1 i5 hV i6 ha hL (by decide)
      have hl := leastM (S := sS T 3 0) (n := n) (a := a) j1 j5 (by omega) 70 0 (by omega) (by omega)
      rw [show rowf (sS T 3 0) a = rowf S a by unfold rowf; rw [show (sS T 3 0).2 5 = S.2 5 from hR.2.2.2 5 (by decide)], mn_at hV ha r2 (fun s hs => (r3 s hs).1)] at hl
      rw [r1, Option.bind_some, show f_X1_leastOf (sS T 3 0) (nI a) = _ from hl, Option.bind_some, val_nI (by omega)]
      exact Ag.ok rfl rfl rfl (hR.thr 0) hI
  · rw [e1, nx0, z1, eq0 e2, t1]
    exact hth1
theorem op_leastSet {S T : St} {n F t : Nat} (hI : Iv S n F t) (hR : Rel S T) (p q : Int32) : Ag [1, 3] S (f_X0_leastSet S p q) (f_X1_leastSet T p q) := by
  have hIT := hR.iv hI
  obtain ⟨⟨i1, i2, i3, i4, i5, i6, i7⟩, hC, hE, hK, hRm, hW, hV, hO⟩ := id hI
  obtain ⟨⟨j1, j2, j3, j4, j5, j6, j7⟩, gC, gE, gK, gRm, gW, gV, gO⟩ := id hIT
  have h6 := pow6 i5
  have h7 := pow1 n
  unfold f_X0_leastSet f_X1_leastSet f_X1_leastSets
  have hth1 : Ag [1, 3] S (some (1, 0, S)) (some (0, sS T 3 1)) := Ag.no 0 1 rfl rfl rfl rfl (hR.thr 1)
  have hth2 : Ag [1, 3] S (some (3, 0, S)) (some (0, sS T 3 2)) := Ag.no 1 3 rfl rfl rfl rfl (hR.thr 2)
  rcases fn_test i2 (hR.2.1.trans i2) i6 p with ⟨a, ha, rfl, e1, e2⟩ | ⟨e1, e2⟩
  · rw [e1, nx1, z0, ne1 e2, hasLawX i1 i5 hV i6 ha, hasLawM j1 j5 gV j6 ha, Option.bind_some, Option.bind_some, lwB_rel (S := S) (T := T) (hR.2.2.2 5 (by decide))]
    cases hL : lwB S n a with
    | false =>
      show Ag [1, 3] S (if nx 3 0 = 0 then _ else _) ((f_X1_leastSets_26 (nI a) q T 2).bind _)
      unfold f_X1_leastSets_26
      rw [nx0, z3, t2]
      exact hth2
    | true =>
      show Ag [1, 3] S (if nx 3 1 = 0 then _ else _) ((f_X1_leastSets_26 (nI a) q T 0).bind _)
      rw [nx1, z0, leastSetsM j1 j5 (by omega)]
      have hrow : rowf T a = rowf S a := by unfold rowf; rw [hR.2.2.2 5 (by decide)]
      rw [hrow]
      by_cases hq : q = 0
      · obtain ⟨r, r1, r2, r3⟩ := lb_all (g := false) (p := q) i1 i5 hV i6 ha hL ⟨fun _ => rfl, fun _ => hq⟩
        rw [r1, Option.bind_some, if_pos hq, mn_at hV ha r2 (fun s hs => (r3 s hs).1), mt_at r2 (fun s hs h => by
          have := (r3 s hs).2 h
          rw [if_neg (by decide)] at this
          exact this)]
        exact Ag.ok rfl rfl rfl (hR.thr 0) hI
      · obtain ⟨r, r1, r2, r3⟩ := lb_all (g := true) (p := q) i1 i5 hV i6 ha hL ⟨fun h => absurd h hq, fun h => absurd h (by decide)⟩
        rw [r1, Option.bind_some, if_neg hq, mn_at hV ha r2 (fun s hs => (r3 s hs).1), wh_at r2 (fun s hs h => by
          have := (r3 s hs).2 h
          rw [if_pos rfl] at this
          exact this)]
        exact Ag.ok rfl rfl rfl (hR.thr 0) hI
  · unfold f_X1_leastSets_26
    rw [e1, nx0, z1, eq0 e2, t1]
    exact hth1

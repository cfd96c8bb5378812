/-! The law as a law of all sets; the least sets of a range. -/
def sub (s t : Nat) : Prop := ∀ i, s.testBit i = true → t.testBit i = true
theorem sub_rfl (s : Nat) : sub s s := fun _ h => h
theorem sub_trans {a b c : Nat} (h : sub a b) (k : sub b c) : sub a c := fun i x => k i (h i x)
theorem sub_eq {a b : Nat} (h : sub a b) (k : sub b a) : a = b := by
  apply Nat.eq_of_testBit_eq
  intro i
  cases c : a.testBit i with
  | true => rw [h i c]
  | false =>
    cases d : b.testBit i with
    | false => rfl
    | true => rw [k i d] at c; exact absurd c (by decide)
theorem sub_lt {a b n : Nat} (h : sub a b) (hb : b < 2 ^ n) : a < 2 ^ n := by
  refine Nat.lt_pow_two_of_testBit a (fun i hi => ?_)
  cases c : a.testBit i with
  | false => rfl
  | true => have := h i c; rw [tb_hi hb hi] at this; exact absurd this (by decide)
/-- both sets with an element more -/
theorem or_pow {s e : Nat} (h : s.testBit e = true) : s ||| 2 ^ e = s := by
  apply Nat.eq_of_testBit_eq
  intro i
  rw [tb_or]
  by_cases c : e = i
  · rw [← c, h]; rfl
  · rw [decide_eq_false c, Bool.or_false]
/-- a set with the first elements of another -/
def pre (s t i : Nat) : Nat := s ||| (t % 2 ^ i)
theorem tb_pre (s t i j : Nat) : (pre s t i).testBit j = (s.testBit j || (decide (j < i) && t.testBit j)) := by
  unfold pre
  rw [Nat.testBit_or, Nat.testBit_mod_two_pow]
theorem pre_0 (s t : Nat) : pre s t 0 = s := by
  apply Nat.eq_of_testBit_eq
  intro j
  rw [tb_pre, decide_eq_false (Nat.not_lt_zero j), Bool.false_and, Bool.or_false]
theorem pre_n {s t n : Nat} (ht : t < 2 ^ n) : pre s t n = s ||| t := by
  unfold pre
  rw [Nat.mod_eq_of_lt ht]
theorem pre_succ (s t i : Nat) : pre s t (i + 1) = if t.testBit i then pre s t i ||| 2 ^ i else pre s t i := by
  apply Nat.eq_of_testBit_eq
  intro j
  by_cases c : t.testBit i = true
  · rw [if_pos c, tb_or, tb_pre, tb_pre]
    by_cases d : i = j
    · rw [← d, c, decide_eq_true (Nat.lt_succ_self i), decide_eq_true rfl, Bool.true_and, Bool.or_true, Bool.or_true]
    · rw [decide_eq_false d, Bool.or_false]
      by_cases e : j < i
      · rw [decide_eq_true e, decide_eq_true (show j < i + 1 by omega)]
      · rw [decide_eq_false e, decide_eq_false (show ¬ j < i + 1 by omega)]
  · rw [if_neg c, tb_pre, tb_pre]
    by_cases d : i = j
    · rw [← d, eq_false_of_ne_true c, Bool.and_false, Bool.and_false]
    · by_cases e : j < i
      · rw [decide_eq_true e, decide_eq_true (show j < i + 1 by omega)]
      · rw [decide_eq_false e, decide_eq_false (show ¬ j < i + 1 by omega)]
theorem pre_lt {s t n : Nat} (hs : s < 2 ^ n) (ht : t < 2 ^ n) (i : Nat) : pre s t i < 2 ^ n := Nat.or_lt_two_pow hs (Nat.lt_of_le_of_lt (Nat.mod_le _ _) ht)
section LATTICE
variable {S : St} {n a : Nat} (hL : lwB S n a = true)
/-- an element adds no more to a larger set -/
theorem dr1 (hL : lwB S n a = true) {s e i : Nat} (hs : s < 2 ^ n) (he : e < n) (hi : i < n) (hei : e ≠ i) (h1 : s.testBit e = false) : gn S a (s ||| 2 ^ i) e ≤ gn S a s e := by
  cases h2 : s.testBit i with
  | true => rw [or_pow h2]; exact Int.le_refl _
  | false =>
    rcases Nat.lt_or_gt_of_ne hei with h | h
    · have := (lwB_iff S n a).mp hL s hs e i h hi
      unfold qlw at this
      rw [h1, h2] at this
      exact of_decide_eq_true this
    · have := (lwB_iff S n a).mp hL s hs i e h he
      unfold qlw at this
      rw [h1, h2] at this
      have h3 : gn S a (s ||| 2 ^ e) i ≤ gn S a s i := of_decide_eq_true this
      have h4 : s ||| 2 ^ e ||| 2 ^ i = s ||| 2 ^ i ||| 2 ^ e := by rw [Nat.or_assoc, Nat.or_comm (2 ^ e), ← Nat.or_assoc]
      unfold gn at h3 ⊢
      rw [h4] at h3
      omega
theorem drp (hL : lwB S n a = true) {s t e : Nat} (hs : s < 2 ^ n) (ht : t < 2 ^ n) (he : e < n) (h1 : s.testBit e = false) (h2 : t.testBit e = false) : ∀ i, i ≤ n → gn S a (pre s t i) e ≤ gn S a s e := fun i => by
  induction i with
  | zero => intro _; rw [pre_0]; exact Int.le_refl _
  | succ i ih =>
    intro hi
    rw [pre_succ]
    by_cases c : t.testBit i = true
    · rw [if_pos c]
      have h3 : (pre s t i).testBit e = false := by rw [tb_pre, h1, h2, Bool.and_false]; rfl
      have h4 : e ≠ i := fun d => by rw [d, c] at h2; exact absurd h2 (by decide)
      exact Int.le_trans (dr1 hL (pre_lt hs ht i) he (by omega) h4 h3) (ih (by omega))
    · rw [if_neg c]; exact ih (by omega)
theorem or_sub {s t : Nat} (h : sub s t) : s ||| t = t := by
  apply Nat.eq_of_testBit_eq
  intro i
  rw [Nat.testBit_or]
  cases c : s.testBit i with
  | false => rfl
  | true => rw [h i c]; rfl
theorem dr (hL : lwB S n a = true) {s t e : Nat} (hst : sub s t) (ht : t < 2 ^ n) (he : e < n) (h2 : t.testBit e = false) : gn S a t e ≤ gn S a s e := by
  have h1 : s.testBit e = false := by
    cases c : s.testBit e with
    | false => rfl
    | true => rw [hst e c] at h2; exact absurd h2 (by decide)
  have := drp hL (sub_lt hst ht) ht he h1 h2 n (Nat.le_refl n)
  rw [pre_n ht, or_sub hst] at this
  exact this
theorem and_or {s t : Nat} : (s &&& t) ||| t = t := or_sub (fun i h => by
  rw [Nat.testBit_and, Bool.and_eq_true] at h
  exact h.2)
/-- submodular -/
theorem sm_law (hL : lwB S n a = true) {s t : Nat} (hs : s < 2 ^ n) (ht : t < 2 ^ n) : vl S a (s ||| t) + vl S a (s &&& t) ≤ vl S a s + vl S a t := by
  have hm : s &&& t < 2 ^ n := Nat.and_lt_two_pow _ ht
  have key : ∀ i, i ≤ n → vl S a (pre s t i) - vl S a s ≤ vl S a (pre (s &&& t) t i) - vl S a (s &&& t) := fun i => by
    induction i with
    | zero => intro _; rw [pre_0, pre_0]; omega
    | succ i ih =>
      intro hi
      have h1 := ih (by omega)
      rw [pre_succ, pre_succ]
      by_cases c : t.testBit i = true
      · rw [if_pos c, if_pos c]
        cases d : s.testBit i with
        | true =>
          rw [or_pow (s := pre s t i) (by rw [tb_pre, d]; rfl), or_pow (s := pre (s &&& t) t i) (by rw [tb_pre, Nat.testBit_and, d, c]; rfl)]
          exact h1
        | false =>
          have hsub : sub (pre (s &&& t) t i) (pre s t i) := fun j hj => by
            rw [tb_pre, Nat.testBit_and, Bool.or_eq_true, Bool.and_eq_true] at hj
            rw [tb_pre, Bool.or_eq_true]
            rcases hj with hj | hj
            · exact Or.inl hj.1
            · exact Or.inr hj
          have h2 := dr hL hsub (pre_lt hs ht i) (show i < n by omega) (by rw [tb_pre, d, decide_eq_false (Nat.lt_irrefl i)]; rfl)
          unfold gn at h2
          omega
      · rw [if_neg c, if_neg c]; exact h1
  have := key n (Nat.le_refl n)
  rw [pre_n ht, pre_n ht, and_or] at this
  omega
end LATTICE
/-- the least or the greatest of the sets with the least value in a range -/
def Ext (S : St) (a : Nat) (g : Bool) (lo hi r : Nat) : Prop := sub lo r ∧ sub r hi ∧ ∀ s, sub lo s → sub s hi → vl S a r ≤ vl S a s ∧ (vl S a s = vl S a r → if g then sub s r else sub r s)
theorem sub_or {s e t : Nat} (h : sub s t) (he : t.testBit e = true) : sub (s ||| 2 ^ e) t := fun i hi => by
  rw [tb_or, Bool.or_eq_true] at hi
  rcases hi with hi | hi
  · exact h i hi
  · rw [← of_decide_eq_true hi]; exact he
theorem sub_or_self (s e : Nat) : sub s (s ||| 2 ^ e) := fun i hi => by rw [tb_or, hi]; rfl
theorem wo_sub {s e : Nat} (hs : s < 1024) (he : e < 10) : sub (wo s e) s := fun i hi => by
  rw [tb_wo hs he, Bool.and_eq_true] at hi
  exact hi.1
theorem sub_wo {s t e : Nat} (ht : t < 1024) (he : e < 10) (h : sub s t) (h1 : s.testBit e = false) : sub s (wo t e) := fun i hi => by
  rw [tb_wo ht he, h i hi]
  by_cases c : e = i
  · rw [← c, h1] at hi; exact absurd hi (by decide)
  · rw [decide_eq_false c]; rfl
theorem wo_self {s e : Nat} (hs : s < 1024) (he : e < 10) : (wo s e).testBit e = false := by rw [tb_wo hs he, decide_eq_true rfl]; exact Bool.and_false _
theorem wo_or {s e : Nat} (hs : s < 1024) (he : e < 10) (h : s.testBit e = true) : wo s e ||| 2 ^ e = s := by
  apply Nat.eq_of_testBit_eq
  intro i
  rw [tb_or, tb_wo hs he]
  by_cases c : e = i
  · rw [← c, h, decide_eq_true rfl]; rfl
  · rw [decide_eq_false c, Bool.or_false]; exact Bool.and_true _
section NARROW
variable {S : St} {n a lo hi e r : Nat} {g : Bool}
theorem ext_in (hL : lwB S n a = true) (hn6 : n ≤ 6) (hh : hi < 2 ^ n) (hlh : sub lo hi) (he : e < n) (h1 : hi.testBit e = true) (hg : gn S a lo e < 0 ∨ (gn S a lo e = 0 ∧ g = true)) (hx : Ext S a g (lo ||| 2 ^ e) hi r) : Ext S a g lo hi r := by
  obtain ⟨x1, x2, x3⟩ := hx
  refine ⟨sub_trans (sub_or_self lo e) x1, x2, fun s hs1 hs2 => ?_⟩
  have hs3 : sub (lo ||| 2 ^ e) (s ||| 2 ^ e) := fun i hi2 => by
    rw [tb_or, Bool.or_eq_true] at hi2 ⊢
    exact hi2.imp (hs1 i) id
  have hs4 : sub (s ||| 2 ^ e) hi := sub_or hs2 h1
  obtain ⟨y1, y2⟩ := x3 _ hs3 hs4
  cases c : s.testBit e with
  | true => rw [or_pow c] at y1 y2; exact ⟨y1, y2⟩
  | false =>
    have h2 := dr hL hs1 (sub_lt hs2 hh) he c
    have h3 : gn S a s e = vl S a (s ||| 2 ^ e) - vl S a s := rfl
    refine ⟨by omega, fun heq => ?_⟩
    rcases hg with hg | ⟨hg, hgt⟩
    · omega
    · have h4 := y2 (by omega)
      rw [hgt, if_pos rfl] at h4 ⊢
      exact sub_trans (sub_or_self s e) h4
theorem ext_out (hL : lwB S n a = true) (hn6 : n ≤ 6) (hh : hi < 2 ^ n) (he : e < n) (h1 : hi.testBit e = true) (h0 : lo.testBit e = false) (hg : 0 < gn S a (wo hi e) e ∨ (gn S a (wo hi e) e = 0 ∧ g = false)) (hx : Ext S a g lo (wo hi e) r) : Ext S a g lo hi r := by
  have h6 := pow6 hn6
  obtain ⟨x1, x2, x3⟩ := hx
  refine ⟨x1, sub_trans x2 (wo_sub (by omega) (by omega)), fun s hs1 hs2 => ?_⟩
  have hs : s < 2 ^ n := sub_lt hs2 hh
  cases c : s.testBit e with
  | false => exact x3 s hs1 (sub_wo (by omega) (by omega) hs2 c)
  | true =>
    have hs3 : sub lo (wo s e) := sub_wo (by omega) (by omega) hs1 h0
    have hs4 : sub (wo s e) (wo hi e) := sub_wo (by omega) (by omega) (sub_trans (wo_sub (by omega) (by omega)) hs2) (wo_self (by omega) (by omega))
    obtain ⟨y1, y2⟩ := x3 _ hs3 hs4
    have h2 := dr hL hs4 (Nat.lt_of_le_of_lt (wo_le hi e) hh) he (wo_self (by omega) (by omega))
    have h3 : gn S a (wo s e) e = vl S a s - vl S a (wo s e) := by
      unfold gn
      rw [wo_or (by omega) (by omega) c]
    refine ⟨by omega, fun heq => ?_⟩
    rcases hg with hg | ⟨hg, hgt⟩
    · omega
    · have h4 := y2 (by omega)
      rw [hgt, if_neg (by decide)] at h4 ⊢
      exact sub_trans h4 (wo_sub (by omega) (by omega))
theorem ext_having {h l : Nat} (hL : lwB S n a = true) (hn6 : n ≤ 6) (hh : hi < 2 ^ n) (h1 : hi.testBit e = true) (he : e < n) (hH : Ext S a g (lo ||| 2 ^ e) hi h) (hl : Ext S a g lo (wo hi e) l) (hc : vl S a h < vl S a l ∨ (vl S a h = vl S a l ∧ g = true)) : Ext S a g lo hi h := by
  have h6 := pow6 hn6
  obtain ⟨x1, x2, x3⟩ := hH
  obtain ⟨z1, z2, z3⟩ := hl
  refine ⟨sub_trans (sub_or_self lo e) x1, x2, fun s hs1 hs2 => ?_⟩
  have hs : s < 2 ^ n := sub_lt hs2 hh
  cases c : s.testBit e with
  | true => exact x3 s (sub_or hs1 c) hs2
  | false =>
    obtain ⟨y1, y2⟩ := z3 s hs1 (sub_wo (by omega) (by omega) hs2 c)
    refine ⟨by omega, fun heq => ?_⟩
    rcases hc with hc | ⟨hc, hgt⟩
    · omega
    · have hhl := sub_lt x2 hh
      have hsm := sm_law hL hs hhl
      have u1 := (x3 (s ||| h) (fun i hi2 => by rw [Nat.testBit_or, x1 i hi2, Bool.or_true]) (fun i hi2 => by
        rw [Nat.testBit_or, Bool.or_eq_true] at hi2
        exact hi2.elim (hs2 i) (x2 i)))
      have u2 := (z3 (s &&& h) (fun i hi2 => by rw [Nat.testBit_and, hs1 i hi2, x1 i (by rw [tb_or, hi2]; rfl)]; rfl) (sub_wo (by omega) (by omega) (fun i hi2 => by
        rw [Nat.testBit_and, Bool.and_eq_true] at hi2
        exact hs2 i hi2.1) (by rw [Nat.testBit_and, c]; rfl))).1
      have u3 := u1.2 (by omega)
      rw [hgt, if_pos rfl] at u3 ⊢
      exact fun i hi2 => u3 i (by rw [Nat.testBit_or, hi2]; rfl)
theorem ext_lacking {h l : Nat} (hL : lwB S n a = true) (hn6 : n ≤ 6) (hh : hi < 2 ^ n) (h1 : hi.testBit e = true) (he : e < n) (hH : Ext S a g (lo ||| 2 ^ e) hi h) (hl : Ext S a g lo (wo hi e) l) (hc : vl S a l < vl S a h ∨ (vl S a h = vl S a l ∧ g = false)) : Ext S a g lo hi l := by
  have h6 := pow6 hn6
  obtain ⟨x1, x2, x3⟩ := hH
  obtain ⟨z1, z2, z3⟩ := hl
  have hwl := wo_sub (s := hi) (e := e) (by omega) (by omega)
  refine ⟨z1, sub_trans z2 hwl, fun s hs1 hs2 => ?_⟩
  have hs : s < 2 ^ n := sub_lt hs2 hh
  cases c : s.testBit e with
  | false => exact z3 s hs1 (sub_wo (by omega) (by omega) hs2 c)
  | true =>
    obtain ⟨y1, y2⟩ := x3 s (sub_or hs1 c) hs2
    refine ⟨by omega, fun heq => ?_⟩
    rcases hc with hc | ⟨hc, hgt⟩
    · omega
    · have hll := sub_lt (sub_trans z2 hwl) hh
      have hsm := sm_law hL hs hll
      have hle : l.testBit e = false := by
        cases d : l.testBit e with
        | false => rfl
        | true =>
          have := z2 e d
          rw [wo_self (by omega) (by omega)] at this
          exact absurd this (by decide)
      have u1 := (x3 (s ||| l) (sub_or (fun i hi2 => by rw [Nat.testBit_or, hs1 i hi2]; rfl) (by rw [Nat.testBit_or, c]; rfl)) (fun i hi2 => by
        rw [Nat.testBit_or, Bool.or_eq_true] at hi2
        exact hi2.elim (hs2 i) (fun q => hwl i (z2 i q)))).1
      have u2 := z3 (s &&& l) (fun i hi2 => by rw [Nat.testBit_and, hs1 i hi2, z1 i hi2]; rfl) (sub_wo (by omega) (by omega) (fun i hi2 => by
        rw [Nat.testBit_and, Bool.and_eq_true] at hi2
        exact hs2 i hi2.1) (by rw [Nat.testBit_and, hle, Bool.and_false]))
      have u3 := u2.2 (by omega)
      rw [hgt, if_neg (by decide)] at u3 ⊢
      exact fun i hi2 => by
        have := u3 i hi2
        rw [Nat.testBit_and, Bool.and_eq_true] at this
        exact this.1
theorem ext_pt (s : Nat) : Ext S a g s s s := ⟨sub_rfl s, sub_rfl s, fun t h1 h2 => by
  rw [sub_eq h2 h1]
  refine ⟨Int.le_refl _, fun _ => ?_⟩
  cases g
  · rw [if_neg (by decide)]; exact sub_rfl s
  · rw [if_pos rfl]; exact sub_rfl s⟩
end NARROW

/-! isLawful, rises, the least sets gone through. -/
theorem u0 {α : Type} {T : St} {a b : α} : (if ((sS T 3 0).1 3) = 0 then a else b) = a := if_pos (by rw [sS_same])
theorem u1 {α : Type} {T : St} {a b : α} : (if ((sS T 3 1).1 3) = 0 then a else b) = b := if_neg (by rw [sS_same]; decide)
theorem bI_1 (b : Bool) : bI b &&& 1 = bI b := by cases b <;> decide
theorem op_isLawful {S T : St} {n F t : Nat} (hI : Iv S n F t) (hR : Rel S T) (p : Int32) : Ag [1] S (f_X0_isLawful S p) (f_X1_isLawful T p) := by
  have hIT := (hR.thr 0).iv hI
  obtain ⟨⟨i1, i2, i3, i4, i5, i6, i7⟩, hC, hE, hK, hRm, hW, hV, hO⟩ := id hI
  obtain ⟨⟨j1, j2, j3, j4, j5, j6, j7⟩, gC, gE, gK, gRm, gW, gV, gO⟩ := id hIT
  unfold f_X0_isLawful f_X1_isLawful f_X1_isLawful_14
  have hth1 : Ag [1] S (some (1, 0, S)) (some (0, sS T 3 1)) := Ag.no 0 1 rfl rfl rfl rfl (hR.thr 1)
  rcases fn_test i2 (hR.2.1.trans i2) i6 p with ⟨a, ha, rfl, e1, e2⟩ | ⟨e1, e2⟩
  · rw [e1, nx1, z0, ne1 e2, u0, hasLawX i1 i5 hV i6 ha, hasLawM j1 j5 gV j6 ha, Option.bind_some, Option.bind_some, if_pos (bI_1 _), lwB_rel (S := S) (T := sS T 3 0) (hR.2.2.2 5 (by decide))]
    cases lwB S n a with
    | true => exact Ag.ok rfl rfl rfl (hR.thr 0) hI
    | false => exact Ag.ok rfl rfl rfl (hR.thr 0) hI
  · rw [e1, nx0, z1, eq0 e2, u1]
    exact hth1
-- ---- rises
def rsP (S : St) (a s e : Nat) : Bool := decide (0 ≤ gn S a s e)
def rsB (S : St) (n a : Nat) : Bool := al (fun s => al (rsP S a s) n) (2 ^ n)
theorem rsB_rel {S T : St} (h : T.2 5 = S.2 5) (n a : Nat) : rsB T n a = rsB S n a := by
  unfold rsB rsP gn vl
  rw [h]
section RISES
variable {S : St} {n F a s : Nat}
theorem risX_in (hn : S.1 0 = nI n) (hn6 : n ≤ 6) (hV : IvV S n F) (hF : F ≤ 8) (ha : a < F) (hs : s < 2 ^ n) (K : Int32 → Option (Nat × Int32 × St)) : ∀ k e, e ≤ n → n < e + k → al (rsP S a s) e = true → f_X0_rises_20 S (nI a) K k (nI s) (nI e) = if al (rsP S a s) n then K (nI (s + 1)) else some (0, 0, S) := fun k => by
  have h6 := pow6 hn6
  induction k with
  | zero => intro i h1 h2; omega
  | succ k ih =>
    intro e h1 h2 hal
    rw [f_X0_rises_20, hn]
    by_cases hi : e = n
    · rw [if_pos (by rw [hi]; exact nI_le (Nat.le_refl n) (by omega))]
      rw [hi] at hal
      unfold bnd
      rw [nI_1, hal, if_pos rfl]
    · rw [if_neg (nI_ge (a := e) (b := n) (by omega) (by omega))]
      by_cases hc : 0 ≤ f_X0_gain S (nI a) (nI s) (nI e)
      · rw [if_pos hc]
        unfold bnd
        rw [nI_1]
        rw [Int32.le_iff_toInt_le, gain_toInt hV hF hn6 ha hs (by omega)] at hc
        exact ih (e + 1) (by omega) (by omega) (by rw [al, hal, show rsP S a s e = true from decide_eq_true hc]; rfl)
      · rw [if_neg hc]
        rw [Int32.le_iff_toInt_le, gain_toInt hV hF hn6 ha hs (by omega)] at hc
        rw [al_not (i := e) (by omega) (show rsP S a s e = false from decide_eq_false hc)]
        rfl
theorem risX (hn : S.1 0 = nI n) (hn6 : n ≤ 6) (hV : IvV S n F) (hF : F ≤ 8) (ha : a < F) : ∀ k s, s ≤ 2 ^ n → 2 ^ n < s + k → al (fun s => al (rsP S a s) n) s = true → f_X0_rises_10 S (nI a) k (nI s) = some (0, bI (rsB S n a), S) := fun k => by
  have h6 := pow6 hn6
  induction k with
  | zero => intro i h1 h2; omega
  | succ k ih =>
    intro s h1 h2 hal
    rw [f_X0_rises_10]
    by_cases hi : s = 2 ^ n
    · rw [hi] at hal
      rw [hi, if_pos (sets_ge hn hn6)]
      unfold rsB
      rw [hal]; rfl
    · rw [if_neg (sets_le hn hn6 (by omega))]
      refine (risX_in hn hn6 hV hF ha (show s < 2 ^ n by omega) (f_X0_rises_10 S (nI a) k) 70 0 (by omega) (by omega) rfl).trans ?_
      cases c : al (rsP S a s) n with
      | true =>
        rw [if_pos rfl]
        exact ih (s + 1) (by omega) (by omega) (by rw [al, hal, c]; rfl)
      | false =>
        rw [if_neg (by decide)]
        unfold rsB
        rw [al_not (i := s) (by omega) c]
        rfl
theorem risM_in (hn : S.1 0 = nI n) (hn6 : n ≤ 6) (hV : IvV S n F) (hF : F ≤ 8) (ha : a < F) (hs : s < 2 ^ n) (K : St → Int32 → Int32 → Option (Int32 × St)) (b : Bool) : ∀ k e, e ≤ n → n < e + k → f_X1_rises_47 (nI a) K k S (bI (b && al (rsP S a s) e)) (nI s) (nI e) = K S (bI (b && al (rsP S a s) n)) (nI (s + 1)) := fun k => by
  have h6 := pow6 hn6
  induction k with
  | zero => intro i h1 h2; omega
  | succ k ih =>
    intro e h1 h2
    rw [f_X1_rises_47, hn]
    by_cases hi : e = n
    · rw [if_pos (by rw [hi]; exact nI_le (Nat.le_refl n) (by omega)), hi]
      unfold bnd
      rw [nI_1]
    · rw [if_neg (nI_ge (a := e) (b := n) (by omega) (by omega))]
      have h3 := ih (e + 1) (by omega) (by omega)
      rw [al] at h3
      have h4 := or_lt (e := e) hs (by omega)
      rw [bit_nI (show e < 10 by omega), nI_or, mul64', mul64', rd_nI (by omega) (by omega), Option.bind_some, rd_nI (by omega) (by omega), Option.bind_some]
      have hend : ∀ c : Bool, c = rsP S a s e → f_X1_rises_92 (nI a) K (f_X1_rises_47 (nI a) K k) S (nI s) (nI e) (bI (b && al (rsP S a s) e)) (bI c) = K S (bI (b && al (rsP S a s) n)) (nI (s + 1)) := fun c hc => by
        unfold f_X1_rises_92 bnd
        rw [bI_and, hc, nI_1, Bool.and_assoc]
        exact h3
      by_cases hc : S.2 5 (64 * a + (s ||| 2 ^ e)) < S.2 5 (64 * a + s)
      · rw [if_pos hc]
        rw [Int32.lt_iff_toInt_lt] at hc
        refine hend false ?_
        unfold rsP
        rw [decide_eq_false]
        unfold gn vl
        omega
      · rw [if_neg hc]
        rw [Int32.lt_iff_toInt_lt] at hc
        refine hend true ?_
        unfold rsP
        rw [decide_eq_true]
        unfold gn vl
        omega
theorem risM (hn : S.1 0 = nI n) (hn6 : n ≤ 6) (hV : IvV S n F) (hF : F ≤ 8) (ha : a < F) : ∀ k s, s ≤ 2 ^ n → 2 ^ n < s + k → f_X1_rises_32 (nI a) k S (bI (al (fun s => al (rsP S a s) n) s)) (nI s) = some (bI (rsB S n a), S) := fun k => by
  have h6 := pow6 hn6
  induction k with
  | zero => intro i h1 h2; omega
  | succ k ih =>
    intro s h1 h2
    rw [f_X1_rises_32]
    by_cases hi : s = 2 ^ n
    · rw [hi, if_pos (isSet_ge hn hn6), if_pos (bI_1 _)]
      rfl
    · rw [if_neg (by rw [isSet_lt hn hn6 (by omega)]; exact one_ne)]
      cases c : al (fun s => al (rsP S a s) n) s with
      | false =>
        rw [if_pos (show bI false = 0 from rfl), if_pos (bI_1 _)]
        have : rsB S n a = false := by
          cases d : rsB S n a with
          | false => rfl
          | true =>
            exfalso
            have h8 : al (fun s => al (rsP S a s) n) s = true := (al_iff _ _).mpr (fun i hi => (al_iff _ _).mp d i (by omega))
            rw [c] at h8
            exact absurd h8 (by decide)
        rw [this]
      | true =>
        rw [if_neg (show ¬ bI true = 0 from one_ne)]
        have h3 := risM_in hn hn6 hV hF ha (show s < 2 ^ n by omega) (f_X1_rises_32 (nI a) k) true 70 0 (by omega) (by omega)
        have h4 := ih (s + 1) (by omega) (by omega)
        rw [al, c] at h4
        exact h3.trans h4
end RISES
theorem op_rises {S T : St} {n F t : Nat} (hI : Iv S n F t) (hR : Rel S T) (p : Int32) : Ag [1] S (f_X0_rises S p) (f_X1_rises T p) := by
  have hIT := (hR.thr 0).iv hI
  obtain ⟨⟨i1, i2, i3, i4, i5, i6, i7⟩, hC, hE, hK, hRm, hW, hV, hO⟩ := id hI
  obtain ⟨⟨j1, j2, j3, j4, j5, j6, j7⟩, gC, gE, gK, gRm, gW, gV, gO⟩ := id hIT
  have h6 := pow6 i5
  have h7 := pow1 n
  unfold f_X0_rises f_X1_rises f_X1_rises_14
  rcases fn_test i2 (hR.2.1.trans i2) i6 p with ⟨a, ha, rfl, e1, e2⟩ | ⟨e1, e2⟩
  · rw [e1, nx1, z0, ne1 e2, u0]
    have l1 := risX i1 i5 hV i6 ha 70 0 (by omega) (by omega) rfl
    have l2 := risM j1 j5 gV j6 ha 70 0 (by omega) (by omega)
    rw [rsB_rel (S := S) (T := sS T 3 0) (hR.2.2.2 5 (by decide))] at l2
    exact Ag.ok l1 l2 rfl (hR.thr 0) hI
  · rw [e1, nx0, z1, eq0 e2, u1]
    refine Ag.no (b := 0) (T' := sS T 3 1) 0 1 rfl rfl ?_ rfl (hR.thr 1)
    rw [f_X1_rises_32, if_neg (by rw [show (0 : Int32) = nI 0 from rfl, isSet_lt (T := sS T 3 1) (n := n) j1 i5 (by omega)]; exact one_ne), if_pos rfl, if_pos (by decide)]
-- ---- least values and sets
def mnF (f : Nat → Int32) : Nat → Int32
  | 0 => 0
  | i + 1 => if mnF f i ≤ f i then mnF f i else f i
def mtF (f : Nat → Int32) (x : Int32) (n : Nat) : Nat → Nat
  | 0 => 2 ^ n - 1
  | i + 1 => if f i = x then mtF f x n i &&& i else mtF f x n i
def whF (f : Nat → Int32) (x : Int32) : Nat → Nat
  | 0 => 0
  | i + 1 => if f i = x then whF f x i ||| i else whF f x i
def rowf (S : St) (a : Nat) (s : Nat) : Int32 := S.2 5 (64 * a + s)
section LEAST
variable {S : St} {n F a : Nat}
theorem leastM (hn : S.1 0 = nI n) (hn6 : n ≤ 6) (ha : a < 8) : ∀ k s, s ≤ 2 ^ n → 2 ^ n < s + k → f_X1_leastOf_4 S (nI a) k (mnF (rowf S a) s) (nI s) = some (mnF (rowf S a) (2 ^ n)) := fun k => by
  have h6 := pow6 hn6
  induction k with
  | zero => intro i h1 h2; omega
  | succ k ih =>
    intro s h1 h2
    rw [f_X1_leastOf_4]
    by_cases hi : s = 2 ^ n
    · rw [hi, if_pos (isSet_ge hn hn6)]
    · rw [if_neg (by rw [isSet_lt hn hn6 (by omega)]; exact one_ne), mul64', rd_nI (by omega) (by omega), Option.bind_some, Option.bind_some]
      have h3 := ih (s + 1) (by omega) (by omega)
      rw [mnF] at h3
      unfold bnd
      rw [nI_1]
      by_cases hc : mnF (rowf S a) s ≤ rowf S a s
      · rw [if_pos hc] at h3
        rw [if_pos (show mnF (rowf S a) s ≤ S.2 5 (64 * a + s) from hc)]
        exact h3
      · rw [if_neg hc] at h3
        rw [if_neg (show ¬ mnF (rowf S a) s ≤ S.2 5 (64 * a + s) from hc)]
        exact h3
theorem setsM (hn : S.1 0 = nI n) (hn6 : n ≤ 6) (ha : a < 8) (p x : Int32) : ∀ k s, s ≤ 2 ^ n → 2 ^ n < s + k → f_X1_leastSets_60 (nI a) p k S x (nI (mtF (rowf S a) x n s)) (nI (whF (rowf S a) x s)) (nI s) = some (if p = 0 then nI (mtF (rowf S a) x n (2 ^ n)) else nI (whF (rowf S a) x (2 ^ n)), S) := fun k => by
  have h6 := pow6 hn6
  induction k with
  | zero => intro i h1 h2; omega
  | succ k ih =>
    intro s h1 h2
    rw [f_X1_leastSets_60]
    by_cases hi : s = 2 ^ n
    · rw [hi, if_pos (isSet_ge hn hn6)]
      by_cases hp : p = 0
      · rw [if_pos hp, if_pos hp]
      · rw [if_neg hp, if_neg hp]
    · rw [if_neg (by rw [isSet_lt hn hn6 (by omega)]; exact one_ne), mul64', rd_nI (by omega) (by omega), Option.bind_some]
      have h3 := ih (s + 1) (by omega) (by omega)
      rw [mtF, whF] at h3
      unfold f_X1_leastSets_94 f_X1_leastSets_121 bnd
      rw [mul64', rd_nI (by omega) (by omega), nI_1]
      by_cases hc : rowf S a s = x
      · rw [if_pos hc, if_pos hc] at h3
        have hc' : S.2 5 (64 * a + s) = x := hc
        rw [if_pos hc']
        show (if S.2 5 (64 * a + s) = x then _ else _) = _
        rw [if_pos hc', nI_and, nI_or]
        exact h3
      · rw [if_neg hc, if_neg hc] at h3
        have hc' : ¬ S.2 5 (64 * a + s) = x := hc
        rw [if_neg hc']
        show (if S.2 5 (64 * a + s) = x then _ else _) = _
        rw [if_neg hc', nI_and, Nat.and_self, show (0 : Int32) = nI 0 from rfl, nI_or, Nat.or_zero]
        exact h3
theorem full_nI (hn6 : n ≤ 6) : nI (2 ^ n) - 1 = nI (2 ^ n - 1) := by
  have h7 := pow1 n
  have h8 : 2 ^ n = 2 ^ n - 1 + 1 := by omega
  rw [h8, ← nI_1, Int32.add_sub_cancel]
  rfl
theorem setsX (hn : S.1 0 = nI n) (hn6 : n ≤ 6) (ha : a < 8) (p x : Int32) : ∀ k s, s ≤ 2 ^ n → 2 ^ n < s + k → f_X0_leastSetAnew_62 S (nI a) p k x (nI (mtF (rowf S a) x n s)) (nI (whF (rowf S a) x s)) (nI s) = some (0, if p = 0 then nI (mtF (rowf S a) x n (2 ^ n)) else nI (whF (rowf S a) x (2 ^ n)), S) := fun k => by
  have h6 := pow6 hn6
  induction k with
  | zero => intro i h1 h2; omega
  | succ k ih =>
    intro s h1 h2
    rw [f_X0_leastSetAnew_62]
    by_cases hi : s = 2 ^ n
    · rw [hi, if_pos (sets_ge hn hn6)]
      by_cases hp : p = 0
      · rw [if_pos hp, if_pos hp]
      · rw [if_neg hp, if_neg hp]
    · rw [if_neg (sets_le hn hn6 (by omega)), val_nI (by omega)]
      have h3 := ih (s + 1) (by omega) (by omega)
      rw [mtF, whF] at h3
      unfold bnd
      rw [nI_1]
      by_cases hc : rowf S a s = x
      · rw [if_pos hc, if_pos hc] at h3
        rw [if_pos (show S.2 5 (64 * a + s) = x from hc), nI_and, nI_or]
        exact h3
      · rw [if_neg hc, if_neg hc] at h3
        rw [if_neg (show ¬ S.2 5 (64 * a + s) = x from hc)]
        exact h3
theorem leastX (hn : S.1 0 = nI n) (hn6 : n ≤ 6) (ha : a < 8) (p : Int32) : ∀ k s, s ≤ 2 ^ n → 2 ^ n < s + k → f_X0_leastSetAnew_21 S (nI a) p k (mnF (rowf S a) s) (nI s) = f_X0_leastSetAnew_62 S (nI a) p 70 (mnF (rowf S a) (2 ^ n)) (nI (2 ^ n - 1)) 0 0 := fun k => by
  have h6 := pow6 hn6
  induction k with
  | zero => intro i h1 h2; omega
  | succ k ih =>
    intro s h1 h2
    rw [f_X0_leastSetAnew_21]
    by_cases hi : s = 2 ^ n
    · rw [hi, if_pos (sets_ge hn hn6)]
      unfold bnd
      rw [sets_nI hn hn6, full_nI hn6]
    · rw [if_neg (sets_le hn hn6 (by omega)), val_nI (by omega)]
      have h3 := ih (s + 1) (by omega) (by omega)
      rw [mnF] at h3
      unfold bnd
      rw [nI_1]
      by_cases hc : mnF (rowf S a) s ≤ rowf S a s
      · rw [if_pos hc] at h3
        rw [if_neg (show ¬ S.2 5 (64 * a + s) < mnF (rowf S a) s from Int32.not_lt.mpr hc)]
        exact h3
      · rw [if_neg hc] at h3
        rw [if_pos (show S.2 5 (64 * a + s) < mnF (rowf S a) s from Int32.not_le.mp hc)]
        exact h3
end LEAST
theorem leastSetsM {T : St} {n a : Nat} (hn : T.1 0 = nI n) (hn6 : n ≤ 6) (ha : a < 8) (p : Int32) : f_X1_leastSets_26 (nI a) p T 0 = some (if p = 0 then nI (mtF (rowf T a) (mnF (rowf T a) (2 ^ n)) n (2 ^ n)) else nI (whF (rowf T a) (mnF (rowf T a) (2 ^ n)) (2 ^ n)), sS T 3 0) := by
  have h6 := pow6 hn6
  have h7 := pow1 n
  unfold f_X1_leastSets_26
  rw [t0, show f_X1_leastOf (sS T 3 0) (nI a) = _ from leastM (S := sS T 3 0) (n := n) hn hn6 ha 70 0 (by omega) (by omega), Option.bind_some]
  unfold bnd
  rw [show (sS T 3 0).1 0 = nI n from hn, bit_nI (show n < 10 by omega), full_nI hn6]
  exact setsM (S := sS T 3 0) hn hn6 ha p _ 70 0 (by omega) (by omega)
theorem op_leastSetAnew {S T : St} {n F t : Nat} (hI : Iv S n F t) (hR : Rel S T) (p q : Int32) : Ag [1, 3] S (f_X0_leastSetAnew S p q) (f_X1_leastSetAnew T p q) := by
  have hIT := hR.iv hI
  obtain ⟨⟨i1, i2, i3, i4, i5, i6, i7⟩, hC, hE, hK, hRm, hW, hV, hO⟩ := id hI
  obtain ⟨⟨j1, j2, j3, j4, j5, j6, j7⟩, gC, gE, gK, gRm, gW, gV, gO⟩ := id hIT
  have h6 := pow6 i5
  have h7 := pow1 n
  unfold f_X0_leastSetAnew f_X1_leastSetAnew f_X1_leastSets
  have hth1 : Ag [1, 3] S (some (1, 0, S)) (some (0, sS T 3 1)) := Ag.no 0 1 rfl rfl rfl rfl (hR.thr 1)
  have hth2 : Ag [1, 3] S (some (3, 0, S)) (some (0, sS T 3 2)) := Ag.no 1 3 rfl rfl rfl rfl (hR.thr 2)
  rcases fn_test i2 (hR.2.1.trans i2) i6 p with ⟨a, ha, rfl, e1, e2⟩ | ⟨e1, e2⟩
  · rw [e1, nx1, z0, ne1 e2, hasLawX i1 i5 hV i6 ha, hasLawM j1 j5 gV j6 ha, Option.bind_some, Option.bind_some, lwB_rel (S := S) (T := T) (hR.2.2.2 5 (by decide))]
    cases lwB S n a with
    | false =>
      show Ag [1, 3] S (if nx 3 0 = 0 then _ else _) ((f_X1_leastSets_26 (nI a) q T 2).bind _)
      unfold f_X1_leastSets_26
      rw [nx0, z3, t2]
      exact hth2
    | true =>
      show Ag [1, 3] S (if nx 3 1 = 0 then _ else _) ((f_X1_leastSets_26 (nI a) q T 0).bind _)
      rw [nx1, z0, leastSetsM j1 j5 (by omega)]
      have hrow : rowf T a = rowf S a := by unfold rowf; rw [hR.2.2.2 5 (by decide)]
      rw [hrow]
      have l1 := leastX i1 i5 (show a < 8 by omega) q 70 0 (by omega) (by omega)
      have l2 := setsX i1 i5 (show a < 8 by omega) q (mnF (rowf S a) (2 ^ n)) 70 0 (by omega) (by omega)
      exact Ag.ok (l1.trans l2) rfl rfl (hR.thr 0) hI
  · unfold f_X1_leastSets_26
    rw [e1, nx0, z1, eq0 e2, t1]
    exact hth1

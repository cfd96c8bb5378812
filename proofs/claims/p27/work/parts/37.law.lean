/-! The law of lessening returns, asked by both classes; what rises. -/
def vl (S : St) (a s : Nat) : Int := (S.2 5 (64 * a + s)).toInt
theorem vl_bd {S : St} {n F a s : Nat} (hV : IvV S n F) (hF : F ≤ 8) (ha : a < F) (hs : s < 2 ^ n) : -92160 ≤ vl S a s ∧ vl S a s ≤ 92160 := by
  have h := (hV a ha).2 s hs
  have h2 := p2_le (show a ≤ 7 by omega)
  have h3 : (2 : Int) ^ 7 = 128 := by decide
  unfold vl
  omega
/-- by how much an element adds -/
def gn (S : St) (a s e : Nat) : Int := vl S a (s ||| 2 ^ e) - vl S a s
theorem gain_nI {S : St} {n F a s e : Nat} (hF : F ≤ 8) (hn6 : n ≤ 6) (ha : a < F) (hs : s < 2 ^ n) (he : e < n) : f_X0_gain S (nI a) (nI s) (nI e) = S.2 5 (64 * a + (s ||| 2 ^ e)) - S.2 5 (64 * a + s) := by
  have h6 := pow6 hn6
  have h1 := or_lt hs he
  unfold f_X0_gain
  rw [with_nI (by omega), val_nI (by omega), val_nI (by omega)]
theorem gain_toInt {S : St} {n F a s e : Nat} (hV : IvV S n F) (hF : F ≤ 8) (hn6 : n ≤ 6) (ha : a < F) (hs : s < 2 ^ n) (he : e < n) : (f_X0_gain S (nI a) (nI s) (nI e)).toInt = gn S a s e := by
  have h1 := vl_bd hV hF ha hs
  have h2 := vl_bd hV hF ha (or_lt hs he)
  rw [gain_nI hF hn6 ha hs he]
  unfold vl at h1 h2
  rw [sub_toInt (by omega) (by omega)]
  rfl
/-- all below n -/
def al (P : Nat → Bool) : Nat → Bool
  | 0 => true
  | n + 1 => al P n && P n
theorem al_iff (P : Nat → Bool) : ∀ n, al P n = true ↔ ∀ i, i < n → P i = true := fun n => by
  induction n with
  | zero => exact ⟨fun _ i hi => absurd hi (by omega), fun _ => rfl⟩
  | succ n ih =>
    rw [al, Bool.and_eq_true, ih]
    refine ⟨fun ⟨h1, h2⟩ i hi => ?_, fun h => ⟨fun i hi => h i (by omega), h n (by omega)⟩⟩
    by_cases c : i = n
    · rw [c]; exact h2
    · exact h1 i (by omega)
theorem al_not {P : Nat → Bool} {i n : Nat} (hi : i < n) (h : P i = false) : al P n = false := by
  cases c : al P n with
  | false => rfl
  | true =>
    have := (al_iff P n).mp c i hi
    rw [h] at this
    exact absurd this (by decide)
def bI (b : Bool) : Int32 := if b then 1 else 0
/-- what the law asks of a set and two elements -/
def qlw (S : St) (a s o t : Nat) : Bool := s.testBit o || s.testBit t || decide (gn S a (s ||| 2 ^ t) o ≤ gn S a s o)
def lwB (S : St) (n a : Nat) : Bool := al (fun s => al (fun k => al (fun m => qlw S a s m k) k) n) (2 ^ n)
theorem lwB_iff (S : St) (n a : Nat) : lwB S n a = true ↔ ∀ s, s < 2 ^ n → ∀ o t, o < t → t < n → qlw S a s o t = true := by
  unfold lwB
  rw [al_iff]
  constructor
  · intro h s hs o t ho ht
    exact (al_iff _ _).mp ((al_iff _ _).mp (h s hs) t ht) o ho
  · intro h s hs
    exact (al_iff _ _).mpr (fun k hk => (al_iff _ _).mpr (fun m hm => h s hs m k hm hk))
-- the class
def qab (S : St) (n a s : Nat) : Bool := al (fun o => al (fun t => decide (t ≤ o) || qlw S a s o t) n) n
section LAW
variable {S : St} {n F a s : Nat}
theorem lawX_in (hn : S.1 0 = nI n) (hn6 : n ≤ 6) (hV : IvV S n F) (hF : F ≤ 8) (ha : a < F) (hs : s < 2 ^ n) (K : Int32 → Option Int32) (o : Nat) (ho : o < n) : ∀ k t, o < t → t ≤ n → n < t + k → al (fun t => decide (t ≤ o) || qlw S a s o t) t = true → f_X0_hasLawAbove_15 S (nI a) (nI s) K k (nI o) (nI t) = if al (fun t => decide (t ≤ o) || qlw S a s o t) n then K (nI (o + 1)) else some 0 := fun k => by
  have h6 := pow6 hn6
  induction k with
  | zero => intro i h1 h2 h3; omega
  | succ k ih =>
    intro t h1 h2 h3 hal
    rw [f_X0_hasLawAbove_15, hn]
    by_cases hi : t = n
    · rw [if_pos (by rw [hi]; exact nI_le (Nat.le_refl n) (by omega))]
      unfold bnd
      rw [hi] at hal
      rw [nI_1, hal, if_pos rfl]
    · rw [if_neg (nI_ge (a := t) (b := n) (by omega) (by omega))]
      have hgo : qlw S a s o t = true → (f_X0_hasLawAbove_15 S (nI a) (nI s) K k) (nI o) (nI (t + 1)) = if al (fun t => decide (t ≤ o) || qlw S a s o t) n then K (nI (o + 1)) else some 0 := fun hq => by
        refine ih (t + 1) (by omega) (by omega) (by omega) ?_
        rw [al, hal, hq, Bool.or_true]; rfl
      have hst : qlw S a s o t = false → al (fun t => decide (t ≤ o) || qlw S a s o t) n = false := fun hq => by
        refine al_not (i := t) (by omega) ?_
        show (decide (t ≤ o) || qlw S a s o t) = false
        rw [hq, decide_eq_false (by omega)]; rfl
      have h0 : qlw S a s o t = true → f_X0_hasLawAbove_46 S (nI a) (nI s) K (f_X0_hasLawAbove_15 S (nI a) (nI s) K k) (nI o) (nI t) 0 = if al (fun t => decide (t ≤ o) || qlw S a s o t) n then K (nI (o + 1)) else some 0 := fun hq => by
        unfold f_X0_hasLawAbove_46
        rw [if_pos rfl]
        unfold bnd
        rw [nI_1]
        exact hgo hq
      cases to : s.testBit o with
      | true =>
        rw [hasT (by omega) (by omega) to, if_neg one_ne]
        exact h0 (by unfold qlw; rw [to]; rfl)
      | false =>
        rw [hasF (by omega) (by omega) to, if_pos rfl]
        cases tt : s.testBit t with
        | true =>
          rw [hasT (by omega) (by omega) tt, if_neg one_ne]
          exact h0 (by unfold qlw; rw [tt, Bool.or_true]; rfl)
        | false =>
          rw [hasF (by omega) (by omega) tt, if_pos rfl]
          unfold f_X0_hasLawAbove_46
          have hst2 := or_lt (e := t) hs (by omega)
          have hq : qlw S a s o t = decide (gn S a (s ||| 2 ^ t) o ≤ gn S a s o) := by unfold qlw; rw [to, tt]; rfl
          rw [if_neg one_ne, with_nI (by omega)]
          by_cases hc : f_X0_gain S (nI a) (nI (s ||| 2 ^ t)) (nI o) ≤ f_X0_gain S (nI a) (nI s) (nI o)
          · rw [if_pos hc]
            unfold bnd
            rw [nI_1]
            rw [Int32.le_iff_toInt_le, gain_toInt hV hF hn6 ha hst2 ho, gain_toInt hV hF hn6 ha hs ho] at hc
            exact hgo (by rw [hq, decide_eq_true hc])
          · rw [if_neg hc]
            rw [Int32.le_iff_toInt_le, gain_toInt hV hF hn6 ha hst2 ho, gain_toInt hV hF hn6 ha hs ho] at hc
            rw [hst (by rw [hq, decide_eq_false hc])]
            rfl
theorem lawX_ab (hn : S.1 0 = nI n) (hn6 : n ≤ 6) (hV : IvV S n F) (hF : F ≤ 8) (ha : a < F) (hs : s < 2 ^ n) : ∀ k o, o ≤ n → n < o + k → al (fun o => al (fun t => decide (t ≤ o) || qlw S a s o t) n) o = true → f_X0_hasLawAbove_2 S (nI a) (nI s) k (nI o) = some (bI (qab S n a s)) := fun k => by
  have h6 := pow6 hn6
  induction k with
  | zero => intro i h1 h2; omega
  | succ k ih =>
    intro o h1 h2 hal
    rw [f_X0_hasLawAbove_2, hn]
    by_cases hi : o = n
    · rw [if_pos (by rw [hi]; exact nI_le (Nat.le_refl n) (by omega))]
      rw [hi] at hal
      unfold qab
      rw [hal]; rfl
    · rw [if_neg (nI_ge (a := o) (b := n) (by omega) (by omega))]
      unfold bnd
      rw [nI_1]
      refine (lawX_in hn hn6 hV hF ha hs (f_X0_hasLawAbove_2 S (nI a) (nI s) k) o (by omega) 70 (o + 1) (by omega) (by omega) (by omega) ((al_iff _ _).mpr (fun i hi => by rw [decide_eq_true (show i ≤ o by omega)]; rfl))).trans ?_
      cases c : al (fun t => decide (t ≤ o) || qlw S a s o t) n with
      | true =>
        rw [if_pos rfl]
        exact ih (o + 1) (by omega) (by omega) (by rw [al, hal, c]; rfl)
      | false =>
        rw [if_neg (by decide)]
        unfold qab
        rw [al_not (i := o) (by omega) c]
        rfl
theorem lawX (hn : S.1 0 = nI n) (hn6 : n ≤ 6) (hV : IvV S n F) (hF : F ≤ 8) (ha : a < F) : ∀ k s, s ≤ 2 ^ n → 2 ^ n < s + k → al (qab S n a) s = true → f_X0_hasLaw_2 S (nI a) k (nI s) = some (bI (al (qab S n a) (2 ^ n))) := fun k => by
  have h6 := pow6 hn6
  induction k with
  | zero => intro i h1 h2; omega
  | succ k ih =>
    intro s h1 h2 hal
    rw [f_X0_hasLaw_2]
    by_cases hi : s = 2 ^ n
    · rw [hi] at hal
      rw [hi, if_pos (sets_ge hn hn6), hal]; rfl
    · rw [if_neg (sets_le hn hn6 (by omega)), show f_X0_hasLawAbove S (nI a) (nI s) = _ from lawX_ab hn hn6 hV hF ha (show s < 2 ^ n by omega) 70 0 (by omega) (by omega) rfl, Option.bind_some]
      cases c : qab S n a s with
      | true =>
        rw [if_neg (show ¬ bI true = 0 from one_ne)]
        unfold bnd
        rw [nI_1]
        exact ih (s + 1) (by omega) (by omega) (by rw [al, hal, c]; rfl)
      | false =>
        rw [if_pos (show bI false = 0 from rfl), al_not (i := s) (by omega) c]
        rfl
theorem qab_lwB : al (qab S n a) (2 ^ n) = lwB S n a := by
  cases c : lwB S n a with
  | true =>
    rw [lwB_iff] at c
    refine (al_iff _ _).mpr (fun s hs => (al_iff _ _).mpr (fun o ho => (al_iff _ _).mpr (fun t ht => ?_)))
    by_cases h : t ≤ o
    · rw [decide_eq_true h]; rfl
    · rw [c s hs o t (by omega) ht, Bool.or_true]
  | false =>
    cases d : al (qab S n a) (2 ^ n) with
    | false => rfl
    | true =>
      have : lwB S n a = true := (lwB_iff S n a).mpr (fun s hs o t ho ht => by
        have h1 := (al_iff _ _).mp ((al_iff _ _).mp ((al_iff _ _).mp d s hs) o (by omega)) t ht
        rw [decide_eq_false (show ¬ t ≤ o by omega)] at h1
        exact h1)
      rw [c] at this
      exact absurd this (by decide)
theorem hasLawX (hn : S.1 0 = nI n) (hn6 : n ≤ 6) (hV : IvV S n F) (hF : F ≤ 8) (ha : a < F) : f_X0_hasLaw S (nI a) = some (bI (lwB S n a)) := by
  have h6 := pow6 hn6
  have h7 := pow1 n
  rw [← qab_lwB]
  exact lawX hn hn6 hV hF ha 70 0 (by omega) (by omega) rfl
-- the reference
theorem bI_and (b c : Bool) : bI b &&& bI c = bI (b && c) := by cases b <;> cases c <;> decide
theorem lawM_in (hn : S.1 0 = nI n) (hn6 : n ≤ 6) (hV : IvV S n F) (hF : F ≤ 8) (ha : a < F) (hs : s < 2 ^ n) (K4 : Int32 → Int32 → Option Int32) (K : Int32 → Int32 → Int32 → Option Int32) (q : Nat) (hq : q < n) (b : Bool) : ∀ k m, m ≤ q → q < m + k → f_X1_hasLaw_27 S (nI a) K4 K k (bI (b && al (fun m => qlw S a s m q) m)) (nI s) (nI q) (nI m) = K (bI (b && al (fun m => qlw S a s m q) q)) (nI s) (nI (q + 1)) := fun k => by
  have h6 := pow6 hn6
  induction k with
  | zero => intro i h1 h2; omega
  | succ k ih =>
    intro m h1 h2
    rw [f_X1_hasLaw_27]
    by_cases hi : m = q
    · rw [if_pos (by rw [hi]; exact nI_le (Nat.le_refl q) (by omega)), hi]
      unfold bnd
      rw [nI_1]
    · rw [if_neg (nI_ge (a := m) (b := q) (by omega) (by omega))]
      have h3 := ih (m + 1) (by omega) (by omega)
      rw [al] at h3
      have hend : ∀ c : Bool, c = qlw S a s m q → f_X1_hasLaw_137 S (nI a) K4 K (f_X1_hasLaw_27 S (nI a) K4 K k) (nI s) (nI q) (nI m) (bI (b && al (fun m => qlw S a s m q) m)) (bI c) = K (bI (b && al (fun m => qlw S a s m q) q)) (nI s) (nI (q + 1)) := fun c hc => by
        unfold f_X1_hasLaw_137 bnd
        rw [bI_and, hc, nI_1, Bool.and_assoc]
        exact h3
      have h0 : qlw S a s m q = true → f_X1_hasLaw_63 S (nI a) K4 K (f_X1_hasLaw_27 S (nI a) K4 K k) (bI (b && al (fun m => qlw S a s m q) m)) (nI s) (nI q) (nI m) (64 * nI a) 0 = K (bI (b && al (fun m => qlw S a s m q) q)) (nI s) (nI (q + 1)) := fun hq => by
        unfold f_X1_hasLaw_63
        rw [if_pos rfl]
        exact hend true hq.symm
      unfold bnd
      show (if f_X1_has (nI s) (nI q) = 0 then _ else _) = _
      cases tq : s.testBit q with
      | true =>
        rw [hasMT (by omega) (by omega) tq, if_neg one_ne]
        exact h0 (by unfold qlw; rw [tq, Bool.or_true]; rfl)
      | false =>
        rw [hasMF (by omega) (by omega) tq, if_pos rfl]
        cases tm : s.testBit m with
        | true =>
          rw [hasMT (by omega) (by omega) tm, if_neg one_ne]
          exact h0 (by unfold qlw; rw [tm]; rfl)
        | false =>
          rw [hasMF (by omega) (by omega) tm, if_pos rfl]
          unfold f_X1_hasLaw_63
          have h4 := or_lt (e := q) hs (by omega)
          have h5 := or_lt (e := m) hs (by omega)
          have h7 := or_lt (e := m) h4 (by omega)
          rw [if_neg one_ne, bit_nI (show q < 10 by omega), bit_nI (show m < 10 by omega), nI_or, nI_or, nI_or, mul64', mul64', mul64', mul64', rd_nI (by omega) (by omega), Option.bind_some, rd_nI (by omega) (by omega), Option.bind_some, rd_nI (by omega) (by omega), Option.bind_some, rd_nI (by omega) (by omega), Option.bind_some]
          have hqq : qlw S a s m q = decide (gn S a (s ||| 2 ^ q) m ≤ gn S a s m) := by unfold qlw; rw [tm, tq]; rfl
          have b1 := vl_bd hV hF ha h4
          have b2 := vl_bd hV hF ha h5
          have b3 := vl_bd hV hF ha h7
          have b4 := vl_bd hV hF ha hs
          have e1 : ((S.2 5 (64 * a + (s ||| 2 ^ q))) + (S.2 5 (64 * a + (s ||| 2 ^ m)))).toInt = vl S a (s ||| 2 ^ q) + vl S a (s ||| 2 ^ m) := by
            unfold vl at b1 b2 b3 b4 ⊢
            exact add_toInt (by omega) (by omega)
          have e2 : ((S.2 5 (64 * a + s)) + (S.2 5 (64 * a + (s ||| 2 ^ q ||| 2 ^ m)))).toInt = vl S a s + vl S a (s ||| 2 ^ q ||| 2 ^ m) := by
            unfold vl at b1 b2 b3 b4 ⊢
            exact add_toInt (by omega) (by omega)
          by_cases hc : (S.2 5 (64 * a + (s ||| 2 ^ q))) + (S.2 5 (64 * a + (s ||| 2 ^ m))) < (S.2 5 (64 * a + s)) + (S.2 5 (64 * a + (s ||| 2 ^ q ||| 2 ^ m)))
          · rw [if_pos hc]
            rw [Int32.lt_iff_toInt_lt, e1, e2] at hc
            refine hend false ?_
            rw [hqq, decide_eq_false]
            unfold gn
            omega
          · rw [if_neg hc]
            rw [Int32.lt_iff_toInt_lt, e1, e2] at hc
            refine hend true ?_
            rw [hqq, decide_eq_true]
            unfold gn
            omega
theorem lawM_mid (hn : S.1 0 = nI n) (hn6 : n ≤ 6) (hV : IvV S n F) (hF : F ≤ 8) (ha : a < F) (hs : s < 2 ^ n) (K : Int32 → Int32 → Option Int32) (b : Bool) : ∀ k q, q ≤ n → n < q + k → f_X1_hasLaw_15 S (nI a) K k (bI (b && al (fun k => al (fun m => qlw S a s m k) k) q)) (nI s) (nI q) = K (bI (b && al (fun k => al (fun m => qlw S a s m k) k) n)) (nI (s + 1)) := fun k => by
  have h6 := pow6 hn6
  induction k with
  | zero => intro i h1 h2; omega
  | succ k ih =>
    intro q h1 h2
    rw [f_X1_hasLaw_15, hn]
    by_cases hi : q = n
    · rw [if_pos (by rw [hi]; exact nI_le (Nat.le_refl n) (by omega)), hi]
      unfold bnd
      rw [nI_1]
    · rw [if_neg (nI_ge (a := q) (b := n) (by omega) (by omega))]
      have h3 := lawM_in hn hn6 hV hF ha hs K (f_X1_hasLaw_15 S (nI a) K k) q (by omega) (b && al (fun k => al (fun m => qlw S a s m k) k) q) 70 0 (by omega) (by omega)
      rw [show al (fun m => qlw S a s m q) 0 = true from rfl, Bool.and_true, Bool.and_assoc] at h3
      exact h3.trans (ih (q + 1) (by omega) (by omega))
theorem lawM (hn : S.1 0 = nI n) (hn6 : n ≤ 6) (hV : IvV S n F) (hF : F ≤ 8) (ha : a < F) : ∀ k s, s ≤ 2 ^ n → 2 ^ n < s + k → f_X1_hasLaw_4 S (nI a) k (bI (al (fun s => al (fun k => al (fun m => qlw S a s m k) k) n) s)) (nI s) = some (bI (lwB S n a)) := fun k => by
  have h6 := pow6 hn6
  induction k with
  | zero => intro i h1 h2; omega
  | succ k ih =>
    intro s h1 h2
    rw [f_X1_hasLaw_4]
    by_cases hi : s = 2 ^ n
    · rw [hi, if_pos (isSet_ge hn hn6), if_pos (by cases al (fun s => al (fun k => al (fun m => qlw S a s m k) k) n) (2 ^ n) <;> decide)]
      rfl
    · rw [if_neg (by rw [isSet_lt hn hn6 (by omega)]; exact one_ne)]
      have h3 := lawM_mid hn hn6 hV hF ha (show s < 2 ^ n by omega) (f_X1_hasLaw_4 S (nI a) k) (al (fun s => al (fun k => al (fun m => qlw S a s m k) k) n) s) 70 0 (by omega) (by omega)
      rw [show al (fun k => al (fun m => qlw S a s m k) k) 0 = true from rfl, Bool.and_true] at h3
      exact h3.trans (ih (s + 1) (by omega) (by omega))
theorem hasLawM (hn : S.1 0 = nI n) (hn6 : n ≤ 6) (hV : IvV S n F) (hF : F ≤ 8) (ha : a < F) : f_X1_hasLaw S (nI a) = some (bI (lwB S n a)) := by
  have h6 := pow6 hn6
  have h7 := pow1 n
  exact lawM hn hn6 hV hF ha 70 0 (by omega) (by omega)
end LAW
theorem lwB_rel {S T : St} (h : T.2 5 = S.2 5) (n a : Nat) : lwB T n a = lwB S n a := by
  unfold lwB qlw gn vl
  rw [h]

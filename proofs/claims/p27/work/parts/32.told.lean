/-! Values of what is told: both classes' loops, tied to one number each. -/
theorem hasT {s e : Nat} (hs : s < 2 ^ 31) (h : e < 10) (t : s.testBit e = true) : f_X0_has (nI s) (nI e) = 1 := by rw [has_nI hs h, t]; rfl
theorem hasF {s e : Nat} (hs : s < 2 ^ 31) (h : e < 10) (t : s.testBit e = false) : f_X0_has (nI s) (nI e) = 0 := by rw [has_nI hs h, t]; rfl
theorem hasMT {s e : Nat} (hs : s < 2 ^ 31) (h : e < 10) (t : s.testBit e = true) : f_X1_has (nI s) (nI e) = 1 := hasT hs h t
theorem hasMF {s e : Nat} (hs : s < 2 ^ 31) (h : e < 10) (t : s.testBit e = false) : f_X1_has (nI s) (nI e) = 0 := hasF hs h t
theorem one_ne : ¬ (1 : Int32) = 0 := by decide
theorem zero_eq : (0 : Int32) = 0 := rfl
/-- a small number's natural -/
def nt (x : Int32) : Nat := x.toNatClampNeg
theorem nt_nI {n : Nat} (h : n < 2 ^ 31) : nt (nI n) = n := nI_clamp h
theorem nt_of {x : Int32} {c : Nat} (h : x = nI c) (hc : c < 2 ^ 31) : x = nI (nt x) ∧ nt x = c := by rw [h, nt_nI hc]; exact ⟨rfl, rfl⟩
/-- sums -/
def sm (f : Nat → Nat) : Nat → Nat
  | 0 => 0
  | n + 1 => sm f n + f n
theorem sm_congr {f g : Nat → Nat} : ∀ {n : Nat}, (∀ i, i < n → f i = g i) → sm f n = sm g n := fun {n} => by
  induction n with
  | zero => intro _; rfl
  | succ n ih =>
    intro h
    show sm f n + _ = sm g n + _
    rw [ih (fun i hi => h i (by omega)), h n (by omega)]
theorem sm_le {f g : Nat → Nat} : ∀ {n : Nat}, (∀ i, i < n → f i ≤ g i) → sm f n ≤ sm g n := fun {n} => by
  induction n with
  | zero => intro _; exact Nat.le_refl _
  | succ n ih =>
    intro h
    show sm f n + _ ≤ sm g n + _
    have h1 := ih (fun i hi => h i (by omega))
    have h2 := h n (by omega)
    omega
theorem sm_const (c : Nat) : ∀ n, sm (fun _ => c) n = c * n := fun n => by
  induction n with
  | zero => rfl
  | succ n ih =>
    show sm _ n + c = _
    rw [ih, Nat.mul_succ]
theorem sm_add (f g : Nat → Nat) : ∀ n, sm (fun i => f i + g i) n = sm f n + sm g n := fun n => by
  induction n with
  | zero => rfl
  | succ n ih =>
    show sm _ n + (f n + g n) = sm f n + f n + (sm g n + g n)
    rw [ih]; omega
/-- all pairs below n, by the last row and column -/
theorem sm2_succ (F : Nat → Nat → Nat) (n : Nat) : sm (fun a => sm (F a) (n + 1)) (n + 1) = sm (fun a => sm (F a) n) n + sm (fun a => F a n + F n a) n + F n n := by
  show sm (fun a => sm (F a) n + F a n) n + (sm (F n) n + F n n) = _
  rw [sm_add, sm_add]; omega
theorem sm2_eq {D E : Nat → Nat → Nat} : ∀ {n : Nat}, (∀ a b, a < n → b < n → D a b + D b a = E a b + E b a) → sm (fun a => sm (D a) n) n = sm (fun a => sm (E a) n) n := fun {n} => by
  induction n with
  | zero => intro _; rfl
  | succ n ih =>
    intro h
    rw [sm2_succ, sm2_succ, ih (fun a b ha hb => h a b (by omega) (by omega)), sm_congr (fun a ha => h a n (by omega) (by omega))]
    have := h n n (by omega) (by omega)
    omega
-- ---- points covered
def cvF (S : St) (s : Nat) : Nat → Nat
  | 0 => 0
  | i + 1 => if s.testBit i then cvF S s i ||| nt (S.2 0 i) else cvF S s i
theorem cvF_lt {S : St} (hC : IvC S) (s : Nat) : ∀ i, i ≤ 6 → cvF S s i < 1024 := fun i => by
  induction i with
  | zero => intro _; exact Nat.zero_lt_succ _
  | succ i ih =>
    intro h
    show (if _ then _ else _) < _
    obtain ⟨c, hc, e⟩ := hC i (by omega)
    have h1 := ih (by omega)
    have h2 : nt (S.2 0 i) < 1024 := by rw [(nt_of e (by omega)).2]; exact hc
    split
    · exact Nat.or_lt_two_pow (n := 10) h1 h2
    · exact h1
theorem cov_loop {S : St} {n s : Nat} (hn : S.1 0 = nI n) (hn6 : n ≤ 6) (hC : IvC S) (hs : s < 1024) : ∀ k i, i ≤ n → n < i + k → f_X0_coverValue_4 S (nI s) k (nI (cvF S s i)) (nI i) = some (nI (pc (cvF S s n))) := fun k => by
  induction k with
  | zero => intro i h1 h2; omega
  | succ k ih =>
    intro i h1 h2
    rw [f_X0_coverValue_4, hn]
    by_cases hi : i = n
    · rw [if_pos (by rw [hi]; exact nI_le (Nat.le_refl n) (by omega)), hi, bc_nI (cvF_lt hC s n hn6)]
    · rw [if_neg (nI_ge (a := i) (b := n) (by omega) (by omega))]
      unfold bnd
      obtain ⟨c, hc, e⟩ := hC i (by omega)
      cases t : s.testBit i with
      | false =>
        rw [hasF (by omega) (by omega) t, if_pos rfl, nI_1]
        have := ih (i + 1) (by omega) (by omega)
        rw [cvF, t] at this
        exact this
      | true =>
        rw [hasT (by omega) (by omega) t, if_neg one_ne, nI_1, at_nI (by omega) (by omega), (nt_of e (by omega)).1, nI_or]
        have := ih (i + 1) (by omega) (by omega)
        rw [cvF, t] at this
        exact this
theorem covM_loop {S : St} {n s : Nat} (hn : S.1 0 = nI n) (hn6 : n ≤ 6) (hC : IvC S) (hs : s < 1024) : ∀ k i, i ≤ n → n < i + k → f_X1_covered_4 S (nI s) k (nI (cvF S s i)) (nI i) = some (nI (pc (cvF S s n))) := fun k => by
  induction k with
  | zero => intro i h1 h2; omega
  | succ k ih =>
    intro i h1 h2
    have h7 := cvF_lt hC s n hn6
    rw [f_X1_covered_4, hn]
    by_cases hi : i = n
    · rw [if_pos (by rw [hi]; exact nI_le (Nat.le_refl n) (by omega)), hi, many_nI (by omega)]
      rfl
    · rw [if_neg (nI_ge (a := i) (b := n) (by omega) (by omega))]
      obtain ⟨c, hc, e⟩ := hC i (by omega)
      cases t : s.testBit i with
      | false =>
        rw [hasMF (by omega) (by omega) t, if_pos rfl]
        unfold f_X1_covered_31 bnd
        rw [nI_1, show (0 : Int32) = nI 0 from rfl, nI_or, Nat.or_zero]
        have := ih (i + 1) (by omega) (by omega)
        rw [cvF, t] at this
        exact this
      | true =>
        rw [hasMT (by omega) (by omega) t, if_neg one_ne, rd_nI (by omega) (by omega)]
        show f_X1_covered_31 S (nI s) _ _ _ _ = _
        unfold f_X1_covered_31 bnd
        rw [nI_1, (nt_of e (by omega)).1, nI_or]
        have := ih (i + 1) (by omega) (by omega)
        rw [cvF, t] at this
        exact this
-- ---- cuts
def wE (S : St) (a b : Nat) : Nat := nt (S.2 1 (6 * a + b))
theorem wE_of {S : St} (hE : IvE S) {a b : Nat} (ha : a < 6) (hb : b < 6) : S.2 1 (6 * a + b) = nI (wE S a b) ∧ wE S a b ≤ 20 := by
  obtain ⟨w, hw, e⟩ := hE.1 (6 * a + b) (by omega)
  obtain ⟨h1, h2⟩ := nt_of e (by omega)
  exact ⟨h1, by unfold wE; omega⟩
def cD (S : St) (s a b : Nat) : Nat := if a < b then (if s.testBit a = s.testBit b then 0 else wE S a b) else 0
def cE (S : St) (s a b : Nat) : Nat := if s.testBit a then (if s.testBit b then 0 else wE S a b) else 0
def ctF (S : St) (s n : Nat) : Nat := sm (fun a => sm (cE S s a) n) n
theorem cut_eq {S : St} (hE : IvE S) (s : Nat) {n : Nat} (hn : n ≤ 6) : sm (fun a => sm (cD S s a) n) n = ctF S s n := by
  refine sm2_eq (fun a b ha hb => ?_)
  have hw : wE S a b = wE S b a := by unfold wE; rw [hE.2 a b (by omega) (by omega)]
  unfold cD cE
  rcases Nat.lt_trichotomy a b with h | h | h
  · rw [if_pos h, if_neg (show ¬ b < a by omega), hw]
    cases s.testBit a <;> cases s.testBit b <;> simp
  · subst h
    cases s.testBit a <;> simp
  · rw [if_pos h, if_neg (show ¬ a < b by omega), hw]
    cases s.testBit a <;> cases s.testBit b <;> simp
theorem cD_low (S : St) (s a : Nat) : ∀ m, m ≤ a + 1 → sm (cD S s a) m = 0 := fun m => by
  induction m with
  | zero => intro _; rfl
  | succ m ih =>
    intro h
    show sm (cD S s a) m + cD S s a m = 0
    rw [ih (by omega)]
    unfold cD
    rw [if_neg (show ¬ a < m by omega)]
theorem cut_in {S : St} {n s : Nat} (hn : S.1 0 = nI n) (hn6 : n ≤ 6) (hE : IvE S) (hs : s < 1024) (K : Int32 → Int32 → Option Int32) (a : Nat) (ha : a < n) (acc : Nat) : ∀ k i, a < i → i ≤ n → n < i + k → f_X0_cutValue_17 S (nI s) K k (nI (acc + sm (cD S s a) i)) (nI a) (nI i) = K (nI (acc + sm (cD S s a) n)) (nI (a + 1)) := fun k => by
  induction k with
  | zero => intro i h0 h1 h2; omega
  | succ k ih =>
    intro i h0 h1 h2
    rw [f_X0_cutValue_17, hn]
    by_cases hi : i = n
    · rw [if_pos (by rw [hi]; exact nI_le (Nat.le_refl n) (by omega)), hi]
      unfold bnd
      rw [nI_1]
    · rw [if_neg (nI_ge (a := i) (b := n) (by omega) (by omega))]
      unfold bnd
      rw [has_nI (by omega) (by omega), has_nI (by omega) (by omega), nI_1]
      have h3 := ih (i + 1) (by omega) (by omega) (by omega)
      have e1 : sm (cD S s a) (i + 1) = sm (cD S s a) i + (if s.testBit a = s.testBit i then 0 else wE S a i) := by
        show sm (cD S s a) i + cD S s a i = _
        unfold cD
        rw [if_pos h0]
      rw [e1] at h3
      by_cases t : s.testBit a = s.testBit i
      · rw [if_pos (by rw [t])]
        rw [if_pos t, Nat.add_zero] at h3
        exact h3
      · rw [if_neg (by
          intro h
          apply t
          cases h1 : s.testBit a <;> cases h2 : s.testBit i <;> rw [h1, h2] at h <;> first | rfl | exact absurd h (by decide))]
        rw [if_neg t] at h3
        unfold f_X0_edgeWeight
        rw [mul6, at_nI (by omega) (by omega), (wE_of hE (by omega) (by omega)).1, nI_add, Nat.add_assoc]
        exact h3
theorem cut_out {S : St} {n s : Nat} (hn : S.1 0 = nI n) (hn6 : n ≤ 6) (hE : IvE S) (hs : s < 1024) : ∀ k a, a ≤ n → n < a + k → f_X0_cutValue_4 S (nI s) k (nI (sm (fun a => sm (cD S s a) n) a)) (nI a) = some (nI (sm (fun a => sm (cD S s a) n) n)) := fun k => by
  induction k with
  | zero => intro i h1 h2; omega
  | succ k ih =>
    intro a h1 h2
    rw [f_X0_cutValue_4, hn]
    by_cases hi : a = n
    · rw [if_pos (by rw [hi]; exact nI_le (Nat.le_refl n) (by omega)), hi]
    · rw [if_neg (nI_ge (a := a) (b := n) (by omega) (by omega))]
      unfold bnd
      rw [nI_1]
      have h3 := cut_in hn hn6 hE hs (f_X0_cutValue_4 S (nI s) k) a (by omega) (sm (fun a => sm (cD S s a) n) a) 70 (a + 1) (by omega) (by omega) (by omega)
      rw [cD_low S s a (a + 1) (by omega), Nat.add_zero] at h3
      exact h3.trans (ih (a + 1) (by omega) (by omega))
theorem cutM_in {S : St} {n s : Nat} (hn : S.1 0 = nI n) (hn6 : n ≤ 6) (hE : IvE S) (hs : s < 1024) (K : Int32 → Int32 → Option Int32) (a : Nat) (ha : a < n) (acc : Nat) : ∀ k i, i ≤ n → n < i + k → f_X1_cutBy_15 S (nI s) K k (nI (acc + sm (cE S s a) i)) (nI a) (nI i) = K (nI (acc + sm (cE S s a) n)) (nI (a + 1)) := fun k => by
  induction k with
  | zero => intro i h1 h2; omega
  | succ k ih =>
    intro i h1 h2
    rw [f_X1_cutBy_15, hn]
    by_cases hi : i = n
    · rw [if_pos (by rw [hi]; exact nI_le (Nat.le_refl n) (by omega)), hi]
      unfold bnd
      rw [nI_1]
    · rw [if_neg (nI_ge (a := i) (b := n) (by omega) (by omega))]
      have h3 := ih (i + 1) (by omega) (by omega)
      have e1 : sm (cE S s a) (i + 1) = sm (cE S s a) i + cE S s a i := rfl
      rw [e1] at h3
      cases t : s.testBit a with
      | false =>
        rw [hasMF (by omega) (by omega) t, if_pos rfl]
        unfold f_X1_cutBy_58 bnd
        rw [nI_1, show (0 : Int32) = nI 0 from rfl, nI_add]
        rw [show cE S s a i = 0 by unfold cE; rw [t]; rfl] at h3
        exact h3
      | true =>
        rw [hasMT (by omega) (by omega) t, if_neg one_ne]
        cases t2 : s.testBit i with
        | true =>
          rw [hasMT (by omega) (by omega) t2, if_neg one_ne]
          unfold f_X1_cutBy_58 bnd
          rw [nI_1, show (0 : Int32) = nI 0 from rfl, nI_add]
          rw [show cE S s a i = 0 by unfold cE; rw [t, t2]; rfl] at h3
          exact h3
        | false =>
          rw [hasMF (by omega) (by omega) t2, if_pos rfl, mul6', rd_nI (by omega) (by omega)]
          show f_X1_cutBy_58 S (nI s) K (f_X1_cutBy_15 S (nI s) K k) (nI a) (nI i) _ _ = _
          unfold f_X1_cutBy_58 bnd
          rw [nI_1, (wE_of hE (by omega) (by omega)).1, nI_add, Nat.add_assoc]
          rw [show cE S s a i = wE S a i by unfold cE; rw [t, t2]; rfl] at h3
          exact h3
theorem cutM_out {S : St} {n s : Nat} (hn : S.1 0 = nI n) (hn6 : n ≤ 6) (hE : IvE S) (hs : s < 1024) : ∀ k a, a ≤ n → n < a + k → f_X1_cutBy_4 S (nI s) k (nI (sm (fun a => sm (cE S s a) n) a)) (nI a) = some (nI (ctF S s n)) := fun k => by
  induction k with
  | zero => intro i h1 h2; omega
  | succ k ih =>
    intro a h1 h2
    rw [f_X1_cutBy_4, hn]
    by_cases hi : a = n
    · rw [if_pos (by rw [hi]; exact nI_le (Nat.le_refl n) (by omega)), hi]
      rfl
    · rw [if_neg (nI_ge (a := a) (b := n) (by omega) (by omega))]
      have h3 := cutM_in hn hn6 hE hs (f_X1_cutBy_4 S (nI s) k) a (by omega) (sm (fun a => sm (cE S s a) n) a) 70 0 (by omega) (by omega)
      rw [show sm (cE S s a) 0 = 0 from rfl, Nat.add_zero] at h3
      exact h3.trans (ih (a + 1) (by omega) (by omega))
-- ---- colours, ranks
def cl (S : St) (f e : Nat) : Nat := nt (S.2 2 (6 * f + e))
def rm_ (S : St) (f c : Nat) : Nat := nt (S.2 3 (6 * f + c))
theorem cl_of {S : St} (hK : IvK S) {f e : Nat} (hf : f < 2) (he : e < 6) : S.2 2 (6 * f + e) = nI (cl S f e) ∧ cl S f e < 6 := by
  obtain ⟨w, hw, h⟩ := hK (6 * f + e) (by omega)
  obtain ⟨h1, h2⟩ := nt_of h (by omega)
  exact ⟨h1, by unfold cl; omega⟩
theorem rm_of {S : St} (hR : IvR S) {f c : Nat} (hf : f < 2) (hc : c < 6) : S.2 3 (6 * f + c) = nI (rm_ S f c) ∧ rm_ S f c ≤ 6 := by
  obtain ⟨w, hw, h⟩ := hR (6 * f + c) (by omega)
  obtain ⟨h1, h2⟩ := nt_of h (by omega)
  exact ⟨h1, by unfold rm_; omega⟩
/-- how many elements of a colour a set has -/
def ct (S : St) (n f c s : Nat) : Nat := cn (fun e => s.testBit e && decide (cl S f e = c)) n
theorem col_nI {S : St} (hK : IvK S) {f e : Nat} (hf : f < 2) (he : e < 6) : f_X0_colourOf S (nI f) (nI e) = nI (cl S f e) := by
  unfold f_X0_colourOf
  rw [mul6, at_nI (by omega) (by omega), (cl_of hK hf he).1]
theorem room_nI {S : St} (hR : IvR S) {f c : Nat} (hf : f < 2) (hc : c < 6) : f_X0_roomOf S (nI f) (nI c) = nI (rm_ S f c) := by
  unfold f_X0_roomOf
  rw [mul6, at_nI (by omega) (by omega), (rm_of hR hf hc).1]
theorem cnt_loop {S : St} {n s f c : Nat} (hn : S.1 0 = nI n) (hn6 : n ≤ 6) (hK : IvK S) (hs : s < 1024) (hf : f < 2) (hc : c < 6) : ∀ k i, i ≤ n → n < i + k → f_X0_countOf_6 S (nI f) (nI c) (nI s) k (nI (cn (fun e => s.testBit e && decide (cl S f e = c)) i)) (nI i) = some (nI (ct S n f c s)) := fun k => by
  induction k with
  | zero => intro i h1 h2; omega
  | succ k ih =>
    intro i h1 h2
    rw [f_X0_countOf_6, hn]
    by_cases hi : i = n
    · rw [if_pos (by rw [hi]; exact nI_le (Nat.le_refl n) (by omega)), hi]
      rfl
    · rw [if_neg (nI_ge (a := i) (b := n) (by omega) (by omega))]
      unfold bnd
      have h3 := ih (i + 1) (by omega) (by omega)
      have e1 : cn (fun e => s.testBit e && decide (cl S f e = c)) (i + 1) = cn (fun e => s.testBit e && decide (cl S f e = c)) i + (if (s.testBit i && decide (cl S f i = c)) = true then 1 else 0) := rfl
      rw [e1] at h3
      have hcl := (cl_of hK hf (show i < 6 by omega)).2
      cases t : s.testBit i with
      | false =>
        rw [hasF (by omega) (by omega) t, if_pos rfl, nI_1]
        rw [t] at h3
        exact h3
      | true =>
        rw [hasT (by omega) (by omega) t, if_neg one_ne, col_nI hK hf (by omega), nI_1]
        rw [t] at h3
        by_cases g : cl S f i = c
        · rw [if_pos (by rw [g]), nI_1]
          rw [show (true && decide (cl S f i = c)) = true by rw [decide_eq_true g]; rfl] at h3
          exact h3
        · rw [if_neg (nI_ne g (by omega) (by omega))]
          rw [show (true && decide (cl S f i = c)) = false by rw [decide_eq_false g]; rfl] at h3
          exact h3
theorem cnt_nI {S : St} {n s f c : Nat} (hn : S.1 0 = nI n) (hn6 : n ≤ 6) (hK : IvK S) (hs : s < 1024) (hf : f < 2) (hc : c < 6) : f_X0_countOf S (nI f) (nI c) (nI s) = some (nI (ct S n f c s)) := cnt_loop hn hn6 hK hs hf hc 70 0 (by omega) (by omega)
theorem ofc_loop {S : St} {n s f c : Nat} (hn : S.1 0 = nI n) (hn6 : n ≤ 6) (hK : IvK S) (hs : s < 1024) (hf : f < 2) (hc : c < 6) : ∀ k i, i ≤ n → n < i + k → f_X1_ofColour_6 S (nI f) (nI c) (nI s) k (nI (cn (fun e => s.testBit e && decide (cl S f e = c)) i)) (nI i) = some (nI (ct S n f c s)) := fun k => by
  induction k with
  | zero => intro i h1 h2; omega
  | succ k ih =>
    intro i h1 h2
    rw [f_X1_ofColour_6, hn]
    by_cases hi : i = n
    · rw [if_pos (by rw [hi]; exact nI_le (Nat.le_refl n) (by omega)), hi]
      rfl
    · rw [if_neg (nI_ge (a := i) (b := n) (by omega) (by omega))]
      have h3 := ih (i + 1) (by omega) (by omega)
      have e1 : cn (fun e => s.testBit e && decide (cl S f e = c)) (i + 1) = cn (fun e => s.testBit e && decide (cl S f e = c)) i + (if (s.testBit i && decide (cl S f i = c)) = true then 1 else 0) := rfl
      rw [e1] at h3
      have hcl := cl_of hK hf (show i < 6 by omega)
      cases t : s.testBit i with
      | false =>
        rw [hasMF (by omega) (by omega) t, if_pos rfl]
        unfold f_X1_ofColour_47 bnd
        rw [nI_1, show (0 : Int32) = nI 0 from rfl, nI_add]
        rw [t] at h3
        exact h3
      | true =>
        rw [hasMT (by omega) (by omega) t, if_neg one_ne, mul6', rd_nI (by omega) (by omega), hcl.1]
        show (if nI (cl S f i) = nI c then _ else _) = _
        rw [t] at h3
        by_cases g : cl S f i = c
        · rw [if_pos (by rw [g])]
          unfold f_X1_ofColour_47 bnd
          rw [nI_1, nI_1]
          rw [show (true && decide (cl S f i = c)) = true by rw [decide_eq_true g]; rfl] at h3
          exact h3
        · rw [if_neg (nI_ne g (by omega) (by omega))]
          unfold f_X1_ofColour_47 bnd
          rw [nI_1, show (0 : Int32) = nI 0 from rfl, nI_add]
          rw [show (true && decide (cl S f i = c)) = false by rw [decide_eq_false g]; rfl] at h3
          exact h3
theorem ofc_nI {S : St} {n s f c : Nat} (hn : S.1 0 = nI n) (hn6 : n ≤ 6) (hK : IvK S) (hs : s < 1024) (hf : f < 2) (hc : c < 6) : f_X1_ofColour S (nI f) (nI c) (nI s) = some (nI (ct S n f c s)) := ofc_loop hn hn6 hK hs hf hc 70 0 (by omega) (by omega)
theorem ct_le (S : St) (n f c s : Nat) : ct S n f c s ≤ n := cn_le _ n
def rkF (S : St) (n f s : Nat) : Nat := sm (fun c => min (ct S n f c s) (rm_ S f c)) 6
theorem rank_loop {S : St} {n s f : Nat} (hn : S.1 0 = nI n) (hn6 : n ≤ 6) (hK : IvK S) (hR : IvR S) (hs : s < 1024) (hf : f < 2) : ∀ k i, i ≤ 6 → 6 < i + k → f_X0_rankValue_5 S (nI f) (nI s) k (nI (sm (fun c => min (ct S n f c s) (rm_ S f c)) i)) (nI i) = some (nI (rkF S n f s)) := fun k => by
  induction k with
  | zero => intro i h1 h2; omega
  | succ k ih =>
    intro i h1 h2
    rw [f_X0_rankValue_5]
    by_cases hi : i = 6
    · rw [if_pos (by rw [hi]; exact nI_le (Nat.le_refl 6) (by omega)), hi]
      rfl
    · rw [if_neg (show ¬ (6 : Int32) ≤ nI i from nI_ge (a := i) (b := 6) (by omega) (by omega)), cnt_nI hn hn6 hK hs hf (show i < 6 by omega)]
      show bnd _ _ = _
      unfold bnd
      have h3 := ih (i + 1) (by omega) (by omega)
      have h4 := ct_le S n f i s
      have h5 := (rm_of hR hf (show i < 6 by omega)).2
      rw [room_nI hR hf (by omega), nI_1]
      have e1 : (if nI (rm_ S f i) < nI (ct S n f i s) then nI (rm_ S f i) else nI (ct S n f i s)) = nI (min (ct S n f i s) (rm_ S f i)) := by
        by_cases g : rm_ S f i < ct S n f i s
        · rw [if_pos (nI_lt g (by omega)), Nat.min_eq_right (by omega)]
        · rw [if_neg (fun h => g ((nI_ltI (by omega) (by omega)).mp h)), Nat.min_eq_left (by omega)]
      rw [e1, nI_add]
      exact h3
theorem rankM_loop {S : St} {n s f : Nat} (hn : S.1 0 = nI n) (hn6 : n ≤ 6) (hK : IvK S) (hR : IvR S) (hs : s < 1024) (hf : f < 2) : ∀ k i, i ≤ 6 → 6 < i + k → f_X1_rank_5 S (nI f) (nI s) k (nI (sm (fun c => min (ct S n f c s) (rm_ S f c)) i)) (nI i) = some (nI (rkF S n f s)) := fun k => by
  induction k with
  | zero => intro i h1 h2; omega
  | succ k ih =>
    intro i h1 h2
    rw [f_X1_rank_5]
    by_cases hi : i = 6
    · rw [if_pos (by rw [hi]; exact nI_le (Nat.le_refl 6) (by omega)), hi]
      rfl
    · rw [if_neg (show ¬ (6 : Int32) ≤ nI i from nI_ge (a := i) (b := 6) (by omega) (by omega)), ofc_nI hn hn6 hK hs hf (show i < 6 by omega)]
      have h3 := ih (i + 1) (by omega) (by omega)
      have h4 := ct_le S n f i s
      have h5 := rm_of hR hf (show i < 6 by omega)
      show ((rdA 12 (S.2 3) (6 * nI f + nI i)).bind _) = _
      rw [mul6', rd_nI (by omega) (by omega), h5.1]
      show (if nI (rm_ S f i) ≤ nI (ct S n f i s) then _ else _) = _
      by_cases g : rm_ S f i ≤ ct S n f i s
      · rw [if_pos (nI_le g (by omega))]
        show f_X1_rank_57 S (nI f) (nI s) _ _ _ _ = _
        unfold f_X1_rank_57 bnd
        rw [nI_1, nI_add]
        rw [show sm (fun c => min (ct S n f c s) (rm_ S f c)) (i + 1) = sm (fun c => min (ct S n f c s) (rm_ S f c)) i + rm_ S f i by show _ + min (ct S n f i s) (rm_ S f i) = _; rw [Nat.min_eq_right g]] at h3
        exact h3
      · rw [if_neg (fun h => g ((nI_leI (by omega) (by omega)).mp h))]
        unfold f_X1_rank_57 bnd
        rw [nI_1, nI_add]
        rw [show sm (fun c => min (ct S n f c s) (rm_ S f c)) (i + 1) = sm (fun c => min (ct S n f c s) (rm_ S f c)) i + ct S n f i s by show _ + min (ct S n f i s) (rm_ S f i) = _; rw [Nat.min_eq_left (by omega)]] at h3
        exact h3
-- ---- weights
theorem add_toInt {a b : Int32} (h1 : -1000000000 ≤ a.toInt + b.toInt) (h2 : a.toInt + b.toInt ≤ 1000000000) : (a + b).toInt = a.toInt + b.toInt := by
  rw [Int32.toInt_add]
  exact Int.bmod_eq_of_le (by omega) (by omega)
theorem sub_toInt {a b : Int32} (h1 : -1000000000 ≤ a.toInt - b.toInt) (h2 : a.toInt - b.toInt ≤ 1000000000) : (a - b).toInt = a.toInt - b.toInt := by
  rw [Int32.toInt_sub]
  exact Int.bmod_eq_of_le (by omega) (by omega)
def wtF (S : St) (s : Nat) : Nat → Int32
  | 0 => 0
  | i + 1 => if s.testBit i then wtF S s i + S.2 4 i else wtF S s i
theorem wtF_bd {S : St} (hW : IvW S) (s : Nat) : ∀ i : Nat, i ≤ 6 → -(20 * (i : Int)) ≤ (wtF S s i).toInt ∧ (wtF S s i).toInt ≤ 20 * (i : Int) := fun i => by
  induction i with
  | zero => intro _; exact ⟨by show -(20 * ((0 : Nat) : Int)) ≤ (0 : Int32).toInt; decide, by show (0 : Int32).toInt ≤ 20 * ((0 : Nat) : Int); decide⟩
  | succ i ih =>
    intro h
    obtain ⟨h1, h2⟩ := ih (by omega)
    obtain ⟨h3, h4⟩ := hW i (by omega)
    rw [wtF]
    split
    · rw [add_toInt (by omega) (by omega)]
      constructor <;> omega
    · constructor <;> omega
theorem wt_loop {S : St} {n s : Nat} (hn : S.1 0 = nI n) (hn6 : n ≤ 6) (hs : s < 1024) : ∀ k i, i ≤ n → n < i + k → f_X0_weightsValue_4 S (nI s) k (wtF S s i) (nI i) = some (wtF S s n) := fun k => by
  induction k with
  | zero => intro i h1 h2; omega
  | succ k ih =>
    intro i h1 h2
    rw [f_X0_weightsValue_4, hn]
    by_cases hi : i = n
    · rw [if_pos (by rw [hi]; exact nI_le (Nat.le_refl n) (by omega)), hi]
    · rw [if_neg (nI_ge (a := i) (b := n) (by omega) (by omega))]
      unfold bnd
      have h3 := ih (i + 1) (by omega) (by omega)
      rw [wtF] at h3
      cases t : s.testBit i with
      | false =>
        rw [hasF (by omega) (by omega) t, if_pos rfl, nI_1]
        rw [t] at h3
        exact h3
      | true =>
        rw [hasT (by omega) (by omega) t, if_neg one_ne, nI_1, at_nI (by omega) (by omega)]
        rw [t] at h3
        exact h3
theorem wtM_loop {S : St} {n s : Nat} (hn : S.1 0 = nI n) (hn6 : n ≤ 6) (hs : s < 1024) : ∀ k i, i ≤ n → n < i + k → f_X1_weight_4 S (nI s) k (wtF S s i) (nI i) = some (wtF S s n) := fun k => by
  induction k with
  | zero => intro i h1 h2; omega
  | succ k ih =>
    intro i h1 h2
    rw [f_X1_weight_4, hn]
    by_cases hi : i = n
    · rw [if_pos (by rw [hi]; exact nI_le (Nat.le_refl n) (by omega)), hi]
    · rw [if_neg (nI_ge (a := i) (b := n) (by omega) (by omega))]
      have h3 := ih (i + 1) (by omega) (by omega)
      rw [wtF] at h3
      cases t : s.testBit i with
      | false =>
        rw [hasMF (by omega) (by omega) t, if_pos rfl]
        unfold f_X1_weight_31 bnd
        rw [nI_1, Int32.add_zero]
        rw [t] at h3
        exact h3
      | true =>
        rw [hasMT (by omega) (by omega) t, if_neg one_ne, rd_nI (by omega) (by omega)]
        show f_X1_weight_31 S (nI s) _ _ _ _ = _
        unfold f_X1_weight_31 bnd
        rw [nI_1]
        rw [t] at h3
        exact h3

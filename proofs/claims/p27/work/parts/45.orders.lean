/-! Sums over orders: three ways to the same number. -/
def s3 (f : Nat → Int32) : Nat → Int32
  | 0 => 0
  | n + 1 => s3 f n + f n
theorem s3_congr {f g : Nat → Int32} : ∀ {n : Nat}, (∀ i, i < n → f i = g i) → s3 f n = s3 g n := fun {n} => by
  induction n with
  | zero => intro _; rfl
  | succ n ih =>
    intro h
    rw [s3, s3, ih (fun i hi => h i (by omega)), h n (by omega)]
theorem add4 (a b c d : Int32) : a + b + (c + d) = a + c + (b + d) := by
  rw [Int32.add_assoc, Int32.add_assoc, ← Int32.add_assoc b, Int32.add_comm b c, Int32.add_assoc c]
theorem s3_add (f g : Nat → Int32) : ∀ n, s3 (fun i => f i + g i) n = s3 f n + s3 g n := fun n => by
  induction n with
  | zero => rfl
  | succ n ih => rw [s3, s3, s3, ih, add4]
theorem s3_zero {f : Nat → Int32} {n : Nat} (h : ∀ i, i < n → f i = 0) : s3 f n = 0 := by
  rw [s3_congr (g := fun _ => 0) h]
  induction n with
  | zero => rfl
  | succ n ih => rw [s3, ih (fun i hi => h i (by omega))]; rfl
theorem s3_swap (f : Nat → Nat → Int32) (m : Nat) : ∀ n, s3 (fun x => s3 (f x) m) n = s3 (fun y => s3 (fun x => f x y) n) m := fun n => by
  induction n with
  | zero => exact (s3_zero (fun i _ => rfl)).symm
  | succ n ih =>
    rw [s3, ih, ← s3_add]
    rfl
theorem s3_only {f : Nat → Int32} {x : Nat} : ∀ n, x < n → (∀ y, y < n → y ≠ x → f y = 0) → s3 f n = f x := fun n => by
  induction n with
  | zero => intro h; omega
  | succ n ih =>
    intro h1 h2
    rw [s3]
    by_cases c : x = n
    · rw [s3_zero (fun i hi => h2 i (by omega) (by omega)), c, Int32.zero_add]
    · rw [ih (by omega) (fun y hy => h2 y (by omega)), h2 n (by omega) (fun d => c d.symm), Int32.add_zero]
theorem s3_if (P : Nat → Bool) (c : Int32) : ∀ n, s3 (fun x => if P x then c else 0) n = nI (cn P n) * c := fun n => by
  induction n with
  | zero => exact Int32.zero_mul.symm
  | succ n ih =>
    rw [s3, ih, cn]
    cases P n with
    | true => rw [if_pos rfl, if_pos rfl, ← nI_1, Int32.add_mul, Int32.one_mul]
    | false => rw [if_neg (by decide), if_neg (by decide), Int32.add_zero]; rfl
theorem s3_append (f : Nat → Int32) (a : Nat) : ∀ b, s3 f (a + b) = s3 f a + s3 (fun i => f (a + i)) b := fun b => by
  induction b with
  | zero => exact (Int32.add_zero _).symm
  | succ b ih => rw [show a + (b + 1) = (a + b) + 1 by omega, s3, ih, s3, Int32.add_assoc]
theorem s3_div (f : Nat → Nat → Int32) (m : Nat) : ∀ K, s3 (fun l => f (l % (m + 1)) (l / (m + 1))) ((m + 1) * K) = s3 (fun l => s3 (fun w => f w l) (m + 1)) K := fun K => by
  induction K with
  | zero => rfl
  | succ K ih =>
    rw [Nat.mul_succ, s3_append, ih]
    show _ = s3 (fun l => s3 (fun w => f w l) (m + 1)) K + s3 (fun w => f w K) (m + 1)
    congr 1
    refine s3_congr (fun w hw => ?_)
    rw [Nat.mul_add_mod, Nat.mod_eq_of_lt hw, Nat.mul_add_div (by omega), Nat.div_eq_of_lt hw, Nat.add_zero]
def fc : Nat → Nat
  | 0 => 1
  | n + 1 => (n + 1) * fc n
/-- how many a set lacks below n -/
def miF (A n : Nat) : Nat := cn (fun x => !A.testBit x) n
theorem mi_or {A x n : Nat} (hx : x < n) (h : A.testBit x = false) : miF A n = miF (A ||| 2 ^ x) n + 1 := by
  unfold miF
  rw [cn_upd (P := fun y => !(A ||| 2 ^ x).testBit y) (e := x) (by rw [tb_or, decide_eq_true rfl, Bool.or_true]; rfl) (by rw [h]; rfl) (fun i hi => by rw [tb_or, decide_eq_false (Ne.symm hi), Bool.or_false]) n, if_pos hx]
theorem mi_pc {A n : Nat} (hA : A < 2 ^ n) (hn : n ≤ 10) : miF A n + pc A = n := by
  rw [pc_n hA hn]
  unfold miF
  have : ∀ i, cn (fun x => !A.testBit x) i + cn A.testBit i = i := fun i => by
    induction i with
    | zero => rfl
    | succ i ih =>
      rw [cn, cn]
      cases A.testBit i with
      | true => rw [if_neg (by decide), if_pos rfl]; omega
      | false => rw [if_pos (by decide), if_neg (by decide)]; omega
  exact this n
/-- over all orders that begin with A, m to come -/
def GO (g : Nat → Int32) (n e : Nat) : Nat → Nat → Int32
  | 0, _ => 0
  | m + 1, A => s3 (fun x => if A.testBit x then 0 else if x = e then nI (fc m) * g A else GO g n e m (A ||| 2 ^ x)) n
theorem cn_sub {P Q : Nat → Bool} (h : ∀ i, P i = true → Q i = true) : ∀ n, cn Q n = cn P n + cn (fun i => !P i && Q i) n := fun n => by
  induction n with
  | zero => rfl
  | succ n ih =>
    rw [cn, cn, cn, ih]
    cases c : P n with
    | true => rw [h n c, if_pos rfl, if_neg (by decide)]; omega
    | false =>
      cases Q n with
      | true => rw [if_pos rfl, if_neg (by decide), if_pos (by decide)]; omega
      | false => rw [if_neg (by decide), if_neg (by decide)]; omega
theorem or_iff_sub {A B : Nat} : A ||| B = B ↔ sub A B := ⟨fun h i hi => by rw [← h, Nat.testBit_or, hi]; rfl, or_sub⟩
theorem cn_none {P : Nat → Bool} : ∀ n, cn P n = 0 → ∀ i, i < n → P i = false := fun n => by
  induction n with
  | zero => intro _ i hi; omega
  | succ n ih =>
    intro h i hi
    rw [cn] at h
    cases c : P n with
    | true => rw [c, if_pos rfl] at h; omega
    | false =>
      by_cases d : i = n
      · rw [d]; exact c
      · exact ih (by omega) i (by omega)
section GOEQ
variable {g : Nat → Int32} {n e : Nat}
def goT (g : Nat → Int32) (n e m A x B : Nat) : Int32 := if x = e then (if B = A then nI (fc m) * g A else 0) else if (!A.testBit x && B.testBit x) = true ∧ A ||| B = B ∧ B.testBit e = false then nI (fc (pc B - pc A - 1) * fc (n - 1 - pc B)) * g B else 0
def goR (g : Nat → Int32) (n e A B : Nat) : Int32 := if A ||| B = B ∧ B.testBit e = false then nI (fc (pc B - pc A) * fc (n - 1 - pc B)) * g B else 0
theorem go_B (hn : n ≤ 6) (he : e < n) {m A B : Nat} (hA : A < 2 ^ n) (hB : B < 2 ^ n) (h0 : A.testBit e = false) (hm : pc A + (m + 1) = n) : s3 (fun x => goT g n e m A x B) n = goR g n e A B := by
  by_cases c : A ||| B = B ∧ B.testBit e = false
  · have h1 : s3 (fun x => goT g n e m A x B) n = s3 (fun x => (if x = e then (if B = A then nI (fc m) * g A else 0) else 0) + (if (!A.testBit x && B.testBit x) = true then nI (fc (pc B - pc A - 1) * fc (n - 1 - pc B)) * g B else 0)) n := s3_congr (fun x _ => by
      unfold goT
      by_cases d : x = e
      · rw [if_pos d, if_pos d, d, c.2, Bool.and_false, if_neg (show ¬ false = true by decide), Int32.add_zero]
      · rw [if_neg d, if_neg d, Int32.zero_add]
        by_cases f : (!A.testBit x && B.testBit x) = true
        · rw [if_pos f, if_pos ⟨f, c⟩]
        · rw [if_neg f, if_neg (fun k => f k.1)])
    rw [h1, s3_add, s3_only (x := e) n he (fun y _ hy => if_neg hy), if_pos rfl, s3_if (fun x => !A.testBit x && B.testBit x)]
    unfold goR
    rw [if_pos c]
    have hq : pc B = pc A + cn (fun x => !A.testBit x && B.testBit x) n := by
      rw [pc_n hA (by omega), pc_n hB (by omega)]
      exact cn_sub (or_iff_sub.mp c.1) n
    by_cases d : B = A
    · have hz : cn (fun x => !A.testBit x && B.testBit x) n = 0 := by rw [d] at hq ⊢; omega
      rw [if_pos d, hz, show nI 0 = 0 from rfl, Int32.zero_mul, Int32.add_zero, d, Nat.sub_self, show n - 1 - pc A = m by omega, show fc 0 = 1 from rfl, Nat.one_mul]
    · have hq1 : cn (fun x => !A.testBit x && B.testBit x) n ≠ 0 := fun z => d (sub_eq (fun i hi => by
        by_cases k : i < n
        · have := cn_none n z i k
          rw [hi, Bool.and_true] at this
          cases h4 : A.testBit i with
          | true => rfl
          | false => rw [h4] at this; exact absurd this (by decide)
        · rw [tb_hi hB (by omega)] at hi; exact absurd hi (by decide)) (or_iff_sub.mp c.1))
      obtain ⟨q, hq2⟩ : ∃ q, cn (fun x => !A.testBit x && B.testBit x) n = q + 1 := ⟨_, (Nat.succ_pred_eq_of_ne_zero hq1).symm⟩
      rw [if_neg d, Int32.zero_add, hq2, show pc B - pc A = q + 1 by omega, show q + 1 - 1 = q by omega, ← Int32.mul_assoc, pk_mul, fc, Nat.mul_assoc]
  · unfold goR
    rw [if_neg c]
    refine s3_zero (fun x _ => ?_)
    unfold goT
    by_cases d : x = e
    · rw [if_pos d]
      refine if_neg (fun f => c ?_)
      rw [f]
      exact ⟨Nat.or_self A, h0⟩
    · rw [if_neg d]
      exact if_neg (fun f => c f.2)
theorem GO_eq (hn : n ≤ 6) (he : e < n) : ∀ m A, A < 2 ^ n → A.testBit e = false → pc A + m = n → GO g n e m A = s3 (goR g n e A) (2 ^ n) := fun m => by
  induction m with
  | zero =>
    intro A hA h0 hm
    exfalso
    have h1 := pc_or (show e < 10 by omega) h0
    have h2 := mi_pc (or_lt hA he) (show n ≤ 10 by omega)
    omega
  | succ m ih =>
    intro A hA h0 hm
    rw [GO]
    have hx : ∀ x, x < n → (if A.testBit x then 0 else if x = e then nI (fc m) * g A else GO g n e m (A ||| 2 ^ x)) = s3 (goT g n e m A x) (2 ^ n) := fun x hx => by
      cases c : A.testBit x with
      | true =>
        rw [if_pos rfl]
        refine (s3_zero (fun B _ => ?_)).symm
        unfold goT
        rw [if_neg (fun d => by rw [d, h0] at c; exact absurd c (by decide)), c]
        exact if_neg (fun d => by
          have d1 := d.1
          rw [Bool.not_true, Bool.false_and] at d1
          exact absurd d1 (by decide))
      | false =>
        rw [if_neg (by decide)]
        by_cases d : x = e
        · rw [if_pos d]
          refine ((s3_only (x := A) (2 ^ n) hA (fun B _ hB => ?_)).trans ?_).symm
          · unfold goT; rw [if_pos d, if_neg hB]
          · unfold goT; rw [if_pos d, if_pos rfl]
        · rw [if_neg d, ih (A ||| 2 ^ x) (or_lt hA hx) (by rw [tb_or, h0, decide_eq_false d]; rfl) (by rw [pc_or (by omega) c]; omega)]
          refine s3_congr (fun B _ => ?_)
          unfold goT goR
          rw [if_neg d, pc_or (by omega) c, show pc B - (pc A + 1) = pc B - pc A - 1 by omega, c]
          have hiff : (A ||| 2 ^ x ||| B = B ∧ B.testBit e = false) ↔ ((!false && B.testBit x) = true ∧ A ||| B = B ∧ B.testBit e = false) := by
            rw [or_iff_sub, or_iff_sub]
            constructor
            · rintro ⟨k1, k2⟩
              exact ⟨by rw [k1 x (by rw [tb_or, decide_eq_true rfl, Bool.or_true])]; rfl, sub_trans (sub_or_self A x) k1, k2⟩
            · rintro ⟨k1, k2, k3⟩
              exact ⟨sub_or k2 k1, k3⟩
          by_cases k : A ||| 2 ^ x ||| B = B ∧ B.testBit e = false
          · rw [if_pos k, if_pos (hiff.mp k)]
          · rw [if_neg k, if_neg (fun z => k (hiff.mpr z))]
    rw [s3_congr hx, s3_swap]
    exact s3_congr (fun B hB => go_B hn he hA hB h0 hm)
/-- what one order, told by a number, adds -/
def cbF (g : Nat → Int32) (n e : Nat) : Nat → Nat → Nat → Int32
  | 0, _, _ => 0
  | m + 1, A, l => s3 (fun x => if A.testBit x then 0 else if miF A x = l % (m + 1) then (if x = e then g A else cbF g n e m (A ||| 2 ^ x) (l / (m + 1))) else 0) n
theorem mi_lt {A : Nat} {x : Nat} (h : A.testBit x = false) : ∀ y, x < y → miF A x < miF A y := fun y => by
  induction y with
  | zero => intro h; omega
  | succ y ih =>
    intro h1
    have e1 : miF A (y + 1) = miF A y + (if (!A.testBit y) = true then 1 else 0) := rfl
    rw [e1]
    by_cases c : x = y
    · rw [← c, h, if_pos (by decide)]; omega
    · have := ih (by omega)
      omega
theorem GO_cb : ∀ m A, miF A n = m → s3 (cbF g n e m A) (fc m) = GO g n e m A := fun m => by
  induction m with
  | zero => intro A _; rfl
  | succ m ih =>
    intro A hA
    have h1 : cbF g n e (m + 1) A = fun l => s3 (fun x => if A.testBit x then 0 else if miF A x = l % (m + 1) then (if x = e then g A else cbF g n e m (A ||| 2 ^ x) (l / (m + 1))) else 0) n := funext (fun l => by rw [cbF])
    rw [h1, s3_swap, GO]
    refine s3_congr (fun x hx => ?_)
    cases c : A.testBit x with
    | true => rw [if_pos rfl]; exact s3_zero (fun l _ => if_pos rfl)
    | false =>
      rw [if_neg (by decide)]
      have hlt := mi_lt c n hx
      have h2 : s3 (fun l => if false = true then (0 : Int32) else if miF A x = l % (m + 1) then (if x = e then g A else cbF g n e m (A ||| 2 ^ x) (l / (m + 1))) else 0) (fc (m + 1)) = s3 (fun l => if x = e then g A else cbF g n e m (A ||| 2 ^ x) l) (fc m) := by
        rw [fc]
        have h3 := s3_div (fun w l => if miF A x = w then (if x = e then g A else cbF g n e m (A ||| 2 ^ x) l) else 0) m (fc m)
        refine Eq.trans (s3_congr (fun l _ => if_neg (by decide))) (h3.trans (s3_congr (fun l _ => ?_)))
        rw [s3_only (x := miF A x) (m + 1) (by omega) (fun y _ hy => if_neg (fun k => hy k.symm)), if_pos rfl]
      rw [h2]
      by_cases d : x = e
      · rw [if_pos d]
        refine (s3_congr (g := fun l => if (fun _ => true) l then g A else 0) (fun l _ => by rw [if_pos d]; rfl)).trans ?_
        rw [s3_if (fun _ => true)]
        congr 2
        have : ∀ k, cn (fun _ => true) k = k := fun k => by
          induction k with
          | zero => rfl
          | succ k ih => rw [cn, ih]; rfl
        exact this _
      · rw [if_neg d]
        refine Eq.trans (s3_congr (fun l _ => if_neg d)) (ih (A ||| 2 ^ x) ?_)
        have := mi_or hx c
        omega
theorem mi_ex {A : Nat} : ∀ k w, w < miF A k → ∃ x, x < k ∧ A.testBit x = false ∧ miF A x = w := fun k => by
  induction k with
  | zero => intro w h; exact absurd h (Nat.not_lt_zero w)
  | succ k ih =>
    intro w h
    have e1 : miF A (k + 1) = miF A k + (if (!A.testBit k) = true then 1 else 0) := rfl
    rw [e1] at h
    by_cases c : w < miF A k
    · obtain ⟨x, h1, h2, h3⟩ := ih w c
      exact ⟨x, by omega, h2, h3⟩
    · cases d : A.testBit k with
      | true => rw [d, if_neg (by decide)] at h; omega
      | false =>
        rw [d, if_pos (by decide)] at h
        exact ⟨k, by omega, d, by omega⟩
theorem cb_at {m A l x : Nat} (hx : x < n) (h0 : A.testBit x = false) (hw : miF A x = l % (m + 1)) : cbF g n e (m + 1) A l = if x = e then g A else cbF g n e m (A ||| 2 ^ x) (l / (m + 1)) := by
  rw [cbF, s3_only (x := x) n hx (fun y hy hyx => ?_)]
  · rw [h0, if_neg (by decide), if_pos hw]
  · cases c : A.testBit y with
    | true => exact if_pos rfl
    | false =>
      rw [if_neg (by decide)]
      refine if_neg (fun k => ?_)
      rcases Nat.lt_or_gt_of_ne hyx with d | d
      · have := mi_lt c x d; omega
      · have := mi_lt h0 y d; omega
end GOEQ

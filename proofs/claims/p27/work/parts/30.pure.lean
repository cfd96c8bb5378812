/-! THE PURE PART. Numbers: ints that are small naturals; rows read and written at them; sets as naturals. -/
theorem lit {a : Int32} (n : Nat) (h : a = nI n) : a = nI n := h
theorem at_nI {n i : Nat} {f : Nat → Int32} (h : i < n) (hn : n < 2 ^ 31) : atv n f (nI i) = f i := by
  unfold atv
  rw [if_neg (nI_pos (by omega)), if_neg (show ¬ Int32.ofNat n ≤ nI i from nI_ge h hn), nI_clamp (by omega)]
theorem put_nI {n i : Nat} {f : Nat → Int32} {x : Int32} (h : i < n) (hn : n < 2 ^ 31) : putv n f (nI i) x = upd f i x := by
  unfold putv
  rw [if_neg (nI_pos (by omega)), if_neg (show ¬ Int32.ofNat n ≤ nI i from nI_ge h hn), nI_clamp (by omega)]
theorem rd_nI {n i : Nat} {f : Nat → Int32} (h : i < n) (hn : n < 2 ^ 31) : rdA n f (nI i) = some (f i) := by
  unfold rdA
  rw [if_pos (nI_in h hn), nI_clamp (by omega)]
theorem wr_nI {n i : Nat} {f : Nat → Int32} {x : Int32} (h : i < n) (hn : n < 2 ^ 31) : wrA n f (nI i) x = some (upd f i x) := by
  unfold wrA
  rw [if_pos (nI_in h hn), nI_clamp (by omega)]
theorem mul6 (a b : Nat) : nI a * 6 + nI b = nI (6 * a + b) := by
  rw [show (6 : Int32) = nI 6 from rfl, pk_mul, nI_add, Nat.mul_comm]
theorem mul6' (a b : Nat) : 6 * nI a + nI b = nI (6 * a + b) := by
  rw [show (6 : Int32) = nI 6 from rfl, pk_mul, nI_add]
theorem mul64 (a b : Nat) : nI a * 64 + nI b = nI (64 * a + b) := by
  rw [show (64 : Int32) = nI 64 from rfl, pk_mul, nI_add, Nat.mul_comm]
theorem mul64' (a b : Nat) : 64 * nI a + nI b = nI (64 * a + b) := by
  rw [show (64 : Int32) = nI 64 from rfl, pk_mul, nI_add]
theorem nI_ne {a b : Nat} (h : a ≠ b) (ha : a < 2 ^ 31) (hb : b < 2 ^ 31) : nI a ≠ nI b := fun e => h ((nI_eq ha hb).mp e)
theorem nI_or (a b : Nat) : nI a ||| nI b = nI (a ||| b) := by
  apply Int32.toBitVec_inj.mp
  show (BitVec.ofNat 32 a ||| BitVec.ofNat 32 b) = BitVec.ofNat 32 (a ||| b)
  rw [BitVec.ofNat_or]
theorem nI_and (a b : Nat) : nI a &&& nI b = nI (a &&& b) := by
  apply Int32.toBitVec_inj.mp
  show (BitVec.ofNat 32 a &&& BitVec.ofNat 32 b) = BitVec.ofNat 32 (a &&& b)
  rw [BitVec.ofNat_and]
theorem nI_xor (a b : Nat) : nI a ^^^ nI b = nI (a ^^^ b) := by
  apply Int32.toBitVec_inj.mp
  show (BitVec.ofNat 32 a ^^^ BitVec.ofNat 32 b) = BitVec.ofNat 32 (a ^^^ b)
  rw [BitVec.ofNat_xor]
theorem bit_nI {e : Nat} (h : e < 10) : (1 : Int32) <<< (nI e &&& 31) = nI (2 ^ e) := by
  rcases (show e = 0 ∨ e = 1 ∨ e = 2 ∨ e = 3 ∨ e = 4 ∨ e = 5 ∨ e = 6 ∨ e = 7 ∨ e = 8 ∨ e = 9 by omega) with rfl | rfl | rfl | rfl | rfl | rfl | rfl | rfl | rfl | rfl <;> decide +kernel
theorem shr_nI {s e : Nat} (hs : s < 2 ^ 31) (h : e < 10) : nI s >>> (nI e &&& 31) = nI (s / 2 ^ e) := by
  have h2 : nI e &&& 31 = nI e := by
    rcases (show e = 0 ∨ e = 1 ∨ e = 2 ∨ e = 3 ∨ e = 4 ∨ e = 5 ∨ e = 6 ∨ e = 7 ∨ e = 8 ∨ e = 9 by omega) with rfl | rfl | rfl | rfl | rfl | rfl | rfl | rfl | rfl | rfl <;> decide +kernel
  rw [h2]
  refine pk_shrN hs (nI e) e ?_
  rcases (show e = 0 ∨ e = 1 ∨ e = 2 ∨ e = 3 ∨ e = 4 ∨ e = 5 ∨ e = 6 ∨ e = 7 ∨ e = 8 ∨ e = 9 by omega) with rfl | rfl | rfl | rfl | rfl | rfl | rfl | rfl | rfl | rfl <;> decide +kernel
theorem bitv_nI {s e : Nat} (hs : s < 2 ^ 31) (h : e < 10) : (nI s >>> (nI e &&& 31)) &&& 1 = if s.testBit e then 1 else 0 := by
  rw [shr_nI hs h, show (1 : Int32) = nI 1 from rfl, nI_and, Nat.and_one_is_mod, Nat.testBit_eq_decide_div_mod_eq]
  rcases Nat.mod_two_eq_zero_or_one (s / 2 ^ e) with g | g <;> rw [g] <;> decide
theorem has_nI {s e : Nat} (hs : s < 2 ^ 31) (h : e < 10) : f_X0_has (nI s) (nI e) = if s.testBit e then 1 else 0 := by
  unfold f_X0_has
  rw [bitv_nI hs h]
  cases s.testBit e <;> decide
theorem hasM_nI {s e : Nat} (hs : s < 2 ^ 31) (h : e < 10) : f_X1_has (nI s) (nI e) = if s.testBit e then 1 else 0 := has_nI hs h
theorem with_nI {s e : Nat} (h : e < 10) : f_X0_with (nI s) (nI e) = nI (s ||| 2 ^ e) := by
  unfold f_X0_with
  rw [bit_nI h, nI_or]
theorem notbit_nI {e : Nat} (h : e < 10) : ((1 : Int32) <<< (nI e &&& 31)) ^^^ (-1) = Int32.ofNat (4294967295 - 2 ^ e) := by
  rcases (show e = 0 ∨ e = 1 ∨ e = 2 ∨ e = 3 ∨ e = 4 ∨ e = 5 ∨ e = 6 ∨ e = 7 ∨ e = 8 ∨ e = 9 by omega) with rfl | rfl | rfl | rfl | rfl | rfl | rfl | rfl | rfl | rfl <;> decide +kernel
theorem andnot_tb {s e : Nat} (hs : s < 1024) (h : e < 10) : s &&& (4294967295 - 2 ^ e) = s &&& (1023 - 2 ^ e) := by
  apply Nat.eq_of_testBit_eq
  intro i
  rw [Nat.testBit_and, Nat.testBit_and]
  by_cases hi : i < 10
  · congr 1
    rcases (show e = 0 ∨ e = 1 ∨ e = 2 ∨ e = 3 ∨ e = 4 ∨ e = 5 ∨ e = 6 ∨ e = 7 ∨ e = 8 ∨ e = 9 by omega) with rfl | rfl | rfl | rfl | rfl | rfl | rfl | rfl | rfl | rfl <;>
    rcases (show i = 0 ∨ i = 1 ∨ i = 2 ∨ i = 3 ∨ i = 4 ∨ i = 5 ∨ i = 6 ∨ i = 7 ∨ i = 8 ∨ i = 9 by omega) with rfl | rfl | rfl | rfl | rfl | rfl | rfl | rfl | rfl | rfl <;> decide +kernel
  · rw [Nat.testBit_lt_two_pow (show s < 2 ^ i from Nat.lt_of_lt_of_le hs (by
      have := Nat.pow_le_pow_right (n := 2) (by omega) (show 10 ≤ i by omega)
      exact this))]
    rfl
/-- a set without an element -/
def wo (s e : Nat) : Nat := s &&& (1023 - 2 ^ e)
theorem without_nI {s e : Nat} (hs : s < 1024) (h : e < 10) : f_X0_without (nI s) (nI e) = nI (wo s e) := by
  unfold f_X0_without
  rw [notbit_nI h]
  show nI s &&& nI (4294967295 - 2 ^ e) = _
  rw [nI_and, andnot_tb hs h]
  rfl
theorem tb_or {s e i : Nat} : (s ||| 2 ^ e).testBit i = (s.testBit i || decide (e = i)) := by
  rw [Nat.testBit_or, Nat.testBit_two_pow]
theorem tb_wo {s e i : Nat} (hs : s < 1024) (he : e < 10) : (wo s e).testBit i = (s.testBit i && !decide (e = i)) := by
  unfold wo
  rw [Nat.testBit_and]
  by_cases hi : i < 10
  · congr 1
    rcases (show e = 0 ∨ e = 1 ∨ e = 2 ∨ e = 3 ∨ e = 4 ∨ e = 5 ∨ e = 6 ∨ e = 7 ∨ e = 8 ∨ e = 9 by omega) with rfl | rfl | rfl | rfl | rfl | rfl | rfl | rfl | rfl | rfl <;>
    rcases (show i = 0 ∨ i = 1 ∨ i = 2 ∨ i = 3 ∨ i = 4 ∨ i = 5 ∨ i = 6 ∨ i = 7 ∨ i = 8 ∨ i = 9 by omega) with rfl | rfl | rfl | rfl | rfl | rfl | rfl | rfl | rfl | rfl <;> decide +kernel
  · rw [Nat.testBit_lt_two_pow (show s < 2 ^ i from Nat.lt_of_lt_of_le hs (by
      have := Nat.pow_le_pow_right (n := 2) (by omega) (show 10 ≤ i by omega)
      exact this))]
    rfl
theorem or_lt {s e n : Nat} (hs : s < 2 ^ n) (he : e < n) : s ||| 2 ^ e < 2 ^ n := Nat.or_lt_two_pow hs (Nat.pow_lt_pow_right (by omega) he)
theorem wo_le (s e : Nat) : wo s e ≤ s := Nat.and_le_left
/-- how many below n -/
def cn (P : Nat → Bool) : Nat → Nat
  | 0 => 0
  | n + 1 => cn P n + (if P n then 1 else 0)
/-- how many elements a set has (points and sets are below 1024) -/
def pc (s : Nat) : Nat := cn s.testBit 10
theorem cn_le (P : Nat → Bool) : ∀ n, cn P n ≤ n := fun n => by
  induction n with
  | zero => exact Nat.le_refl 0
  | succ n ih =>
    show cn P n + _ ≤ n + 1
    split <;> omega
theorem cn_congr {P Q : Nat → Bool} : ∀ {n : Nat}, (∀ i, i < n → P i = Q i) → cn P n = cn Q n := fun {n} => by
  induction n with
  | zero => intro _; rfl
  | succ n ih =>
    intro h
    show cn P n + _ = cn Q n + _
    rw [ih (fun i hi => h i (by omega)), h n (by omega)]
theorem many_loop {s : Nat} (hs : s < 2 ^ 31) : ∀ k i : Nat, i ≤ 10 → 10 < i + k → f_X1_many_4 (nI s) k (nI (cn s.testBit i)) (nI i) = some (nI (pc s)) := fun k => by
  induction k with
  | zero => intro i h1 h2; omega
  | succ k ih =>
    intro i h1 h2
    rw [f_X1_many_4]
    by_cases hi : i = 10
    · rw [if_pos (by rw [hi]; exact nI_le (Nat.le_refl 10) (by omega))]
      rw [hi]; rfl
    · rw [if_neg (show ¬ (10 : Int32) ≤ nI i from nI_ge (a := i) (b := 10) (by omega) (by omega))]
      unfold bnd
      have e1 : nI (cn s.testBit i) + (nI s >>> (nI i &&& 31) &&& 1) = nI (cn s.testBit (i + 1)) := by
        rw [bitv_nI hs (by omega)]
        show _ = nI (cn s.testBit i + _)
        rw [← nI_add]
        cases s.testBit i <;> rfl
      rw [e1, nI_1]
      exact ih (i + 1) (by omega) (by omega)
theorem many_nI {s : Nat} (hs : s < 2 ^ 31) : f_X1_many (nI s) = some (nI (pc s)) := many_loop hs 70 0 (by omega) (by omega)
set_option maxRecDepth 100000 in
theorem bc_all : (List.range 1024).all (fun s => decide (f_J6_bitCount_0f7a4 (nI s) = nI (pc s))) = true := by decide +kernel
theorem bc_nI {s : Nat} (hs : s < 1024) : f_J6_bitCount_0f7a4 (nI s) = nI (pc s) := by
  have h := List.all_eq_true.mp bc_all s (List.mem_range.mpr hs)
  exact of_decide_eq_true h
theorem sets_nI {S : St} {n : Nat} (h : S.1 0 = nI n) (hn : n ≤ 6) : f_X0_sets S = nI (2 ^ n) := by
  unfold f_X0_sets
  rw [h]
  exact bit_nI (by omega)
theorem pow6 {n : Nat} (hn : n ≤ 6) : 2 ^ n ≤ 64 := by
  have := Nat.pow_le_pow_right (n := 2) (by omega) hn
  exact this
theorem pow1 (n : Nat) : 1 ≤ 2 ^ n := Nat.one_le_two_pow

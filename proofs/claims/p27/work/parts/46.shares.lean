/-! share, shareAnew: both classes. -/
def gI (S : St) (a e A : Nat) : Int32 := S.2 5 (64 * a + (A ||| 2 ^ e)) - S.2 5 (64 * a + A)
theorem ord_nI {k : Nat} (h : k ≤ 6) : f_X0_ordersOf (nI k) = some (nI (fc k)) := by
  rcases (show k = 0 ∨ k = 1 ∨ k = 2 ∨ k = 3 ∨ k = 4 ∨ k = 5 ∨ k = 6 by omega) with rfl | rfl | rfl | rfl | rfl | rfl | rfl <;> decide +kernel
theorem pc_zero : pc 0 = 0 := by decide
section SHX
variable {S : St} {n F a e : Nat}
theorem shX (hn : S.1 0 = nI n) (hn6 : n ≤ 6) (hF : F ≤ 8) (ha : a < F) (he : e < n) : ∀ k B, B ≤ 2 ^ n → 2 ^ n < B + k → f_X0_share_29 S (nI a) (nI e) k (s3 (goR (gI S a e) n e 0) B) (nI B) = some (0, s3 (goR (gI S a e) n e 0) (2 ^ n), S) := fun k => by
  have h6 := pow6 hn6
  induction k with
  | zero => intro i h1 h2; omega
  | succ k ih =>
    intro B h1 h2
    rw [f_X0_share_29]
    by_cases hi : B = 2 ^ n
    · rw [hi, if_pos (sets_ge hn hn6)]
    · have hB : B < 2 ^ n := by omega
      rw [if_neg (sets_le hn hn6 hB)]
      have h3 := ih (B + 1) (by omega) (by omega)
      rw [s3] at h3
      cases c : B.testBit e with
      | true =>
        rw [hasT (by omega) (by omega) c, if_neg one_ne]
        unfold bnd
        rw [nI_1]
        have h4 : goR (gI S a e) n e 0 B = 0 := if_neg (fun d => by rw [c] at d; exact absurd d.2 (by decide))
        rw [h4, Int32.add_zero] at h3
        exact h3
      | false =>
        rw [hasF (by omega) (by omega) c, if_pos rfl, bc_nI (by omega)]
        have h5 := pc_or (show e < 10 by omega) c
        have h7 := mi_pc (or_lt hB he) (show n ≤ 10 by omega)
        unfold bnd
        show ((f_X0_ordersOf (nI (pc B))).bind _) = _
        rw [ord_nI (by omega), Option.bind_some, hn, show (1 : Int32) = nI 1 from rfl, pk_sub (by omega), pk_sub (by omega), ord_nI (by omega), Option.bind_some, pk_mul, show nI B + nI 1 = nI (B + 1) from nI_1 B, gain_nI hF hn6 ha hB he]
        have h4 : goR (gI S a e) n e 0 B = nI (fc (pc B) * fc (n - 1 - pc B)) * (S.2 5 (64 * a + (B ||| 2 ^ e)) - S.2 5 (64 * a + B)) := by
          unfold goR
          rw [if_pos ⟨Nat.zero_or B, c⟩, pc_zero, Nat.sub_zero]
          rfl
        rw [h4] at h3
        exact h3
-- shareAnew
theorem goX_loop (hn : S.1 0 = nI n) (hn6 : n ≤ 6) {A : Nat} (hA : A < 2 ^ n) (y dp : Int32) (rec : Int32 → Int32 → Int32 → Int32 → Int32 → Option Int32) (R : Nat → Int32) (hrec : ∀ x, x < n → A.testBit x = false → rec (nI a) (nI e) (nI (A ||| 2 ^ x)) (dp + 1) (if x = e then f_X0_gain S (nI a) (nI A) (nI e) else y) = some (R x)) (he : e < n) : ∀ k i, i ≤ n → n < i + k → f_X0_gainsOverOrders_18 S (nI a) (nI e) (nI A) dp y rec k (s3 (fun x => if A.testBit x then 0 else R x) i) (nI i) = some (s3 (fun x => if A.testBit x then 0 else R x) n) := fun k => by
  have h6 := pow6 hn6
  induction k with
  | zero => intro i h1 h2; omega
  | succ k ih =>
    intro i h1 h2
    rw [f_X0_gainsOverOrders_18, hn]
    by_cases hi : i = n
    · rw [if_pos (by rw [hi]; exact nI_le (Nat.le_refl n) (by omega)), hi]
    · rw [if_neg (nI_ge (a := i) (b := n) (by omega) (by omega))]
      have h3 := ih (i + 1) (by omega) (by omega)
      rw [s3] at h3
      cases c : A.testBit i with
      | true =>
        rw [hasT (by omega) (by omega) c, if_neg one_ne]
        unfold bnd
        rw [nI_1]
        rw [c, if_pos rfl, Int32.add_zero] at h3
        exact h3
      | false =>
        rw [hasF (by omega) (by omega) c, if_pos rfl]
        have h4 := hrec i (by omega) c
        rw [c, if_neg (by decide)] at h3
        by_cases d : i = e
        · rw [if_pos d] at h4
          rw [if_pos (by rw [d])]
          unfold f_X0_gainsOverOrders_54 bnd
          rw [with_nI (by omega), h4, Option.bind_some, nI_1]
          exact h3
        · rw [if_neg d] at h4
          rw [if_neg (nI_ne d (by omega) (by omega))]
          unfold f_X0_gainsOverOrders_54 bnd
          rw [with_nI (by omega), h4, Option.bind_some, nI_1]
          exact h3
/-- the element is ahead already: what was gained stands in all orders -/
theorem goX_had (hn : S.1 0 = nI n) (hn6 : n ≤ 6) (he : e < n) : ∀ d m A (y : Int32), m < d → A < 2 ^ n → A.testBit e = true → miF A n = m → m ≤ n → f_X0_gainsOverOrders S d (nI a) (nI e) (nI A) (nI (n - m)) y = some (nI (fc m) * y) := fun d => by
  induction d with
  | zero => intro m A y h; omega
  | succ d ih =>
    intro m A y hm hA hAe hmi hmn
    rw [f_X0_gainsOverOrders, hn]
    cases m with
    | zero =>
      rw [if_neg (show ¬ nI (n - 0) < nI n by rw [Nat.sub_zero]; exact Int32.lt_irrefl), show nI (fc 0) = 1 from rfl, Int32.one_mul]
    | succ m =>
      rw [if_pos (nI_lt (by omega) (by omega))]
      have hl := goX_loop (a := a) (e := e) hn hn6 hA y (nI (n - (m + 1))) (f_X0_gainsOverOrders S d) (fun _ => nI (fc m) * y) (fun x hx hc => by
        rw [if_neg (fun z => by rw [z, hAe] at hc; exact absurd hc (by decide)), nI_1, show n - (m + 1) + 1 = n - m by omega]
        have := mi_or hx hc
        exact ih m (A ||| 2 ^ x) y (by omega) (or_lt hA hx) (by rw [tb_or, hAe]; rfl) (by omega) (by omega)) he 70 0 (by omega) (by omega)
      refine hl.trans ?_
      have h1 : s3 (fun x => if A.testBit x = true then (0 : Int32) else nI (fc m) * y) n = s3 (fun x => if !A.testBit x then nI (fc m) * y else 0) n := s3_congr (fun x _ => by cases A.testBit x <;> rfl)
      rw [h1, s3_if (fun x => !A.testBit x), show cn (fun x => !A.testBit x) n = m + 1 from hmi, ← Int32.mul_assoc, pk_mul, fc]
theorem goX (hn : S.1 0 = nI n) (hn6 : n ≤ 6) (hF : F ≤ 8) (ha : a < F) (he : e < n) : ∀ d m A, m < d → A < 2 ^ n → A.testBit e = false → miF A n = m → m ≤ n → f_X0_gainsOverOrders S d (nI a) (nI e) (nI A) (nI (n - m)) 0 = some (GO (gI S a e) n e m A) := fun d => by
  induction d with
  | zero => intro m A h; omega
  | succ d ih =>
    intro m A hm hA hAe hmi hmn
    rw [f_X0_gainsOverOrders, hn]
    cases m with
    | zero =>
      exfalso
      have := mi_or he hAe
      omega
    | succ m =>
      rw [if_pos (nI_lt (by omega) (by omega))]
      exact goX_loop (a := a) (e := e) hn hn6 hA 0 (nI (n - (m + 1))) (f_X0_gainsOverOrders S d) (fun x => if x = e then nI (fc m) * gI S a e A else GO (gI S a e) n e m (A ||| 2 ^ x)) (fun x hx hc => by
        have h1 := mi_or hx hc
        rw [nI_1, show n - (m + 1) + 1 = n - m by omega]
        by_cases z : x = e
        · rw [if_pos z, if_pos z, gain_nI hF hn6 ha hA he]
          exact goX_had hn hn6 he d m (A ||| 2 ^ x) _ (by omega) (or_lt hA hx) (by rw [tb_or, decide_eq_true z, Bool.or_true]) (by omega) (by omega)
        · rw [if_neg z, if_neg z]
          exact ih m (A ||| 2 ^ x) (by omega) (or_lt hA hx) (by rw [tb_or, hAe, decide_eq_false z]; rfl) (by omega) (by omega)) he 70 0 (by omega) (by omega)
end SHX
-- the reference
section SHM
variable {T : St} {n a e : Nat}
theorem find_loop (hn6 : n ≤ 6) {A x : Nat} (hA : A < 2 ^ n) (hx : x < n) (h0 : A.testBit x = false) (p2 : Int32) (K65 : St → Int32 → Int32 → Int32 → Option (Int32 × St)) (K84 : St → Int32 → Int32 → Int32 → Int32 → Int32 → Int32 → Int32 → Option (Int32 × St)) (x3 x4 x5 x6 x9 : Int32) : ∀ k j, j ≤ x → x < j + k → f_X1_shares_125 (nI a) p2 K65 K84 k T x3 x4 x5 x6 (nI A) x9 (nI (miF A x - miF A j)) (nI j) = (if nI x = p2 then f_X1_shares_177 (nI a) p2 K65 K84 T x3 x4 x5 x6 (nI A) x9 (nI x) 1 else f_X1_shares_177 (nI a) p2 K65 K84 T x3 x4 x5 x6 (nI A) x9 (nI x) 0) := fun k => by
  have h6 := pow6 hn6
  induction k with
  | zero => intro j h1 h2; omega
  | succ k ih =>
    intro j h1 h2
    rw [f_X1_shares_125]
    by_cases hj : j = x
    · rw [hj, hasMF (by omega) (by omega) h0, if_pos rfl, Nat.sub_self, if_pos (show nI 0 ≤ 0 by decide)]
    · have e1 : miF A (j + 1) = miF A j + (if (!A.testBit j) = true then 1 else 0) := rfl
      have hle : miF A (j + 1) ≤ miF A x := by
        by_cases q : j + 1 = x
        · rw [q]; exact Nat.le_refl _
        · have : ∀ i, j + 1 ≤ i → miF A (j + 1) ≤ miF A i := fun i => by
            induction i with
            | zero => intro h; omega
            | succ i ih2 =>
              intro h
              by_cases q2 : j = i
              · rw [q2]; exact Nat.le_refl _
              · exact Nat.le_trans (ih2 (by omega)) (Nat.le_add_right _ _)
          exact this x (by omega)
      have hbd : miF A x ≤ x := cn_le _ x
      have h3 := ih (j + 1) (by omega) (by omega)
      cases c : A.testBit j with
      | true =>
        rw [c, if_neg (by decide)] at e1
        rw [hasMT (by omega) (by omega) c, if_neg one_ne]
        unfold f_X1_shares_140
        rw [hasMT (by omega) (by omega) c, if_neg one_ne]
        unfold f_X1_shares_157 bnd
        rw [Int32.sub_zero, nI_1]
        rw [e1, Nat.add_zero] at h3
        exact h3
      | false =>
        rw [c, if_pos (by decide)] at e1
        rw [hasMF (by omega) (by omega) c, if_pos rfl, if_neg (show ¬ nI (miF A x - miF A j) ≤ 0 from nI_ge (a := 0) (by omega) (by omega))]
        unfold f_X1_shares_140
        rw [hasMF (by omega) (by omega) c, if_pos rfl]
        unfold f_X1_shares_157 bnd
        rw [nI_1, show (1 : Int32) = nI 1 from rfl, pk_sub (by omega), show miF A x - miF A j - 1 = miF A x - miF A (j + 1) by omega]
        exact h3
theorem num_loop (hn : T.1 0 = nI n) (hn6 : n ≤ 6) (ha : a < 8) (he : e < n) (x3 : Int32) (K65 : St → Int32 → Int32 → Int32 → Option (Int32 × St)) (i : Int32) : ∀ m k A l (x4 : Int32), m < k → A < 2 ^ n → miF A n = m → m ≤ n → l < 2 ^ 31 → A.testBit e = false → f_X1_shares_84 (nI a) (nI e) K65 k T x3 x4 i (nI l) (nI A) 0 (nI (n - m)) = K65 T x3 (x4 + cbF (gI T a e) n e m A l) (i + 1) := fun m => by
  have h6 := pow6 hn6
  induction m with
  | zero =>
    intro k A l x4 _ _ hmi _ _ hAe
    exfalso
    have := mi_or he hAe
    omega
  | succ m ih =>
    intro k A l x4 hk hA hmi hmn hl hAe
    obtain ⟨k, rfl⟩ : ∃ k', k = k' + 1 := ⟨k - 1, by omega⟩
    rw [f_X1_shares_84, hn, if_neg (nI_ge (a := n - (m + 1)) (b := n) (by omega) (by omega)), if_pos rfl, pk_sub (by omega), show n - (n - (m + 1)) = m + 1 by omega, if_neg (show ¬ nI (m + 1) = 0 from nI_ne (b := 0) (by omega) (by omega) (by omega))]
    unfold bnd
    rw [pk_rem hl (by omega) (by omega), pk_div hl (by omega) (by omega)]
    show (if nI (m + 1) = 0 then _ else _) = _
    rw [if_neg (show ¬ nI (m + 1) = 0 from nI_ne (b := 0) (by omega) (by omega) (by omega))]
    have hw : l % (m + 1) < miF A n := by rw [hmi]; exact Nat.mod_lt _ (by omega)
    obtain ⟨x, hx, h0, hwx⟩ := mi_ex n (l % (m + 1)) hw
    have hf := find_loop (T := T) (a := a) hn6 hA hx h0 (nI e) K65 (f_X1_shares_84 (nI a) (nI e) K65 k) x3 x4 i (nI (l / (m + 1))) (nI (n - (m + 1))) 800 0 (by omega) (by omega)
    rw [show miF A x - miF A 0 = l % (m + 1) from hwx] at hf
    refine hf.trans ?_
    rw [cb_at hx h0 hwx]
    by_cases d : x = e
    · have hor := or_lt hA he
      rw [if_pos (by rw [d]), if_pos d]
      unfold f_X1_shares_177
      rw [if_neg one_ne, d, bit_nI (show e < 10 by omega), nI_or, mul64', mul64', rd_nI (by omega) (by omega), Option.bind_some, rd_nI (by omega) (by omega), Option.bind_some]
      unfold f_X1_shares_220 bnd
      rw [nI_1]
      have hend : ∀ (y : Int32) (B : Int32) (q : Nat), q ≤ n → f_X1_shares_84 (nI a) (nI e) K65 k T x3 y i (nI (l / (m + 1))) B 1 (nI q) = K65 T x3 y (i + 1) := fun y B q hq => by
        obtain ⟨k, rfl⟩ : ∃ k', k = k' + 1 := ⟨k - 1, by omega⟩
        rw [f_X1_shares_84, hn]
        by_cases z : n ≤ q
        · rw [if_pos (nI_le z (by omega))]; rfl
        · rw [if_neg (nI_ge (by omega) (by omega)), if_neg one_ne]; rfl
      exact hend _ _ _ (by omega)
    · rw [if_neg (nI_ne d (by omega) (by omega)), if_neg d]
      unfold f_X1_shares_177
      rw [if_pos rfl]
      unfold f_X1_shares_220 bnd
      rw [Int32.add_zero, bit_nI (show x < 10 by omega), nI_or, nI_1, show n - (m + 1) + 1 = n - m by omega]
      have h1 := mi_or hx h0
      exact ih k (A ||| 2 ^ x) (l / (m + 1)) x4 (by omega) (or_lt hA hx) (by omega) (by omega) (Nat.lt_of_le_of_lt (Nat.div_le_self _ _) hl) (by rw [tb_or, hAe, decide_eq_false d]; rfl)
theorem mi_zero (n : Nat) : miF 0 n = n := by
  unfold miF
  induction n with
  | zero => rfl
  | succ n ih => rw [cn, ih, Nat.zero_testBit]; rfl
theorem all_loop (hn : T.1 0 = nI n) (hn6 : n ≤ 6) (ha : a < 8) (he : e < n) {N : Nat} (hN : N < 800) : ∀ k i, i ≤ N → N < i + k → f_X1_shares_65 (nI a) (nI e) k T (nI N) (s3 (cbF (gI T a e) n e n 0) i) (nI i) = some (s3 (cbF (gI T a e) n e n 0) N, T) := fun k => by
  have h7 := pow1 n
  induction k with
  | zero => intro i h1 h2; omega
  | succ k ih =>
    intro i h1 h2
    rw [f_X1_shares_65]
    by_cases hi : i = N
    · rw [if_pos (by rw [hi]; exact nI_le (Nat.le_refl N) (by omega)), hi]
    · rw [if_neg (nI_ge (a := i) (b := N) (by omega) (by omega))]
      have h3 := num_loop hn hn6 ha he (nI N) (f_X1_shares_65 (nI a) (nI e) k) (nI i) n 800 0 i (s3 (cbF (gI T a e) n e n 0) i) (by omega) (by omega) (mi_zero n) (Nat.le_refl n) (by omega) (Nat.zero_testBit e)
      rw [Nat.sub_self] at h3
      refine h3.trans ?_
      rw [nI_1]
      exact ih (i + 1) (by omega) (by omega)
theorem fac_loop (hn : T.1 0 = nI n) (hn6 : n ≤ 6) (p1 p2 : Int32) : ∀ k j, 1 ≤ j → j ≤ n → n < j + k → f_X1_shares_39 p1 p2 k T (nI (fc j)) (nI (j + 1)) = f_X1_shares_65 p1 p2 800 T (nI (fc n)) 0 0 := fun k => by
  induction k with
  | zero => intro j h0 h1 h2; omega
  | succ k ih =>
    intro j h0 h1 h2
    rw [f_X1_shares_39, hn]
    by_cases hj : j = n
    · rw [hj, if_pos (nI_lt (by omega) (by omega))]
    · rw [if_neg (fun h => by have := (nI_ltI (by omega) (by omega)).mp h; omega)]
      unfold bnd
      rw [pk_mul, nI_1, Nat.mul_comm]
      exact ih (j + 1) (by omega) (by omega) (by omega)
theorem fc_lt : ∀ n, n ≤ 6 → fc n < 800 := fun n h => by
  rcases (show n = 0 ∨ n = 1 ∨ n = 2 ∨ n = 3 ∨ n = 4 ∨ n = 5 ∨ n = 6 by omega) with rfl | rfl | rfl | rfl | rfl | rfl | rfl <;> decide
theorem sharesM (hn : T.1 0 = nI n) (hn1 : 1 ≤ n) (hn6 : n ≤ 6) (ha : a < 8) (he : e < n) : f_X1_shares_22 (nI a) (nI e) T 0 = some (GO (gI T a e) n e n 0, sS T 3 0) := by
  unfold f_X1_shares_22
  rw [t0]
  refine (fac_loop (T := sS T 3 0) hn hn6 (nI a) (nI e) 800 1 (by omega) hn1 (by omega)).trans ?_
  have hfc := fc_lt n hn6
  refine (all_loop (T := sS T 3 0) hn hn6 ha he hfc 800 0 (by omega) (by omega)).trans ?_
  rw [GO_cb n 0 (mi_zero n)]
  rfl
end SHM
theorem gI_rel {S T : St} (h : T.2 5 = S.2 5) (a e : Nat) : gI T a e = gI S a e := by unfold gI; rw [h]
theorem op_share {S T : St} {n F t : Nat} (hI : Iv S n F t) (hR : Rel S T) (p q : Int32) : Ag [1] S (f_X0_share S p q) (f_X1_share T p q) := by
  have hIT := hR.iv hI
  obtain ⟨⟨i1, i2, i3, i4, i5, i6, i7⟩, hC, hE, hK, hRm, hW, hV, hO⟩ := id hI
  obtain ⟨⟨j1, j2, j3, j4, j5, j6, j7⟩, gC, gE, gK, gRm, gW, gV, gO⟩ := id hIT
  have h7 := pow1 n
  unfold f_X0_share f_X1_share f_X1_shares f_X0_share_21
  have hth1 : Ag [1] S (some (1, 0, S)) ((f_X1_shares_22 p q T 1).bind fun q1 => some (q1.1, q1.2)) := by
    unfold f_X1_shares_22
    rw [t1]
    exact Ag.no 0 1 rfl rfl rfl rfl (hR.thr 1)
  rcases fn_test i2 (hR.2.1.trans i2) i6 p with ⟨a, ha, rfl, e1, e2⟩ | ⟨e1, e2⟩
  · rw [ne1 e1, ne1 e2]
    rcases el_test i1 (hR.1.trans i1) i5 q with ⟨e, he, rfl, e1, e2⟩ | ⟨e1, e2⟩
    · rw [ne1 e1, ne1 e2, nx1, z0, sharesM j1 j4 j5 (by omega) he, gI_rel (hR.2.2.2 5 (by decide))]
      have l1 := shX (a := a) (e := e) i1 i5 i6 ha he 70 0 (by omega) (by have := pow6 i5; omega)
      rw [← GO_eq i5 he n 0 (by omega) (Nat.zero_testBit e) (by rw [pc_zero]; omega)] at l1
      exact Ag.ok l1 rfl rfl (hR.thr 0) hI
    · rw [eq0 e1, eq0 e2, nx0, z1]
      exact hth1
  · rw [eq0 e1, eq0 e2, nx0, z1]
    exact hth1
theorem op_shareAnew {S T : St} {n F t : Nat} (hI : Iv S n F t) (hR : Rel S T) (p q : Int32) : Ag [1] S (f_X0_shareAnew S p q) (f_X1_shareAnew T p q) := by
  have hIT := hR.iv hI
  obtain ⟨⟨i1, i2, i3, i4, i5, i6, i7⟩, hC, hE, hK, hRm, hW, hV, hO⟩ := id hI
  obtain ⟨⟨j1, j2, j3, j4, j5, j6, j7⟩, gC, gE, gK, gRm, gW, gV, gO⟩ := id hIT
  have h7 := pow1 n
  unfold f_X0_shareAnew f_X1_shareAnew f_X1_shares f_X0_shareAnew_21
  have hth1 : Ag [1] S (some (1, 0, S)) ((f_X1_shares_22 p q T 1).bind fun q1 => some (q1.1, q1.2)) := by
    unfold f_X1_shares_22
    rw [t1]
    exact Ag.no 0 1 rfl rfl rfl rfl (hR.thr 1)
  rcases fn_test i2 (hR.2.1.trans i2) i6 p with ⟨a, ha, rfl, e1, e2⟩ | ⟨e1, e2⟩
  · rw [ne1 e1, ne1 e2]
    rcases el_test i1 (hR.1.trans i1) i5 q with ⟨e, he, rfl, e1, e2⟩ | ⟨e1, e2⟩
    · rw [ne1 e1, ne1 e2, nx1, z0, sharesM j1 j4 j5 (by omega) he, gI_rel (hR.2.2.2 5 (by decide))]
      have l1 := goX (a := a) (e := e) i1 i5 i6 ha he 7 n 0 (by omega) (by omega) (Nat.zero_testBit e) (mi_zero n) (Nat.le_refl n)
      rw [Nat.sub_self] at l1
      rw [show f_X0_gainsOverOrders S 7 (nI a) (nI e) 0 0 0 = _ from l1, Option.bind_some]
      exact Ag.ok rfl rfl rfl (hR.thr 0) hI
    · rw [eq0 e1, eq0 e2, nx0, z1]
      exact hth1
  · rw [eq0 e1, eq0 e2, nx0, z1]
    exact hth1

/-! order, corner; greed. -/
def plF (f : Nat → Int32) (p : Int32) : Nat → Int32
  | 0 => -1
  | i + 1 => if f i = p then nI i else plF f p i
theorem plF_none (f : Nat → Int32) (p : Int32) : ∀ i, i ≤ 6 → (plF f p i = -1 ↔ ∀ k, k < i → f k ≠ p) := fun i => by
  induction i with
  | zero => intro _; exact ⟨fun _ k hk => absurd hk (by omega), fun _ => rfl⟩
  | succ i ih =>
    intro h
    rw [plF]
    by_cases c : f i = p
    · rw [if_pos c]
      refine ⟨fun h2 => ?_, fun h2 => absurd c (h2 i (by omega))⟩
      exfalso
      rcases (show i = 0 ∨ i = 1 ∨ i = 2 ∨ i = 3 ∨ i = 4 ∨ i = 5 by omega) with rfl | rfl | rfl | rfl | rfl | rfl <;> exact absurd h2 (by decide)
    · rw [if_neg c, ih (by omega)]
      refine ⟨fun h2 k hk => ?_, fun h2 k hk => h2 k (by omega)⟩
      by_cases e : k = i
      · rw [e]; exact c
      · exact h2 k (by omega)
theorem plF_at (f : Nat → Int32) (p : Int32) (k0 : Nat) (h0 : f k0 = p) : ∀ i, k0 < i → (∀ k, k < i → k ≠ k0 → f k ≠ p) → plF f p i = nI k0 := fun i => by
  induction i with
  | zero => intro h; omega
  | succ i ih =>
    intro h1 h2
    rw [plF]
    by_cases c : i = k0
    · rw [c, if_pos h0]
    · rw [if_neg (h2 i (by omega) c)]
      exact ih (by omega) (fun k hk => h2 k (by omega))
theorem place_loop {T : St} {t : Nat} (ht : T.1 2 = nI t) (ht6 : t ≤ 6) (p : Int32) : ∀ k i, i ≤ t → t < i + k → f_X1_placeOf_4 T p k (plF (T.2 6) p i) (nI i) = some (plF (T.2 6) p t) := fun k => by
  induction k with
  | zero => intro i h1 h2; omega
  | succ k ih =>
    intro i h1 h2
    rw [f_X1_placeOf_4, ht]
    by_cases hi : i = t
    · rw [if_pos (by rw [hi]; exact nI_le (Nat.le_refl t) (by omega)), hi]
    · rw [if_neg (nI_ge (a := i) (b := t) (by omega) (by omega)), rd_nI (by omega) (by omega), Option.bind_some]
      have h3 := ih (i + 1) (by omega) (by omega)
      rw [plF] at h3
      unfold bnd
      rw [nI_1]
      by_cases c : T.2 6 i = p
      · rw [if_pos c] at h3
        rw [if_pos c]
        exact h3
      · rw [if_neg c] at h3
        rw [if_neg c]
        exact h3
theorem place_nI {T : St} {t : Nat} (ht : T.1 2 = nI t) (ht6 : t ≤ 6) (p : Int32) : f_X1_placeOf T p = some (plF (T.2 6) p t) := place_loop ht ht6 p 70 0 (by omega) (by omega)
theorem told_loop {S : St} {t : Nat} (ht : S.1 2 = nI t) (ht6 : t ≤ 6) (p : Int32) : ∀ k i, i ≤ t → t < i + k → (∀ j, j < i → S.2 6 j ≠ p) → f_X0_isTold_2 S p k (nI i) = some (if plF (S.2 6) p t = -1 then 0 else 1) := fun k => by
  induction k with
  | zero => intro i h1 h2; omega
  | succ k ih =>
    intro i h1 h2 h3
    rw [f_X0_isTold_2, ht]
    by_cases hi : i = t
    · rw [if_pos (by rw [hi]; exact nI_le (Nat.le_refl t) (by omega))]
      rw [if_pos ((plF_none _ p t ht6).mpr (by rw [← hi]; exact h3))]
    · rw [if_neg (nI_ge (a := i) (b := t) (by omega) (by omega)), at_nI (by omega) (by omega)]
      by_cases c : S.2 6 i = p
      · rw [if_pos c, if_neg (fun h => (plF_none _ p t ht6).mp h i (by omega) c)]
      · rw [if_neg c]
        unfold bnd
        rw [nI_1]
        refine ih (i + 1) (by omega) (by omega) (fun j hj => ?_)
        by_cases e : j = i
        · rw [e]; exact c
        · exact h3 j (by omega)
theorem told_nI {S : St} {t : Nat} (ht : S.1 2 = nI t) (ht6 : t ≤ 6) (p : Int32) : f_X0_isTold S p = some (if plF (S.2 6) p t = -1 then 0 else 1) := told_loop ht ht6 p 70 0 (by omega) (by omega) (fun j hj => absurd hj (by omega))
/-- the order with one more -/
theorem iv_order {S X : St} {n F t u e : Nat} (hI : Iv S n F t) (hu : u ≤ t) (hun : u < n) (he : e < n) (hd : ∀ k, k < u → S.2 6 k ≠ nI e) (x0 : X.1 0 = S.1 0) (x1 : X.1 1 = S.1 1) (x2 : X.1 2 = nI (u + 1)) (x6 : X.2 6 = upd (S.2 6) u (nI e)) (xr : ∀ k, k < 6 → X.2 k = S.2 k) : Iv X n F (u + 1) := by
  obtain ⟨⟨i1, i2, i3, i4, i5, i6, i7⟩, hC, hE, hK, hR, hW, hV, hO⟩ := hI
  refine ⟨⟨x0.trans i1, x1.trans i2, x2, i4, i5, i6, by omega⟩, ?_, ?_, ?_, ?_, ?_, ?_, ?_, ?_⟩
  · unfold IvC; rw [xr 0 (by decide)]; exact hC
  · unfold IvE; rw [xr 1 (by decide)]; exact hE
  · unfold IvK; rw [xr 2 (by decide)]; exact hK
  · unfold IvR; rw [xr 3 (by decide)]; exact hR
  · unfold IvW; rw [xr 4 (by decide)]; exact hW
  · unfold IvV; rw [xr 5 (by decide)]; exact hV
  · intro i hi
    rw [x6]
    unfold upd
    by_cases c : i = u
    · rw [if_pos c]; exact ⟨e, he, rfl⟩
    · rw [if_neg c]; exact hO.1 i (by omega)
  · intro i j hij hj
    rw [x6]
    unfold upd
    rw [if_neg (show ¬ i = u by omega)]
    by_cases c : j = u
    · rw [if_pos c]; exact hd i (by omega)
    · rw [if_neg c]; exact hO.2 i j hij (by omega)
theorem order_end {S T : St} {n F t u e : Nat} (hI : Iv S n F t) (hR : Rel S T) (hu : u ≤ t) (hun : u < n) (he : e < n) (hd : ∀ k, k < u → S.2 6 k ≠ nI e) {S1 : St} (s1 : S1.1 0 = S.1 0) (s2 : S1.1 1 = S.1 1) (s3 : S1.1 2 = nI u) (s4 : S1.2 = S.2) : Ag [1, 3] S (f_X0_order_54 (nI e) S1) (f_X1_order_70 (nI e) (sS T 3 0) (nI u)) := by
  have hn6 := hI.1.2.2.2.2.1
  unfold f_X0_order_54 f_X1_order_70
  rw [s3, put_nI (by omega) (by omega), show (sS (sS T 3 0) 2 (nI u)).1 2 = nI u from rfl, wr_nI (by omega) (by omega), Option.bind_some]
  have hx2 : (sA S1 6 (upd (S1.2 6) u (nI e))).1 2 + 1 = nI (u + 1) := by
    show S1.1 2 + 1 = _
    rw [s3, nI_1]
  have hy2 : (sA (sS (sS T 3 0) 2 (nI u)) 6 (upd ((sS (sS T 3 0) 2 (nI u)).2 6) u (nI e))).1 2 + 1 = nI (u + 1) := by
    show nI u + 1 = _
    rw [nI_1]
  rw [hx2, hy2]
  refine Ag.ok (n := n) (F := F) (t := u + 1) rfl rfl rfl ?_ ?_
  · refine ⟨hR.1.trans s1.symm, hR.2.1.trans s2.symm, rfl, fun k hk => ?_⟩
    show (if k = 6 then upd (T.2 6) u (nI e) else T.2 k) = (if k = 6 then upd (S1.2 6) u (nI e) else S1.2 k)
    rw [s4, hR.2.2.2 k hk, hR.2.2.2 6 (by decide)]
  · refine iv_order hI hu hun he hd s1 s2 rfl ?_ (fun k hk => ?_)
    · show upd (S1.2 6) u (nI e) = _
      rw [s4]
    · show (if k = 6 then upd (S1.2 6) u (nI e) else S1.2 k) = _
      rw [if_neg (by omega), s4]
theorem op_order {S T : St} {n F t : Nat} (hI : Iv S n F t) (hR : Rel S T) (p : Int32) : Ag [1, 3] S (f_X0_order S p) (f_X1_order T p) := by
  have hIT := hR.iv hI
  obtain ⟨⟨i1, i2, i3, i4, i5, i6, i7⟩, hC, hE, hK, hRm, hW, hV, hO⟩ := id hI
  obtain ⟨⟨j1, j2, j3, j4, j5, j6, j7⟩, gC, gE, gK, gRm, gW, gV, gO⟩ := id hIT
  unfold f_X0_order f_X1_order
  have hth1 : Ag [1, 3] S (some (1, 0, S)) (some (0, sS T 3 1)) := Ag.no 0 1 rfl rfl rfl rfl (hR.thr 1)
  have hth2 : Ag [1, 3] S (some (3, 0, S)) (some (0, sS T 3 2)) := Ag.no 1 3 rfl rfl rfl rfl (hR.thr 2)
  rcases el_test i1 (hR.1.trans i1) i5 p with ⟨e, he, rfl, e1, e2⟩ | ⟨e1, e2⟩
  · rw [e1, nx1, z0, ne1 e2, i1, i3, j1, j3]
    by_cases htn : t = n
    · rw [if_neg (show ¬ nI t < nI n by rw [htn]; exact Int32.lt_irrefl), if_pos (show nI n ≤ nI t by rw [htn]; exact Int32.le_refl _)]
      unfold f_X0_order_24 f_X0_order_42 f_X1_order_38
      rw [if_neg one_ne, nx1, z0, if_neg one_ne, t0, if_pos (show (sS T 3 0).1 2 = (sS T 3 0).1 0 by show T.1 2 = T.1 0; rw [j1, j3, htn])]
      exact order_end (u := 0) hI hR (by omega) (by omega) he (fun k hk => absurd hk (by omega)) rfl rfl rfl rfl
    · have htn2 : t < n := by omega
      rw [if_pos (nI_lt htn2 (by omega)), if_neg (nI_ge htn2 (by omega)), place_nI j3 (by omega), Option.bind_some, hR.2.2.2 6 (by decide)]
      unfold f_X0_order_24 f_X0_order_42 f_X1_order_38
      rw [if_pos rfl, told_nI i3 (by omega), Option.bind_some]
      by_cases c : plF (S.2 6) (nI e) t = -1
      · rw [if_pos c, if_pos c, t0, if_neg (show ¬ (sS T 3 0).1 2 = (sS T 3 0).1 0 by show ¬ T.1 2 = T.1 0; rw [j1, j3]; exact nI_ne (by omega) (by omega) (by omega)), if_pos rfl, nx1, z0, if_pos rfl, show (sS T 3 0).1 2 = nI t from j3]
        exact order_end hI hR (Nat.le_refl t) htn2 he ((plF_none _ _ t (by omega)).mp c) rfl rfl i3 rfl
      · rw [if_neg c, if_neg c, t2, if_neg one_ne, nx0, z3]
        exact hth2
  · unfold f_X1_order_38
    rw [e1, nx0, z1, eq0 e2, t1]
    exact hth1
-- ---- corner
def ahF (S : St) : Nat → Nat
  | 0 => 0
  | i + 1 => ahF S i ||| 2 ^ nt (S.2 6 i)
theorem ahF_lt {S : St} {n t : Nat} (hO : IvO S n t) (hn6 : n ≤ 6) : ∀ i, i ≤ t → ahF S i < 2 ^ n := fun i => by
  induction i with
  | zero => intro _; exact pow1 n
  | succ i ih =>
    intro h
    obtain ⟨e, he, h2⟩ := hO.1 i (by omega)
    rw [ahF, (nt_of h2 (by omega)).2]
    exact or_lt (ih (by omega)) he
theorem ahead_loop {S : St} {n t k0 : Nat} {p : Int32} (ht : S.1 2 = nI t) (ht6 : t ≤ 6) (hn6 : n ≤ 6) (hO : IvO S n t) (h0 : k0 < t) (hp : S.2 6 k0 = p) (hd : ∀ k, k < k0 → S.2 6 k ≠ p) : ∀ k i, i ≤ k0 → k0 < i + k → f_X0_aheadOf_4 S p k (nI (ahF S i)) (nI i) = some (nI (ahF S k0)) := fun k => by
  induction k with
  | zero => intro i h1 h2; omega
  | succ k ih =>
    intro i h1 h2
    rw [f_X0_aheadOf_4, ht, if_neg (nI_ge (a := i) (b := t) (by omega) (by omega)), at_nI (by omega) (by omega)]
    unfold bnd
    show (if S.2 6 i = p then _ else _) = _
    by_cases hi : i = k0
    · rw [hi, if_pos hp]
    · rw [if_neg (hd i (by omega))]
      obtain ⟨e, he, h3⟩ := hO.1 i (by omega)
      have h4 := ih (i + 1) (by omega) (by omega)
      rw [ahF, (nt_of h3 (by omega)).2] at h4
      rw [h3, with_nI (by omega), nI_1]
      exact h4
theorem cornerM {T : St} {n t k0 a e : Nat} (ht : T.1 2 = nI t) (ht6 : t ≤ 6) (hn6 : n ≤ 6) (hO : IvO T n t) (h0 : k0 < t) (hp : plF (T.2 6) (nI e) t = nI k0) (ha : a < 8) (he : e < n) : ∀ k i, i ≤ k0 → k0 < i + k → f_X1_corner_52 (nI a) (nI e) k T (nI (ahF T i)) (nI i) = some (T.2 5 (64 * a + (ahF T k0 ||| 2 ^ e)) - T.2 5 (64 * a + ahF T k0), T) := fun k => by
  induction k with
  | zero => intro i h1 h2; omega
  | succ k ih =>
    intro i h1 h2
    rw [f_X1_corner_52, place_nI ht ht6, hp, Option.bind_some]
    by_cases hi : i = k0
    · have h3 := ahF_lt hO hn6 k0 (by omega)
      have h4 := or_lt h3 he
      have h6 := pow6 hn6
      rw [hi, if_pos (nI_le (Nat.le_refl k0) (by omega)), bit_nI (show e < 10 by omega), nI_or, mul64', mul64', rd_nI (by omega) (by omega), Option.bind_some, rd_nI (by omega) (by omega), Option.bind_some]
    · rw [if_neg (nI_ge (a := i) (b := k0) (by omega) (by omega)), rd_nI (by omega) (by omega), Option.bind_some]
      obtain ⟨d, hd, h3⟩ := hO.1 i (by omega)
      have h4 := ih (i + 1) (by omega) (by omega)
      rw [ahF, (nt_of h3 (by omega)).2] at h4
      unfold bnd
      rw [h3, bit_nI (show d < 10 by omega), nI_or, nI_1]
      exact h4
theorem ahF_rel {S T : St} (h : T.2 6 = S.2 6) : ∀ i, ahF T i = ahF S i := fun i => by
  induction i with
  | zero => rfl
  | succ i ih => rw [ahF, ahF, ih, h]
theorem op_corner {S T : St} {n F t : Nat} (hI : Iv S n F t) (hR : Rel S T) (p q : Int32) : Ag [1, 3] S (f_X0_corner S p q) (f_X1_corner T p q) := by
  have hIT := (hR.thr 0).iv hI
  obtain ⟨⟨i1, i2, i3, i4, i5, i6, i7⟩, hC, hE, hK, hRm, hW, hV, hO⟩ := id hI
  obtain ⟨⟨j1, j2, j3, j4, j5, j6, j7⟩, gC, gE, gK, gRm, gW, gV, gO⟩ := id hIT
  unfold f_X0_corner f_X1_corner f_X0_corner_21 f_X1_corner_35
  have hth1 : Ag [1, 3] S (some (1, 0, S)) (some (0, sS T 3 1)) := Ag.no 0 1 rfl rfl rfl rfl (hR.thr 1)
  have hth2 : Ag [1, 3] S (some (3, 0, S)) (some (0, sS T 3 2)) := Ag.no 1 3 rfl rfl rfl rfl (hR.thr 2)
  rcases fn_test i2 (hR.2.1.trans i2) i6 p with ⟨a, ha, rfl, e1, e2⟩ | ⟨e1, e2⟩
  · rw [ne1 e1, ne1 e2]
    rcases el_test i1 (hR.1.trans i1) i5 q with ⟨e, he, rfl, e1, e2⟩ | ⟨e1, e2⟩
    · rw [ne1 e1, ne1 e2, nx1, z0, told_nI i3 (by omega), Option.bind_some, place_nI (T := T) j3 (by omega), Option.bind_some, hR.2.2.2 6 (by decide)]
      by_cases c : plF (S.2 6) (nI e) t = -1
      · rw [if_pos c, if_pos c, nx0, z3, t2]
        exact hth2
      · rw [if_neg c, if_neg c, nx1, z0, t0]
        have hex : ∃ k0, k0 < t ∧ S.2 6 k0 = nI e := Classical.byContradiction (fun hno => c ((plF_none _ _ t (by omega)).mpr (fun k hk h => hno ⟨k, hk, h⟩)))
        obtain ⟨k0, h0, hk0⟩ := hex
        have hd : ∀ k, k < t → k ≠ k0 → S.2 6 k ≠ nI e := fun k hk hne h => by
          rcases Nat.lt_or_gt_of_ne hne with hl | hg
          · exact hO.2 k k0 hl h0 (h.trans hk0.symm)
          · exact hO.2 k0 k hg hk (hk0.trans h.symm)
        have hp := plF_at (S.2 6) (nI e) k0 hk0 t h0 hd
        have l1 := ahead_loop (p := nI e) i3 (by omega) i5 hO h0 hk0 (fun k hk => hd k (by omega) (by omega)) 70 0 (by omega) (by omega)
        have l2 := cornerM (T := sS T 3 0) (n := n) (t := t) (k0 := k0) (a := a) (e := e) j3 (by omega) i5 gO h0 (by rw [show (sS T 3 0).2 6 = S.2 6 from hR.2.2.2 6 (by decide)]; exact hp) (by omega) he 70 0 (by omega) (by omega)
        rw [show f_X0_aheadOf S (nI e) = _ from l1, Option.bind_some, gain_nI i6 i5 ha (ahF_lt hO i5 k0 (by omega)) he]
        rw [ahF_rel (S := S) (T := sS T 3 0) (hR.2.2.2 6 (by decide)) k0, show (sS T 3 0).2 5 = S.2 5 from hR.2.2.2 5 (by decide)] at l2
        exact Ag.ok rfl l2 rfl (hR.thr 0) hI
    · rw [eq0 e1, eq0 e2, nx0, z1, t1]
      exact hth1
  · rw [eq0 e1, eq0 e2, nx0, z1, t1]
    exact hth1

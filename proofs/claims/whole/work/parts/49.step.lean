/-! The law's steps: whatever is asked, both answer alike; the law never ends otherwise than with 1. -/
theorem cmp_self (x : Int64) : lg_cmp x x = 0 := by
  unfold lg_cmp
  rw [if_neg Int64.lt_irrefl, if_pos rfl]
def OkI (w : Option (Int32 × St × (Nat → Int64))) (y : Option (Int32 × St)) : Prop := ∃ (c : Int32) (S1 : St) (o1 : Nat → Int64) (b : Int32) (T1 : St) (n F t : Nat), w = some (c, S1, o1) ∧ y = some (b, T1) ∧ T1.1 3 = c ∧ Rel S1 T1 ∧ Iv S1 n F t ∧ (c = 0 → o1 0 = b.toInt64)
def OkB (w : Option (Int32 × St × (Nat → Int64))) (y : Option (Int32 × St)) : Prop := ∃ (c : Int32) (S1 : St) (o1 : Nat → Int64) (b : Int32) (T1 : St) (n F t : Nat), w = some (c, S1, o1) ∧ y = some (b, T1) ∧ T1.1 3 = c ∧ Rel S1 T1 ∧ Iv S1 n F t ∧ (c = 0 → o1 0 = if b = 0 then 0 else 1)
section OKS
variable {S : St} {n F t : Nat} {x : Option (Nat × Int32 × St)} {y : Option (Int32 × St)} {o : Nat → Int64}
theorem ok1 (hI : Iv S n F t) {h1 : Nat} (n1 : h1 ≠ 0) (h : Ag [h1] S x y) : OkI (x.bind fun q => (if q.1 = 0 then some (0, q.2.2, vp_updL o (0 : Int32).toNatClampNeg q.2.1.toInt64) else (if q.1 = h1 then some (1, S, o) else none))) y := by
  rcases h with ⟨v, S', T', n', F', t', hx, hy, h3, hR, hI'⟩ | ⟨i, e, w, b, S', T', hi, hx, hy, h3, hR⟩
  · rw [hx]
    exact ⟨0, S', _, v, T', n', F', t', rfl, hy, h3, hR, hI', fun _ => rfl⟩
  · rw [hx, Option.bind_some]
    match i, hi, h3 with
    | 0, hi, h3 =>
      have he : h1 = e := Option.some.inj hi
      subst he
      exact ⟨1, S, o, b, T', n, F, t, by rw [if_neg n1, if_pos rfl], hy, h3, hR, hI, fun z => absurd z (by decide)⟩
    | k + 1, hi, _ => exact absurd hi (by simp)
theorem okB1 (hI : Iv S n F t) {h1 : Nat} (n1 : h1 ≠ 0) (h : Ag [h1] S x y) : OkB (x.bind fun q => (if q.1 = 0 then (if q.2.1 = 0 then some (0, q.2.2, vp_updL o (0 : Int32).toNatClampNeg 0) else some (0, q.2.2, vp_updL o (0 : Int32).toNatClampNeg 1)) else (if q.1 = h1 then some (1, S, o) else none))) y := by
  rcases h with ⟨v, S', T', n', F', t', hx, hy, h3, hR, hI'⟩ | ⟨i, e, w, b, S', T', hi, hx, hy, h3, hR⟩
  · rw [hx, Option.bind_some, if_pos rfl]
    by_cases hv : v = 0
    · rw [if_pos hv]
      exact ⟨0, S', _, v, T', n', F', t', rfl, hy, h3, hR, hI', fun _ => by rw [if_pos hv]; rfl⟩
    · rw [if_neg hv]
      exact ⟨0, S', _, v, T', n', F', t', rfl, hy, h3, hR, hI', fun _ => by rw [if_neg hv]; rfl⟩
  · rw [hx, Option.bind_some]
    match i, hi, h3 with
    | 0, hi, h3 =>
      have he : h1 = e := Option.some.inj hi
      subst he
      exact ⟨1, S, o, b, T', n, F, t, by rw [if_neg n1, if_pos rfl], hy, h3, hR, hI, fun z => absurd z (by decide)⟩
    | k + 1, hi, _ => exact absurd hi (by simp)
theorem ok2 (hI : Iv S n F t) {h1 h2 : Nat} (n1 : h1 ≠ 0) (n2 : h2 ≠ 0) (n3 : h2 ≠ h1) (h : Ag [h1, h2] S x y) : OkI (x.bind fun q => (if q.1 = 0 then some (0, q.2.2, vp_updL o (0 : Int32).toNatClampNeg q.2.1.toInt64) else (if q.1 = h1 then some (1, S, o) else (if q.1 = h2 then some (2, S, o) else none)))) y := by
  rcases h with ⟨v, S', T', n', F', t', hx, hy, h3, hR, hI'⟩ | ⟨i, e, w, b, S', T', hi, hx, hy, h3, hR⟩
  · rw [hx]
    exact ⟨0, S', _, v, T', n', F', t', rfl, hy, h3, hR, hI', fun _ => rfl⟩
  · rw [hx, Option.bind_some]
    match i, hi, h3 with
    | 0, hi, h3 =>
      have he : h1 = e := Option.some.inj hi
      subst he
      exact ⟨1, S, o, b, T', n, F, t, by rw [if_neg n1, if_pos rfl], hy, h3, hR, hI, fun z => absurd z (by decide)⟩
    | 1, hi, h3 =>
      have he : h2 = e := Option.some.inj hi
      subst he
      exact ⟨2, S, o, b, T', n, F, t, by rw [if_neg n2, if_neg n3, if_pos rfl], hy, h3, hR, hI, fun z => absurd z (by decide)⟩
    | k + 2, hi, _ => exact absurd hi (by simp)
theorem ok3 (hI : Iv S n F t) {h1 h2 h3 : Nat} (n1 : h1 ≠ 0) (n2 : h2 ≠ 0) (n3 : h2 ≠ h1) (n4 : h3 ≠ 0) (n5 : h3 ≠ h1) (n6 : h3 ≠ h2) (h : Ag [h1, h2, h3] S x y) : OkI (x.bind fun q => (if q.1 = 0 then some (0, q.2.2, vp_updL o (0 : Int32).toNatClampNeg q.2.1.toInt64) else (if q.1 = h1 then some (1, S, o) else (if q.1 = h2 then some (2, S, o) else (if q.1 = h3 then some (3, S, o) else none))))) y := by
  rcases h with ⟨v, S', T', n', F', t', hx, hy, g3, hR, hI'⟩ | ⟨i, e, w, b, S', T', hi, hx, hy, g3, hR⟩
  · rw [hx]
    exact ⟨0, S', _, v, T', n', F', t', rfl, hy, g3, hR, hI', fun _ => rfl⟩
  · rw [hx, Option.bind_some]
    match i, hi, g3 with
    | 0, hi, g3 =>
      have he : h1 = e := Option.some.inj hi
      subst he
      exact ⟨1, S, o, b, T', n, F, t, by rw [if_neg n1, if_pos rfl], hy, g3, hR, hI, fun z => absurd z (by decide)⟩
    | 1, hi, g3 =>
      have he : h2 = e := Option.some.inj hi
      subst he
      exact ⟨2, S, o, b, T', n, F, t, by rw [if_neg n2, if_neg n3, if_pos rfl], hy, g3, hR, hI, fun z => absurd z (by decide)⟩
    | 2, hi, g3 =>
      have he : h3 = e := Option.some.inj hi
      subst he
      exact ⟨3, S, o, b, T', n, F, t, by rw [if_neg n4, if_neg n5, if_neg n6, if_pos rfl], hy, g3, hR, hI, fun z => absurd z (by decide)⟩
    | k + 3, hi, _ => exact absurd hi (by simp)
end OKS
/-- where a step goes on -/
def GoesOn (K : St → St → (Nat → Int64) → Int32 → Option Int32) (z : Int32) (a : Option Int32) : Prop := ∃ (S1 T1 : St) (o1 : Nat → Int64) (n F t : Nat), a = K S1 T1 o1 z ∧ Rel S1 T1 ∧ Iv S1 n F t
section TAILS
variable {K : St → St → (Nat → Int64) → Int32 → Option Int32} {z : Int32} {w : Option (Int32 × St × (Nat → Int64))} {y : Option (Int32 × St)}
theorem tailI (h : OkI w y) : GoesOn K z (w.bind fun q => y.bind fun q9 => (if (f_X1_thrown q9.2) = q.1 then (if q.1 = 0 then (if (lg_cmp (q.2.2 (0 : Int32).toNatClampNeg) (q9.1.toInt64)) = 0 then (K q.2.1 q9.2 q.2.2 z) else none) else (K q.2.1 q9.2 q.2.2 z)) else none)) := by
  obtain ⟨c, S1, o1, b, T1, n, F, t, hw, hy, h3, hR, hI, h0⟩ := h
  refine ⟨S1, T1, o1, n, F, t, ?_, hR, hI⟩
  rw [hw, Option.bind_some, hy, Option.bind_some]
  rw [if_pos (show f_X1_thrown T1 = c from h3)]
  by_cases hc : c = 0
  · rw [if_pos hc]
    show (if lg_cmp (o1 0) b.toInt64 = 0 then _ else _) = _
    rw [h0 hc, if_pos (cmp_self _)]
  · rw [if_neg hc]
theorem tailB (h : OkB w y) : GoesOn K z (w.bind fun q => y.bind fun q9 => (if (f_X1_thrown q9.2) = q.1 then (if q.1 = 0 then (if q9.1 = 0 then (if (lg_cmp (q.2.2 (0 : Int32).toNatClampNeg) 0) = 0 then (K q.2.1 q9.2 q.2.2 z) else none) else (if (lg_cmp (q.2.2 (0 : Int32).toNatClampNeg) 1) = 0 then (K q.2.1 q9.2 q.2.2 z) else none)) else (K q.2.1 q9.2 q.2.2 z)) else none)) := by
  obtain ⟨c, S1, o1, b, T1, n, F, t, hw, hy, h3, hR, hI, h0⟩ := h
  refine ⟨S1, T1, o1, n, F, t, ?_, hR, hI⟩
  rw [hw, Option.bind_some, hy, Option.bind_some]
  rw [if_pos (show f_X1_thrown T1 = c from h3)]
  by_cases hc : c = 0
  · rw [if_pos hc]
    have h0 := h0 hc
    by_cases hb : b = 0
    · rw [if_pos hb] at h0
      rw [if_pos hb]
      show (if lg_cmp (o1 0) 0 = 0 then _ else _) = _
      rw [h0, if_pos (cmp_self _)]
    · rw [if_neg hb] at h0
      rw [if_neg hb]
      show (if lg_cmp (o1 0) 1 = 0 then _ else _) = _
      rw [h0, if_pos (cmp_self _)]
  · rw [if_neg hc]
end TAILS
theorem law_step {L : Nat} {xs : Nat → Int32} (hL : L ≤ 2048) (K : St → St → (Nat → Int64) → Int32 → Option Int32) {S T : St} {o : Nat → Int64} {n F t j : Nat} (hI : Iv S n F t) (hR : Rel S T) (hj : j ≤ 600) : f_L_body L xs K S T o (nI (4 * j)) = some 1 ∨ (4 * j + 4 ≤ L ∧ GoesOn K (nI (4 * (j + 1))) (f_L_body L xs K S T o (nI (4 * j)))) := by
  unfold f_L_body
  have he : (Int32.ofNat L - 4).toInt = (L : Int) - 4 := by
    show (nI L - nI 4).toInt = _
    exact pk_sub_toInt (by omega) (by omega)
  by_cases hx : Int32.ofNat L - 4 < nI (4 * j)
  · rw [if_pos hx]; exact Or.inl rfl
  · rw [if_neg hx]
    rw [Int32.lt_iff_toInt_lt, he, nI_toInt (by omega)] at hx
    have hle : 4 * j + 4 ≤ L := by omega
    refine Or.inr ⟨hle, ?_⟩
    have a1 : nI (4 * j) + 1 = nI (4 * j + 1) := nI_1 _
    have a2 : nI (4 * j) + 2 = nI (4 * j + 2) := by rw [show (2 : Int32) = nI 2 from rfl, nI_add]
    have a3 : nI (4 * j) + 3 = nI (4 * j + 3) := by rw [show (3 : Int32) = nI 3 from rfl, nI_add]
    have a4 : nI (4 * j) + 4 = nI (4 * (j + 1)) := by rw [show (4 : Int32) = nI 4 from rfl, nI_add, Nat.mul_succ]
    have r0 : rdA L xs (nI (4 * j)) = some (xs (4 * j)) := rd_nI (by omega) (by omega)
    have r1 : rdA L xs (nI (4 * j + 1)) = some (xs (4 * j + 1)) := rd_nI (by omega) (by omega)
    have r2 : rdA L xs (nI (4 * j + 2)) = some (xs (4 * j + 2)) := rd_nI (by omega) (by omega)
    have r3 : rdA L xs (nI (4 * j + 3)) = some (xs (4 * j + 3)) := rd_nI (by omega) (by omega)
    simp only [bnd, a1, a2, a3, a4, r0, r1, r2, r3, Option.bind_some, f_L_law_231, f_L_law_264, f_L_law_298, f_L_law_997, f_L_law_1060, f_L_law_1146, f_L_law_1173, f_L_law_1230, f_L_law_1257]
    generalize xs (4 * j) &&& 31 = op
    generalize xs (4 * j + 1) = p1
    generalize xs (4 * j + 2) = p2
    generalize xs (4 * j + 3) = p3
    by_cases c0 : op = 0
    · rw [if_pos c0]; exact tailI (ok1 hI (by decide) (op_elements hI hR p1))
    rw [if_neg c0]
    by_cases c1 : op = 1
    · rw [if_pos c1]
      by_cases hb : p3 = 0
      · simp only [if_pos hb]; exact tailB (okB1 hI (by decide) (op_cover hI hR p1 p2 0))
      · simp only [if_neg hb]; exact tailB (okB1 hI (by decide) (op_cover hI hR p1 p2 1))
    rw [if_neg c1]
    by_cases c2 : op = 2
    · rw [if_pos c2]; exact tailI (ok2 hI (by decide) (by decide) (by decide) (op_edge hI hR p1 p2 p3))
    rw [if_neg c2]
    by_cases c3 : op = 3
    · rw [if_pos c3]; exact tailI (ok1 hI (by decide) (op_colour hI hR p1 p2 p3))
    rw [if_neg c3]
    by_cases c4 : op = 4
    · rw [if_pos c4]; exact tailI (ok2 hI (by decide) (by decide) (by decide) (op_room hI hR p1 p2 p3))
    rw [if_neg c4]
    by_cases c5 : op = 5
    · rw [if_pos c5]; exact tailI (ok2 hI (by decide) (by decide) (by decide) (op_weigh hI hR p1 p2))
    rw [if_neg c5]
    by_cases c6 : op = 6
    · rw [if_pos c6]; exact tailI (ok2 hI (by decide) (by decide) (by decide) (op_make hI hR p1))
    rw [if_neg c6]
    by_cases c7 : op = 7
    · rw [if_pos c7]; exact tailI (ok2 hI (by decide) (by decide) (by decide) (op_sum hI hR p1 p2))
    rw [if_neg c7]
    by_cases c8 : op = 8
    · rw [if_pos c8]; exact tailI (ok3 hI (by decide) (by decide) (by decide) (by decide) (by decide) (by decide) (op_contract hI hR p1 p2))
    rw [if_neg c8]
    by_cases c9 : op = 9
    · rw [if_pos c9]; exact tailI (ok3 hI (by decide) (by decide) (by decide) (by decide) (by decide) (by decide) (op_cap hI hR p1 p2))
    rw [if_neg c9]
    by_cases c10 : op = 10
    · rw [if_pos c10]; exact tailI (ok2 hI (by decide) (by decide) (by decide) (op_value hI hR p1 p2))
    rw [if_neg c10]
    by_cases c11 : op = 11
    · rw [if_pos c11]; exact tailB (okB1 hI (by decide) (op_isLawful hI hR p1))
    rw [if_neg c11]
    by_cases c12 : op = 12
    · rw [if_pos c12]; exact tailB (okB1 hI (by decide) (op_rises hI hR p1))
    rw [if_neg c12]
    by_cases c13 : op = 13
    · rw [if_pos c13]; exact tailI (ok2 hI (by decide) (by decide) (by decide) (op_least hI hR p1))
    rw [if_neg c13]
    by_cases c14 : op = 14
    · rw [if_pos c14]
      by_cases hb : p2 = 0
      · simp only [if_pos hb]; exact tailI (ok2 hI (by decide) (by decide) (by decide) (op_leastSet hI hR p1 0))
      · simp only [if_neg hb]; exact tailI (ok2 hI (by decide) (by decide) (by decide) (op_leastSet hI hR p1 1))
    rw [if_neg c14]
    by_cases c15 : op = 15
    · rw [if_pos c15]
      by_cases hb : p2 = 0
      · simp only [if_pos hb]; exact tailI (ok2 hI (by decide) (by decide) (by decide) (op_leastSetAnew hI hR p1 0))
      · simp only [if_neg hb]; exact tailI (ok2 hI (by decide) (by decide) (by decide) (op_leastSetAnew hI hR p1 1))
    rw [if_neg c15]
    by_cases c16 : op = 16
    · rw [if_pos c16]; exact tailI (ok2 hI (by decide) (by decide) (by decide) (op_order hI hR p1))
    rw [if_neg c16]
    by_cases c17 : op = 17
    · rw [if_pos c17]; exact tailI (ok2 hI (by decide) (by decide) (by decide) (op_corner hI hR p1 p2))
    rw [if_neg c17]
    by_cases c18 : op = 18
    · rw [if_pos c18]; exact tailI (ok2 hI (by decide) (by decide) (by decide) (op_greedy hI hR p1 p2))
    rw [if_neg c18]
    by_cases c19 : op = 19
    · rw [if_pos c19]; exact tailI (ok2 hI (by decide) (by decide) (by decide) (op_best hI hR p1 p2))
    rw [if_neg c19]
    by_cases c20 : op = 20
    · rw [if_pos c20]
      obtain ⟨X, hX, hSm⟩ := commonX hI
      rw [hX, Option.bind_some, comM hI hR, Option.bind_some, if_pos rfl]
      exact ⟨X, sS T 3 0, o, n, F, t, rfl, hSm.rel (hR.thr 0), hSm.iv hI⟩
    rw [if_neg c20]
    by_cases c21 : op = 21
    · rw [if_pos c21, comX hI, Option.bind_some, show f_X1_commonAnew T = _ from comM hI hR, Option.bind_some, if_pos rfl]
      exact ⟨S, sS T 3 0, o, n, F, t, rfl, hR.thr 0, hI⟩
    rw [if_neg c21]
    by_cases c22 : op = 22
    · rw [if_pos c22]; exact tailI (ok1 hI (by decide) (op_share hI hR p1 p2))
    rw [if_neg c22]
    by_cases c23 : op = 23
    · rw [if_pos c23]; exact tailI (ok1 hI (by decide) (op_shareAnew hI hR p1 p2))
    rw [if_neg c23]
    exact ⟨S, T, o, n, F, t, rfl, hR, hI⟩
theorem law_all {L : Nat} {xs : Nat → Int32} (hL : L ≤ 2048) : ∀ k j (S T : St) (o : Nat → Int64) (n F t : Nat), Iv S n F t → Rel S T → 4 * j ≤ L → 520 ≤ j + k → f_L_law_23 L xs k S T o (nI (4 * j)) = some 1 := fun k => by
  induction k with
  | zero => intro j S T o n F t _ _ h1 h2; omega
  | succ k ih =>
    intro j S T o n F t hI hR h1 h2
    rw [f_L_law_23]
    rcases law_step hL (f_L_law_23 L xs k) (o := o) (j := j) hI hR (by omega) with h | ⟨h, S1, T1, o1, n1, F1, t1, e, hR1, hI1⟩
    · exact h
    · rw [e]
      exact ih (j + 1) S1 T1 o1 n1 F1 t1 hI1 hR1 (by omega) (by omega)
theorem pure_law (L : Nat) (xs : Nat → Int32) (hL : L ≤ 2048) : ∃ (T : St) (r : Int32), f_X1_forgets S0M = some T ∧ f_L_law_23 L xs 520 S0X T (fun _ => 0) 0 = some r := by
  obtain ⟨T, hT, hR, hI⟩ := fresh
  exact ⟨T, 1, hT, law_all hL 520 0 S0X T (fun _ => 0) 4 0 0 hI hR (by omega) (by omega)⟩

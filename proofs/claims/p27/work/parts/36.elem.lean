/-! elements, and how an object of the reference begins. -/
def fr (i n : Nat) (f : Nat → Int32) (x : Int32) : Nat → Int32 := fun j => if i ≤ j ∧ j < n then x else f j
theorem fr_step {i n : Nat} {f : Nat → Int32} {x : Int32} (h : i < n) : fr (i + 1) n (upd f i x) x = fr i n f x := by
  funext j
  unfold fr upd
  by_cases h1 : i + 1 ≤ j ∧ j < n
  · rw [if_pos h1, if_pos (by omega)]
  · rw [if_neg h1]
    by_cases h2 : j = i
    · rw [if_pos h2, if_pos (by omega)]
    · rw [if_neg h2, if_neg (by omega)]
theorem fr_end {n : Nat} {f : Nat → Int32} {x : Int32} : fr n n f x = f := by
  funext j
  exact if_neg (by omega)
theorem fr_0 {n : Nat} {f : Nat → Int32} {x : Int32} : fr 0 n f x = filv n f x := by
  funext j
  unfold fr filv
  by_cases h : j < n
  · rw [if_pos h, if_pos ⟨Nat.zero_le _, h⟩]
  · rw [if_neg h, if_neg (fun c => h c.2)]
theorem fg61 : ∀ k i (S : St), i ≤ 12 → 12 < i + k → ∃ T, f_X1_forgets_61 k S (nI i) = some T ∧ T.1 = S.1 ∧ T.2 2 = fr i 12 (S.2 2) 0 ∧ T.2 3 = fr i 12 (S.2 3) 1 ∧ ∀ r, r ≠ 2 → r ≠ 3 → T.2 r = S.2 r := fun k => by
  induction k with
  | zero => intro i S h1 h2; omega
  | succ k ih =>
    intro i S h1 h2
    rw [f_X1_forgets_61]
    by_cases hi : i = 12
    · subst hi
      exact ⟨S, if_pos (nI_le (Nat.le_refl 12) (by omega)), rfl, fr_end.symm, fr_end.symm, fun _ _ _ => rfl⟩
    · rw [if_neg (show ¬ (12 : Int32) ≤ nI i from nI_ge (a := i) (b := 12) (by omega) (by omega)), wr_nI (by omega) (by omega), Option.bind_some, wr_nI (by omega) (by omega), Option.bind_some]
      unfold bnd
      rw [nI_1]
      obtain ⟨T, h, e0, e2, e3, er⟩ := ih (i + 1) _ (by omega) (by omega)
      refine ⟨T, h, e0, e2.trans ?_, e3.trans ?_, fun r hr1 hr2 => (er r hr1 hr2).trans ?_⟩
      · exact fr_step (by omega)
      · exact fr_step (by omega)
      · rw [sA_other hr2, sA_other hr1]
theorem fg40 : ∀ k i (S : St), i ≤ 36 → 36 < i + k → ∃ T, f_X1_forgets_40 k S (nI i) = some T ∧ T.1 = S.1 ∧ T.2 1 = fr i 36 (S.2 1) 0 ∧ T.2 2 = filv 12 (S.2 2) 0 ∧ T.2 3 = filv 12 (S.2 3) 1 ∧ ∀ r, r ≠ 1 → r ≠ 2 → r ≠ 3 → T.2 r = S.2 r := fun k => by
  induction k with
  | zero => intro i S h1 h2; omega
  | succ k ih =>
    intro i S h1 h2
    rw [f_X1_forgets_40]
    by_cases hi : i = 36
    · subst hi
      rw [if_pos (show (36 : Int32) ≤ nI 36 from nI_le (Nat.le_refl 36) (by omega))]
      obtain ⟨T, h, e0, e2, e3, er⟩ := fg61 70 0 S (by omega) (by omega)
      exact ⟨T, h, e0, (er 1 (by decide) (by decide)).trans fr_end.symm, e2.trans fr_0, e3.trans fr_0, fun r _ h2 h3 => er r h2 h3⟩
    · rw [if_neg (show ¬ (36 : Int32) ≤ nI i from nI_ge (a := i) (b := 36) (by omega) (by omega)), wr_nI (by omega) (by omega), Option.bind_some]
      unfold bnd
      rw [nI_1]
      obtain ⟨T, h, e0, e1, e2, e3, er⟩ := ih (i + 1) _ (by omega) (by omega)
      refine ⟨T, h, e0, e1.trans ?_, e2, e3, fun r hr1 hr2 hr3 => (er r hr1 hr2 hr3).trans ?_⟩
      · exact fr_step (by omega)
      · rw [sA_other hr1]
theorem fg12 : ∀ k i (S : St), i ≤ 6 → 6 < i + k → ∃ T, f_X1_forgets_12 k S (nI i) = some T ∧ T.1 = S.1 ∧ T.2 0 = fr i 6 (S.2 0) 0 ∧ T.2 1 = filv 36 (S.2 1) 0 ∧ T.2 2 = filv 12 (S.2 2) 0 ∧ T.2 3 = filv 12 (S.2 3) 1 ∧ T.2 4 = fr i 6 (S.2 4) 0 ∧ T.2 5 = S.2 5 ∧ T.2 6 = S.2 6 := fun k => by
  induction k with
  | zero => intro i S h1 h2; omega
  | succ k ih =>
    intro i S h1 h2
    rw [f_X1_forgets_12]
    by_cases hi : i = 6
    · subst hi
      rw [if_pos (show (6 : Int32) ≤ nI 6 from nI_le (Nat.le_refl 6) (by omega))]
      obtain ⟨T, h, e0, e1, e2, e3, er⟩ := fg40 70 0 S (by omega) (by omega)
      exact ⟨T, h, e0, (er 0 (by decide) (by decide) (by decide)).trans fr_end.symm, e1.trans fr_0, e2, e3, (er 4 (by decide) (by decide) (by decide)).trans fr_end.symm, er 5 (by decide) (by decide) (by decide), er 6 (by decide) (by decide) (by decide)⟩
    · rw [if_neg (show ¬ (6 : Int32) ≤ nI i from nI_ge (a := i) (b := 6) (by omega) (by omega)), wr_nI (by omega) (by omega), Option.bind_some, wr_nI (by omega) (by omega), Option.bind_some]
      unfold bnd
      rw [nI_1]
      obtain ⟨T, h, e0, e1, e2, e3, e4, e5, e6, e7⟩ := ih (i + 1) _ (by omega) (by omega)
      exact ⟨T, h, e0, e1.trans (fr_step (by omega)), e2, e3, e4, e5.trans (fr_step (by omega)), e6, e7⟩
theorem forgets_at (S : St) : ∃ T, f_X1_forgets S = some T ∧ T.1 0 = S.1 0 ∧ T.1 1 = 0 ∧ T.1 2 = 0 ∧ T.1 3 = S.1 3 ∧ T.2 0 = filv 6 (S.2 0) 0 ∧ T.2 1 = filv 36 (S.2 1) 0 ∧ T.2 2 = filv 12 (S.2 2) 0 ∧ T.2 3 = filv 12 (S.2 3) 1 ∧ T.2 4 = filv 6 (S.2 4) 0 ∧ T.2 5 = S.2 5 ∧ T.2 6 = S.2 6 := by
  obtain ⟨T, h, e0, e1, e2, e3, e4, e5, e6, e7⟩ := fg12 70 0 (sS (sS S 1 0) 2 0) (by omega) (by omega)
  refine ⟨T, h, ?_, ?_, ?_, ?_, e1.trans fr_0, e2, e3, e4, e5.trans fr_0, e6, e7⟩ <;> rw [e0] <;> rfl
theorem filv_at {n e : Nat} {f : Nat → Int32} {x : Int32} (h : e < n) : filv n f x e = x := if_pos h
/-- a state in which nothing is told -/
theorem iv_fresh {S : St} {n : Nat} (h0 : S.1 0 = nI n) (h1 : S.1 1 = 0) (h2 : S.1 2 = 0) (hn1 : 1 ≤ n) (hn6 : n ≤ 6) {f0 f1 f2 f3 f4 : Nat → Int32} (e0 : S.2 0 = filv 6 f0 0) (e1 : S.2 1 = filv 36 f1 0) (e2 : S.2 2 = filv 12 f2 0) (e3 : S.2 3 = filv 12 f3 1) (e4 : S.2 4 = filv 6 f4 0) : Iv S n 0 0 := by
  refine ⟨⟨h0, h1, h2, hn1, hn6, by omega, by omega⟩, ?_, ⟨?_, ?_⟩, ?_, ?_, ?_, ?_, ?_, ?_⟩
  · intro e he; exact ⟨0, by omega, by rw [e0, filv_at he]; rfl⟩
  · intro j hj; exact ⟨0, by omega, by rw [e1, filv_at hj]; rfl⟩
  · intro i j hi hj; rw [e1, filv_at (by omega), filv_at (by omega)]
  · intro j hj; exact ⟨0, by omega, by rw [e2, filv_at hj]; rfl⟩
  · intro j hj; exact ⟨1, by omega, by rw [e3, filv_at hj]; rfl⟩
  · intro e he; rw [e4, filv_at he]; decide
  · intro k hk; omega
  · intro i hi; omega
  · intro i j hi hj; omega
theorem op_elements {S T : St} {n F t : Nat} (hI : Iv S n F t) (hR : Rel S T) (p : Int32) : Ag [2] S (f_X0_elements S p) (f_X1_elements T p) := by
  unfold f_X0_elements f_X1_elements f_X1_elements_16
  have hth1 : Ag [2] S (some (2, 0, S)) (some (0, sS T 3 1)) := Ag.no 0 2 rfl rfl rfl rfl (hR.thr 1)
  rcases wi_test p 1 6 with ⟨h1, h2, e1, e2⟩ | ⟨e1, e2⟩
  · rw [e1, nx1, z0, ne1 e2, t0]
    obtain ⟨m, hm, rfl⟩ := le_lit (m := 6) (Int32.le_trans (by decide) h1) h2 (by omega)
    have hm1 : 1 ≤ m := (nI_leI (a := 1) (by omega) (by omega)).mp h1
    obtain ⟨T', h, e0, e1, e2, e3, r0, r1, r2, r3, r4, r5, r6⟩ := forgets_at (sS (sS T 3 0) 0 (nI m))
    rw [h]
    obtain ⟨x0, x1, x2, xr⟩ := hR
    have y0 : T'.1 0 = nI m := e0
    have g0 : T'.2 0 = filv 6 (S.2 0) 0 := by rw [r0, ← xr 0 (by decide)]; rfl
    have g1 : T'.2 1 = filv 36 (S.2 1) 0 := by rw [r1, ← xr 1 (by decide)]; rfl
    have g2 : T'.2 2 = filv 12 (S.2 2) 0 := by rw [r2, ← xr 2 (by decide)]; rfl
    have g3 : T'.2 3 = filv 12 (S.2 3) 1 := by rw [r3, ← xr 3 (by decide)]; rfl
    have g4 : T'.2 4 = filv 6 (S.2 4) 0 := by rw [r4, ← xr 4 (by decide)]; rfl
    have g5 : T'.2 5 = S.2 5 := by rw [r5, ← xr 5 (by decide)]; rfl
    have g6 : T'.2 6 = S.2 6 := by rw [r6, ← xr 6 (by decide)]; rfl
    refine Ag.ok (n := m) (F := 0) (t := 0) rfl (congrArg (fun z => some (z, T')) x0) e3 ⟨e0, e1, e2, ?_⟩ (iv_fresh (n := m) rfl rfl rfl hm1 hm (f0 := S.2 0) (f1 := S.2 1) (f2 := S.2 2) (f3 := S.2 3) (f4 := S.2 4) rfl rfl rfl rfl rfl)
    intro k hk
    rcases (show k = 0 ∨ k = 1 ∨ k = 2 ∨ k = 3 ∨ k = 4 ∨ k = 5 ∨ k = 6 by omega) with rfl | rfl | rfl | rfl | rfl | rfl | rfl
    · exact g0
    · exact g1
    · exact g2
    · exact g3
    · exact g4
    · exact g5
    · exact g6
  · rw [e1, nx0, z2, eq0 e2, t1]
    exact hth1
/-- both objects anew -/
theorem fresh : ∃ T, f_X1_forgets S0M = some T ∧ Rel S0X T ∧ Iv S0X 4 0 0 := by
  obtain ⟨T', h, e0, e1, e2, e3, r0, r1, r2, r3, r4, r5, r6⟩ := forgets_at S0M
  have hz : ∀ m, filv m (fun _ => (0 : Int32)) 0 = fun _ => 0 := fun m => by
    funext j
    unfold filv
    split <;> rfl
  refine ⟨T', h, ⟨e0, e1, e2, ?_⟩, iv_fresh (n := 4) rfl rfl rfl (by omega) (by omega) (f0 := fun _ => 0) (f1 := fun _ => 0) (f2 := fun _ => 0) (f3 := fun _ => 0) (f4 := fun _ => 0) (hz 6).symm (hz 36).symm (hz 12).symm rfl (hz 6).symm⟩
  intro k hk
  rcases (show k = 0 ∨ k = 1 ∨ k = 2 ∨ k = 3 ∨ k = 4 ∨ k = 5 ∨ k = 6 by omega) with rfl | rfl | rfl | rfl | rfl | rfl | rfl
  · exact r0.trans (hz 6)
  · exact r1.trans (hz 36)
  · exact r2.trans (hz 12)
  · exact r3
  · exact r4.trans (hz 6)
  · exact r5
  · exact r6

/-! Sets that are fair to a family: both classes' tests; the greatest common set gone through. -/
def frB (S : St) (n f s : Nat) : Bool := al (fun c => decide (ct S n f c s ≤ rm_ S f c)) 6
theorem fairX_loop {S : St} {n f s : Nat} (hn : S.1 0 = nI n) (hn6 : n ≤ 6) (hK : IvK S) (hR : IvR S) (hs : s < 1024) (hf : f < 2) : ∀ k c, c ≤ 6 → 6 < c + k → al (fun c => decide (ct S n f c s ≤ rm_ S f c)) c = true → f_X0_isFair_2 S (nI f) (nI s) k (nI c) = some (bI (frB S n f s)) := fun k => by
  induction k with
  | zero => intro i h1 h2; omega
  | succ k ih =>
    intro c h1 h2 h3
    rw [f_X0_isFair_2]
    by_cases hi : c = 6
    · subst hi
      rw [if_pos (show (6 : Int32) ≤ nI 6 from nI_le (Nat.le_refl 6) (by omega))]
      unfold frB
      rw [h3]; rfl
    · have h4 := ct_le S n f c s
      have h5 := (rm_of hR hf (show c < 6 by omega)).2
      rw [if_neg (show ¬ (6 : Int32) ≤ nI c from nI_ge (a := c) (b := 6) (by omega) (by omega)), cnt_nI hn hn6 hK hs hf (by omega), Option.bind_some, room_nI hR hf (by omega)]
      by_cases hc : ct S n f c s ≤ rm_ S f c
      · rw [if_pos (nI_le hc (by omega))]
        unfold bnd
        rw [nI_1]
        exact ih (c + 1) (by omega) (by omega) (by rw [al, h3, decide_eq_true hc]; rfl)
      · rw [if_neg (fun h => hc ((nI_leI (by omega) (by omega)).mp h))]
        unfold frB
        rw [al_not (i := c) (by omega) (decide_eq_false hc)]
        rfl
theorem fairX {S : St} {n f s : Nat} (hn : S.1 0 = nI n) (hn6 : n ≤ 6) (hK : IvK S) (hR : IvR S) (hs : s < 1024) (hf : f < 2) : f_X0_isFair S (nI f) (nI s) = some (bI (frB S n f s)) := fairX_loop hn hn6 hK hR hs hf 70 0 (by omega) (by omega) rfl
/-- one of the colours, counted -/
theorem sm_one (x : Nat) : ∀ m, sm (fun c => if x = c then 1 else 0) m = if x < m then 1 else 0 := fun m => by
  induction m with
  | zero => rfl
  | succ m ih =>
    rw [sm, ih]
    by_cases c : x = m
    · rw [c, if_pos rfl, if_neg (Nat.lt_irrefl m), if_pos (Nat.lt_succ_self m)]
    · rw [if_neg c]
      by_cases d : x < m
      · rw [if_pos d, if_pos (by omega)]
      · rw [if_neg d, if_neg (by omega)]
theorem cn_cols (P : Nat → Bool) (x : Nat → Nat) : ∀ n, (∀ e, e < n → x e < 6) → sm (fun c => cn (fun e => P e && decide (x e = c)) n) 6 = cn P n := fun n => by
  induction n with
  | zero => intro _; rfl
  | succ n ih =>
    intro h
    show sm (fun c => cn (fun e => P e && decide (x e = c)) n + (if (P n && decide (x n = c)) = true then 1 else 0)) 6 = cn P n + _
    rw [sm_add, ih (fun e he => h e (by omega))]
    congr 1
    cases hp : P n with
    | false =>
      rw [if_neg (by decide)]
      exact (sm_congr (g := fun _ => 0) (fun c _ => by rw [Bool.false_and]; rfl)).trans (by rw [sm_const, Nat.zero_mul])
    | true =>
      rw [if_pos rfl]
      have h6 := h n (by omega)
      refine (sm_congr (g := fun c => if x n = c then 1 else 0) (fun c _ => ?_)).trans ((sm_one (x n) 6).trans (if_pos h6))
      by_cases d : x n = c
      · rw [if_pos d, decide_eq_true d]; rfl
      · rw [if_neg d, decide_eq_false d]; rfl
theorem cn_short {P : Nat → Bool} {n : Nat} : ∀ m, n ≤ m → (∀ i, n ≤ i → P i = false) → cn P m = cn P n := fun m => by
  induction m with
  | zero => intro h _; rw [show n = 0 by omega]
  | succ m ih =>
    intro h hp
    by_cases c : n = m + 1
    · rw [c]
    · rw [cn, ih (by omega) hp, hp m (by omega)]
      rfl
theorem tb_hi {s n i : Nat} (hs : s < 2 ^ n) (hi : n ≤ i) : s.testBit i = false := Nat.testBit_lt_two_pow (Nat.lt_of_lt_of_le hs (Nat.pow_le_pow_right (by omega) hi))
theorem pc_n {s n : Nat} (hs : s < 2 ^ n) (hn : n ≤ 10) : pc s = cn s.testBit n := cn_short 10 hn (fun i hi => tb_hi hs hi)
theorem ct_sum {S : St} {n f s : Nat} (hK : IvK S) (hf : f < 2) (hn6 : n ≤ 6) (hs : s < 2 ^ n) : sm (fun c => ct S n f c s) 6 = pc s := by
  rw [pc_n hs (by omega)]
  exact cn_cols s.testBit (cl S f) n (fun e he => (cl_of hK hf (by omega)).2)
theorem sm_min (a b : Nat → Nat) : ∀ m, sm (fun c => min (a c) (b c)) m = sm a m ↔ ∀ c, c < m → a c ≤ b c := fun m => by
  induction m with
  | zero => exact ⟨fun _ c hc => absurd hc (by omega), fun _ => rfl⟩
  | succ m ih =>
    have hle : sm (fun c => min (a c) (b c)) m ≤ sm a m := sm_le (fun c _ => Nat.min_le_left _ _)
    show sm (fun c => min (a c) (b c)) m + min (a m) (b m) = sm a m + a m ↔ _
    have hm := Nat.min_le_left (a m) (b m)
    constructor
    · intro h c hc
      by_cases d : c = m
      · rw [d]
        have : min (a m) (b m) = a m := by omega
        rw [← this]; exact Nat.min_le_right _ _
      · exact ih.mp (by omega) c (by omega)
    · intro h
      rw [ih.mpr (fun c hc => h c (by omega)), Nat.min_eq_left (h m (by omega))]
theorem fair_rank {S : St} {n f s : Nat} (hK : IvK S) (hf : f < 2) (hn6 : n ≤ 6) (hs : s < 2 ^ n) : frB S n f s = decide (rkF S n f s = pc s) := by
  have h : frB S n f s = true ↔ rkF S n f s = pc s := by
    unfold frB rkF
    rw [← ct_sum hK hf hn6 hs, sm_min, al_iff]
    exact ⟨fun h c hc => of_decide_eq_true (h c hc), fun h c hc => decide_eq_true (h c hc)⟩
  cases c : frB S n f s with
  | true => rw [decide_eq_true (h.mp c)]
  | false => rw [decide_eq_false (fun d => by rw [h.mpr d] at c; exact absurd c (by decide))]
theorem rk_le {S : St} {n f s : Nat} (hR : IvR S) (hf : f < 2) : rkF S n f s ≤ 36 := by
  unfold rkF
  have h1 : sm (fun c => min (ct S n f c s) (rm_ S f c)) 6 ≤ sm (fun _ => 6) 6 := sm_le (fun c hc => Nat.le_trans (Nat.min_le_right _ _) (rm_of hR hf hc).2)
  rw [sm_const] at h1
  omega
theorem fairM {S : St} {n f s : Nat} (hn : S.1 0 = nI n) (hn6 : n ≤ 6) (hK : IvK S) (hR : IvR S) (hs : s < 2 ^ n) (hf : f < 2) : f_X1_isFair S (nI f) (nI s) = some (bI (frB S n f s)) := by
  have h6 := pow6 hn6
  have hp := pc_le s
  have hr := rk_le (n := n) (s := s) hR hf
  unfold f_X1_isFair
  rw [show f_X1_rank S (nI f) (nI s) = _ from rankM_loop hn hn6 hK hR (show s < 1024 by omega) hf 70 0 (by omega) (by omega), Option.bind_some, many_nI (by omega), Option.bind_some, fair_rank hK hf hn6 hs]
  by_cases c : rkF S n f s = pc s
  · rw [if_pos (by rw [c]), decide_eq_true c]; rfl
  · rw [if_neg (nI_ne c (by omega) (by omega)), decide_eq_false c]; rfl
/-- the size of the greatest common fair set below a set -/
def cmF (S : St) (n : Nat) : Nat → Nat
  | 0 => 0
  | i + 1 => if frB S n 0 i = true ∧ frB S n 1 i = true ∧ cmF S n i < pc i then pc i else cmF S n i
theorem cmF_le (S : St) (n : Nat) : ∀ i, cmF S n i ≤ 10 := fun i => by
  induction i with
  | zero => exact Nat.zero_le _
  | succ i ih =>
    rw [cmF]
    split
    · exact pc_le i
    · exact ih
theorem comX_loop {S : St} {n : Nat} (hn : S.1 0 = nI n) (hn6 : n ≤ 6) (hK : IvK S) (hR : IvR S) : ∀ k s, s ≤ 2 ^ n → 2 ^ n < s + k → f_X0_commonAnew_4 S k (nI (cmF S n s)) (nI s) = some (nI (cmF S n (2 ^ n))) := fun k => by
  have h6 := pow6 hn6
  induction k with
  | zero => intro i h1 h2; omega
  | succ k ih =>
    intro s h1 h2
    rw [f_X0_commonAnew_4]
    by_cases hi : s = 2 ^ n
    · rw [hi, if_pos (sets_ge hn hn6)]
    · have hp := pc_le s
      have hm := cmF_le S n s
      have h3 := ih (s + 1) (by omega) (by omega)
      rw [cmF] at h3
      rw [if_neg (sets_le hn hn6 (by omega)), show f_X0_isFair S 0 (nI s) = _ from fairX (f := 0) hn hn6 hK hR (by omega) (by omega), Option.bind_some]
      unfold bnd
      rw [nI_1]
      cases c0 : frB S n 0 s with
      | false =>
        rw [if_neg (by rw [c0]; exact fun h => absurd h.1 (by decide))] at h3
        rw [if_pos (show bI false = 0 from rfl)]
        exact h3
      | true =>
        rw [if_neg (show ¬ bI true = 0 from one_ne), show f_X0_isFair S 1 (nI s) = _ from fairX (f := 1) hn hn6 hK hR (by omega) (by omega), Option.bind_some]
        cases c1 : frB S n 1 s with
        | false =>
          rw [if_neg (by rw [c1]; exact fun h => absurd h.2.1 (by decide))] at h3
          rw [if_pos (show bI false = 0 from rfl)]
          exact h3
        | true =>
          rw [if_neg (show ¬ bI true = 0 from one_ne), bc_nI (by omega)]
          by_cases d : cmF S n s < pc s
          · rw [if_pos ⟨c0, c1, d⟩] at h3
            rw [if_pos (nI_lt d (by omega))]
            exact h3
          · rw [if_neg (fun h => d h.2.2)] at h3
            rw [if_neg (fun h => d ((nI_ltI (by omega) (by omega)).mp h))]
            exact h3
theorem comM_loop {S : St} {n : Nat} (hn : S.1 0 = nI n) (hn6 : n ≤ 6) (hK : IvK S) (hR : IvR S) : ∀ k s, s ≤ 2 ^ n → 2 ^ n < s + k → f_X1_commonSize_4 S k (nI (cmF S n s)) (nI s) = some (nI (cmF S n (2 ^ n))) := fun k => by
  have h6 := pow6 hn6
  induction k with
  | zero => intro i h1 h2; omega
  | succ k ih =>
    intro s h1 h2
    rw [f_X1_commonSize_4]
    by_cases hi : s = 2 ^ n
    · rw [hi, if_pos (isSet_ge hn hn6)]
    · have hp := pc_le s
      have hm := cmF_le S n s
      have h3 := ih (s + 1) (by omega) (by omega)
      rw [cmF] at h3
      rw [if_neg (by rw [isSet_lt hn hn6 (by omega)]; exact one_ne), show f_X1_isFair S 0 (nI s) = _ from fairM (f := 0) hn hn6 hK hR (by omega) (by omega), Option.bind_some]
      unfold bnd
      rw [nI_1]
      cases c0 : frB S n 0 s with
      | false =>
        rw [if_neg (by rw [c0]; exact fun h => absurd h.1 (by decide))] at h3
        rw [if_pos (show bI false = 0 from rfl)]
        exact h3
      | true =>
        rw [if_neg (show ¬ bI true = 0 from one_ne), show f_X1_isFair S 1 (nI s) = _ from fairM (f := 1) hn hn6 hK hR (by omega) (by omega), Option.bind_some]
        cases c1 : frB S n 1 s with
        | false =>
          rw [if_neg (by rw [c1]; exact fun h => absurd h.2.1 (by decide))] at h3
          rw [if_pos (show bI false = 0 from rfl)]
          exact h3
        | true =>
          rw [if_neg (show ¬ bI true = 0 from one_ne), many_nI (by omega), Option.bind_some]
          by_cases d : cmF S n s < pc s
          · rw [if_pos ⟨c0, c1, d⟩] at h3
            rw [if_neg (nI_ge d (by omega)), Option.bind_some]
            exact h3
          · rw [if_neg (fun h => d h.2.2)] at h3
            rw [if_pos (nI_le (by omega) (by omega))]
            exact h3
theorem cmF_rel {S T : St} (h : ∀ k, k < 7 → T.2 k = S.2 k) (n : Nat) : ∀ i, cmF T n i = cmF S n i := fun i => by
  have hf : ∀ f s, frB T n f s = frB S n f s := fun f s => by
    unfold frB ct cl rm_
    rw [h 2 (by decide), h 3 (by decide)]
  induction i with
  | zero => rfl
  | succ i ih => rw [cmF, cmF, ih, hf, hf]
/-- the reference's common and commonAnew -/
theorem comM {S T : St} {n F t : Nat} (hI : Iv S n F t) (hR : Rel S T) : f_X1_common T = some (nI (cmF S n (2 ^ n)), sS T 3 0) := by
  obtain ⟨⟨j1, j2, j3, j4, j5, j6, j7⟩, gC, gE, gK, gRm, gW, gV, gO⟩ := (hR.thr 0).iv hI
  have h6 := pow6 j5
  have h7 := pow1 n
  unfold f_X1_common
  rw [show f_X1_commonSize (sS T 3 0) = _ from comM_loop j1 j5 gK gRm 70 0 (by omega) (by omega), Option.bind_some, cmF_rel (hR.thr 0).2.2.2]
theorem comX {S : St} {n F t : Nat} (hI : Iv S n F t) : f_X0_commonAnew S = some (nI (cmF S n (2 ^ n))) := by
  obtain ⟨⟨j1, j2, j3, j4, j5, j6, j7⟩, gC, gE, gK, gRm, gW, gV, gO⟩ := hI
  have h6 := pow6 j5
  have h7 := pow1 n
  exact comX_loop j1 j5 gK gRm 70 0 (by omega) (by omega)

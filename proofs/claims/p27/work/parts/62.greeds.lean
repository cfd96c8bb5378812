/-! Orders, corners, greed, what is best, common sets, shares. -/
section GRD
variable {S X : St} {n F t : Nat}
def ordS (S : St) (u e : Nat) : St := sS (sA S 6 (upd (S.2 6) u (nI e))) 2 (nI (u + 1))
theorem ord_iv {u e : Nat} (hI : Iv S n F t) (hu : u ≤ t) (hun : u < n) (he : e < n) (hd : ∀ k, k < u → S.2 6 k ≠ nI e) : Iv (ordS S u e) n F (u + 1) :=
  iv_order hI hu hun he hd rfl rfl rfl rfl (fun k hk => by
    show (if k = 6 then upd (S.2 6) u (nI e) else S.2 k) = _
    rw [if_neg (by omega)])
theorem s_order_more {e : Nat} (h : Sm S X) (hI : Iv S n F t) (htn : t < n) (he : e < n) (hc : plF (S.2 6) (nI e) t = -1) : ∃ X', f_X0_order X (nI e) = some (0, nI (t + 1), X') ∧ Sm (ordS S t e) X' ∧ Iv (ordS S t e) n F (t + 1) := by
  have hX := h.iv hI
  obtain ⟨⟨i1, i2, i3, i4, i5, i6, i7⟩, -⟩ := id hX
  have r6 := sm_r h (k := 6) (by decide)
  refine ⟨sS (sA X 6 (upd (S.2 6) t (nI e))) 2 (nI (t + 1)), ?_, ?_, ord_iv hI (Nat.le_refl t) htn he ((plF_none _ _ t (by omega)).mp hc)⟩
  · unfold f_X0_order f_X0_order_24 f_X0_order_42 f_X0_order_54
    rw [el_ok i1 i5 he, nx1, z0, i1, i3, if_pos (nI_lt htn (by omega)), if_pos rfl, told_nI i3 (by omega), Option.bind_some, r6, if_pos hc, if_pos rfl, nx1, z0, if_pos rfl, put_nI (by omega) (by omega)]
    have e2 : (sA X 6 (upd (S.2 6) t (nI e))).1 2 + 1 = nI (t + 1) := by
      show X.1 2 + 1 = _
      rw [i3, nI_1]
    rw [e2]; rfl
  · exact sm_S (sm_A h 6 _) 2 _
theorem s_order_anew {e : Nat} (h : Sm S X) (hI : Iv S n F n) (he : e < n) : ∃ X', f_X0_order X (nI e) = some (0, 1, X') ∧ Sm (ordS S 0 e) X' ∧ Iv (ordS S 0 e) n F 1 := by
  have hX := h.iv hI
  obtain ⟨⟨i1, i2, i3, i4, i5, i6, i7⟩, -⟩ := id hX
  have r6 := sm_r h (k := 6) (by decide)
  refine ⟨sS (sA (sS X 2 0) 6 (upd (S.2 6) 0 (nI e))) 2 (nI 1), ?_, ⟨?_, fun k h7 h8 => ?_⟩, ord_iv hI (Nat.zero_le _) (by omega) he (fun k hk => absurd hk (by omega))⟩
  · unfold f_X0_order f_X0_order_24 f_X0_order_42 f_X0_order_54
    rw [el_ok i1 i5 he, nx1, z0, i1, i3, if_neg (show ¬ nI n < nI n from Int32.lt_irrefl), if_neg one_ne, nx1, z0, if_neg one_ne]
    have e0 : (sS X 2 0).1 2 = nI 0 := rfl
    rw [e0, put_nI (by omega) (by omega)]
    have e1 : (sS X 2 0).2 6 = S.2 6 := r6
    rw [e1]; rfl
  · show (fun j => if j = 2 then nI 1 else if j = 2 then 0 else X.1 j) = (fun j => if j = 2 then nI 1 else S.1 j)
    rw [h.1]
    funext j
    by_cases c : j = 2
    · rw [if_pos c, if_pos c]
    · rw [if_neg c, if_neg c, if_neg c]
  · show (if k = 6 then upd (S.2 6) 0 (nI e) else X.2 k) = (if k = 6 then upd (S.2 6) 0 (nI e) else S.2 k)
    rw [h.2 k h7 h8]
theorem s_order_told {e : Nat} (h : Sm S X) (hI : Iv S n F t) (htn : t < n) (he : e < n) (hc : ¬ plF (S.2 6) (nI e) t = -1) : f_X0_order X (nI e) = some (3, 0, X) := by
  obtain ⟨⟨i1, i2, i3, i4, i5, i6, i7⟩, -⟩ := h.iv hI
  have r6 := sm_r h (k := 6) (by decide)
  unfold f_X0_order f_X0_order_24 f_X0_order_42
  rw [el_ok i1 i5 he, nx1, z0, i1, i3, if_pos (nI_lt htn (by omega)), if_pos rfl, told_nI i3 (by omega), Option.bind_some, r6, if_neg hc, if_neg one_ne, nx0, z3]
theorem pl_one {f : Nat → Int32} {p : Int32} {k0 t : Nat} (h0 : k0 < t) (ht : t ≤ 6) (hp : f k0 = p) : ¬ plF f p t = -1 := fun c => (plF_none f p t ht).mp c k0 h0 hp
theorem s_corner {a e k0 : Nat} (h : Sm S X) (hI : Iv S n F t) (ha : a < F) (he : e < n) (h0 : k0 < t) (hp : S.2 6 k0 = nI e) : f_X0_corner X (nI a) (nI e) = some (0, gI S a e (ahF S k0), X) := by
  have hX := h.iv hI
  obtain ⟨⟨i1, i2, i3, i4, i5, i6, i7⟩, hC, hE, hK, hRm, hW, hV, hO⟩ := id hX
  have r6 := sm_r h (k := 6) (by decide)
  have hpX : X.2 6 k0 = nI e := by rw [r6]; exact hp
  have hd : ∀ k, k < k0 → X.2 6 k ≠ nI e := fun k hk c => hO.2 k k0 hk h0 (c.trans hpX.symm)
  have l1 := ahead_loop (p := nI e) i3 (by omega) i5 hO h0 hpX hd 70 0 (by omega) (by omega)
  unfold f_X0_corner f_X0_corner_21
  rw [ne1 (fn_ok i2 i6 ha), ne1 (el_ok i1 i5 he), nx1, z0, told_nI i3 (by omega), Option.bind_some, if_neg (pl_one h0 (by omega) hpX), nx1, z0]
  rw [show f_X0_aheadOf X (nI e) = _ from l1, Option.bind_some, gain_nI i6 i5 ha (ahF_lt hO i5 k0 (by omega)) he, ahF_rel (S := S) r6]
  unfold gI
  rw [sm_r h (k := 5) (by decide)]
theorem s_corner_not {a e : Nat} (h : Sm S X) (hI : Iv S n F t) (ha : a < F) (he : e < n) (hc : plF (S.2 6) (nI e) t = -1) : f_X0_corner X (nI a) (nI e) = some (3, 0, X) := by
  obtain ⟨⟨i1, i2, i3, i4, i5, i6, i7⟩, -⟩ := h.iv hI
  have r6 := sm_r h (k := 6) (by decide)
  unfold f_X0_corner f_X0_corner_21
  rw [ne1 (fn_ok i2 i6 ha), ne1 (el_ok i1 i5 he), nx1, z0, told_nI i3 (by omega), Option.bind_some, r6, if_pos hc, nx0, z3]
-- ---- greed
def gW (S : St) (a n m : Nat) : Nat → Nat → Nat
  | 0, s => s
  | k + 1, s => if m ≤ pc s then s else (gdF S a s n).elim s (fun j => gW S a n m k (s ||| 2 ^ j))
theorem gn_sm (h : Sm S X) : gn X = gn S := by unfold gn vl; rw [sm_r h (k := 5) (by decide)]
theorem gdF_sm (h : Sm S X) (a s : Nat) : ∀ i, gdF X a s i = gdF S a s i := fun i => by
  induction i with
  | zero => rfl
  | succ i ih => rw [gdF, gdF, ih, gn_sm h]
theorem gW_sm (h : Sm S X) (a n m : Nat) : ∀ k s, gW X a n m k s = gW S a n m k s := fun k => by
  induction k with
  | zero => intro s; rfl
  | succ k ih =>
    intro s
    have e : (fun j => gW X a n m k (s ||| 2 ^ j)) = (fun j => gW S a n m k (s ||| 2 ^ j)) := funext (fun j => ih _)
    rw [gW, gW, gdF_sm h, e]
theorem gW_at {a m : Nat} (hn : S.1 0 = nI n) (hn6 : n ≤ 6) (hV : IvV S n F) (hF : F ≤ 8) (ha : a < F) (hm : m ≤ 6) : ∀ k s, s < 2 ^ n → pc s ≤ 6 → 6 < pc s + k → f_X0_greedy_23 S (nI a) (nI m) k (nI s) (nI (pc s)) = some (0, nI (gW S a n m k s), S) := fun k => by
  have h6 := pow6 hn6
  induction k with
  | zero => intro s h1 h2 h3; omega
  | succ k ih =>
    intro s hs hp hk
    rw [f_X0_greedy_23, gW]
    by_cases hmp : m ≤ pc s
    · rw [if_pos (nI_le hmp (by omega)), if_pos hmp]
    · have hge : ¬ nI m ≤ nI (pc s) := nI_ge (a := pc s) (b := m) (by omega) (by omega)
      rw [if_neg hge, if_neg hmp]
      have l1 := greX hn hn6 hV hF ha hs 70 0 (by omega) (by omega)
      rw [show f_X0_greediest S (nI a) (nI s) = _ from l1, Option.bind_some]
      rcases gdF_spec S a s n with h | ⟨j, hj, h, hpos⟩
      · rw [h, if_pos (show nextI none = -1 from rfl)]; rfl
      · have hnb : s.testBit j = false := by
          cases c : s.testBit j with
          | false => rfl
          | true => rw [gn_mem c] at hpos; omega
        rw [h, if_neg (show ¬ nextI (some j) = -1 from fun c => nI_pos (show j < 2 ^ 31 by omega) (by rw [show nI j = -1 from c]; decide))]
        have hpc := pc_or (s := s) (e := j) (by omega) hnb
        have hpn : pc (s ||| 2 ^ j) ≤ 6 := by
          rw [pc_n (or_lt hs hj) (by omega)]
          exact Nat.le_trans (cn_le _ n) hn6
        have w1 := ih (s ||| 2 ^ j) (or_lt hs hj) hpn (by omega)
        unfold bnd
        show f_X0_greedy_23 S (nI a) (nI m) k (f_X0_with (nI s) (nI j)) (nI (pc s) + 1) = some (0, nI (gW S a n m k (s ||| 2 ^ j)), S)
        rw [with_nI (by omega), nI_1, ← hpc]
        exact w1
/-- greed takes no more than it may, and what it takes is worth no less -/
theorem gW_prop {a m : Nat} (hn6 : n ≤ 6) : ∀ k s, s < 2 ^ n → pc s ≤ m → gW S a n m k s < 2 ^ n ∧ pc (gW S a n m k s) ≤ m ∧ vl S a s ≤ vl S a (gW S a n m k s) := fun k => by
  induction k with
  | zero => intro s hs hp; exact ⟨hs, hp, Int.le_refl _⟩
  | succ k ih =>
    intro s hs hp
    rw [gW]
    by_cases hmp : m ≤ pc s
    · rw [if_pos hmp]; exact ⟨hs, hp, Int.le_refl _⟩
    · rw [if_neg hmp]
      rcases gdF_spec S a s n with h | ⟨j, hj, h, hpos⟩
      · rw [h]; exact ⟨hs, hp, Int.le_refl _⟩
      · have hnb : s.testBit j = false := by
          cases c : s.testBit j with
          | false => rfl
          | true => rw [gn_mem c] at hpos; omega
        have hpc := pc_or (s := s) (e := j) (by omega) hnb
        obtain ⟨w1, w2, w3⟩ := ih (s ||| 2 ^ j) (or_lt hs hj) (by omega)
        rw [h]
        refine ⟨w1, w2, Int.le_trans ?_ w3⟩
        unfold gn at hpos
        omega
theorem s_greedy {a m : Nat} (h : Sm S X) (hI : Iv S n F t) (ha : a < F) (hm : m ≤ 6) : f_X0_greedy X (nI a) (nI m) = some (0, nI (gW S a n m 70 0), X) := by
  obtain ⟨⟨i1, i2, i3, i4, i5, i6, i7⟩, hC, hE, hK, hRm, hW, hV, hO⟩ := h.iv hI
  unfold f_X0_greedy
  rw [fn_ok i2 i6 ha, nx1, z0, (wi_6 hm), nx1, z0, ← gW_sm h]
  exact gW_at i1 i5 hV i6 ha hm 70 0 (pow1 n) (by rw [pc_zero]; omega) (by rw [pc_zero]; omega)
theorem s_best {a m : Nat} (h : Sm S X) (hI : Iv S n F t) (ha : a < F) (hm : m ≤ 6) : f_X0_best X (nI a) (nI m) = some (0, mxF (rowf S a) m (2 ^ n), X) := by
  obtain ⟨⟨i1, i2, i3, i4, i5, i6, i7⟩, -⟩ := h.iv hI
  have h6 := pow6 i5
  have h7 := pow1 n
  unfold f_X0_best
  rw [fn_ok i2 i6 ha, nx1, z0, (wi_6 hm), nx1, z0, ← rowf_sm h]
  exact bestX (a := a) i1 i5 (by omega) hm 70 0 (by omega) (by omega)
theorem mx_ge (f : Nat → Int32) (m : Nat) : ∀ k i, i < k → pc i ≤ m → f i ≤ mxF f m k := fun k => by
  induction k with
  | zero => intro i hi; omega
  | succ k ih =>
    intro i hi hp
    rw [mxF]
    by_cases hk : i = k
    · subst hk
      rw [if_neg (by omega)]
      by_cases c : f i ≤ mxF f m i
      · rw [if_pos c]; exact c
      · rw [if_neg c]; exact Int32.le_refl _
    · have h1 := ih i (by omega) hp
      by_cases c0 : m < pc k
      · rw [if_pos c0]; exact h1
      · rw [if_neg c0]
        by_cases c : f k ≤ mxF f m k
        · rw [if_pos c]; exact h1
        · rw [if_neg c]; exact Int32.le_trans h1 (Int32.le_of_lt (Int32.not_le.mp c))
-- ---- common sets
theorem s_common (h : Sm S X) (hI : Iv S n F t) : ∃ X', f_X0_common X = some (nI (cmF S n (2 ^ n)), X') ∧ Sm S X' := by
  obtain ⟨X', h1, h2⟩ := commonX (h.iv hI)
  exact ⟨X', by rw [h1, cmF_rel (S := S) (T := X) (fun k hk => sm_r h hk)], sm_tr h h2⟩
theorem s_commonAnew (h : Sm S X) (hI : Iv S n F t) : f_X0_commonAnew X = some (nI (cmF S n (2 ^ n))) := by
  rw [comX (h.iv hI), cmF_rel (S := S) (T := X) (fun k hk => sm_r h hk)]
-- ---- shares
def shV (S : St) (n a e : Nat) : Int32 := s3 (goR (gI S a e) n e 0) (2 ^ n)
theorem gI_sm (h : Sm S X) (a e : Nat) : gI X a e = gI S a e := by unfold gI; rw [sm_r h (k := 5) (by decide)]
theorem s_share {a e : Nat} (h : Sm S X) (hI : Iv S n F t) (ha : a < F) (he : e < n) : f_X0_share X (nI a) (nI e) = some (0, shV S n a e, X) := by
  obtain ⟨⟨i1, i2, i3, i4, i5, i6, i7⟩, -⟩ := h.iv hI
  have h6 := pow6 i5
  have h7 := pow1 n
  unfold f_X0_share f_X0_share_21 shV
  rw [ne1 (fn_ok i2 i6 ha), ne1 (el_ok i1 i5 he), nx1, z0, ← gI_sm h]
  exact shX (a := a) (e := e) i1 i5 i6 ha he 70 0 (by omega) (by omega)
theorem s_shareAnew {a e : Nat} (h : Sm S X) (hI : Iv S n F t) (ha : a < F) (he : e < n) : f_X0_shareAnew X (nI a) (nI e) = some (0, shV S n a e, X) := by
  obtain ⟨⟨i1, i2, i3, i4, i5, i6, i7⟩, -⟩ := h.iv hI
  have h7 := pow1 n
  have l1 := goX (a := a) (e := e) i1 i5 i6 ha he 7 n 0 (by omega) (by omega) (Nat.zero_testBit e) (mi_zero n) (Nat.le_refl n)
  rw [Nat.sub_self, GO_eq i5 he n 0 (by omega) (Nat.zero_testBit e) (by rw [pc_zero]; omega)] at l1
  unfold f_X0_shareAnew f_X0_shareAnew_21 shV
  rw [ne1 (fn_ok i2 i6 ha), ne1 (el_ok i1 i5 he), nx1, z0, ← gI_sm h, show f_X0_gainsOverOrders X 7 (nI a) (nI e) 0 0 0 = _ from l1, Option.bind_some]
end GRD

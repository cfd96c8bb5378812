/-! Functions made, and what is asked of them. -/
theorem np_ok {X : St} {F : Nat} (h : X.1 1 = nI F) (hF : F < 8) : f_X0_needPlace X = some 0 := by
  unfold f_X0_needPlace f_X0_needPlace_14
  rw [h, if_neg (show ¬ (8 : Int32) ≤ nI F from nI_ge (b := 8) hF (by omega)), nx1, z0]
theorem np_no {X : St} (h : X.1 1 = nI 8) : f_X0_needPlace X = some 3 := by
  unfold f_X0_needPlace f_X0_needPlace_14
  rw [h, if_pos (show (8 : Int32) ≤ nI 8 by decide), nx0, z3]
theorem nS_sm {S X : St} (h : Sm S X) (n F : Nat) (g : Nat → Int32) : Sm (nS S n F g) (nS X n F g) := by
  unfold nS wS
  rw [sm_r h (k := 5) (by decide)]
  exact sm_S (sm_A h 5 _) 1 _
theorem nS_congr {S : St} {n F : Nat} {g g' : Nat → Int32} (h : ∀ s, s < 2 ^ n → g s = g' s) : nS S n F g = nS S n F g' := by
  unfold nS wS
  have e : wv (S.2 5) F g (2 ^ n) = wv (S.2 5) F g' (2 ^ n) := by
    funext j
    unfold wv
    by_cases c : 64 * F ≤ j ∧ j < 64 * F + 2 ^ n
    · rw [if_pos c, if_pos c, h _ (by omega)]
    · rw [if_neg c, if_neg c]
  rw [e]
section NEW
variable {S X : St} {n F t : Nat}
theorem s_make {j : Nat} (h : Sm S X) (hI : Iv S n F t) (hF : F < 8) (hj : j ≤ 4) : ∃ X', f_X0_make X (nI j) = some (0, nI F, X') ∧ Sm (nS S n F (tv S n j)) X' ∧ Iv (nS S n F (tv S n j)) n (F + 1) t := by
  have hX := h.iv hI
  obtain ⟨⟨i1, i2, i3, i4, i5, i6, i7⟩, hC, hE, hK, hRm, hW, hV, hO⟩ := id hX
  have h6 := pow6 i5
  have h7 := pow1 n
  have hg : tv X n j = tv S n j := funext (fun s => tv_congr (fun k hk => sm_r h (by omega)) n j s)
  refine ⟨nS X n F (tv S n j), ?_, nS_sm h n F _, iv_new hI hF (tv_zero S n j) (fun s hs => ?_)⟩
  · have l1 := make_loop i1 i5 i2 hF hC hE hK hRm hj 70 0 (by omega) (by omega)
    unfold wS at l1
    rw [wv_0, sA_self, hg] at l1
    unfold f_X0_make
    rw [(wi_4 hj), nx1, z0, np_ok i2 hF, Option.bind_some, z0]
    exact l1
  · have hb := tv_bd (S := S) (n := n) (j := j) (s := s) i5 hI.2.2.1 hI.2.2.2.2.1 hI.2.2.2.2.2.1
    have hp := p2_bd i6
    omega
theorem s_make8 {j : Nat} (hX : Iv X n 8 t) (hj : j ≤ 4) : f_X0_make X (nI j) = some (3, 0, X) := by
  unfold f_X0_make
  rw [(wi_4 hj), nx1, z0, np_no hX.1.2.1, Option.bind_some, z3]
theorem s_sum {a b : Nat} (h : Sm S X) (hI : Iv S n F t) (hF : F < 8) (ha : a < F) (hb : b < F) : ∃ X', f_X0_sum X (nI a) (nI b) = some (0, nI F, X') ∧ Sm (nS S n F (gSum (S.2 5) a b)) X' ∧ Iv (nS S n F (gSum (S.2 5) a b)) n (F + 1) t := by
  have hX := h.iv hI
  obtain ⟨⟨i1, i2, i3, i4, i5, i6, i7⟩, -⟩ := id hX
  have hV := hI.2.2.2.2.2.2.1
  have h6 := pow6 i5
  have h7 := pow1 n
  refine ⟨nS X n F (gSum (S.2 5) a b), ?_, nS_sm h n F _, iv_new hI hF ?_ (fun s hs => ?_)⟩
  · have l1 := sum_loop i1 i5 i2 hF ha hb 70 0 (by omega) (by omega)
    unfold wS at l1
    rw [wv_0, sA_self, sm_r h (k := 5) (by decide)] at l1
    unfold f_X0_sum f_X0_sum_21
    rw [ne1 (fn_ok i2 i6 ha), ne1 (fn_ok i2 i6 hb), nx1, z0, np_ok i2 hF, Option.bind_some, z0]
    exact l1
  · unfold gSum
    rw [Nat.add_zero, Nat.add_zero, (hV a ha).1, (hV b hb).1]; rfl
  · have h1 := (hV a ha).2 s hs
    have h2 := (hV b hb).2 s hs
    have p1 := p2_le (show a + 1 ≤ F by omega)
    have p2 := p2_le (show b + 1 ≤ F by omega)
    have p3 := p2_bd i6
    rw [Int.pow_succ] at p1 p2
    unfold gSum
    rw [add_toInt (by omega) (by omega)]
    omega
theorem s_sum8 {a b : Nat} (hX : Iv X n 8 t) (ha : a < 8) (hb : b < 8) : f_X0_sum X (nI a) (nI b) = some (3, 0, X) := by
  unfold f_X0_sum f_X0_sum_21
  rw [ne1 (fn_ok hX.1.2.1 (by omega) ha), ne1 (fn_ok hX.1.2.1 (by omega) hb), nx1, z0, np_no hX.1.2.1, Option.bind_some, z3]
theorem s_con {a b : Nat} (h : Sm S X) (hI : Iv S n F t) (hF : F < 8) (ha : a < F) (hb : b < 2 ^ n) : ∃ X', f_X0_contract X (nI a) (nI b) = some (0, nI F, X') ∧ Sm (nS S n F (gCon (S.2 5) a b)) X' ∧ Iv (nS S n F (gCon (S.2 5) a b)) n (F + 1) t := by
  have hX := h.iv hI
  obtain ⟨⟨i1, i2, i3, i4, i5, i6, i7⟩, -⟩ := id hX
  have hV := hI.2.2.2.2.2.2.1
  have h6 := pow6 i5
  have h7 := pow1 n
  refine ⟨nS X n F (gCon (S.2 5) a b), ?_, nS_sm h n F _, iv_new hI hF (by unfold gCon; rw [Nat.zero_or]; exact Int32.sub_self _) (fun s hs => ?_)⟩
  · have l1 := con_loop i1 i5 i2 hF ha hb 70 0 (by omega) (by omega)
    unfold wS at l1
    rw [wv_0, sA_self, sm_r h (k := 5) (by decide)] at l1
    unfold f_X0_contract
    rw [fn_ok i2 i6 ha, nx1, z0, st_ok i1 i5 hb, nx1, z0, np_ok i2 hF, Option.bind_some, z0]
    exact l1
  · have h1 := (hV a ha).2 (s ||| b) (Nat.or_lt_two_pow hs hb)
    have h2 := (hV a ha).2 b hb
    have p1 := p2_le (show a + 1 ≤ F by omega)
    have p3 := p2_bd i6
    rw [Int.pow_succ] at p1
    unfold gCon
    rw [sub_toInt (by omega) (by omega)]
    omega
theorem s_con8 {a b : Nat} (hX : Iv X n 8 t) (ha : a < 8) (hb : b < 2 ^ n) : f_X0_contract X (nI a) (nI b) = some (3, 0, X) := by
  unfold f_X0_contract
  rw [fn_ok hX.1.2.1 (by omega) ha, nx1, z0, st_ok hX.1.1 hX.1.2.2.2.2.1 hb, nx1, z0, np_no hX.1.2.1, Option.bind_some, z3]
theorem s_cap {a p : Nat} (h : Sm S X) (hI : Iv S n F t) (hF : F < 8) (ha : a < F) (hp : p ≤ 100) : ∃ X', f_X0_cap X (nI a) (nI p) = some (0, nI F, X') ∧ Sm (nS S n F (gCap (S.2 5) a (nI p))) X' ∧ Iv (nS S n F (gCap (S.2 5) a (nI p))) n (F + 1) t := by
  have hX := h.iv hI
  obtain ⟨⟨i1, i2, i3, i4, i5, i6, i7⟩, -⟩ := id hX
  have hV := hI.2.2.2.2.2.2.1
  have h6 := pow6 i5
  have h7 := pow1 n
  refine ⟨nS X n F (gCap (S.2 5) a (nI p)), ?_, nS_sm h n F _, iv_new hI hF ?_ (fun s hs => ?_)⟩
  · have l1 := cap_loop (p := nI p) i1 i5 i2 hF ha 70 0 (by omega) (by omega)
    unfold wS at l1
    rw [wv_0, sA_self, sm_r h (k := 5) (by decide)] at l1
    unfold f_X0_cap
    rw [fn_ok i2 i6 ha, nx1, z0, (wi_100 hp), nx1, z0, np_ok i2 hF, Option.bind_some, z0]
    exact l1
  · unfold gCap
    rw [Nat.add_zero, (hV a ha).1, if_neg (nI_pos (by omega))]
  · have h1 := (hV a ha).2 s hs
    have p1 := p2_le (show a ≤ F by omega)
    have p3 := p2_bd i6
    have e : (nI p).toInt = (p : Int) := nI_toInt (by omega)
    unfold gCap
    split
    · rw [e]; omega
    · omega
theorem s_cap8 {a p : Nat} (hX : Iv X n 8 t) (ha : a < 8) (hp : p ≤ 100) : f_X0_cap X (nI a) (nI p) = some (3, 0, X) := by
  unfold f_X0_cap
  rw [fn_ok hX.1.2.1 (by omega) ha, nx1, z0, (wi_100 hp), nx1, z0, np_no hX.1.2.1, Option.bind_some, z3]
theorem s_value {a s : Nat} (h : Sm S X) (hI : Iv S n F t) (ha : a < F) (hs : s < 2 ^ n) : f_X0_value X (nI a) (nI s) = some (0, S.2 5 (64 * a + s), X) := by
  obtain ⟨⟨i1, i2, i3, i4, i5, i6, i7⟩, -⟩ := h.iv hI
  have h6 := pow6 i5
  unfold f_X0_value
  rw [fn_ok i2 i6 ha, nx1, z0, st_ok i1 i5 hs, nx1, z0, val_nI (by omega), sm_r h (k := 5) (by decide)]
theorem s_isLawful {a : Nat} (h : Sm S X) (hI : Iv S n F t) (ha : a < F) : f_X0_isLawful X (nI a) = some (0, bI (lwB S n a), X) := by
  obtain ⟨⟨i1, i2, i3, i4, i5, i6, i7⟩, hC, hE, hK, hRm, hW, hV, hO⟩ := h.iv hI
  unfold f_X0_isLawful
  rw [fn_ok i2 i6 ha, nx1, z0, hasLawX i1 i5 hV i6 ha, Option.bind_some, if_pos (bI_1 _), lwB_rel (S := S) (T := X) (sm_r h (by decide))]
theorem s_rises {a : Nat} (h : Sm S X) (hI : Iv S n F t) (ha : a < F) : f_X0_rises X (nI a) = some (0, bI (rsB S n a), X) := by
  obtain ⟨⟨i1, i2, i3, i4, i5, i6, i7⟩, hC, hE, hK, hRm, hW, hV, hO⟩ := h.iv hI
  have h6 := pow6 i5
  have h7 := pow1 n
  unfold f_X0_rises
  rw [fn_ok i2 i6 ha, nx1, z0, ← rsB_rel (S := S) (T := X) (sm_r h (by decide))]
  exact risX i1 i5 hV i6 ha 70 0 (by omega) (by omega) rfl
/-- the least value, and the sets that have it, out of all -/
def lsV (S : St) (n a : Nat) : Int32 := mnF (rowf S a) (2 ^ n)
def lsS (S : St) (n a : Nat) (p : Int32) : Nat := if p = 0 then mtF (rowf S a) (lsV S n a) n (2 ^ n) else whF (rowf S a) (lsV S n a) (2 ^ n)
theorem rowf_sm {a : Nat} (h : Sm S X) : rowf X a = rowf S a := by unfold rowf; rw [sm_r h (k := 5) (by decide)]
theorem lsV_sm {a : Nat} (h : Sm S X) : lsV X n a = lsV S n a := by unfold lsV; rw [rowf_sm h]
theorem lsS_sm {a : Nat} {p : Int32} (h : Sm S X) : lsS X n a p = lsS S n a p := by unfold lsS; rw [lsV_sm h, rowf_sm h]
theorem ls_at {a : Nat} (hI : Iv S n F t) (ha : a < F) (hL : lwB S n a = true) (p : Int32) : ∃ r, f_X0_leastBetween S 7 (nI a) 0 (f_X0_sets S - 1) p 0 = some (nI r) ∧ r < 2 ^ n ∧ lsS S n a p = r ∧ lsV S n a = S.2 5 (64 * a + r) := by
  obtain ⟨⟨i1, i2, i3, i4, i5, i6, i7⟩, hC, hE, hK, hRm, hW, hV, hO⟩ := id hI
  by_cases hq : p = 0
  · obtain ⟨r, r1, r2, r3⟩ := lb_all (g := false) (p := p) i1 i5 hV i6 ha hL ⟨fun _ => rfl, fun _ => hq⟩
    have e := mn_at hV ha r2 (fun s hs => (r3 s hs).1)
    refine ⟨r, r1, r2, ?_, e⟩
    unfold lsS lsV
    rw [if_pos hq, e]
    exact mt_at r2 (fun s hs h => by
      have := (r3 s hs).2 h
      rw [if_neg (by decide)] at this
      exact this)
  · obtain ⟨r, r1, r2, r3⟩ := lb_all (g := true) (p := p) i1 i5 hV i6 ha hL ⟨fun h => absurd h hq, fun h => absurd h (by decide)⟩
    have e := mn_at hV ha r2 (fun s hs => (r3 s hs).1)
    refine ⟨r, r1, r2, ?_, e⟩
    unfold lsS lsV
    rw [if_neg hq, e]
    exact wh_at r2 (fun s hs h => by
      have := (r3 s hs).2 h
      rw [if_pos rfl] at this
      exact this)
theorem s_least {a : Nat} (h : Sm S X) (hI : Iv S n F t) (ha : a < F) (hL : lwB S n a = true) : f_X0_least X (nI a) = some (0, lsV S n a, X) := by
  have hX := h.iv hI
  obtain ⟨⟨i1, i2, i3, i4, i5, i6, i7⟩, hC, hE, hK, hRm, hW, hV, hO⟩ := id hX
  have h6 := pow6 i5
  have hLX : lwB X n a = true := by rw [lwB_rel (S := S) (sm_r h (by decide))]; exact hL
  obtain ⟨r, r1, r2, r3, r4⟩ := ls_at hX ha hLX 0
  unfold f_X0_least
  rw [fn_ok i2 i6 ha, nx1, z0, hasLawX i1 i5 hV i6 ha, Option.bind_some, hLX, show bI true = 1 from rfl, nx1, z0, r1, Option.bind_some, val_nI (by omega), ← r4, lsV_sm h]
theorem s_leastSet {a : Nat} (h : Sm S X) (hI : Iv S n F t) (ha : a < F) (hL : lwB S n a = true) (p : Int32) : f_X0_leastSet X (nI a) p = some (0, nI (lsS S n a p), X) := by
  have hX := h.iv hI
  obtain ⟨⟨i1, i2, i3, i4, i5, i6, i7⟩, hC, hE, hK, hRm, hW, hV, hO⟩ := id hX
  have hLX : lwB X n a = true := by rw [lwB_rel (S := S) (sm_r h (by decide))]; exact hL
  obtain ⟨r, r1, r2, r3, r4⟩ := ls_at hX ha hLX p
  unfold f_X0_leastSet
  rw [fn_ok i2 i6 ha, nx1, z0, hasLawX i1 i5 hV i6 ha, Option.bind_some, hLX, show bI true = 1 from rfl, nx1, z0, r1, Option.bind_some, ← r3, lsS_sm h]
theorem s_leastSetAnew {a : Nat} (h : Sm S X) (hI : Iv S n F t) (ha : a < F) (hL : lwB S n a = true) (p : Int32) : f_X0_leastSetAnew X (nI a) p = some (0, nI (lsS S n a p), X) := by
  have hX := h.iv hI
  obtain ⟨⟨i1, i2, i3, i4, i5, i6, i7⟩, hC, hE, hK, hRm, hW, hV, hO⟩ := id hX
  have h6 := pow6 i5
  have h7 := pow1 n
  have hLX : lwB X n a = true := by rw [lwB_rel (S := S) (sm_r h (by decide))]; exact hL
  unfold f_X0_leastSetAnew
  rw [fn_ok i2 i6 ha, nx1, z0, hasLawX i1 i5 hV i6 ha, Option.bind_some, hLX, show bI true = 1 from rfl, nx1, z0]
  have l1 := leastX i1 i5 (show a < 8 by omega) p 70 0 (by omega) (by omega)
  have l2 := setsX i1 i5 (show a < 8 by omega) p (mnF (rowf X a) (2 ^ n)) 70 0 (by omega) (by omega)
  refine (l1.trans l2).trans ?_
  rw [← lsS_sm h]
  unfold lsS lsV
  split <;> rfl
theorem no_law {a : Nat} (h : Sm S X) (hI : Iv S n F t) (ha : a < F) (hL : lwB S n a = false) : f_X0_least X (nI a) = some (3, 0, X) ∧ ∀ p, f_X0_leastSet X (nI a) p = some (3, 0, X) ∧ f_X0_leastSetAnew X (nI a) p = some (3, 0, X) := by
  have hX := h.iv hI
  obtain ⟨⟨i1, i2, i3, i4, i5, i6, i7⟩, hC, hE, hK, hRm, hW, hV, hO⟩ := id hX
  have hLX : lwB X n a = false := by rw [lwB_rel (S := S) (sm_r h (by decide))]; exact hL
  refine ⟨?_, fun p => ⟨?_, ?_⟩⟩
  · unfold f_X0_least
    rw [fn_ok i2 i6 ha, nx1, z0, hasLawX i1 i5 hV i6 ha, Option.bind_some, hLX, show bI false = 0 from rfl, nx0, z3]
  · unfold f_X0_leastSet
    rw [fn_ok i2 i6 ha, nx1, z0, hasLawX i1 i5 hV i6 ha, Option.bind_some, hLX, show bI false = 0 from rfl, nx0, z3]
  · unfold f_X0_leastSetAnew
    rw [fn_ok i2 i6 ha, nx1, z0, hasLawX i1 i5 hV i6 ha, Option.bind_some, hLX, show bI false = 0 from rfl, nx0, z3]
end NEW

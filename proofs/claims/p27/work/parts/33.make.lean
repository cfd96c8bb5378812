/-! Told values, functions made: both classes write the same row. -/
theorem nx0 {k : Nat} : nx k 0 = k := if_pos rfl
theorem nx1 {k : Nat} : nx k 1 = 0 := if_neg one_ne
theorem Rel.iv {S T : St} {n F t : Nat} (h : Rel S T) (hI : Iv S n F t) : Iv T n F t := by
  obtain ⟨h0, h1, h2, hr⟩ := h
  obtain ⟨⟨i1, i2, i3, i4⟩, hC, hE, hK, hR, hW, hV, hO⟩ := hI
  refine ⟨⟨h0.trans i1, h1.trans i2, h2.trans i3, i4⟩, ?_, ?_, ?_, ?_, ?_, ?_, ?_⟩
  · unfold IvC; rw [hr 0 (by decide)]; exact hC
  · unfold IvE; rw [hr 1 (by decide)]; exact hE
  · unfold IvK; rw [hr 2 (by decide)]; exact hK
  · unfold IvR; rw [hr 3 (by decide)]; exact hR
  · unfold IvW; rw [hr 4 (by decide)]; exact hW
  · unfold IvV; rw [hr 5 (by decide)]; exact hV
  · unfold IvO; rw [hr 6 (by decide)]; exact hO
/-- what both answer: alike, or the class throws and the reference says so -/
def Ag (hs : List Nat) (S : St) (x : Option (Nat × Int32 × St)) (y : Option (Int32 × St)) : Prop :=
  (∃ (v : Int32) (S' T' : St) (n F t : Nat), x = some (0, v, S') ∧ y = some (v, T') ∧ T'.1 3 = 0 ∧ Rel S' T' ∧ Iv S' n F t) ∨
  (∃ (i e : Nat) (w b : Int32) (S' T' : St), hs[i]? = some e ∧ x = some (e, w, S') ∧ y = some (b, T') ∧ T'.1 3 = nI (i + 1) ∧ Rel S T')
theorem Ag.ok {hs : List Nat} {S : St} {x : Option (Nat × Int32 × St)} {y : Option (Int32 × St)} {v : Int32} {S' T' : St} {n F t : Nat} (h1 : x = some (0, v, S')) (h2 : y = some (v, T')) (h3 : T'.1 3 = 0) (h4 : Rel S' T') (h5 : Iv S' n F t) : Ag hs S x y := Or.inl ⟨v, S', T', n, F, t, h1, h2, h3, h4, h5⟩
theorem Ag.no {hs : List Nat} {S : St} {x : Option (Nat × Int32 × St)} {y : Option (Int32 × St)} {w b : Int32} {S' T' : St} (i e : Nat) (h0 : hs[i]? = some e) (h1 : x = some (e, w, S')) (h2 : y = some (b, T')) (h3 : T'.1 3 = nI (i + 1)) (h4 : Rel S T') : Ag hs S x y := Or.inr ⟨i, e, w, b, S', T', h0, h1, h2, h3, h4⟩
theorem sA_sA (S : St) (k : Nat) (f g : Nat → Int32) : sA (sA S k f) k g = sA S k g := by
  unfold sA
  congr 1
  funext j
  by_cases h : j = k
  · rw [if_pos h, if_pos h]
  · rw [if_neg h, if_neg h]; exact if_neg h
theorem sA_self (S : St) (k : Nat) : sA S k (S.2 k) = S := by
  unfold sA
  refine Prod.ext rfl ?_
  funext j
  by_cases h : j = k
  · show (if j = k then _ else _) = _
    rw [if_pos h, h]
  · exact if_neg h
/-- the row of values, written up to a set -/
def wv (f : Nat → Int32) (F : Nat) (g : Nat → Int32) (i : Nat) : Nat → Int32 := fun j => if 64 * F ≤ j ∧ j < 64 * F + i then g (j - 64 * F) else f j
theorem wv_0 (f : Nat → Int32) (F : Nat) (g : Nat → Int32) : wv f F g 0 = f := by
  funext j
  exact if_neg (by omega)
theorem wv_step (f : Nat → Int32) (F : Nat) (g : Nat → Int32) (i : Nat) : upd (wv f F g i) (64 * F + i) (g i) = wv f F g (i + 1) := by
  funext j
  unfold upd wv
  by_cases h : j = 64 * F + i
  · rw [if_pos h, if_pos (by omega), show j - 64 * F = i by omega]
  · rw [if_neg h]
    by_cases h2 : 64 * F ≤ j ∧ j < 64 * F + i
    · rw [if_pos h2, if_pos (by omega)]
    · rw [if_neg h2, if_neg (by omega)]
theorem wv_low {f : Nat → Int32} {F : Nat} {g : Nat → Int32} {i j : Nat} (h : j < 64 * F) : wv f F g i j = f j := if_neg (by omega)
theorem wv_at {f : Nat → Int32} {F : Nat} {g : Nat → Int32} {i s : Nat} (h : s < i) : wv f F g i (64 * F + s) = g s := by
  unfold wv
  rw [if_pos (by omega), show 64 * F + s - 64 * F = s by omega]
theorem val_nI {S : St} {k s : Nat} (h : 64 * k + s < 512) : f_X0_valueOf S (nI k) (nI s) = S.2 5 (64 * k + s) := by
  unfold f_X0_valueOf
  rw [mul64, at_nI h (by omega)]
theorem iv_new {S : St} {n F t : Nat} (hI : Iv S n F t) (hF : F < 8) {g : Nat → Int32} (h0 : g 0 = 0) (hb : ∀ s, s < 2 ^ n → -(720 * 2 ^ F : Int) ≤ (g s).toInt ∧ (g s).toInt ≤ 720 * 2 ^ F) : Iv (sS (sA S 5 (wv (S.2 5) F g (2 ^ n))) 1 (nI (F + 1))) n (F + 1) t := by
  obtain ⟨⟨i1, i2, i3, i4, i5, i6, i7⟩, hC, hE, hK, hR, hW, hV, hO⟩ := hI
  have h6 := pow6 i5
  have h7 := pow1 n
  refine ⟨⟨i1, rfl, i3, i4, i5, by omega, i7⟩, hC, hE, hK, hR, hW, ?_, hO⟩
  intro k hk
  show wv (S.2 5) F g (2 ^ n) (64 * k) = 0 ∧ ∀ s, s < 2 ^ n → -(720 * 2 ^ k : Int) ≤ (wv (S.2 5) F g (2 ^ n) (64 * k + s)).toInt ∧ (wv (S.2 5) F g (2 ^ n) (64 * k + s)).toInt ≤ 720 * 2 ^ k
  by_cases h : k < F
  · obtain ⟨v1, v2⟩ := hV k h
    refine ⟨by rw [wv_low (by omega)]; exact v1, fun s hs => ?_⟩
    rw [wv_low (by omega)]
    exact v2 s hs
  · have hkF : k = F := by omega
    subst hkF
    refine ⟨by rw [show 64 * k = 64 * k + 0 by omega, wv_at (by omega)]; exact h0, fun s hs => ?_⟩
    rw [wv_at hs]
    exact hb s hs
theorem rel_new {S T : St} (h : Rel S T) (f : Nat → Int32) (x : Int32) : Rel (sS (sA S 5 f) 1 x) (sS (sA T 5 f) 1 x) := by
  refine ⟨h.1, rfl, h.2.2.1, fun k hk => ?_⟩
  show (if k = 5 then f else T.2 k) = (if k = 5 then f else S.2 k)
  rw [h.2.2.2 k hk]
theorem p2_le {k F : Nat} (h : k ≤ F) : (2 : Int) ^ k ≤ 2 ^ F := by
  have h1 : 2 ^ k ≤ 2 ^ F := Nat.pow_le_pow_right (by omega) h
  have h2 : ((2 ^ k : Nat) : Int) ≤ ((2 ^ F : Nat) : Int) := by exact_mod_cast h1
  simpa using h2
theorem p2_bd {F : Nat} (h : F ≤ 8) : (1 : Int) ≤ 2 ^ F ∧ (2 : Int) ^ F ≤ 256 := ⟨by have := p2_le (show 0 ≤ F by omega); simpa using this, by have := p2_le h; simpa using this⟩
/-- needPlace and the reference's question -/
theorem np_test {S T : St} {F : Nat} (hS : S.1 1 = nI F) (hT : T.1 1 = nI F) (hF : F ≤ 8) : (f_X0_needPlace S = some 3 ∧ T.1 1 = 8) ∨ (F < 8 ∧ f_X0_needPlace S = some 0 ∧ ¬ T.1 1 = 8) := by
  unfold f_X0_needPlace f_X0_needPlace_14
  rw [hS, hT]
  by_cases h : F = 8
  · subst h
    exact Or.inl ⟨by decide, rfl⟩
  · right
    refine ⟨by omega, ?_, nI_ne (b := 8) h (by omega) (by omega)⟩
    rw [if_neg (show ¬ (8 : Int32) ≤ nI F from nI_ge (a := F) (b := 8) (by omega) (by omega)), nx1]
    rfl
-- ---- told values
def tv (S : St) (n j s : Nat) : Int32 := if j = 0 then nI (pc (cvF S s n)) else if j = 1 then nI (ctF S s n) else if j = 2 then nI (rkF S n 0 s) else if j = 3 then nI (rkF S n 1 s) else wtF S s n
theorem tvX {S : St} {n j s : Nat} (hn : S.1 0 = nI n) (hn6 : n ≤ 6) (hC : IvC S) (hE : IvE S) (hK : IvK S) (hR : IvR S) (hs : s < 64) (hj : j ≤ 4) : f_X0_toldValue S (nI j) (nI s) = some (tv S n j s) := by
  rcases (show j = 0 ∨ j = 1 ∨ j = 2 ∨ j = 3 ∨ j = 4 by omega) with rfl | rfl | rfl | rfl | rfl
  · show (f_X0_coverValue S (nI s)).bind _ = _
    rw [show f_X0_coverValue S (nI s) = some (nI (pc (cvF S s n))) from cov_loop hn hn6 hC (by omega) 70 0 (by omega) (by omega)]
    rfl
  · show (f_X0_cutValue S (nI s)).bind _ = _
    rw [show f_X0_cutValue S (nI s) = some (nI (ctF S s n)) from (cut_out hn hn6 hE (by omega) 70 0 (by omega) (by omega)).trans (by rw [cut_eq hE s hn6])]
    rfl
  · show (f_X0_rankValue S (nI 0) (nI s)).bind _ = _
    rw [show f_X0_rankValue S (nI 0) (nI s) = some (nI (rkF S n 0 s)) from rank_loop hn hn6 hK hR (by omega) (by omega) 70 0 (by omega) (by omega)]
    rfl
  · show (f_X0_rankValue S (nI 1) (nI s)).bind _ = _
    rw [show f_X0_rankValue S (nI 1) (nI s) = some (nI (rkF S n 1 s)) from rank_loop hn hn6 hK hR (by omega) (by omega) 70 0 (by omega) (by omega)]
    rfl
  · show (f_X0_weightsValue S (nI s)).bind _ = _
    rw [show f_X0_weightsValue S (nI s) = some (wtF S s n) from wt_loop hn hn6 (by omega) 70 0 (by omega) (by omega)]
    rfl
/-- the same of two states that are alike in what is told -/
theorem tv_congr {S T : St} (h : ∀ k, k < 5 → T.2 k = S.2 k) (n j s : Nat) : tv T n j s = tv S n j s := by
  have hc : ∀ i, cvF T s i = cvF S s i := fun i => by
    induction i with
    | zero => rfl
    | succ i ih => rw [cvF, cvF, ih, h 0 (by decide)]
  have hw : ∀ i, wtF T s i = wtF S s i := fun i => by
    induction i with
    | zero => rfl
    | succ i ih => rw [wtF, wtF, ih, h 4 (by decide)]
  have he : ctF T s n = ctF S s n := by
    unfold ctF cE wE
    rw [h 1 (by decide)]
  have hr : ∀ f, rkF T n f s = rkF S n f s := fun f => by
    unfold rkF ct cl rm_
    rw [h 2 (by decide), h 3 (by decide)]
  unfold tv
  rw [hc, hw, he, hr, hr]
theorem pc_le (s : Nat) : pc s ≤ 10 := cn_le _ 10
theorem tv_zero (S : St) (n j : Nat) : tv S n j 0 = 0 := by
  have hc : ∀ i, cvF S 0 i = 0 := fun i => by
    induction i with
    | zero => rfl
    | succ i ih => rw [cvF, Nat.zero_testBit, if_neg (by decide)]; exact ih
  have hw : ∀ i, wtF S 0 i = 0 := fun i => by
    induction i with
    | zero => rfl
    | succ i ih => rw [wtF, Nat.zero_testBit, if_neg (by decide)]; exact ih
  have he : ctF S 0 n = 0 := by
    unfold ctF
    rw [sm_congr (g := fun _ => 0) (fun a _ => by
      rw [sm_congr (g := fun _ => 0) (fun b _ => by unfold cE; rw [Nat.zero_testBit]; exact if_neg (by decide)), sm_const, Nat.zero_mul]), sm_const, Nat.zero_mul]
  have ht : ∀ f c, ct S n f c 0 = 0 := fun f c => by
    unfold ct
    have : ∀ i, cn (fun e => Nat.testBit 0 e && decide (cl S f e = c)) i = 0 := fun i => by
      induction i with
      | zero => rfl
      | succ i ih => rw [cn, ih, Nat.zero_testBit]; rfl
    exact this n
  have hr : ∀ f, rkF S n f 0 = 0 := fun f => by
    unfold rkF
    rw [sm_congr (g := fun _ => 0) (fun c _ => by rw [ht, Nat.zero_min]), sm_const, Nat.zero_mul]
  unfold tv
  rw [hc, hw, he, hr, hr]
  repeat' split
  all_goals rfl
theorem tv_bd {S : St} {n j s : Nat} (hn6 : n ≤ 6) (hE : IvE S) (hR : IvR S) (hW : IvW S) : -720 ≤ (tv S n j s).toInt ∧ (tv S n j s).toInt ≤ 720 := by
  have hN : ∀ m : Nat, m ≤ 720 → -720 ≤ (nI m).toInt ∧ (nI m).toInt ≤ 720 := fun m hm => by
    rw [nI_toInt (by omega)]; omega
  have he : ctF S s n ≤ 720 := by
    unfold ctF
    have h1 : sm (fun a => sm (cE S s a) n) n ≤ sm (fun _ => 120) n := sm_le (fun a ha => by
      have h2 : sm (cE S s a) n ≤ sm (fun _ => 20) n := sm_le (fun b hb => by
        have := (wE_of hE (show a < 6 by omega) (show b < 6 by omega)).2
        unfold cE
        repeat' split
        all_goals omega)
      rw [sm_const] at h2
      omega)
    rw [sm_const] at h1
    omega
  have hr : ∀ f, f < 2 → rkF S n f s ≤ 720 := fun f hf => by
    unfold rkF
    have h1 : sm (fun c => min (ct S n f c s) (rm_ S f c)) 6 ≤ sm (fun _ => 6) 6 := sm_le (fun c hc => by
      have := (rm_of hR hf hc).2
      exact Nat.le_trans (Nat.min_le_right _ _) this)
    rw [sm_const] at h1
    omega
  have hp := pc_le (cvF S s n)
  unfold tv
  split
  · exact hN _ (by omega)
  · split
    · exact hN _ he
    · split
      · exact hN _ (hr 0 (by omega))
      · split
        · exact hN _ (hr 1 (by omega))
        · have := wtF_bd hW s n hn6
          omega

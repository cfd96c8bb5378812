/-! leastBetween finds the least or greatest of the least sets of a range. -/
def Nw (S : St) (a : Nat) (g : Bool) (lo hi lo' hi' : Nat) : Prop := sub lo lo' ∧ sub hi' hi ∧ sub lo' hi' ∧ ∀ r, Ext S a g lo' hi' r → Ext S a g lo hi r
theorem nw_rfl {S : St} {a lo hi : Nat} {g : Bool} (h : sub lo hi) : Nw S a g lo hi lo hi := ⟨sub_rfl lo, sub_rfl hi, h, fun _ x => x⟩
theorem nw_trans {S : St} {a lo hi l1 h1 l2 h2 : Nat} {g : Bool} (x : Nw S a g lo hi l1 h1) (y : Nw S a g l1 h1 l2 h2) : Nw S a g lo hi l2 h2 := ⟨sub_trans x.1 y.1, sub_trans y.2.1 x.2.1, y.2.2.1, fun r hr => x.2.2.2 r (y.2.2.2 r hr)⟩
def dff (x y : Nat) : Nat := x &&& (x ^^^ y)
set_option maxRecDepth 100000 in
theorem dff_all : (List.range 64).all (fun x => (List.range 64).all (fun y => decide (nI x &&& (nI y ^^^ (-1)) = nI (dff x y)))) = true := by decide +kernel
theorem dff_nI {x y : Nat} (hx : x < 64) (hy : y < 64) : nI x &&& (nI y ^^^ (-1)) = nI (dff x y) := of_decide_eq_true (List.all_eq_true.mp (List.all_eq_true.mp dff_all x (List.mem_range.mpr hx)) y (List.mem_range.mpr hy))
theorem tb_dff (x y i : Nat) : (dff x y).testBit i = (x.testBit i && !y.testBit i) := by
  unfold dff
  rw [Nat.testBit_and, Nat.testBit_xor]
  cases x.testBit i <;> cases y.testBit i <;> rfl
theorem cn_mono {P Q : Nat → Bool} (h : ∀ i, P i = true → Q i = true) : ∀ n, cn P n ≤ cn Q n := fun n => by
  induction n with
  | zero => exact Nat.le_refl 0
  | succ n ih =>
    rw [cn, cn]
    cases c : P n with
    | true => rw [h n c]; omega
    | false => rw [if_neg (by decide)]; omega
def oc (lo hi : Nat) : Nat := cn (fun i => hi.testBit i && !lo.testBit i) 10
theorem oc_mono {lo hi lo' hi' : Nat} (h1 : sub lo lo') (h2 : sub hi' hi) : oc lo' hi' ≤ oc lo hi := cn_mono (fun i h => by
  rw [Bool.and_eq_true] at h ⊢
  refine ⟨h2 i h.1, ?_⟩
  cases c : lo.testBit i with
  | false => rfl
  | true => rw [h1 i c] at h; exact absurd h.2 (by decide)) 10
theorem oc_in {lo hi e : Nat} (he : e < 10) (h1 : hi.testBit e = true) (h0 : lo.testBit e = false) : oc lo hi = oc (lo ||| 2 ^ e) hi + 1 := by
  unfold oc
  rw [cn_upd (P := fun i => hi.testBit i && !(lo ||| 2 ^ e).testBit i) (e := e) (by rw [tb_or, decide_eq_true rfl, Bool.or_true]; exact Bool.and_false _) (by rw [h1, h0]; rfl) (fun i hi2 => by rw [tb_or, decide_eq_false (Ne.symm hi2), Bool.or_false]) 10, if_pos he]
theorem oc_out {lo hi e : Nat} (hh : hi < 1024) (he : e < 10) (h1 : hi.testBit e = true) (h0 : lo.testBit e = false) : oc lo hi = oc lo (wo hi e) + 1 := by
  unfold oc
  rw [cn_upd (P := fun i => (wo hi e).testBit i && !lo.testBit i) (e := e) (by rw [wo_self hh he]; rfl) (by rw [h1, h0]; rfl) (fun i hi2 => by rw [tb_wo hh he, decide_eq_false (Ne.symm hi2)]; cases hi.testBit i <;> rfl) 10, if_pos he]
section LB
variable {S : St} {n F a : Nat} {g : Bool} {p : Int32}
theorem in_loop (hn : S.1 0 = nI n) (hn6 : n ≤ 6) (hV : IvV S n F) (hF : F ≤ 8) (ha : a < F) (hL : lwB S n a = true) (hp : p = 0 ↔ g = false) (q : Int32) {hi : Nat} (hh : hi < 2 ^ n) : ∀ k e lo, e ≤ n → n < e + k → sub lo hi → ∃ lo', f_X0_takenIn_6 S (nI a) q (nI hi) p k (nI lo) (nI e) = some (nI lo') ∧ Nw S a g lo hi lo' hi := fun k => by
  have h6 := pow6 hn6
  induction k with
  | zero => intro e lo h1 h2; omega
  | succ k ih =>
    intro e lo h1 h2 hs
    have hlo := sub_lt hs hh
    rw [f_X0_takenIn_6, hn]
    by_cases he : e = n
    · rw [if_pos (by rw [he]; exact nI_le (Nat.le_refl n) (by omega))]
      exact ⟨lo, rfl, nw_rfl hs⟩
    · rw [if_neg (nI_ge (a := e) (b := n) (by omega) (by omega))]
      have hnext := ih (e + 1) lo (by omega) (by omega) hs
      cases c : hi.testBit e with
      | false =>
        rw [hasF (by omega) (by omega) c, if_pos rfl]
        unfold bnd
        rw [nI_1]
        exact hnext
      | true =>
        rw [hasT (by omega) (by omega) c, if_neg one_ne]
        cases d : lo.testBit e with
        | true =>
          rw [hasT (by omega) (by omega) d, if_neg one_ne]
          unfold bnd
          rw [nI_1]
          exact hnext
        | false =>
          rw [hasF (by omega) (by omega) d, if_pos rfl]
          have htake : (gn S a lo e < 0 ∨ (gn S a lo e = 0 ∧ g = true)) → ∃ lo', f_X0_takenIn_60 S (nI a) q (nI hi) p (f_X0_takenIn_6 S (nI a) q (nI hi) p k) (nI lo) (nI e) = some (nI lo') ∧ Nw S a g lo hi lo' hi := fun hg => by
            unfold f_X0_takenIn_60 bnd
            rw [with_nI (by omega), nI_1]
            obtain ⟨lo', y1, y2⟩ := ih (e + 1) (lo ||| 2 ^ e) (by omega) (by omega) (sub_or hs c)
            exact ⟨lo', y1, nw_trans ⟨sub_or_self lo e, sub_rfl hi, sub_or hs c, fun r hr => ext_in hL hn6 hh hs (by omega) c hg hr⟩ y2⟩
          have hgi := gain_toInt hV hF hn6 ha hlo (show e < n by omega)
          unfold bnd
          show ∃ lo', (if f_X0_gain S (nI a) (nI lo) (nI e) < 0 then _ else _) = _ ∧ _
          by_cases h0 : f_X0_gain S (nI a) (nI lo) (nI e) < 0
          · rw [if_pos h0]
            rw [Int32.lt_iff_toInt_lt, hgi] at h0
            exact htake (Or.inl h0)
          · rw [if_neg h0]
            by_cases h3 : f_X0_gain S (nI a) (nI lo) (nI e) = 0
            · rw [if_pos h3]
              have h4 : gn S a lo e = 0 := by rw [← hgi, h3]; decide
              by_cases hp0 : p = 0
              · rw [if_pos hp0, nI_1]
                exact hnext
              · rw [if_neg hp0]
                refine htake (Or.inr ⟨h4, ?_⟩)
                cases hgg : g with
                | true => rfl
                | false => exact absurd (hp.mpr hgg) hp0
            · rw [if_neg h3, nI_1]
              exact hnext
theorem out_loop (hn : S.1 0 = nI n) (hn6 : n ≤ 6) (hV : IvV S n F) (hF : F ≤ 8) (ha : a < F) (hL : lwB S n a = true) (hp : p = 0 ↔ g = false) (q : Int32) {lo : Nat} : ∀ k e hi, hi < 2 ^ n → e ≤ n → n < e + k → sub lo hi → ∃ hi', f_X0_takenOut_6 S (nI a) (nI lo) q p k (nI hi) (nI e) = some (nI hi') ∧ Nw S a g lo hi lo hi' := fun k => by
  have h6 := pow6 hn6
  induction k with
  | zero => intro e lo h1 h2; omega
  | succ k ih =>
    intro e hi hh h1 h2 hs
    have hlo := sub_lt hs hh
    rw [f_X0_takenOut_6, hn]
    by_cases he : e = n
    · rw [if_pos (by rw [he]; exact nI_le (Nat.le_refl n) (by omega))]
      exact ⟨hi, rfl, nw_rfl hs⟩
    · rw [if_neg (nI_ge (a := e) (b := n) (by omega) (by omega))]
      have hnext := ih (e + 1) hi hh (by omega) (by omega) hs
      cases c : hi.testBit e with
      | false =>
        rw [hasF (by omega) (by omega) c, if_pos rfl]
        unfold bnd
        rw [nI_1]
        exact hnext
      | true =>
        rw [hasT (by omega) (by omega) c, if_neg one_ne]
        cases d : lo.testBit e with
        | true =>
          rw [hasT (by omega) (by omega) d, if_neg one_ne]
          unfold bnd
          rw [nI_1]
          exact hnext
        | false =>
          rw [hasF (by omega) (by omega) d, if_pos rfl]
          have hw : wo hi e < 2 ^ n := Nat.lt_of_le_of_lt (wo_le hi e) hh
          have hsw : sub lo (wo hi e) := sub_wo (by omega) (by omega) hs d
          have htake : (0 < gn S a (wo hi e) e ∨ (gn S a (wo hi e) e = 0 ∧ g = false)) → ∃ hi', f_X0_takenOut_65 S (nI a) (nI lo) q p (f_X0_takenOut_6 S (nI a) (nI lo) q p k) (nI hi) (nI e) = some (nI hi') ∧ Nw S a g lo hi lo hi' := fun hg => by
            unfold f_X0_takenOut_65 bnd
            rw [without_nI (by omega) (by omega), nI_1]
            obtain ⟨hi', y1, y2⟩ := ih (e + 1) (wo hi e) hw (by omega) (by omega) hsw
            exact ⟨hi', y1, nw_trans ⟨sub_rfl lo, wo_sub (by omega) (by omega), hsw, fun r hr => ext_out hL hn6 hh (by omega) c d hg hr⟩ y2⟩
          have hgi := gain_toInt hV hF hn6 ha hw (show e < n by omega)
          unfold bnd
          rw [without_nI (by omega) (by omega)]
          show ∃ lo', (if 0 < f_X0_gain S (nI a) (nI (wo hi e)) (nI e) then _ else _) = _ ∧ _
          by_cases h0 : 0 < f_X0_gain S (nI a) (nI (wo hi e)) (nI e)
          · rw [if_pos h0]
            rw [Int32.lt_iff_toInt_lt, hgi] at h0
            exact htake (Or.inl h0)
          · rw [if_neg h0]
            by_cases h3 : f_X0_gain S (nI a) (nI (wo hi e)) (nI e) = 0
            · rw [if_pos h3]
              have h4 : gn S a (wo hi e) e = 0 := by rw [← hgi, h3]; decide
              by_cases hp0 : p = 0
              · rw [if_pos hp0]
                exact htake (Or.inr ⟨h4, hp.mp hp0⟩)
              · rw [if_neg hp0, nI_1]
                exact hnext
            · rw [if_neg h3, nI_1]
              exact hnext
theorem low_loop (hn : S.1 0 = nI n) (hn6 : n ≤ 6) {x : Nat} (hx : x < 1024) : ∀ k e, e ≤ n → n < e + k → (∀ i, i < e → x.testBit i = false) → (f_X0_lowest_2 S (nI x) k (nI e) = some (-1) ∧ ∀ i, i < n → x.testBit i = false) ∨ ∃ j, j < n ∧ x.testBit j = true ∧ f_X0_lowest_2 S (nI x) k (nI e) = some (nI j) := fun k => by
  induction k with
  | zero => intro e h1 h2; omega
  | succ k ih =>
    intro e h1 h2 h3
    rw [f_X0_lowest_2, hn]
    by_cases he : e = n
    · rw [if_pos (by rw [he]; exact nI_le (Nat.le_refl n) (by omega))]
      exact Or.inl ⟨rfl, by rw [← he]; exact h3⟩
    · rw [if_neg (nI_ge (a := e) (b := n) (by omega) (by omega))]
      cases c : x.testBit e with
      | true =>
        rw [hasT (by omega) (by omega) c, if_neg one_ne]
        exact Or.inr ⟨e, by omega, c, rfl⟩
      | false =>
        rw [hasF (by omega) (by omega) c, if_pos rfl]
        unfold bnd
        rw [nI_1]
        refine ih (e + 1) (by omega) (by omega) (fun i hi => ?_)
        by_cases d : i = e
        · rw [d]; exact c
        · exact h3 i (by omega)
theorem nI_neg1 {j : Nat} (h : j < 2 ^ 31) : ¬ nI j = -1 := fun c => nI_pos h (by rw [c]; decide)
theorem lb_end (hn : S.1 0 = nI n) (hn6 : n ≤ 6) (hV : IvV S n F) (hF : F ≤ 8) (ha : a < F) (hL : lwB S n a = true) (hp : p = 0 ↔ g = false) (q1 q2 : Int32) {d : Nat} (hd7 : d + 1 ≤ 7) (rec : Int32 → Int32 → Int32 → Int32 → Int32 → Option Int32)
    (hrec : ∀ lo hi, sub lo hi → hi < 2 ^ n → oc lo hi < d → ∃ r, rec (nI a) (nI lo) (nI hi) p (nI (7 - d)) = some (nI r) ∧ Ext S a g lo hi r)
    {lo hi : Nat} (hs : sub lo hi) (hh : hi < 2 ^ n) (ho : oc lo hi < d + 1) : ∃ r, f_X0_leastBetween_75 S (nI a) q1 q2 p (nI (7 - (d + 1))) rec (nI lo) (nI hi) = some (nI r) ∧ Ext S a g lo hi r := by
  have h6 := pow6 hn6
  have hlo := sub_lt hs hh
  unfold f_X0_leastBetween_75
  rw [dff_nI (by omega) (by omega)]
  have hdl : dff hi lo < 1024 := Nat.lt_of_le_of_lt Nat.and_le_left (show hi < 1024 by omega)
  rcases low_loop hn hn6 hdl 70 0 (by omega) (by omega) (fun i hi => absurd hi (by omega)) with ⟨e1, e2⟩ | ⟨j, hj, e2, e1⟩
  · rw [show f_X0_lowest S (nI (dff hi lo)) = _ from e1, Option.bind_some, if_pos rfl]
    refine ⟨lo, rfl, ?_⟩
    have : lo = hi := sub_eq hs (fun i hi2 => by
      by_cases c : i < n
      · have h3 := e2 i c
        rw [tb_dff, hi2] at h3
        cases h4 : lo.testBit i with
        | true => rfl
        | false => rw [h4] at h3; exact absurd h3 (by decide)
      · rw [tb_hi hh (by omega)] at hi2; exact absurd hi2 (by decide))
    rw [← this]
    exact ext_pt lo
  · rw [show f_X0_lowest S (nI (dff hi lo)) = _ from e1, Option.bind_some, if_neg (nI_neg1 (by omega))]
    rw [tb_dff, Bool.and_eq_true] at e2
    obtain ⟨c1, c2⟩ := e2
    have c0 : lo.testBit j = false := by
      cases h4 : lo.testBit j with
      | false => rfl
      | true => rw [h4] at c2; exact absurd c2 (by decide)
    have o1 := oc_in (show j < 10 by omega) c1 c0
    have o2 := oc_out (show hi < 1024 by omega) (show j < 10 by omega) c1 c0
    rw [if_pos (show nI (7 - (d + 1)) < 6 from nI_lt (a := 7 - (d + 1)) (b := 6) (by omega) (by omega)), with_nI (by omega), without_nI (by omega) (by omega), nI_1, show 7 - (d + 1) + 1 = 7 - d by omega]
    have hw : wo hi j < 2 ^ n := Nat.lt_of_le_of_lt (wo_le hi j) hh
    obtain ⟨h, x1, x2⟩ := hrec (lo ||| 2 ^ j) hi (sub_or hs c1) hh (by omega)
    obtain ⟨l, y1, y2⟩ := hrec lo (wo hi j) (sub_wo (by omega) (by omega) hs c0) hw (by omega)
    rw [x1, Option.bind_some, y1, Option.bind_some]
    have hhn := sub_lt x2.2.1 hh
    have hln := sub_lt y2.2.1 hw
    have b1 := vl_bd hV hF ha hhn
    have b2 := vl_bd hV hF ha hln
    rw [val_nI (by omega), val_nI (by omega)]
    have hdi : (S.2 5 (64 * a + h) - S.2 5 (64 * a + l)).toInt = vl S a h - vl S a l := by
      unfold vl at b1 b2
      rw [sub_toInt (by omega) (by omega)]
      rfl
    unfold bnd
    show ∃ r, (if S.2 5 (64 * a + h) - S.2 5 (64 * a + l) < 0 then _ else _) = _ ∧ _
    by_cases h0 : S.2 5 (64 * a + h) - S.2 5 (64 * a + l) < 0
    · rw [if_pos h0]
      rw [Int32.lt_iff_toInt_lt, hdi] at h0
      have h0' : vl S a h - vl S a l < 0 := h0
      exact ⟨h, rfl, ext_having hL hn6 hh c1 hj x2 y2 (Or.inl (by omega))⟩
    · rw [if_neg h0]
      rw [Int32.lt_iff_toInt_lt, hdi] at h0
      have h0' : ¬ vl S a h - vl S a l < 0 := h0
      by_cases h3 : S.2 5 (64 * a + h) - S.2 5 (64 * a + l) = 0
      · rw [if_pos h3]
        have h4 : vl S a h - vl S a l = 0 := by rw [← hdi, h3]; decide
        by_cases hp0 : p = 0
        · rw [if_pos hp0]
          exact ⟨l, rfl, ext_lacking hL hn6 hh c1 hj x2 y2 (Or.inr ⟨by omega, hp.mp hp0⟩)⟩
        · rw [if_neg hp0]
          refine ⟨h, rfl, ext_having hL hn6 hh c1 hj x2 y2 (Or.inr ⟨by omega, ?_⟩)⟩
          cases hgg : g with
          | true => rfl
          | false => exact absurd (hp.mpr hgg) hp0
      · rw [if_neg h3]
        have h4 : vl S a h - vl S a l ≠ 0 := fun h5 => h3 (by
          apply Int32.toInt_inj.mp
          rw [hdi, h5]; decide)
        exact ⟨l, rfl, ext_lacking hL hn6 hh c1 hj x2 y2 (Or.inl (by omega))⟩
theorem lb_rounds (hn : S.1 0 = nI n) (hn6 : n ≤ 6) (hV : IvV S n F) (hF : F ≤ 8) (ha : a < F) (hL : lwB S n a = true) (hp : p = 0 ↔ g = false) (q1 q2 : Int32) {d : Nat} (hd7 : d + 1 ≤ 7) (rec : Int32 → Int32 → Int32 → Int32 → Int32 → Option Int32)
    (hrec : ∀ lo hi, sub lo hi → hi < 2 ^ n → oc lo hi < d → ∃ r, rec (nI a) (nI lo) (nI hi) p (nI (7 - d)) = some (nI r) ∧ Ext S a g lo hi r) : ∀ k i lo hi, i ≤ n → n < i + k → sub lo hi → hi < 2 ^ n → oc lo hi < d + 1 → ∃ r, f_X0_leastBetween_9 S (nI a) q1 q2 p (nI (7 - (d + 1))) rec k (nI lo) (nI hi) (nI i) = some (nI r) ∧ Ext S a g lo hi r := fun k => by
  have h6 := pow6 hn6
  induction k with
  | zero => intro i lo hi h1 h2; omega
  | succ k ih =>
    intro i lo hi h1 h2 hs hh ho
    have hend := lb_end hn hn6 hV hF ha hL hp q1 q2 hd7 rec hrec hs hh ho
    rw [f_X0_leastBetween_9, hn]
    by_cases he : i = n
    · rw [if_pos (by rw [he]; exact nI_le (Nat.le_refl n) (by omega))]
      exact hend
    · rw [if_neg (nI_ge (a := i) (b := n) (by omega) (by omega))]
      obtain ⟨lo', x1, x2⟩ := in_loop (g := g) hn hn6 hV hF ha hL hp (nI lo) hh 70 0 lo (by omega) (by omega) hs
      obtain ⟨hi', y1, y2⟩ := out_loop (g := g) hn hn6 hV hF ha hL hp (nI hi) (lo := lo') 70 0 hi hh (by omega) (by omega) x2.2.2.1
      rw [show f_X0_takenIn S (nI a) (nI lo) (nI hi) p = _ from x1, Option.bind_some, show f_X0_takenOut S (nI a) (nI lo') (nI hi) p = _ from y1, Option.bind_some]
      have hnw := nw_trans x2 y2
      have hh' := sub_lt hnw.2.1 hh
      have hgo : ∃ r, f_X0_leastBetween_61 S (nI a) q1 q2 p (nI (7 - (d + 1))) rec (f_X0_leastBetween_9 S (nI a) q1 q2 p (nI (7 - (d + 1))) rec k) (nI i) (nI lo') (nI hi') = some (nI r) ∧ Ext S a g lo hi r := by
        unfold f_X0_leastBetween_61 bnd
        rw [nI_1]
        have hom := oc_mono hnw.1 hnw.2.1
        obtain ⟨r, r1, r2⟩ := ih (i + 1) lo' hi' (by omega) (by omega) hnw.2.2.1 hh' (by omega)
        exact ⟨r, r1, hnw.2.2.2 r r2⟩
      by_cases c1 : nI lo' = nI lo
      · rw [if_pos c1]
        by_cases c2 : nI hi' = nI hi
        · rw [if_pos c2]; exact hend
        · rw [if_neg c2]; exact hgo
      · rw [if_neg c1]; exact hgo
theorem lb (hn : S.1 0 = nI n) (hn6 : n ≤ 6) (hV : IvV S n F) (hF : F ≤ 8) (ha : a < F) (hL : lwB S n a = true) (hp : p = 0 ↔ g = false) : ∀ d, d ≤ 7 → ∀ lo hi, sub lo hi → hi < 2 ^ n → oc lo hi < d → ∃ r, f_X0_leastBetween S d (nI a) (nI lo) (nI hi) p (nI (7 - d)) = some (nI r) ∧ Ext S a g lo hi r := fun d => by
  induction d with
  | zero => intro _ lo hi _ _ h; omega
  | succ d ih =>
    intro h7 lo hi hs hh ho
    rw [f_X0_leastBetween]
    exact lb_rounds hn hn6 hV hF ha hL hp (nI lo) (nI hi) h7 (f_X0_leastBetween S d) (ih (by omega)) 70 0 lo hi (by omega) (by omega) hs hh ho
theorem zero_sub (s : Nat) : sub 0 s := fun i h => by rw [Nat.zero_testBit] at h; exact absurd h (by decide)
theorem tb_full {n i : Nat} : (2 ^ n - 1).testBit i = decide (i < n) := Nat.testBit_two_pow_sub_one n i
theorem sub_full {s n : Nat} (hs : s < 2 ^ n) : sub s (2 ^ n - 1) := fun i h => by
  rw [tb_full]
  by_cases c : i < n
  · exact decide_eq_true c
  · rw [tb_hi hs (by omega)] at h; exact absurd h (by decide)
/-- the whole range -/
theorem lb_all (hn : S.1 0 = nI n) (hn6 : n ≤ 6) (hV : IvV S n F) (hF : F ≤ 8) (ha : a < F) (hL : lwB S n a = true) (hp : p = 0 ↔ g = false) : ∃ r, f_X0_leastBetween S 7 (nI a) 0 (f_X0_sets S - 1) p 0 = some (nI r) ∧ r < 2 ^ n ∧ ∀ s, s < 2 ^ n → vl S a r ≤ vl S a s ∧ (vl S a s = vl S a r → if g then sub s r else sub r s) := by
  have h7 := pow1 n
  have hfl : 2 ^ n - 1 < 2 ^ n := by omega
  have hoc : oc 0 (2 ^ n - 1) < 7 := by
    have h1 : oc 0 (2 ^ n - 1) = cn (fun i => (2 ^ n - 1).testBit i && !Nat.testBit 0 i) n := cn_short 10 (by omega) (fun i hi => by rw [tb_full, decide_eq_false (by omega)]; rfl)
    have h2 := cn_le (fun i => (2 ^ n - 1).testBit i && !Nat.testBit 0 i) n
    omega
  obtain ⟨r, r1, r2⟩ := lb (g := g) hn hn6 hV hF ha hL hp 7 (Nat.le_refl 7) 0 (2 ^ n - 1) (zero_sub _) hfl hoc
  rw [sets_nI hn hn6, full_nI hn6]
  exact ⟨r, r1, sub_lt r2.2.1 hfl, fun s hs => r2.2.2 s (zero_sub s) (sub_full hs)⟩
end LB

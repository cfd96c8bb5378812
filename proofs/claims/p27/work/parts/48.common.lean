/-! common: flipping a path; no path, no greater set. -/
theorem tb_xo (F e i : Nat) : (F ^^^ 2 ^ e).testBit i = (F.testBit i != decide (e = i)) := by
  rw [Nat.testBit_xor, Nat.testBit_two_pow]
theorem xo_F {F e : Nat} (h : F.testBit e = false) : F ^^^ 2 ^ e = F ||| 2 ^ e := by
  apply Nat.eq_of_testBit_eq
  intro i
  rw [tb_xo, tb_or]
  by_cases d : e = i
  · rw [← d, h, decide_eq_true rfl]; rfl
  · rw [decide_eq_false d, Bool.or_false]; cases F.testBit i <;> rfl
theorem xo_T {F e : Nat} (h : F.testBit e = true) : (F ^^^ 2 ^ e).testBit e = false ∧ (F ^^^ 2 ^ e) ||| 2 ^ e = F := by
  refine ⟨by rw [tb_xo, h, decide_eq_true rfl]; rfl, ?_⟩
  apply Nat.eq_of_testBit_eq
  intro i
  rw [tb_or, tb_xo]
  by_cases d : e = i
  · rw [← d, h, decide_eq_true rfl]; rfl
  · rw [decide_eq_false d, Bool.or_false]; cases F.testBit i <;> rfl
theorem xo_lt {F e n : Nat} (hF : F < 2 ^ n) (he : e < n) : F ^^^ 2 ^ e < 2 ^ n := Nat.xor_lt_two_pow hF (Nat.pow_lt_pow_right (by omega) he)
theorem ct_or {S : St} {n f c s e : Nat} (he : e < n) (h : s.testBit e = false) : ct S n f c (s ||| 2 ^ e) = ct S n f c s + (if cl S f e = c then 1 else 0) := by
  unfold ct
  by_cases d : cl S f e = c
  · rw [if_pos d, cn_upd (P := fun x => s.testBit x && decide (cl S f x = c)) (e := e) (by rw [h]; rfl) (by rw [tb_or, decide_eq_true rfl, Bool.or_true, decide_eq_true d]; rfl) (fun i hi => by rw [tb_or, decide_eq_false (Ne.symm hi), Bool.or_false]) n, if_pos he]
  · rw [if_neg d, Nat.add_zero]
    refine cn_congr (fun i _ => ?_)
    rw [tb_or]
    by_cases k : e = i
    · rw [← k, decide_eq_false d, Bool.and_false, Bool.and_false]
    · rw [decide_eq_false k, Bool.or_false]
def one_ (x c : Nat) : Nat := if x = c then 1 else 0
section FLIP
variable {S : St} {n A : Nat}
/-- what holds before the element at place i of the path is flipped -/
def FlI (S : St) (n A : Nat) (q : Nat → Int32) (E F i : Nat) : Prop :=
  F < 2 ^ n ∧ (∀ j, j ≤ i → F.testBit (nt (q j)) = A.testBit (nt (q j))) ∧
  (A.testBit (nt (q i)) = false → (∀ c, ct S n 0 c F = ct S n 0 c A) ∧ (∀ c, ct S n 1 c F + one_ (cl S 1 (nt (q i))) c = ct S n 1 c A + one_ (cl S 1 E) c) ∧ pc F = pc A) ∧
  (A.testBit (nt (q i)) = true → (∀ c, ct S n 0 c F = ct S n 0 c A + one_ (cl S 0 (nt (q i))) c) ∧ (∀ c, ct S n 1 c F = ct S n 1 c A + one_ (cl S 1 E) c) ∧ pc F = pc A + 1)
def Flipped (S : St) (n A E F : Nat) : Prop := F < 2 ^ n ∧ pc F = pc A + 1 ∧ (∃ e, hrB S n 0 e A = true ∧ ∀ c, ct S n 0 c F = ct S n 0 c A + one_ (cl S 0 e) c) ∧ ∀ c, ct S n 1 c F = ct S n 1 c A + one_ (cl S 1 E) c
theorem flip_loop {X : St} (hn6 : n ≤ 6) (hXn : X.1 0 = nI n) {q : Nat → Int32} {m E : Nat} (hB : Bf S n A (X.2 7) q m) (p1 p2 : Int32) : ∀ i k s F, i < m → s + i < n → i + 1 < k → FlI S n A q E F i → ∃ F', f_X0_flippedAlong_8 X p1 p2 k (nI F) (q i) (nI s) = some (nI F') ∧ Flipped S n A E F' := fun i => by
  induction i using Nat.strongRecOn with
  | ind i ih =>
    intro k s F him hsi hk hF
    obtain ⟨f1, f2, f3, f4⟩ := hF
    obtain ⟨u, hu, hq⟩ := hB.1 i him
    have hnt : nt (q i) = u := by rw [hq, nt_nI (by omega)]
    obtain ⟨k, rfl⟩ : ∃ k', k = k' + 1 := ⟨k - 1, by omega⟩
    rw [f_X0_flippedAlong_8, hXn, if_neg (nI_ge (a := s) (b := n) (by omega) (by omega)), hq, if_neg (nI_neg1 (by omega)), bit_nI (show u < 10 by omega), nI_xor, at_nI (by omega) (by omega)]
    unfold bnd
    rw [nI_1]
    have hfb : F.testBit u = A.testBit u := by rw [← hnt]; exact f2 i (Nat.le_refl i)
    have hlt := xo_lt f1 hu
    have hag : ∀ j, j < i → (F ^^^ 2 ^ u).testBit (nt (q j)) = A.testBit (nt (q j)) := fun j hj => by
      obtain ⟨v, hv, hqv⟩ := hB.1 j (by omega)
      have hne : ¬ u = nt (q j) := fun z => hB.2.1 j i hj him (by rw [hq, z, hqv, nt_nI (by omega)])
      rw [tb_xo, decide_eq_false hne, f2 j (by omega)]
      cases A.testBit (nt (q j)) <;> rfl
    have h4 := hB.2.2.2.1 i him
    rw [hnt] at h4 f3 f4
    cases c : A.testBit u with
    | false =>
      obtain ⟨g1, g2, g3⟩ := f3 c
      rw [c] at hfb
      have hxo := xo_F hfb
      have c0 : ∀ c, ct S n 0 c (F ^^^ 2 ^ u) = ct S n 0 c A + one_ (cl S 0 u) c := fun c => by rw [hxo, ct_or hu hfb, g1]; rfl
      have c1 : ∀ c, ct S n 1 c (F ^^^ 2 ^ u) = ct S n 1 c A + one_ (cl S 1 E) c := fun c => by rw [hxo, ct_or hu hfb]; exact g2 c
      have c2 : pc (F ^^^ 2 ^ u) = pc A + 1 := by rw [hxo, pc_or (by omega) hfb, g3]
      rcases h4 with ⟨h5, h6⟩ | ⟨j, hj, h5, h6⟩
      · refine ⟨F ^^^ 2 ^ u, ?_, hlt, c2, ⟨u, h6, c0⟩, c1⟩
        rw [h5]
        obtain ⟨k, rfl⟩ : ∃ k', k = k' + 1 := ⟨k - 1, by omega⟩
        show f_X0_flippedAlong_8 X p1 p2 (k + 1) (nI (F ^^^ 2 ^ u)) (-1) (nI (s + 1)) = _
        rw [f_X0_flippedAlong_8, if_pos (show (-1 : Int32) = -1 from rfl)]
        split <;> rfl
      · rw [h5]
        refine ih j hj k (s + 1) (F ^^^ 2 ^ u) (by omega) (by omega) (by omega) ⟨hlt, fun j' hj' => hag j' (by omega), fun z => ?_, fun _ => ⟨?_, c1, c2⟩⟩
        · unfold stB at h6
          rw [z, if_neg (by decide), c] at h6
          exact (Bool.false_ne_true h6).elim
        · cases z : A.testBit (nt (q j)) with
          | false =>
            unfold stB at h6
            rw [z, if_neg (by decide), c] at h6
            exact (Bool.false_ne_true h6).elim
          | true =>
            unfold stB at h6
            rw [z, if_pos rfl, c] at h6
            have h7 : cl S 0 (nt (q j)) = cl S 0 u := of_decide_eq_true h6
            rw [h7]
            exact c0
    | true =>
      obtain ⟨g1, g2, g3⟩ := f4 c
      rw [c] at hfb
      obtain ⟨hx1, hx2⟩ := xo_T hfb
      have e0 : ∀ f c, ct S n f c F = ct S n f c (F ^^^ 2 ^ u) + one_ (cl S f u) c := fun f c => by
        have := ct_or (S := S) (f := f) (c := c) hu hx1
        rw [hx2] at this
        exact this
      have e1 : pc F = pc (F ^^^ 2 ^ u) + 1 := by
        have := pc_or (show u < 10 by omega) hx1
        rw [hx2] at this
        exact this
      rcases h4 with ⟨h5, h6⟩ | ⟨j, hj, h5, h6⟩
      · unfold hrB at h6
        rw [c] at h6
        exact (Bool.false_ne_true h6).elim
      · rw [h5]
        have hAj : A.testBit (nt (q j)) = false ∧ cl S 1 (nt (q j)) = cl S 1 u := by
          unfold stB at h6
          cases z : A.testBit (nt (q j)) with
          | true => rw [z, if_pos rfl, c] at h6; exact (Bool.false_ne_true h6).elim
          | false =>
            rw [z, if_neg (by decide), c] at h6
            exact ⟨rfl, of_decide_eq_true h6⟩
        refine ih j hj k (s + 1) (F ^^^ 2 ^ u) (by omega) (by omega) (by omega) ⟨hlt, fun j' hj' => hag j' (by omega), fun _ => ⟨fun c => ?_, fun c => ?_, by omega⟩, fun z => by rw [hAj.1] at z; exact absurd z (by decide)⟩
        · have := e0 0 c
          have := g1 c
          omega
        · rw [hAj.2, ← e0 1 c]
          exact g2 c
end FLIP
-- ---- no path
theorem cn_mono2 {P Q : Nat → Bool} : ∀ n, (∀ i, i < n → P i = true → Q i = true) → cn P n ≤ cn Q n := fun n => by
  induction n with
  | zero => intro _; exact Nat.le_refl 0
  | succ n ih =>
    intro h
    have h1 := ih (fun i hi => h i (by omega))
    rw [cn, cn]
    cases c : P n with
    | true => rw [h n (by omega) c]; omega
    | false => rw [if_neg (by decide)]; omega
theorem cn_split (P R : Nat → Bool) : ∀ n, cn P n = cn (fun i => P i && R i) n + cn (fun i => P i && !R i) n := fun n => by
  induction n with
  | zero => rfl
  | succ n ih =>
    rw [cn, cn, cn, ih]
    cases P n <;> cases R n <;> simp <;> omega
/-- one side: the elements that R marks, by the colours of a family -/
theorem side_le {S : St} {n A J f : Nat} (hK : IvK S) (hf : f < 2) (hn6 : n ≤ 6) (R : Nat → Bool) (hJ : frB S n f J = true) (h1 : ∀ e, e < n → R e = true → hrB S n f e A = false) (h2 : ∀ e x, e < n → x < n → R e = true → A.testBit e = false → A.testBit x = true → cl S f e = cl S f x → R x = true) : cn (fun i => J.testBit i && R i) n ≤ cn (fun i => A.testBit i && R i) n := by
  have hc : ∀ e, e < n → cl S f e < 6 := fun e he => (cl_of hK hf (by omega)).2
  rw [← cn_cols (fun i => J.testBit i && R i) (cl S f) n hc, ← cn_cols (fun i => A.testBit i && R i) (cl S f) n hc]
  refine sm_le (fun c hc6 => ?_)
  by_cases hex : ∃ e, e < n ∧ R e = true ∧ A.testBit e = false ∧ cl S f e = c
  · obtain ⟨e, he, hRe, hAe, hce⟩ := hex
    have h3 := h1 e he hRe
    unfold hrB at h3
    rw [hAe, hce] at h3
    have h4 : ¬ ct S n f c A < rm_ S f c := of_decide_eq_false (by simpa using h3)
    have h5 : ct S n f c J ≤ rm_ S f c := of_decide_eq_true ((al_iff _ _).mp hJ c hc6)
    have h6 : cn (fun i => (J.testBit i && R i) && decide (cl S f i = c)) n ≤ ct S n f c J := cn_mono2 n (fun i _ h => by
      rw [Bool.and_eq_true, Bool.and_eq_true] at h
      rw [Bool.and_eq_true]
      exact ⟨h.1.1, h.2⟩)
    have h7 : ct S n f c A ≤ cn (fun i => (A.testBit i && R i) && decide (cl S f i = c)) n := cn_mono2 n (fun i hi h => by
      rw [Bool.and_eq_true] at h
      rw [Bool.and_eq_true, Bool.and_eq_true]
      exact ⟨⟨h.1, h2 e i he hi hRe hAe h.1 (hce.trans (of_decide_eq_true h.2).symm)⟩, h.2⟩)
    omega
  · refine cn_mono2 n (fun i hi h => ?_)
    rw [Bool.and_eq_true, Bool.and_eq_true] at h
    rw [Bool.and_eq_true, Bool.and_eq_true]
    refine ⟨⟨?_, h.1.2⟩, h.2⟩
    cases d : A.testBit i with
    | true => rfl
    | false => exact absurd ⟨i, hi, h.1.2, d, of_decide_eq_true h.2⟩ hex
theorem no_more {S : St} {n A J : Nat} (hK : IvK S) (hn6 : n ≤ 6) (hA : A < 2 ^ n) (hJ : J < 2 ^ n) (h0 : frB S n 0 J = true) (h1 : frB S n 1 J = true) (hp : NoPath S n A) : pc J ≤ pc A := by
  obtain ⟨R, r1, r2, r3⟩ := hp
  rw [pc_n hA (by omega), pc_n hJ (by omega), cn_split J.testBit R, cn_split A.testBit R]
  have s1 := side_le (A := A) hK (show 1 < 2 by omega) hn6 R h1 r2 (fun e x he hx hRe hAe hAx hc => r3 e x he hx hRe (by unfold stB; rw [hAe, if_neg (by decide), hAx, decide_eq_true hc]; rfl))
  have s0 := side_le (A := A) hK (show 0 < 2 by omega) hn6 (fun i => !R i) h0 (fun e he hRe => by
    cases d : hrB S n 0 e A with
    | false => rfl
    | true => rw [r1 e he d] at hRe; exact absurd hRe (by decide)) (fun e x he hx hRe hAe hAx hc => by
    cases d : R x with
    | false => rfl
    | true =>
      rw [r3 x e hx he d (by unfold stB; rw [hAx, if_pos rfl, hAe, decide_eq_true hc.symm]; rfl)] at hRe
      exact absurd hRe (by decide))
  omega
theorem cm_ge (S : St) (n : Nat) : ∀ k J, J < k → frB S n 0 J = true → frB S n 1 J = true → pc J ≤ cmF S n k := fun k => by
  induction k with
  | zero => intro J h; omega
  | succ k ih =>
    intro J hJ h0 h1
    rw [cmF]
    by_cases d : J = k
    · by_cases c : frB S n 0 k = true ∧ frB S n 1 k = true ∧ cmF S n k < pc k
      · rw [if_pos c, d]; exact Nat.le_refl _
      · rw [if_neg c, d]
        rw [d] at h0 h1
        exact Nat.le_of_not_lt (fun z => c ⟨h0, h1, z⟩)
    · have := ih J (by omega) h0 h1
      split
      · omega
      · exact this
theorem cm_le (S : St) (n m : Nat) : ∀ k, (∀ J, J < k → frB S n 0 J = true → frB S n 1 J = true → pc J ≤ m) → cmF S n k ≤ m := fun k => by
  induction k with
  | zero => intro _; exact Nat.zero_le _
  | succ k ih =>
    intro h
    rw [cmF]
    by_cases c : frB S n 0 k = true ∧ frB S n 1 k = true ∧ cmF S n k < pc k
    · rw [if_pos c]; exact h k (by omega) c.1 c.2.1
    · rw [if_neg c]; exact ih (fun J hJ => h J (by omega))
theorem fair_next {S : St} {n f A F e : Nat} (h : frB S n f A = true) (hr : hrB S n f e A = true) (hc : ∀ c, ct S n f c F = ct S n f c A + one_ (cl S f e) c) : frB S n f F = true := by
  refine (al_iff _ _).mpr (fun c hc6 => decide_eq_true ?_)
  have h1 : ct S n f c A ≤ rm_ S f c := of_decide_eq_true ((al_iff _ _).mp h c hc6)
  rw [hc]
  unfold one_
  by_cases d : cl S f e = c
  · rw [if_pos d]
    unfold hrB at hr
    rw [Bool.and_eq_true, d] at hr
    have := of_decide_eq_true hr.2
    omega
  · rw [if_neg d]; exact h1
theorem com_loop {S : St} {n : Nat} (hn : S.1 0 = nI n) (hn6 : n ≤ 6) (hK : IvK S) (hR : IvR S) : ∀ k A (X : St), A < 2 ^ n → pc A ≤ n → n < pc A + k → frB S n 0 A = true → frB S n 1 A = true → Sm S X → ∃ X', f_X0_common_4 k X (nI A) (nI (pc A)) = some (nI (cmF S n (2 ^ n)), X') ∧ Sm S X' := fun k => by
  have h6 := pow6 hn6
  induction k with
  | zero => intro A X h1 h2 h3; omega
  | succ k ih =>
    intro A X hA hpa hk h0 h1 hX
    obtain ⟨x1, x2, x3, x4, x5⟩ := hX.facts hn hK hR
    have hge := cm_ge S n (2 ^ n) A hA h0 h1
    rw [f_X0_common_4, x1]
    by_cases hi : pc A = n
    · rw [if_pos (by rw [hi]; exact nI_le (Nat.le_refl n) (by omega)), bc_nI (by omega)]
      have hle := cm_le S n n (2 ^ n) (fun J hJ _ _ => by
        rw [pc_n hJ (by omega)]; exact cn_le _ n)
      rw [show pc A = cmF S n (2 ^ n) by omega]
      exact ⟨X, rfl, hX⟩
    · rw [if_neg (nI_ge (a := pc A) (b := n) (by omega) (by omega))]
      obtain ⟨r, X', r1, r2, r3⟩ := end_at hn hn6 hK hR (show A < 1024 by omega) X hX
      rw [r1, Option.bind_some]
      unfold bnd
      show ∃ X'', (if r = -1 then _ else _) = _ ∧ _
      rcases r3 with ⟨hr, hno⟩ | ⟨h, u, m, hh, hB, hq, hu, hr, hsnk⟩
      · rw [if_pos hr, bc_nI (by omega)]
        have hle := cm_le S n (pc A) (2 ^ n) (fun J hJ j0 j1 => no_more hK hn6 hA hJ j0 j1 hno)
        rw [show pc A = cmF S n (2 ^ n) by omega]
        exact ⟨X', rfl, r2⟩
      · rw [hr, if_neg (nI_neg1 (by omega))]
        obtain ⟨y1, y2, y3, y4, y5⟩ := r2.facts hn hK hR
        have hm := bf_le hB
        have hnt : nt (X'.2 8 h) = u := by rw [hq, nt_nI (by omega)]
        have hAu : A.testBit u = false := by
          unfold hrB at hsnk
          cases d : A.testBit u with
          | false => rfl
          | true => rw [d] at hsnk; exact (Bool.false_ne_true hsnk).elim
        obtain ⟨F, f1, f2, f3, ⟨e, f4, f5⟩, f6⟩ := flip_loop (E := u) hn6 y1 hB (nI A) (nI u) h 70 0 A hh (by omega) (by omega) ⟨hA, fun _ _ => rfl, fun _ => ⟨fun _ => rfl, fun c => by rw [hnt], rfl⟩, fun z => by rw [hnt, hAu] at z; exact absurd z (by decide)⟩
        rw [hq] at f1
        rw [show f_X0_flippedAlong X' (nI A) (nI u) = _ from f1, Option.bind_some]
        show ∃ X'', f_X0_common_4 k X' (nI F) (nI (pc A) + 1) = _ ∧ _
        rw [nI_1, ← f3]
        have hpF : pc F ≤ n := by rw [pc_n f2 (by omega)]; exact cn_le _ n
        exact ih F X' f2 hpF (by omega) (fair_next h0 f4 f5) (fair_next h1 hsnk f6) r2
theorem commonX {S : St} {n F t : Nat} (hI : Iv S n F t) : ∃ X, f_X0_common S = some (nI (cmF S n (2 ^ n)), X) ∧ Sm S X := by
  obtain ⟨⟨i1, i2, i3, i4, i5, i6, i7⟩, hC, hE, hK, hR, hW, hV, hO⟩ := hI
  have h7 := pow1 n
  have hz : ∀ f, frB S n f 0 = true := fun f => (al_iff _ _).mpr (fun c _ => decide_eq_true (by
    have : ct S n f c 0 = 0 := by
      unfold ct
      rw [cn_congr (Q := fun _ => false) (fun i _ => by rw [Nat.zero_testBit]; rfl)]
      have : ∀ k, cn (fun _ => false) k = 0 := fun k => by
        induction k with
        | zero => rfl
        | succ k ih => rw [cn, ih]; rfl
      exact this n
    rw [this]; exact Nat.zero_le _))
  have h := com_loop i1 i5 hK hR 70 0 S (by omega) (by rw [pc_zero]; omega) (by rw [pc_zero]; omega) (hz 0) (hz 1) ⟨rfl, fun _ _ _ => rfl⟩
  rw [pc_zero] at h
  exact h
theorem Sm.rel {S X T : St} (h : Sm S X) (hR : Rel S T) : Rel X T := ⟨hR.1.trans (by rw [h.1]), hR.2.1.trans (by rw [h.1]), hR.2.2.1.trans (by rw [h.1]), fun k hk => (hR.2.2.2 k hk).trans (h.2 k (by omega) (by omega)).symm⟩
theorem Sm.iv {S X : St} {n F t : Nat} (h : Sm S X) (hI : Iv S n F t) : Iv X n F t := Rel.iv ⟨by rw [h.1], by rw [h.1], by rw [h.1], fun k hk => h.2 k (by omega) (by omega)⟩ hI

/-! common: the search of augmenting paths. -/
def hrB (S : St) (n f e A : Nat) : Bool := !A.testBit e && decide (ct S n f (cl S f e) A < rm_ S f (cl S f e))
def stB (S : St) (A u w : Nat) : Bool := if A.testBit u then !A.testBit w && decide (cl S 0 u = cl S 0 w) else A.testBit w && decide (cl S 1 u = cl S 1 w)
theorem room_at {S : St} {n f e A : Nat} (hn : S.1 0 = nI n) (hn6 : n ≤ 6) (hK : IvK S) (hR : IvR S) (hA : A < 1024) (hf : f < 2) (he : e < n) : f_X0_hasRoom S (nI f) (nI e) (nI A) = some (bI (hrB S n f e A)) := by
  have h1 := (cl_of hK hf (show e < 6 by omega)).2
  have h2 := (rm_of hR hf h1).2
  have h3 := ct_le S n f (cl S f e) A
  unfold f_X0_hasRoom hrB
  rw [col_nI hK hf (by omega)]
  unfold bnd
  show (if f_X0_has (nI A) (nI e) = 0 then _ else _) = _
  cases c : A.testBit e with
  | true => rw [hasT (by omega) (by omega) c, if_neg one_ne]; rfl
  | false =>
    rw [hasF (by omega) (by omega) c, if_pos rfl, cnt_nI hn hn6 hK hA hf h1, Option.bind_some, room_nI hR hf h1]
    by_cases d : rm_ S f (cl S f e) ≤ ct S n f (cl S f e) A
    · rw [if_pos (nI_le d (by omega)), decide_eq_false (by omega)]; rfl
    · rw [if_neg (nI_ge (by omega) (by omega)), decide_eq_true (by omega)]; rfl
theorem step_at {S : St} {n u w A : Nat} (hn6 : n ≤ 6) (hK : IvK S) (hA : A < 1024) (hu : u < n) (hw : w < n) : f_X0_isStep S (nI u) (nI w) (nI A) = bI (stB S A u w) := by
  have k0 := (cl_of hK (show 0 < 2 by omega) (show u < 6 by omega)).2
  have k1 := (cl_of hK (show 0 < 2 by omega) (show w < 6 by omega)).2
  have k2 := (cl_of hK (show 1 < 2 by omega) (show u < 6 by omega)).2
  have k3 := (cl_of hK (show 1 < 2 by omega) (show w < 6 by omega)).2
  unfold f_X0_isStep f_X0_isStep_13 stB
  cases c : A.testBit u with
  | true =>
    rw [hasT (by omega) (by omega) c, if_neg one_ne, if_pos rfl]
    cases d : A.testBit w with
    | true => rw [hasT (by omega) (by omega) d, if_pos rfl]; rfl
    | false =>
      rw [hasF (by omega) (by omega) d, if_neg one_ne, show (0 : Int32) = nI 0 from rfl, col_nI hK (by omega) (by omega), col_nI hK (by omega) (by omega)]
      by_cases e : cl S 0 u = cl S 0 w
      · rw [if_pos (by rw [e]), decide_eq_true e]; rfl
      · rw [if_neg (nI_ne e (by omega) (by omega)), decide_eq_false e]; rfl
  | false =>
    rw [hasF (by omega) (by omega) c, if_pos rfl, if_neg (show ¬ false = true by decide)]
    cases d : A.testBit w with
    | false => rw [hasF (by omega) (by omega) d, if_pos rfl]; rfl
    | true =>
      rw [hasT (by omega) (by omega) d, if_neg (show ¬ (0 : Int32) = 1 by decide), show (1 : Int32) = nI 1 from rfl, col_nI hK (by omega) (by omega), col_nI hK (by omega) (by omega)]
      by_cases e : cl S 1 u = cl S 1 w
      · rw [if_pos (by rw [e]), decide_eq_true e]; rfl
      · rw [if_neg (nI_ne e (by omega) (by omega)), decide_eq_false e]; rfl
/-- alike but for the search's rows -/
def Sm (S X : St) : Prop := X.1 = S.1 ∧ ∀ k, k ≠ 7 → k ≠ 8 → X.2 k = S.2 k
theorem Sm.add {S X : St} (h : Sm S X) (f g : Nat → Int32) : Sm S (sA (sA X 7 f) 8 g) := ⟨h.1, fun k h7 h8 => by rw [sA_other h8, sA_other h7]; exact h.2 k h7 h8⟩
theorem Sm.facts {S X : St} {n : Nat} (h : Sm S X) (hn : S.1 0 = nI n) (hK : IvK S) (hR : IvR S) : X.1 0 = nI n ∧ IvK X ∧ IvR X ∧ (∀ f e A, hrB X n f e A = hrB S n f e A) ∧ ∀ A u w, stB X A u w = stB S A u w := by
  have e2 := h.2 2 (by decide) (by decide)
  have e3 := h.2 3 (by decide) (by decide)
  refine ⟨by rw [h.1]; exact hn, ?_, ?_, ?_, ?_⟩
  · unfold IvK; rw [e2]; exact hK
  · unfold IvR; rw [e3]; exact hR
  · intro f e A
    unfold hrB ct cl rm_
    rw [e2, e3]
  · intro A u w
    unfold stB cl
    rw [e2]
def Bf (S : St) (n A : Nat) (c q : Nat → Int32) (m : Nat) : Prop :=
  (∀ i, i < m → ∃ u, u < n ∧ q i = nI u) ∧ (∀ i j, i < j → j < m → q i ≠ q j) ∧ (∀ e, e < n → (c e = -2 ↔ ∀ i, i < m → q i ≠ nI e)) ∧
  (∀ i, i < m → (c (nt (q i)) = -1 ∧ hrB S n 0 (nt (q i)) A = true) ∨ ∃ j, j < i ∧ c (nt (q i)) = q j ∧ stB S A (nt (q j)) (nt (q i)) = true) ∧ cn (fun e => decide (c e ≠ -2)) n = m
theorem bf_le {S : St} {n A m : Nat} {c q : Nat → Int32} (h : Bf S n A c q m) : m ≤ n := by
  rw [← h.2.2.2.2]; exact cn_le _ n
theorem bf_add {S : St} {n A m w : Nat} {c q : Nat → Int32} {x : Int32} (hn6 : n ≤ 6) (h : Bf S n A c q m) (hw : w < n) (hc : c w = -2) (hx : x ≠ -2) (hp : (x = -1 ∧ hrB S n 0 w A = true) ∨ ∃ j, j < m ∧ x = q j ∧ stB S A (nt (q j)) w = true) : Bf S n A (upd c w x) (upd q m (nI w)) (m + 1) := by
  obtain ⟨b1, b2, b3, b4, b5⟩ := h
  have hqw := (b3 w hw).mp hc
  have q1 : ∀ i, i < m → upd q m (nI w) i = q i := fun i hi => if_neg (by omega)
  have q2 : upd q m (nI w) m = nI w := if_pos rfl
  refine ⟨?_, ?_, ?_, ?_, ?_⟩
  · intro i hi
    by_cases d : i = m
    · rw [d, q2]; exact ⟨w, hw, rfl⟩
    · rw [q1 i (by omega)]; exact b1 i (by omega)
  · intro i j hij hj
    rw [q1 i (by omega)]
    by_cases d : j = m
    · rw [d, q2]; exact hqw i (by omega)
    · rw [q1 j (by omega)]; exact b2 i j hij (by omega)
  · intro e he
    by_cases d : e = w
    · rw [d]
      refine ⟨fun k => absurd ((show upd c w x w = x from if_pos rfl).symm.trans k) hx, fun k => absurd q2 (k m (by omega))⟩
    · rw [show upd c w x e = c e from if_neg d, b3 e he]
      refine ⟨fun k i hi => ?_, fun k i hi => ?_⟩
      · by_cases f : i = m
        · rw [f, q2]; exact nI_ne (fun z => d z.symm) (by omega) (by omega)
        · rw [q1 i (by omega)]; exact k i (by omega)
      · rw [← q1 i hi]; exact k i (by omega)
  · intro i hi
    by_cases d : i = m
    · rw [d, q2, nt_nI (by omega), show upd c w x w = x from if_pos rfl]
      rcases hp with hp | ⟨j, hj, hp⟩
      · exact Or.inl hp
      · exact Or.inr ⟨j, hj, by rw [q1 j hj]; exact hp⟩
    · rw [q1 i (by omega)]
      obtain ⟨u, hu, hq⟩ := b1 i (by omega)
      have hne : nt (q i) ≠ w := fun z => hqw i (by omega) (by rw [hq, ← z, hq, nt_nI (by omega)])
      rw [show upd c w x (nt (q i)) = c (nt (q i)) from if_neg hne]
      rcases b4 i (by omega) with hp | ⟨j, hj, hp⟩
      · exact Or.inl hp
      · exact Or.inr ⟨j, hj, by rw [q1 j (by omega)]; exact hp⟩
  · rw [cn_upd (P := fun e => decide (c e ≠ -2)) (e := w) (decide_eq_false (fun k => k hc)) (decide_eq_true (by rw [show upd c w x w = x from if_pos rfl]; exact hx)) (fun i hi => by rw [show upd c w x i = c i from if_neg hi]) n, if_pos hw, b5]
section SEARCH
variable {S : St} {n A : Nat}
theorem first_loop (hn : S.1 0 = nI n) (hn6 : n ≤ 6) (hK : IvK S) (hR : IvR S) (hA : A < 1024) : ∀ k e m (X : St), e ≤ n → n < e + k → Sm S X → Bf S n A (X.2 7) (X.2 8) m → (∀ e', e' < e → hrB S n 0 e' A = true → X.2 7 e' ≠ -2) → (∀ e', e ≤ e' → e' < n → X.2 7 e' = -2) → ∃ X' m', f_X0_reachFirst_13 (nI A) k X (nI m) (nI e) = some (nI m', X') ∧ Sm S X' ∧ Bf S n A (X'.2 7) (X'.2 8) m' ∧ ∀ e', e' < n → hrB S n 0 e' A = true → X'.2 7 e' ≠ -2 := fun k => by
  induction k with
  | zero => intro e m X h1 h2; omega
  | succ k ih =>
    intro e m X h1 h2 hX hB h3 h4
    obtain ⟨x1, x2, x3, x4, x5⟩ := hX.facts hn hK hR
    have hm := bf_le hB
    rw [f_X0_reachFirst_13, x1]
    by_cases hi : e = n
    · rw [if_pos (by rw [hi]; exact nI_le (Nat.le_refl n) (by omega))]
      exact ⟨X, m, rfl, hX, hB, fun e' he' => h3 e' (by omega)⟩
    · rw [if_neg (nI_ge (a := e) (b := n) (by omega) (by omega)), show f_X0_hasRoom X 0 (nI e) (nI A) = _ from room_at (f := 0) x1 hn6 x2 x3 hA (by omega) (by omega), Option.bind_some, x4]
      cases c : hrB S n 0 e A with
      | false =>
        rw [if_pos (show bI false = 0 from rfl)]
        unfold bnd
        rw [nI_1]
        refine ih (e + 1) m X (by omega) (by omega) hX hB (fun e' he' hh => ?_) (fun e' h5 h6 => h4 e' (by omega) h6)
        by_cases d : e' = e
        · rw [d, c] at hh; exact absurd hh (by decide)
        · exact h3 e' (by omega) hh
      | true =>
        rw [if_neg (show ¬ bI true = 0 from one_ne)]
        unfold bnd
        have hc := h4 e (Nat.le_refl e) (by omega)
        have hB2 := bf_add (x := -1) hn6 hB (show e < n by omega) hc (by decide) (Or.inl ⟨rfl, c⟩)
        have hm2 := bf_le hB2
        rw [nI_1, nI_1, put_nI (by omega) (by omega), put_nI (by omega) (by omega)]
        refine ih (e + 1) (m + 1) _ (by omega) (by omega) (hX.add _ _) hB2 (fun e' he' hh => ?_) (fun e' h5 h6 => ?_)
        · show upd (X.2 7) e (-1) e' ≠ -2
          unfold upd
          by_cases d : e' = e
          · rw [if_pos d]; decide
          · rw [if_neg d]; exact h3 e' (by omega) hh
        · show upd (X.2 7) e (-1) e' = -2
          unfold upd
          rw [if_neg (by omega)]
          exact h4 e' (by omega) h6
theorem from_loop (hn : S.1 0 = nI n) (hn6 : n ≤ 6) (hK : IvK S) (hR : IvR S) (hA : A < 1024) {h u : Nat} (hu : u < n) (p3 : Int32) : ∀ k w m (X : St), w ≤ n → n < w + k → Sm S X → Bf S n A (X.2 7) (X.2 8) m → h < m → X.2 8 h = nI u → (∀ w', w' < w → stB S A u w' = true → X.2 7 w' ≠ -2) → ∃ X' m', f_X0_reachFrom_6 (nI u) (nI A) p3 k X (nI m) (nI w) = some (nI m', X') ∧ Sm S X' ∧ Bf S n A (X'.2 7) (X'.2 8) m' ∧ m ≤ m' ∧ (∀ i, i < m → X'.2 8 i = X.2 8 i) ∧ (∀ e, e < n → X.2 7 e ≠ -2 → X'.2 7 e ≠ -2) ∧ ∀ w', w' < n → stB S A u w' = true → X'.2 7 w' ≠ -2 := fun k => by
  induction k with
  | zero => intro e m X h1 h2; omega
  | succ k ih =>
    intro w m X h1 h2 hX hB hh hq h3
    obtain ⟨x1, x2, x3, x4, x5⟩ := hX.facts hn hK hR
    have hm := bf_le hB
    rw [f_X0_reachFrom_6, x1]
    by_cases hi : w = n
    · rw [if_pos (by rw [hi]; exact nI_le (Nat.le_refl n) (by omega))]
      exact ⟨X, m, rfl, hX, hB, Nat.le_refl m, fun _ _ => rfl, fun _ _ k => k, by rw [← hi]; exact h3⟩
    · rw [if_neg (nI_ge (a := w) (b := n) (by omega) (by omega)), at_nI (by omega) (by omega), step_at hn6 x2 hA hu (show w < n by omega), x5]
      have hskip : (stB S A u w = true → X.2 7 w ≠ -2) → ∃ X' m', f_X0_reachFrom_6 (nI u) (nI A) p3 k X (nI m) (nI w + 1) = some (nI m', X') ∧ Sm S X' ∧ Bf S n A (X'.2 7) (X'.2 8) m' ∧ m ≤ m' ∧ (∀ i, i < m → X'.2 8 i = X.2 8 i) ∧ (∀ e, e < n → X.2 7 e ≠ -2 → X'.2 7 e ≠ -2) ∧ ∀ w', w' < n → stB S A u w' = true → X'.2 7 w' ≠ -2 := fun hd => by
        rw [nI_1]
        refine ih (w + 1) m X (by omega) (by omega) hX hB hh hq (fun w' hw' hs => ?_)
        by_cases d : w' = w
        · rw [d] at hs ⊢; exact hd hs
        · exact h3 w' (by omega) hs
      unfold bnd
      by_cases hc : X.2 7 w = -2
      · rw [if_pos hc]
        cases c : stB S A u w with
        | false =>
          rw [if_pos (show bI false = 0 from rfl)]
          exact hskip (fun z => by rw [c] at z; exact absurd z (by decide))
        | true =>
          rw [if_neg (show ¬ bI true = 0 from one_ne)]
          have hx2 : nI u ≠ -2 := fun z => nI_pos (show u < 2 ^ 31 by omega) (by rw [z]; decide)
          have hB2 := bf_add (x := nI u) hn6 hB (show w < n by omega) hc hx2 (Or.inr ⟨h, hh, hq.symm, by rw [hq, nt_nI (by omega)]; exact c⟩)
          have hm2 := bf_le hB2
          rw [nI_1, nI_1, put_nI (by omega) (by omega), put_nI (by omega) (by omega)]
          obtain ⟨X', m', r1, r2, r3, r4, r5, r6, r7⟩ := ih (w + 1) (m + 1) (sA (sA X 7 (upd (X.2 7) w (nI u))) 8 (upd ((sA X 7 (upd (X.2 7) w (nI u))).2 8) m (nI w))) (by omega) (by omega) (hX.add _ _) hB2 (by omega) (by
            show upd (X.2 8) m (nI w) h = nI u
            unfold upd
            rw [if_neg (by omega)]; exact hq) (fun w' hw' hs => by
            show upd (X.2 7) w (nI u) w' ≠ -2
            unfold upd
            by_cases d : w' = w
            · rw [if_pos d]; exact hx2
            · rw [if_neg d]; exact h3 w' (by omega) hs)
          refine ⟨X', m', r1, r2, r3, by omega, fun i hi => (r5 i (by omega)).trans ?_, fun e he hne => r6 e he ?_, r7⟩
          · show upd (X.2 8) m (nI w) i = _
            unfold upd
            rw [if_neg (by omega)]
          · show upd (X.2 7) w (nI u) e ≠ -2
            unfold upd
            by_cases d : e = w
            · rw [if_pos d]; exact hx2
            · rw [if_neg d]; exact hne
      · rw [if_neg hc]
        exact hskip (fun _ => hc)
def NoPath (S : St) (n A : Nat) : Prop := ∃ R : Nat → Bool, (∀ e, e < n → hrB S n 0 e A = true → R e = true) ∧ (∀ e, e < n → R e = true → hrB S n 1 e A = false) ∧ ∀ u w, u < n → w < n → R u = true → stB S A u w = true → R w = true
theorem end_loop (hn : S.1 0 = nI n) (hn6 : n ≤ 6) (hK : IvK S) (hR : IvR S) (hA : A < 1024) : ∀ k h m (X : St), h ≤ 6 → 6 < h + k → Sm S X → Bf S n A (X.2 7) (X.2 8) m → (∀ e, e < n → hrB S n 0 e A = true → X.2 7 e ≠ -2) → (∀ i, i < h → i < m → hrB S n 1 (nt (X.2 8 i)) A = false ∧ ∀ w, w < n → stB S A (nt (X.2 8 i)) w = true → X.2 7 w ≠ -2) → ∃ r X', f_X0_endOfPath_8 (nI A) k X (nI m) (nI h) = some (r, X') ∧ Sm S X' ∧ ((r = -1 ∧ NoPath S n A) ∨ ∃ h' u m', h' < m' ∧ Bf S n A (X'.2 7) (X'.2 8) m' ∧ X'.2 8 h' = nI u ∧ u < n ∧ r = nI u ∧ hrB S n 1 u A = true) := fun k => by
  induction k with
  | zero => intro h m X h1 h2; omega
  | succ k ih =>
    intro h m X h1 h2 hX hB hs hp
    obtain ⟨x1, x2, x3, x4, x5⟩ := hX.facts hn hK hR
    have hm := bf_le hB
    have hno : m ≤ h → ∃ r X', (some ((-1), X) : Option (Int32 × St)) = some (r, X') ∧ Sm S X' ∧ ((r = -1 ∧ NoPath S n A) ∨ ∃ h' u m', h' < m' ∧ Bf S n A (X'.2 7) (X'.2 8) m' ∧ X'.2 8 h' = nI u ∧ u < n ∧ r = nI u ∧ hrB S n 1 u A = true) := fun hmh => by
      refine ⟨-1, X, rfl, hX, Or.inl ⟨rfl, fun e => decide (X.2 7 e ≠ -2), fun e he hh => decide_eq_true (hs e he hh), ?_, ?_⟩⟩
      · intro e he hr
        have hr := of_decide_eq_true hr
        have hex : ∃ i, i < m ∧ X.2 8 i = nI e := Classical.byContradiction (fun z => hr ((hB.2.2.1 e he).mpr (fun i hi hq => z ⟨i, hi, hq⟩)))
        obtain ⟨i, hi, hq⟩ := hex
        have := (hp i (by omega) hi).1
        rw [hq, nt_nI (by omega)] at this
        exact this
      · intro u w hu hw hr hst
        have hr := of_decide_eq_true hr
        have hex : ∃ i, i < m ∧ X.2 8 i = nI u := Classical.byContradiction (fun z => hr ((hB.2.2.1 u hu).mpr (fun i hi hq => z ⟨i, hi, hq⟩)))
        obtain ⟨i, hi, hq⟩ := hex
        have := (hp i (by omega) hi).2 w hw (by rw [hq, nt_nI (by omega)]; exact hst)
        exact decide_eq_true this
    rw [f_X0_endOfPath_8]
    by_cases hmh : m ≤ h
    · rw [if_pos (nI_le hmh (by omega))]
      exact hno hmh
    · rw [if_neg (nI_ge (a := h) (b := m) (by omega) (by omega)), if_neg (show ¬ (6 : Int32) ≤ nI h from nI_ge (a := h) (b := 6) (by omega) (by omega)), at_nI (by omega) (by omega)]
      obtain ⟨u, hu, hq⟩ := hB.1 h (by omega)
      unfold bnd
      rw [hq]
      show ∃ r X', ((f_X0_hasRoom X 1 (nI u) (nI A)).bind _) = _ ∧ _
      rw [show f_X0_hasRoom X 1 (nI u) (nI A) = _ from room_at (f := 1) x1 hn6 x2 x3 hA (by omega) hu, Option.bind_some, x4]
      cases c : hrB S n 1 u A with
      | true =>
        rw [if_neg (show ¬ bI true = 0 from one_ne)]
        exact ⟨nI u, X, rfl, hX, Or.inr ⟨h, u, m, by omega, hB, hq, hu, rfl, c⟩⟩
      | false =>
        rw [if_pos (show bI false = 0 from rfl)]
        obtain ⟨X', m', r1, r2, r3, r4, r5, r6, r7⟩ := from_loop hn hn6 hK hR hA hu (nI m) 70 0 m X (by omega) (by omega) hX hB (show h < m by omega) hq (fun w hw => absurd hw (by omega))
        rw [show f_X0_reachFrom X (nI u) (nI A) (nI m) = _ from r1, Option.bind_some]
        show ∃ r X'', f_X0_endOfPath_8 (nI A) k X' (nI m') (nI h + 1) = _ ∧ _
        rw [nI_1]
        refine ih (h + 1) m' X' (by omega) (by omega) r2 r3 (fun e he hh => r6 e he (hs e he hh)) (fun i hi him => ?_)
        by_cases d : i = h
        · rw [d, r5 h (by omega), hq, nt_nI (by omega)]
          exact ⟨c, r7⟩
        · rw [r5 i (by omega)]
          obtain ⟨p1, p2⟩ := hp i (by omega) (by omega)
          exact ⟨p1, fun w hw hst => r6 w hw (p2 w hw hst)⟩
theorem end_at (hn : S.1 0 = nI n) (hn6 : n ≤ 6) (hK : IvK S) (hR : IvR S) (hA : A < 1024) (X : St) (hX : Sm S X) : ∃ r X', f_X0_endOfPath X (nI A) = some (r, X') ∧ Sm S X' ∧ ((r = -1 ∧ NoPath S n A) ∨ ∃ h' u m', h' < m' ∧ Bf S n A (X'.2 7) (X'.2 8) m' ∧ X'.2 8 h' = nI u ∧ u < n ∧ r = nI u ∧ hrB S n 1 u A = true) := by
  have hX1 : Sm S (sA X 7 (filv 6 (X.2 7) (-2))) := ⟨hX.1, fun k h7 h8 => by rw [sA_other h7]; exact hX.2 k h7 h8⟩
  have hfl : ∀ e, e < n → (sA X 7 (filv 6 (X.2 7) (-2))).2 7 e = -2 := fun e he => by
    rw [sA_same, filv_at (by omega)]
  have hB1 : Bf S n A ((sA X 7 (filv 6 (X.2 7) (-2))).2 7) ((sA X 7 (filv 6 (X.2 7) (-2))).2 8) 0 := by
    refine ⟨fun i hi => absurd hi (by omega), fun i j _ hj => absurd hj (by omega), fun e he => ⟨fun _ i hi => absurd hi (by omega), fun _ => hfl e he⟩, fun i hi => absurd hi (by omega), ?_⟩
    rw [cn_congr (Q := fun _ => false) (fun e he => decide_eq_false (fun k => k (hfl e he)))]
    have : ∀ k, cn (fun _ => false) k = 0 := fun k => by
      induction k with
      | zero => rfl
      | succ k ih => rw [cn, ih]; rfl
    exact this n
  obtain ⟨X2, m, r1, r2, r3, r4⟩ := first_loop hn hn6 hK hR hA 70 0 0 (sA X 7 (filv 6 (X.2 7) (-2))) (by omega) (by omega) hX1 hB1 (fun e he => absurd he (by omega)) (fun e _ he => hfl e he)
  unfold f_X0_endOfPath
  rw [show f_X0_reachFirst X (nI A) = _ from r1, Option.bind_some]
  exact end_loop hn hn6 hK hR hA 70 0 m X2 (by omega) (by omega) r2 r3 r4 (fun i hi => absurd hi (by omega))
end SEARCH

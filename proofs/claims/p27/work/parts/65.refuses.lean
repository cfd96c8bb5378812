/-! What there is not is refused, all of it, and nothing has changed but the rows of the search. -/
def RH (n F : Nat) (x5 x6 x7 x8 x9 x10 x11 : Int32) : Prop := Bad n x7 ∧ Bad F x8 ∧ Bad 6 x9 ∧ Bad (2 ^ n) x10 ∧ Out 0 6 x11 ∧ (¬ x5 = 1 → Out 0 9 x6 ∧ Out 0 20 x6 ∧ Bad 2 x6 ∧ Out 0 4 x6 ∧ Out 0 100 x6) ∧ (¬ x5 = 0 → ¬ x5 = 1 → Out (-20) 20 x6) ∧ (¬ x5 = 0 → Out 1 6 x11)
theorem bnd_eq {α : Type} (x : Int32) (f : Int32 → α) : bnd x f = f x := rfl
section REF
variable {X : St} {n F t : Nat} {K : St → Int32 → Int32 → Int32 → Option St} {x3 x4 x5 x6 x7 x8 x9 x10 x11 : Int32}
theorem r678 (p1 p2 : Int32) : f_L_refuses_678 p1 p2 K X x3 x4 x5 1 = K X x3 x4 (x5 + 1) := by
  unfold f_L_refuses_678 bnd
  rw [if_neg one_ne]
theorem r619 (p1 p2 : Int32) (hI : Iv X n F t) (hF : 0 < F) (h10 : Bad (2 ^ n) x10) (h11 : Out 0 6 x11) {s3 : Int32} (hc : Out 0 100 s3) : f_L_refuses_619 p1 p2 K X x3 x4 x5 x10 x11 9 0 s3 = K X x3 x4 (x5 + 1) := by
  unfold f_L_refuses_619
  rw [act_x9 (e := 1) (show f_X0_cap X 0 s3 = some (1 + 1, 0, X) from e_cap2 hI (a := 0) hF hc), hd2, Option.bind_some, if_pos rfl, act_x10 (e := 1) (show f_X0_value X 0 x10 = some (1 + 1, 0, X) from e_value2 hI (a := 0) hF h10), hd2, Option.bind_some, if_pos rfl, act_x18 (e := 1) (show f_X0_greedy X 0 x11 = some (1 + 1, 0, X) from e_greedy2 hI (a := 0) hF h11), hd2, Option.bind_some, if_pos rfl, act_x19 (e := 1) (show f_X0_best X 0 x11 = some (1 + 1, 0, X) from e_best2 hI (a := 0) hF h11), hd2, Option.bind_some, if_pos rfl]
  exact r678 p1 p2
theorem r576 (p1 : Int32) (hI : Iv X n F t) (h : RH n F x5 x6 x7 x8 x9 x10 x11) : f_L_refuses_576 p1 (nI F) K X x3 x4 x5 x6 x10 x11 1 = K X x3 x4 (x5 + 1) := by
  obtain ⟨h7, h8, h9, h10, h11, hn1, hn2, hn3⟩ := h
  unfold f_L_refuses_576
  rw [if_neg one_ne]
  by_cases c : nI F = 0
  · rw [if_pos c]; exact r678 _ _
  · have hF : 0 < F := by
      rcases Nat.eq_zero_or_pos F with h0 | h0
      · exact absurd (by rw [h0]; rfl) c
      · exact h0
    rw [if_neg c, act_x8 (e := 1) (show f_X0_contract X 0 x10 = some (1 + 1, 0, X) from e_contract2 hI (a := 0) hF h10), hd2, Option.bind_some, if_pos rfl]
    by_cases d : x5 = 1
    · rw [if_pos d]; exact r619 _ _ hI hF h10 h11 (Or.inr (by decide))
    · rw [if_neg d]; exact r619 _ _ hI hF h10 h11 (hn1 d).2.2.2.2
theorem r491 (p1 : Int32) (hI : Iv X n F t) (h : RH n F x5 x6 x7 x8 x9 x10 x11) : f_L_refuses_491 p1 (nI F) K X x3 x4 x5 x6 x7 x8 x10 x11 1 = K X x3 x4 (x5 + 1) := by
  have h7 := h.1
  have h8 := h.2.1
  unfold f_L_refuses_491
  rw [if_neg one_ne, act_x7 (e := 0) (show f_X0_sum X 0 x8 = some (0 + 1, 0, X) from e_sum2 hI 0 h8), hd1, Option.bind_some, if_pos rfl, act_x16 (e := 0) (show f_X0_order X x7 = some (0 + 1, 0, X) from e_order hI h7), hd1, Option.bind_some, if_pos rfl, act_x17 (e := 0) (show f_X0_corner X 0 x7 = some (0 + 1, 0, X) from e_corner2 hI 0 h7), hd1, Option.bind_some, if_pos rfl, act_x20 (e := 0) (show f_X0_share X 0 x7 = some (0 + 1, 0, X) from e_share2 hI 0 h7), hd1, Option.bind_some, if_pos rfl, act_x21 (e := 0) (show f_X0_shareAnew X 0 x7 = some (0 + 1, 0, X) from e_shareAnew2 hI 0 h7), hd1, Option.bind_some, if_pos rfl]
  exact r576 p1 hI h
theorem r_fn (hI : Iv X n F t) (h8 : Bad F x8) {w : Nat} (h1 : 7 ≤ w) (h2 : w < 22) (h3 : w ≠ 16) : f_L_act X (nI w) x8 0 0 = some (-7000001, X) := by
  rcases (show w = 7 ∨ w = 8 ∨ w = 9 ∨ w = 10 ∨ w = 11 ∨ w = 12 ∨ w = 13 ∨ w = 14 ∨ w = 15 ∨ w = 17 ∨ w = 18 ∨ w = 19 ∨ w = 20 ∨ w = 21 by omega) with rfl | rfl | rfl | rfl | rfl | rfl | rfl | rfl | rfl | rfl | rfl | rfl | rfl | rfl
  · exact act_x7 (e := 0) (e_sum1 hI h8 0)
  · exact act_x8 (e := 0) (e_contract1 hI h8 0)
  · exact act_x9 (e := 0) (e_cap1 hI h8 0)
  · exact act_x10 (e := 0) (e_value1 hI h8 0)
  · exact act_x11 (e := 0) (e_isLawful hI h8)
  · exact act_x12 (e := 0) (e_rises hI h8)
  · exact act_x13 (e := 0) (e_least hI h8)
  · exact act_x14 (e := 0) (fun p => e_leastSet hI h8 p)
  · exact act_x15 (e := 0) (fun p => e_leastSetAnew hI h8 p)
  · exact act_x17 (e := 0) (e_corner1 hI h8 0)
  · exact act_x18 (e := 0) (e_greedy1 hI h8 0)
  · exact act_x19 (e := 0) (e_best1 hI h8 0)
  · exact act_x20 (e := 0) (e_share1 hI h8 0)
  · exact act_x21 (e := 0) (e_shareAnew1 hI h8 0)
theorem r444 (p1 : Int32) (hI : Iv X n F t) (h : RH n F x5 x6 x7 x8 x9 x10 x11) : ∀ k w : Nat, 7 ≤ w → w ≤ 22 → 22 < w + k → f_L_refuses_444 p1 (nI F) K k X x3 x4 x5 x6 x7 x8 x10 x11 1 (nI w) = K X x3 x4 (x5 + 1) := fun k => by
  induction k with
  | zero => intro w h1 h2 h3; omega
  | succ k ih =>
    intro w h1 h2 h3
    rw [f_L_refuses_444]
    by_cases c : w = 22
    · subst c
      rw [if_pos (show (22 : Int32) ≤ nI 22 by decide)]
      exact r491 p1 hI h
    · rw [if_neg (show ¬ (22 : Int32) ≤ nI w from nI_ge (a := w) (b := 22) (by omega) (by omega)), if_neg one_ne]
      by_cases d : w = 16
      · subst d
        rw [if_pos (show nI 16 = (16 : Int32) from rfl)]
        unfold bnd
        rw [nI_1]
        exact ih 17 (by omega) (by omega) (by omega)
      · rw [if_neg (show ¬ nI w = (16 : Int32) from nI_ne (b := 16) d (by omega) (by omega)), r_fn hI h.2.1 h1 (by omega) d, Option.bind_some, if_pos rfl]
        unfold bnd
        rw [nI_1]
        exact ih (w + 1) (by omega) (by omega) (by omega)
theorem r423 (p1 : Int32) (hI : Iv X n F t) (h : RH n F x5 x6 x7 x8 x9 x10 x11) {s2 : Int32} (hs : Out 0 4 s2) : f_L_refuses_423 p1 (nI F) K X x3 x4 x5 x6 x7 x8 x10 x11 6 s2 = K X x3 x4 (x5 + 1) := by
  unfold f_L_refuses_423
  rw [act_x6 (e := 1) (show f_X0_make X s2 = some (1 + 1, 0, X) from e_make hI hs), hd2, Option.bind_some, if_pos rfl]
  exact r444 p1 hI h 16 7 (by omega) (by omega) (by omega)
theorem r399 (p1 : Int32) (hI : Iv X n F t) (h : RH n F x5 x6 x7 x8 x9 x10 x11) {s3 : Int32} (hs : Out (-20) 20 s3) : f_L_refuses_399 p1 (nI F) K X x3 x4 x5 x6 x7 x8 x10 x11 5 0 s3 = K X x3 x4 (x5 + 1) := by
  have hn1 := hI.1.2.2.2.1
  unfold f_L_refuses_399
  rw [act_x5 (e := 1) (show f_X0_weigh X 0 s3 = some (1 + 1, 0, X) from e_weigh2 hI (e := 0) (by omega) hs), hd2, Option.bind_some, if_pos rfl]
  by_cases d : x5 = 1
  · rw [if_pos d]; exact r423 p1 hI h (Or.inr (by decide))
  · rw [if_neg d]; exact r423 p1 hI h (h.2.2.2.2.2.1 d).2.2.2.1
theorem r318 (p1 : Int32) (hI : Iv X n F t) (h : RH n F x5 x6 x7 x8 x9 x10 x11) {s2 : Int32} (hs : Bad 2 s2) : f_L_refuses_318 p1 (nI F) K X x3 x4 x5 x6 x7 x8 x9 x10 x11 4 s2 = K X x3 x4 (x5 + 1) := by
  unfold f_L_refuses_318
  rw [act_x4 (e := 0) (show f_X0_room X s2 0 99 = some (0 + 1, 0, X) from e_room1 hI hs 0 99), hd1, Option.bind_some, if_pos rfl, act_x4 (e := 0) (show f_X0_room X 0 x9 99 = some (0 + 1, 0, X) from e_room2 hI 0 h.2.2.1 99), hd1, Option.bind_some, if_pos rfl, act_x4 (e := 1) (show f_X0_room X 0 0 x11 = some (1 + 1, 0, X) from e_room3 hI (f := 0) (c := 0) (by omega) (by omega) h.2.2.2.2.1), hd2, Option.bind_some, if_pos rfl, act_x5 (e := 0) (show f_X0_weigh X x7 99 = some (0 + 1, 0, X) from e_weigh1 hI h.1 99), hd1, Option.bind_some, if_pos rfl]
  by_cases c : x5 = 0
  · rw [if_pos c]; exact r399 p1 hI h (Or.inl (by decide))
  · rw [if_neg c]
    by_cases d : x5 = 1
    · rw [if_pos d]; exact r399 p1 hI h (Or.inr (by decide))
    · rw [if_neg d]; exact r399 p1 hI h (h.2.2.2.2.2.2.1 c d)
theorem r266 (p1 : Int32) (hI : Iv X n F t) (h : RH n F x5 x6 x7 x8 x9 x10 x11) {s2 : Int32} (hs : Bad 2 s2) : f_L_refuses_266 p1 (nI F) K X x3 x4 x5 x6 x7 x8 x9 x10 x11 3 s2 = K X x3 x4 (x5 + 1) := by
  unfold f_L_refuses_266
  rw [act_x3 (e := 0) (show f_X0_colour X s2 0 0 = some (0 + 1, 0, X) from e_colour1 hI hs 0 0), hd1, Option.bind_some, if_pos rfl, act_x3 (e := 0) (show f_X0_colour X 0 x7 0 = some (0 + 1, 0, X) from e_colour2 hI 0 h.1 0), hd1, Option.bind_some, if_pos rfl, act_x3 (e := 0) (show f_X0_colour X 0 0 x9 = some (0 + 1, 0, X) from e_colour3 hI 0 0 h.2.2.1), hd1, Option.bind_some, if_pos rfl]
  by_cases d : x5 = 1
  · rw [if_pos d]; exact r318 p1 hI h (Or.inr (by decide))
  · rw [if_neg d]; exact r318 p1 hI h (h.2.2.2.2.2.1 d).2.2.1
theorem r252 (p1 : Int32) (hI : Iv X n F t) (h : RH n F x5 x6 x7 x8 x9 x10 x11) : f_L_refuses_252 p1 (nI F) K X x3 x4 x5 x6 x7 x8 x9 x10 x11 = K X x3 x4 (x5 + 1) := by
  unfold f_L_refuses_252
  by_cases d : x5 = 1
  · rw [if_pos d]; exact r266 p1 hI h (Or.inr (by decide))
  · rw [if_neg d]; exact r266 p1 hI h (h.2.2.2.2.2.1 d).2.2.1
theorem r244 (p1 : Int32) (hI : Iv X n F t) (hn : 2 ≤ n) (h : RH n F x5 x6 x7 x8 x9 x10 x11) {s4 : Int32} (hs : Out 0 20 s4) : f_L_refuses_244 p1 (nI F) K X x3 x4 x5 x6 x7 x8 x9 x10 x11 2 0 1 s4 = K X x3 x4 (x5 + 1) := by
  unfold f_L_refuses_244
  rw [act_x2 (e := 1) (show f_X0_edge X 0 1 s4 = some (1 + 1, 0, X) from e_edge4 hI (a := 0) (b := 1) (by omega) (by omega) (by omega) hs), hd2, Option.bind_some, if_pos rfl]
  exact r252 p1 hI h
theorem r170 (hI : Iv X n F t) (h : RH n F x5 x6 x7 x8 x9 x10 x11) {s3 : Int32} (hs : Out 0 9 s3) : f_L_refuses_170 (nI n) (nI F) K X x3 x4 x5 x6 x7 x8 x9 x10 x11 1 0 s3 = K X x3 x4 (x5 + 1) := by
  have hn1 := hI.1.2.2.2.1
  have hn6 := hI.1.2.2.2.2.1
  unfold f_L_refuses_170
  rw [act_x1 (e := 0) (show f_X0_cover X 0 s3 1 = some (0 + 1, 0, X) from e_cover2 hI 0 hs 1), hd1, Option.bind_some, if_pos rfl, act_x2 (e := 0) (show f_X0_edge X x7 0 99 = some (0 + 1, 0, X) from e_edge1 hI h.1 0 99), hd1, Option.bind_some, if_pos rfl, act_x2 (e := 0) (show f_X0_edge X 0 x7 99 = some (0 + 1, 0, X) from e_edge2 hI 0 h.1 99), hd1, Option.bind_some, if_pos rfl, act_x2 (e := 1) (show f_X0_edge X 0 0 5 = some (1 + 1, 0, X) from e_edge3 hI (a := 0) (by omega) 5), hd2, Option.bind_some, if_pos rfl]
  by_cases c : n < 2
  · rw [if_pos (show nI n < (2 : Int32) from nI_lt (b := 2) c (by omega))]; exact r252 _ hI h
  · rw [if_neg (show ¬ nI n < (2 : Int32) from nlt (a := 2) (b := n) (by omega) (by omega))]
    by_cases d : x5 = 1
    · rw [if_pos d]; exact r244 _ hI (by omega) h (Or.inr (by decide))
    · rw [if_neg d]; exact r244 _ hI (by omega) h (h.2.2.2.2.2.1 d).2.1
theorem r130 (hI : Iv X n F t) (h : RH n F x5 x6 x7 x8 x9 x10 x11) {s2 : Int32} (hs : Out 1 6 s2) : f_L_refuses_130 (nI n) (nI F) K X x3 x4 x5 x6 x7 x8 x9 x10 x11 0 s2 = K X x3 x4 (x5 + 1) := by
  unfold f_L_refuses_130
  rw [act_x0 (e := 1) (show f_X0_elements X s2 = some (1 + 1, 0, X) from e_elements hI hs), hd2, Option.bind_some, if_pos rfl, act_x1 (e := 0) (show f_X0_cover X x7 0 1 = some (0 + 1, 0, X) from e_cover1 hI h.1 0 1), hd1, Option.bind_some, if_pos rfl]
  by_cases d : x5 = 1
  · rw [if_pos d]; exact r170 hI h (Or.inr (by decide))
  · rw [if_neg d]; exact r170 hI h (h.2.2.2.2.2.1 d).1
theorem r115 (hI : Iv X n F t) (h : RH n F x5 x6 x7 x8 x9 x10 x11) : f_L_refuses_115 (nI n) (nI F) K X x3 x4 x5 x6 x7 x8 x9 x10 x11 = K X x3 x4 (x5 + 1) := by
  unfold f_L_refuses_115
  by_cases d : x5 = 0
  · rw [if_pos d]; exact r130 hI h (Or.inl (by decide))
  · rw [if_neg d]; exact r130 hI h (h.2.2.2.2.2.2.2 d)
theorem rneg {m : Nat} {e : Int32} (h : e < 0) : Bad m e := Or.inl h
theorem rmax {m : Nat} (h : m < 2 ^ 31) : Bad m 2147483647 := Or.inr (nI_le (b := 2147483647) (by omega) (by omega))
/-- one of the four rounds -/
theorem r41 (hI : Iv X n F t) {j : Nat} (hj : j < 4) : f_L_refuses_12 (nI n) (nI F) (j + 1 + 1) X 2147483647 x4 (nI (4 - (j + 1))) = f_L_refuses_12 (nI n) (nI F) (j + 1) X 2147483647 x4 (nI (4 - j)) := by
  have hn6 := hI.1.2.2.2.2.1
  have hF8 := hI.1.2.2.2.2.2.1
  have h6 := pow6 hn6
  rw [f_L_refuses_12]
  rcases (show j = 3 ∨ j = 2 ∨ j = 1 ∨ j = 0 by omega) with rfl | rfl | rfl | rfl
  · rw [if_neg (show ¬ (4 : Int32) ≤ nI (4 - (3 + 1)) by decide), if_pos (show nI (4 - (3 + 1)) = 0 by decide)]
    unfold f_L_refuses_41 f_L_refuses_55 f_L_refuses_69 f_L_refuses_84 f_L_refuses_100
    rw [if_neg (show ¬ nI (4 - (3 + 1)) = 1 by decide), if_neg (show ¬ nI (4 - (3 + 1)) = 1 by decide), if_neg (show ¬ nI (4 - (3 + 1)) = 1 by decide), if_neg (show ¬ nI (4 - (3 + 1)) = 1 by decide), if_neg (show ¬ nI (4 - (3 + 1)) = 1 by decide)]
    exact r115 hI ⟨rneg (by decide), rneg (by decide), rneg (by decide), rneg (by decide), Or.inl (by decide), fun _ => ⟨Or.inl (by decide), Or.inl (by decide), rneg (by decide), Or.inl (by decide), Or.inl (by decide)⟩, fun h => absurd (by decide) h, fun h => absurd (by decide) h⟩
  · rw [if_neg (show ¬ (4 : Int32) ≤ nI (4 - (2 + 1)) by decide), if_neg (show ¬ nI (4 - (2 + 1)) = 0 by decide), if_neg (show ¬ nI (4 - (2 + 1)) = 2 by decide)]
    unfold f_L_refuses_41 f_L_refuses_55 f_L_refuses_69 f_L_refuses_84 f_L_refuses_100
    rw [if_pos (show nI (4 - (2 + 1)) = 1 by decide), if_pos (show nI (4 - (2 + 1)) = 1 by decide), if_pos (show nI (4 - (2 + 1)) = 1 by decide), if_pos (show nI (4 - (2 + 1)) = 1 by decide), if_pos (show nI (4 - (2 + 1)) = 1 by decide)]
    exact r115 hI ⟨Or.inr (Int32.le_refl _), Or.inr (Int32.le_refl _), Or.inr (by decide), Or.inr (by rw [bit_nI (by omega)]; exact Int32.le_refl _), Or.inr (by decide), fun h => absurd (by decide) h, fun _ h => absurd (by decide) h, fun _ => Or.inr (by decide)⟩
  · rw [if_neg (show ¬ (4 : Int32) ≤ nI (4 - (1 + 1)) by decide), if_neg (show ¬ nI (4 - (1 + 1)) = 0 by decide), if_pos (show nI (4 - (1 + 1)) = 2 by decide)]
    unfold f_L_refuses_41 f_L_refuses_55 f_L_refuses_69 f_L_refuses_84 f_L_refuses_100
    rw [if_neg (show ¬ nI (4 - (1 + 1)) = 1 by decide), if_neg (show ¬ nI (4 - (1 + 1)) = 1 by decide), if_neg (show ¬ nI (4 - (1 + 1)) = 1 by decide), if_neg (show ¬ nI (4 - (1 + 1)) = 1 by decide), if_neg (show ¬ nI (4 - (1 + 1)) = 1 by decide)]
    exact r115 hI ⟨rmax (by omega), rmax (by omega), rmax (by omega), rmax (by omega), Or.inr (by decide), fun _ => ⟨Or.inr (by decide), Or.inr (by decide), rmax (by omega), Or.inr (by decide), Or.inr (by decide)⟩, fun _ _ => Or.inr (by decide), fun _ => Or.inr (by decide)⟩
  · rw [if_neg (show ¬ (4 : Int32) ≤ nI (4 - (0 + 1)) by decide), if_neg (show ¬ nI (4 - (0 + 1)) = 0 by decide), if_neg (show ¬ nI (4 - (0 + 1)) = 2 by decide)]
    unfold f_L_refuses_41 f_L_refuses_55 f_L_refuses_69 f_L_refuses_84 f_L_refuses_100
    rw [if_neg (show ¬ nI (4 - (0 + 1)) = 1 by decide), if_neg (show ¬ nI (4 - (0 + 1)) = 1 by decide), if_neg (show ¬ nI (4 - (0 + 1)) = 1 by decide), if_neg (show ¬ nI (4 - (0 + 1)) = 1 by decide), if_neg (show ¬ nI (4 - (0 + 1)) = 1 by decide)]
    exact r115 hI ⟨rneg (by decide), rneg (by decide), rneg (by decide), rneg (by decide), Or.inl (by decide), fun _ => ⟨Or.inl (by decide), Or.inl (by decide), rneg (by decide), Or.inl (by decide), Or.inl (by decide)⟩, fun _ _ => Or.inl (by decide), fun _ => Or.inl (by decide)⟩
theorem r41_3 (hI : Iv X n F t) : f_L_refuses_12 (nI n) (nI F) 5 X 2147483647 x4 (nI 0) = f_L_refuses_12 (nI n) (nI F) 4 X 2147483647 x4 (nI 1) := r41 hI (j := 3) (by omega)
theorem r41_2 (hI : Iv X n F t) : f_L_refuses_12 (nI n) (nI F) 4 X 2147483647 x4 (nI 1) = f_L_refuses_12 (nI n) (nI F) 3 X 2147483647 x4 (nI 2) := r41 hI (j := 2) (by omega)
theorem r41_1 (hI : Iv X n F t) : f_L_refuses_12 (nI n) (nI F) 3 X 2147483647 x4 (nI 2) = f_L_refuses_12 (nI n) (nI F) 2 X 2147483647 x4 (nI 3) := r41 hI (j := 1) (by omega)
theorem r41_0 (hI : Iv X n F t) : f_L_refuses_12 (nI n) (nI F) 2 X 2147483647 x4 (nI 3) = f_L_refuses_12 (nI n) (nI F) 1 X 2147483647 x4 (nI 4) := r41 hI (j := 0) (by omega)
theorem ref_end {Y : St} {y v : Int32} (p1 : Int32) (hI2 : Iv Y n F t) (e2 : f_X0_common X = some (y, Y)) (e3 : f_X0_commonAnew Y = some y) : f_L_refuses_12 p1 (nI F) 1 X v y (nI 4) = some Y := by
  rw [f_L_refuses_12, if_pos (show (4 : Int32) ≤ nI 4 by decide), e2, Option.bind_some, if_pos rfl, e3, Option.bind_some, if_pos rfl, act_x10 (e := 0) (show f_X0_value Y (nI F) 0 = some (0 + 1, 0, Y) from e_value1 hI2 (Or.inr (Int32.le_refl _)) 0), hd1, Option.bind_some, if_pos rfl]
theorem ref_all {Y Z : St} {y : Int32} (hI1 : Iv Y n F t) (hI2 : Iv Z n F t) (e1 : f_X0_common X = some (y, Y)) (e2 : f_X0_common Y = some (y, Z)) (e3 : f_X0_commonAnew Z = some y) : f_L_refuses X (nI n) (nI F) = some Z := by
  have e := (r41_3 (x4 := y) hI1).trans ((r41_2 (x4 := y) hI1).trans ((r41_1 (x4 := y) hI1).trans ((r41_0 (x4 := y) hI1).trans (ref_end (v := 2147483647) (nI n) hI2 e2 e3))))
  rw [show nI 0 = 0 from rfl] at e
  unfold f_L_refuses
  rw [e1, Option.bind_some, bnd_eq]
  exact e
end REF
theorem s_refuses {S X : St} {n F t : Nat} (h : Sm S X) (hI : Iv S n F t) : ∃ X', f_L_refuses X (nI n) (nI F) = some X' ∧ Sm S X' := by
  obtain ⟨X1, e1, h1⟩ := s_common h hI
  obtain ⟨X2, e2, h2⟩ := s_common h1 hI
  exact ⟨X2, ref_all (h1.iv hI) (h2.iv hI) e1 e2 (s_commonAnew h2 hI), h2⟩

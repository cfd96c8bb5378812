/-! What is told, and the functions made: both classes answer alike. -/
theorem t0 {α : Type} {T : St} {a b : α} : (if ((sS T 3 0).1 3) ≤ 0 then a else b) = a := if_pos (by rw [sS_same]; decide)
theorem t1 {α : Type} {T : St} {a b : α} : (if ((sS T 3 1).1 3) ≤ 0 then a else b) = b := if_neg (by rw [sS_same]; decide)
theorem t2 {α : Type} {T : St} {a b : α} : (if ((sS T 3 2).1 3) ≤ 0 then a else b) = b := if_neg (by rw [sS_same]; decide)
theorem t3 {α : Type} {T : St} {a b : α} : (if ((sS T 3 3).1 3) ≤ 0 then a else b) = b := if_neg (by rw [sS_same]; decide)
theorem ne1 {α : Type} {x : Int32} {a b : α} (h : x = 1) : (if x = 0 then a else b) = b := if_neg (by rw [h]; exact one_ne)
theorem eq0 {α : Type} {x : Int32} {a b : α} (h : x = 0) : (if x = 0 then a else b) = a := if_pos h
theorem z0 {α : Type} {a b : α} : (if (0 : Nat) = 0 then a else b) = a := if_pos rfl
theorem z1 {α : Type} {a b : α} : (if (1 : Nat) = 0 then a else b) = b := if_neg (by decide)
theorem z2 {α : Type} {a b : α} : (if (2 : Nat) = 0 then a else b) = b := if_neg (by decide)
theorem z3 {α : Type} {a b : α} : (if (3 : Nat) = 0 then a else b) = b := if_neg (by decide)
theorem rel_A {S T : St} (h : Rel S T) (k : Nat) (f : Nat → Int32) : Rel (sA S k f) (sA T k f) := by
  refine ⟨h.1, h.2.1, h.2.2.1, fun j hj => ?_⟩
  show (if j = k then f else T.2 j) = (if j = k then f else S.2 j)
  rw [h.2.2.2 j hj]
theorem upd_row {f : Nat → Int32} {m j : Nat} {x : Int32} {P : Int32 → Prop} (h : ∀ e, e < m → P (f e)) (hx : P x) : ∀ e, e < m → P (upd f j x e) := fun e he => by
  unfold upd
  by_cases c : e = j
  · rw [if_pos c]; exact hx
  · rw [if_neg c]; exact h e he
theorem op_cover {S T : St} {n F t : Nat} (hI : Iv S n F t) (hR : Rel S T) (p q b : Int32) : Ag [1] S (f_X0_cover S p q b) (f_X1_cover T p q b) := by
  obtain ⟨⟨i1, i2, i3, i4, i5, i6, i7⟩, hC, hE, hK, hRm, hW, hV, hO⟩ := id hI
  unfold f_X0_cover f_X1_cover f_X0_cover_23 f_X1_cover_24
  have hthr : Ag [1] S (some (1, 0, S)) (some (0, sS T 3 1)) := Ag.no 0 1 rfl rfl rfl rfl (hR.thr 1)
  rcases el_test i1 (hR.1.trans i1) i5 p with ⟨j, hj, rfl, e1, e2⟩ | ⟨e1, e2⟩
  · rw [ne1 e1, ne1 e2]
    rcases wi_test q 0 9 with ⟨h1, h2, e1, e2⟩ | ⟨e1, e2⟩
    · rw [ne1 e1, ne1 e2, nx1, z0, t0]
      obtain ⟨k, hk, rfl⟩ := le_lit (m := 9) h1 h2 (by omega)
      obtain ⟨c, hc, ec⟩ := hC j (by omega)
      have hr : rdA 6 ((sS T 3 0).2 0) (nI j) = some (nI c) := by
        rw [rd_nI (by omega) (by omega)]
        show some (T.2 0 j) = _
        rw [hR.2.2.2 0 (by decide), ec]
      have hb : f_X1_has (nI c) (nI k) &&& 1 = f_X1_has (nI c) (nI k) := by
        rw [hasM_nI (by omega) (by omega)]
        cases c.testBit k <;> decide
      have hfin : ∀ x, (∃ d, d < 1024 ∧ x = nI d) → Ag [1] S (f_X0_cover_60 S (nI j) (nI k) b (nI c) (nI j) x) (f_X1_cover_82 (nI j) (nI k) b (sS T 3 0) (f_X1_has (nI c) (nI k)) (nI j) x) := fun x hx => by
        unfold f_X0_cover_60 f_X1_cover_82
        rw [wr_nI (by omega) (by omega), Option.bind_some, if_pos hb, put_nI (by omega) (by omega)]
        refine Ag.ok rfl rfl rfl (n := n) (F := F) (t := t) ?_ ⟨hI.1, upd_row (P := fun x => ∃ c, c < 1024 ∧ x = nI c) hC hx, hE, hK, hRm, hW, hV, hO⟩
        rw [show (sS T 3 0).2 0 = S.2 0 from hR.2.2.2 0 (by decide)]
        exact rel_A (hR.thr 0) 0 _
      rw [hr, Option.bind_some, at_nI (by omega) (by omega), ec]
      unfold bnd
      show Ag [1] S (if b = 0 then _ else _) (if b = 0 then _ else _)
      by_cases hb0 : b = 0
      · rw [if_pos hb0, if_pos hb0, Option.bind_some]
        exact hfin _ ⟨wo c k, Nat.lt_of_le_of_lt (wo_le c k) hc, without_nI hc (by omega)⟩
      · rw [if_neg hb0, if_neg hb0, Option.bind_some]
        exact hfin _ ⟨c ||| 2 ^ k, or_lt (n := 10) hc (by omega), with_nI (by omega)⟩
    · rw [eq0 e1, eq0 e2, nx0, z1, t1]
      exact hthr
  · rw [eq0 e1, eq0 e2, nx0, z1, t1]
    exact hthr
theorem op_edge {S T : St} {n F t : Nat} (hI : Iv S n F t) (hR : Rel S T) (p q x : Int32) : Ag [1, 2] S (f_X0_edge S p q x) (f_X1_edge T p q x) := by
  obtain ⟨⟨i1, i2, i3, i4, i5, i6, i7⟩, hC, hE, hK, hRm, hW, hV, hO⟩ := id hI
  unfold f_X0_edge f_X1_edge f_X0_edge_21 f_X0_edge_44 f_X1_edge_41
  have hth1 : Ag [1, 2] S (some (1, 0, S)) (some (0, sS T 3 1)) := Ag.no 0 1 rfl rfl rfl rfl (hR.thr 1)
  have hth2 : Ag [1, 2] S (some (2, 0, S)) (some (0, sS T 3 2)) := Ag.no 1 2 rfl rfl rfl rfl (hR.thr 2)
  rcases el_test i1 (hR.1.trans i1) i5 p with ⟨a, ha, rfl, e1, e2⟩ | ⟨e1, e2⟩
  · rw [ne1 e1, ne1 e2]
    rcases el_test i1 (hR.1.trans i1) i5 q with ⟨b, hb, rfl, e1, e2⟩ | ⟨e1, e2⟩
    · rw [ne1 e1, ne1 e2, nx1, z0]
      by_cases hab : nI a = nI b
      · rw [if_pos hab, if_pos hab, nx0, z2, t2]
        exact hth2
      · rw [if_neg hab, if_neg hab]
        rcases wi_test x 0 20 with ⟨h1, h2, e1, e2⟩ | ⟨e1, e2⟩
        · rw [ne1 e1, ne1 e2, nx1, z0, t0]
          obtain ⟨w, hw, rfl⟩ := le_lit (m := 20) h1 h2 (by omega)
          unfold f_X0_edgeWeight bnd
          have hT : (sS T 3 0).2 1 = S.2 1 := hR.2.2.2 1 (by decide)
          rw [mul6, mul6, mul6', mul6', rd_nI (by omega) (by omega), Option.bind_some, wr_nI (by omega) (by omega), Option.bind_some, sA_same, wr_nI (by omega) (by omega), Option.bind_some, at_nI (by omega) (by omega), put_nI (by omega) (by omega), sA_same, put_nI (by omega) (by omega), sA_sA, sA_sA, hT]
          refine Ag.ok rfl rfl rfl (rel_A (hR.thr 0) 1 _) (n := n) (F := F) (t := t) ⟨hI.1, hC, ⟨?_, ?_⟩, hK, hRm, hW, hV, hO⟩
          · exact upd_row (P := fun x => ∃ c, c ≤ 20 ∧ x = nI c) (upd_row (P := fun x => ∃ c, c ≤ 20 ∧ x = nI c) hE.1 ⟨w, hw, rfl⟩) ⟨w, hw, rfl⟩
          · intro i j hi hj
            show upd (upd (S.2 1) (6 * a + b) (nI w)) (6 * b + a) (nI w) (6 * i + j) = upd (upd (S.2 1) (6 * a + b) (nI w)) (6 * b + a) (nI w) (6 * j + i)
            unfold upd
            by_cases c1 : 6 * i + j = 6 * b + a
            · rw [if_pos c1]
              by_cases c2 : 6 * j + i = 6 * b + a
              · rw [if_pos c2]
              · rw [if_neg c2, if_pos (show 6 * j + i = 6 * a + b by omega)]
            · rw [if_neg c1]
              by_cases c3 : 6 * i + j = 6 * a + b
              · rw [if_pos c3, if_pos (show 6 * j + i = 6 * b + a by omega)]
              · rw [if_neg c3, if_neg (show ¬ 6 * j + i = 6 * b + a by omega), if_neg (show ¬ 6 * j + i = 6 * a + b by omega)]
                exact hE.2 i j hi hj
        · rw [eq0 e1, eq0 e2, nx0, z2, t2]
          exact hth2
    · rw [eq0 e1, eq0 e2, nx0, z1, t1]
      exact hth1
  · rw [eq0 e1, eq0 e2, nx0, z1, t1]
    exact hth1
theorem op_colour {S T : St} {n F t : Nat} (hI : Iv S n F t) (hR : Rel S T) (p q x : Int32) : Ag [1] S (f_X0_colour S p q x) (f_X1_colour T p q x) := by
  obtain ⟨⟨i1, i2, i3, i4, i5, i6, i7⟩, hC, hE, hK, hRm, hW, hV, hO⟩ := id hI
  unfold f_X0_colour f_X1_colour f_X0_colour_27 f_X1_colour_32
  have hth1 : Ag [1] S (some (1, 0, S)) (some (0, sS T 3 1)) := Ag.no 0 1 rfl rfl rfl rfl (hR.thr 1)
  rcases fam_test p with ⟨a, ha, rfl, e1, e2⟩ | ⟨e1, e2⟩
  · rw [ne1 e1, ne1 e2]
    rcases el_test i1 (hR.1.trans i1) i5 q with ⟨b, hb, rfl, e1, e2⟩ | ⟨e1, e2⟩
    · rw [ne1 e1, ne1 e2]
      rcases col_test x with ⟨c, hc, rfl, e1, e2⟩ | ⟨e1, e2⟩
      · rw [ne1 e1, ne1 e2, nx1, z0, t0]
        unfold f_X0_colourOf bnd
        have hT : (sS T 3 0).2 2 = S.2 2 := hR.2.2.2 2 (by decide)
        rw [mul6, mul6', rd_nI (by omega) (by omega), Option.bind_some, wr_nI (by omega) (by omega), Option.bind_some, at_nI (by omega) (by omega), put_nI (by omega) (by omega), hT]
        exact Ag.ok rfl rfl rfl (rel_A (hR.thr 0) 2 _) (n := n) (F := F) (t := t) ⟨hI.1, hC, hE, upd_row (P := fun x => ∃ c, c < 6 ∧ x = nI c) hK ⟨c, hc, rfl⟩, hRm, hW, hV, hO⟩
      · rw [eq0 e1, eq0 e2, nx0, z1, t1]
        exact hth1
    · rw [eq0 e1, eq0 e2, nx0, z1, t1]
      exact hth1
  · rw [eq0 e1, eq0 e2, nx0, z1, t1]
    exact hth1
theorem op_room {S T : St} {n F t : Nat} (hI : Iv S n F t) (hR : Rel S T) (p q x : Int32) : Ag [1, 2] S (f_X0_room S p q x) (f_X1_room T p q x) := by
  obtain ⟨⟨i1, i2, i3, i4, i5, i6, i7⟩, hC, hE, hK, hRm, hW, hV, hO⟩ := id hI
  unfold f_X0_room f_X1_room f_X0_room_19 f_X1_room_38
  have hth1 : Ag [1, 2] S (some (1, 0, S)) (some (0, sS T 3 1)) := Ag.no 0 1 rfl rfl rfl rfl (hR.thr 1)
  have hth2 : Ag [1, 2] S (some (2, 0, S)) (some (0, sS T 3 2)) := Ag.no 1 2 rfl rfl rfl rfl (hR.thr 2)
  rcases fam_test p with ⟨a, ha, rfl, e1, e2⟩ | ⟨e1, e2⟩
  · rw [ne1 e1, ne1 e2]
    rcases col_test q with ⟨b, hb, rfl, e1, e2⟩ | ⟨e1, e2⟩
    · rw [ne1 e1, ne1 e2, nx1, z0]
      rcases wi_test x 0 6 with ⟨h1, h2, e1, e2⟩ | ⟨e1, e2⟩
      · rw [e1, nx1, z0, ne1 e2, t0]
        obtain ⟨w, hw, rfl⟩ := le_lit (m := 6) h1 h2 (by omega)
        unfold f_X0_roomOf bnd
        have hT : (sS T 3 0).2 3 = S.2 3 := hR.2.2.2 3 (by decide)
        rw [mul6, mul6', rd_nI (by omega) (by omega), Option.bind_some, wr_nI (by omega) (by omega), Option.bind_some, at_nI (by omega) (by omega), put_nI (by omega) (by omega), hT]
        exact Ag.ok rfl rfl rfl (rel_A (hR.thr 0) 3 _) (n := n) (F := F) (t := t) ⟨hI.1, hC, hE, hK, upd_row (P := fun x => ∃ c, c ≤ 6 ∧ x = nI c) hRm ⟨w, hw, rfl⟩, hW, hV, hO⟩
      · rw [e1, nx0, z2, eq0 e2, t2]
        exact hth2
    · rw [eq0 e1, eq0 e2, nx0, z1, t1]
      exact hth1
  · rw [eq0 e1, eq0 e2, nx0, z1, t1]
    exact hth1
theorem op_weigh {S T : St} {n F t : Nat} (hI : Iv S n F t) (hR : Rel S T) (p x : Int32) : Ag [1, 2] S (f_X0_weigh S p x) (f_X1_weigh T p x) := by
  obtain ⟨⟨i1, i2, i3, i4, i5, i6, i7⟩, hC, hE, hK, hRm, hW, hV, hO⟩ := id hI
  unfold f_X0_weigh f_X1_weigh f_X1_weigh_29
  have hth1 : Ag [1, 2] S (some (1, 0, S)) (some (0, sS T 3 1)) := Ag.no 0 1 rfl rfl rfl rfl (hR.thr 1)
  have hth2 : Ag [1, 2] S (some (2, 0, S)) (some (0, sS T 3 2)) := Ag.no 1 2 rfl rfl rfl rfl (hR.thr 2)
  rcases el_test i1 (hR.1.trans i1) i5 p with ⟨a, ha, rfl, e1, e2⟩ | ⟨e1, e2⟩
  · rw [e1, nx1, z0, ne1 e2]
    rcases wi_test x (-20) 20 with ⟨h1, h2, e1, e2⟩ | ⟨e1, e2⟩
    · rw [e1, nx1, z0, ne1 e2, t0]
      unfold bnd
      have hT : (sS T 3 0).2 4 = S.2 4 := hR.2.2.2 4 (by decide)
      rw [rd_nI (by omega) (by omega), Option.bind_some, wr_nI (by omega) (by omega), Option.bind_some, at_nI (by omega) (by omega), put_nI (by omega) (by omega), hT]
      exact Ag.ok rfl rfl rfl (rel_A (hR.thr 0) 4 _) (n := n) (F := F) (t := t) ⟨hI.1, hC, hE, hK, hRm, upd_row (P := fun x => -20 ≤ x.toInt ∧ x.toInt ≤ 20) hW ⟨Int32.le_iff_toInt_le.mp h1, Int32.le_iff_toInt_le.mp h2⟩, hV, hO⟩
    · rw [e1, nx0, z2, eq0 e2, t2]
      exact hth2
  · rw [e1, nx0, z1, eq0 e2, t1]
    exact hth1
theorem rel_n {S T : St} {n F t : Nat} (hI : Iv S n F t) (hR : Rel S T) {g : Nat → Int32} : Rel (nS S n F g) (nS (sS T 3 0) n F g) := by
  have h5 : (sS T 3 0).2 5 = S.2 5 := hR.2.2.2 5 (by decide)
  unfold nS wS
  rw [h5]
  exact rel_new (hR.thr 0) _ _
theorem op_make {S T : St} {n F t : Nat} (hI : Iv S n F t) (hR : Rel S T) (p : Int32) : Ag [2, 3] S (f_X0_make S p) (f_X1_make T p) := by
  have hIT := (hR.thr 0).iv hI
  have hrn := fun g => rel_n hI hR (g := g)
  obtain ⟨⟨i1, i2, i3, i4, i5, i6, i7⟩, hC, hE, hK, hRm, hW, hV, hO⟩ := id hI
  obtain ⟨⟨j1, j2, j3, j4, j5, j6, j7⟩, gC, gE, gK, gRm, gW, gV, gO⟩ := id hIT
  unfold f_X0_make f_X1_make f_X1_make_28
  have hth1 : Ag [2, 3] S (some (2, 0, S)) (some (0, sS T 3 1)) := Ag.no 0 2 rfl rfl rfl rfl (hR.thr 1)
  have hth2 : Ag [2, 3] S (some (3, 0, S)) (some (0, sS T 3 2)) := Ag.no 1 3 rfl rfl rfl rfl (hR.thr 2)
  rcases wi_test p 0 4 with ⟨h1, h2, e1, e2⟩ | ⟨e1, e2⟩
  · rw [e1, nx1, z0, ne1 e2]
    obtain ⟨j, hj, rfl⟩ := le_lit (m := 4) h1 h2 (by omega)
    rcases np_test i2 (hR.2.1.trans i2) i6 with ⟨e1, e2⟩ | ⟨hF, e1, e2⟩
    · rw [e1, Option.bind_some, z3, if_pos e2, t2]
      exact hth2
    · rw [e1, Option.bind_some, z0, if_neg e2, t0]
      have h6 := pow6 i5
      have h7 := pow1 n
      have hg : tv (sS T 3 0) n j = tv S n j := funext (fun s => tv_congr (fun k hk => (hR.thr 0).2.2.2 k (by omega)) n j s)
      have l1 := make_loop i1 i5 i2 hF hC hE hK hRm hj 70 0 (by omega) (by omega)
      have l2 := makeM_loop j1 j5 j2 hF gC gE gK gRm hj 70 0 (by omega) (by omega)
      unfold wS at l1 l2
      rw [wv_0, sA_self] at l1 l2
      rw [hg] at l2
      refine Ag.ok l1 l2 rfl (hrn _) (iv_new hI hF (tv_zero S n j) (fun s hs => ?_))
      have hb := tv_bd (n := n) (j := j) (s := s) i5 hE hRm hW
      have hp := p2_bd i6
      omega
  · rw [e1, nx0, z2, eq0 e2, t1]
    exact hth1
theorem op_sum {S T : St} {n F t : Nat} (hI : Iv S n F t) (hR : Rel S T) (p q : Int32) : Ag [1, 3] S (f_X0_sum S p q) (f_X1_sum T p q) := by
  have hIT := (hR.thr 0).iv hI
  have hrn := fun g => rel_n hI hR (g := g)
  obtain ⟨⟨i1, i2, i3, i4, i5, i6, i7⟩, hC, hE, hK, hRm, hW, hV, hO⟩ := id hI
  obtain ⟨⟨j1, j2, j3, j4, j5, j6, j7⟩, gC, gE, gK, gRm, gW, gV, gO⟩ := id hIT
  unfold f_X0_sum f_X1_sum f_X0_sum_21 f_X1_sum_35
  have hth1 : Ag [1, 3] S (some (1, 0, S)) (some (0, sS T 3 1)) := Ag.no 0 1 rfl rfl rfl rfl (hR.thr 1)
  have hth2 : Ag [1, 3] S (some (3, 0, S)) (some (0, sS T 3 2)) := Ag.no 1 3 rfl rfl rfl rfl (hR.thr 2)
  rcases fn_test i2 (hR.2.1.trans i2) i6 p with ⟨a, ha, rfl, e1, e2⟩ | ⟨e1, e2⟩
  · rw [ne1 e1, ne1 e2]
    rcases fn_test i2 (hR.2.1.trans i2) i6 q with ⟨b, hb, rfl, e1, e2⟩ | ⟨e1, e2⟩
    · rw [ne1 e1, ne1 e2, nx1, z0]
      rcases np_test i2 (hR.2.1.trans i2) i6 with ⟨e1, e2⟩ | ⟨hF, e1, e2⟩
      · rw [e1, Option.bind_some, z3, if_pos e2, t2]
        exact hth2
      · rw [e1, Option.bind_some, z0, if_neg e2, t0]
        have h6 := pow6 i5
        have h7 := pow1 n
        have hg : (sS T 3 0).2 5 = S.2 5 := hR.2.2.2 5 (by decide)
        have l1 := sum_loop i1 i5 i2 hF ha hb 70 0 (by omega) (by omega)
        have l2 := sumM_loop j1 j5 j2 hF ha hb 70 0 (by omega) (by omega)
        unfold wS at l1 l2
        rw [wv_0, sA_self] at l1 l2
        rw [hg] at l2
        refine Ag.ok l1 l2 rfl (hrn _) (iv_new hI hF (by unfold gSum; rw [Nat.add_zero, Nat.add_zero, (hV a ha).1, (hV b hb).1]; rfl) (fun s hs => ?_))
        have h1 := (hV a ha).2 s hs
        have h2 := (hV b hb).2 s hs
        have p1 := p2_le (show a + 1 ≤ F by omega)
        have p2 := p2_le (show b + 1 ≤ F by omega)
        have p3 := p2_bd i6
        rw [Int.pow_succ] at p1 p2
        unfold gSum
        rw [add_toInt (by omega) (by omega)]
        omega
    · rw [eq0 e1, eq0 e2, nx0, z1, t1]
      exact hth1
  · rw [eq0 e1, eq0 e2, nx0, z1, t1]
    exact hth1
theorem op_contract {S T : St} {n F t : Nat} (hI : Iv S n F t) (hR : Rel S T) (p q : Int32) : Ag [1, 2, 3] S (f_X0_contract S p q) (f_X1_contract T p q) := by
  have hIT := (hR.thr 0).iv hI
  have hrn := fun g => rel_n hI hR (g := g)
  obtain ⟨⟨i1, i2, i3, i4, i5, i6, i7⟩, hC, hE, hK, hRm, hW, hV, hO⟩ := id hI
  obtain ⟨⟨j1, j2, j3, j4, j5, j6, j7⟩, gC, gE, gK, gRm, gW, gV, gO⟩ := id hIT
  unfold f_X0_contract f_X1_contract f_X1_contract_39
  have hth1 : Ag [1, 2, 3] S (some (1, 0, S)) (some (0, sS T 3 1)) := Ag.no 0 1 rfl rfl rfl rfl (hR.thr 1)
  have hth2 : Ag [1, 2, 3] S (some (2, 0, S)) (some (0, sS T 3 2)) := Ag.no 1 2 rfl rfl rfl rfl (hR.thr 2)
  have hth3 : Ag [1, 2, 3] S (some (3, 0, S)) (some (0, sS T 3 3)) := Ag.no 2 3 rfl rfl rfl rfl (hR.thr 3)
  rcases fn_test i2 (hR.2.1.trans i2) i6 p with ⟨a, ha, rfl, e1, e2⟩ | ⟨e1, e2⟩
  · rw [e1, nx1, z0, ne1 e2]
    rcases st_test i1 (hR.1.trans i1) i5 q with ⟨b, hb, rfl, e1, e2⟩ | ⟨e1, e2⟩
    · rw [e1, nx1, z0, ne1 e2]
      rcases np_test i2 (hR.2.1.trans i2) i6 with ⟨e1, e2⟩ | ⟨hF, e1, e2⟩
      · rw [e1, Option.bind_some, z3, if_pos e2, t3]
        exact hth3
      · rw [e1, Option.bind_some, z0, if_neg e2, t0]
        have h6 := pow6 i5
        have h7 := pow1 n
        have hg : (sS T 3 0).2 5 = S.2 5 := hR.2.2.2 5 (by decide)
        have l1 := con_loop i1 i5 i2 hF ha hb 70 0 (by omega) (by omega)
        have l2 := conM_loop j1 j5 j2 hF ha hb 70 0 (by omega) (by omega)
        unfold wS at l1 l2
        rw [wv_0, sA_self] at l1 l2
        rw [hg] at l2
        refine Ag.ok l1 l2 rfl (hrn _) (iv_new hI hF (by unfold gCon; rw [Nat.zero_or]; exact Int32.sub_self _) (fun s hs => ?_))
        have h1 := (hV a ha).2 (s ||| b) (Nat.or_lt_two_pow hs hb)
        have h2 := (hV a ha).2 b hb
        have p1 := p2_le (show a + 1 ≤ F by omega)
        have p3 := p2_bd i6
        rw [Int.pow_succ] at p1
        unfold gCon
        rw [sub_toInt (by omega) (by omega)]
        omega
    · rw [e1, nx0, z2, eq0 e2, t2]
      exact hth2
  · rw [e1, nx0, z1, eq0 e2, t1]
    exact hth1
theorem op_cap {S T : St} {n F t : Nat} (hI : Iv S n F t) (hR : Rel S T) (p q : Int32) : Ag [1, 2, 3] S (f_X0_cap S p q) (f_X1_cap T p q) := by
  have hIT := (hR.thr 0).iv hI
  have hrn := fun g => rel_n hI hR (g := g)
  obtain ⟨⟨i1, i2, i3, i4, i5, i6, i7⟩, hC, hE, hK, hRm, hW, hV, hO⟩ := id hI
  obtain ⟨⟨j1, j2, j3, j4, j5, j6, j7⟩, gC, gE, gK, gRm, gW, gV, gO⟩ := id hIT
  unfold f_X0_cap f_X1_cap f_X1_cap_41
  have hth1 : Ag [1, 2, 3] S (some (1, 0, S)) (some (0, sS T 3 1)) := Ag.no 0 1 rfl rfl rfl rfl (hR.thr 1)
  have hth2 : Ag [1, 2, 3] S (some (2, 0, S)) (some (0, sS T 3 2)) := Ag.no 1 2 rfl rfl rfl rfl (hR.thr 2)
  have hth3 : Ag [1, 2, 3] S (some (3, 0, S)) (some (0, sS T 3 3)) := Ag.no 2 3 rfl rfl rfl rfl (hR.thr 3)
  rcases fn_test i2 (hR.2.1.trans i2) i6 p with ⟨a, ha, rfl, e1, e2⟩ | ⟨e1, e2⟩
  · rw [e1, nx1, z0, ne1 e2]
    rcases wi_test q 0 100 with ⟨b1, b2, e1, e2⟩ | ⟨e1, e2⟩
    · rw [e1, nx1, z0, ne1 e2]
      rcases np_test i2 (hR.2.1.trans i2) i6 with ⟨e1, e2⟩ | ⟨hF, e1, e2⟩
      · rw [e1, Option.bind_some, z3, if_pos e2, t3]
        exact hth3
      · rw [e1, Option.bind_some, z0, if_neg e2, t0]
        have h6 := pow6 i5
        have h7 := pow1 n
        have hg : (sS T 3 0).2 5 = S.2 5 := hR.2.2.2 5 (by decide)
        have l1 := cap_loop (p := q) i1 i5 i2 hF ha 70 0 (by omega) (by omega)
        have l2 := capM_loop (p := q) j1 j5 j2 hF ha 70 0 (by omega) (by omega)
        unfold wS at l1 l2
        rw [wv_0, sA_self] at l1 l2
        rw [hg] at l2
        have hq1 : (0 : Int) ≤ q.toInt := Int32.le_iff_toInt_le.mp b1
        have hq2 : q.toInt ≤ (100 : Int) := Int32.le_iff_toInt_le.mp b2
        refine Ag.ok l1 l2 rfl (hrn _) (iv_new hI hF ?_ (fun s hs => ?_))
        · unfold gCap
          rw [Nat.add_zero, (hV a ha).1, if_neg (Int32.not_lt.mpr b1)]
        · have h1 := (hV a ha).2 s hs
          have p1 := p2_le (show a ≤ F by omega)
          have p3 := p2_bd i6
          unfold gCap
          split
          · omega
          · omega
    · rw [e1, nx0, z2, eq0 e2, t2]
      exact hth2
  · rw [e1, nx0, z1, eq0 e2, t1]
    exact hth1
theorem op_value {S T : St} {n F t : Nat} (hI : Iv S n F t) (hR : Rel S T) (p q : Int32) : Ag [1, 2] S (f_X0_value S p q) (f_X1_value T p q) := by
  obtain ⟨⟨i1, i2, i3, i4, i5, i6, i7⟩, hC, hE, hK, hRm, hW, hV, hO⟩ := id hI
  unfold f_X0_value f_X1_value f_X1_value_26
  have hth1 : Ag [1, 2] S (some (1, 0, S)) (some (0, sS T 3 1)) := Ag.no 0 1 rfl rfl rfl rfl (hR.thr 1)
  have hth2 : Ag [1, 2] S (some (2, 0, S)) (some (0, sS T 3 2)) := Ag.no 1 2 rfl rfl rfl rfl (hR.thr 2)
  rcases fn_test i2 (hR.2.1.trans i2) i6 p with ⟨a, ha, rfl, e1, e2⟩ | ⟨e1, e2⟩
  · rw [e1, nx1, z0, ne1 e2]
    rcases st_test i1 (hR.1.trans i1) i5 q with ⟨b, hb, rfl, e1, e2⟩ | ⟨e1, e2⟩
    · rw [e1, nx1, z0, ne1 e2, t0]
      have h6 := pow6 i5
      have hT : (sS T 3 0).2 5 = S.2 5 := hR.2.2.2 5 (by decide)
      rw [mul64', rd_nI (by omega) (by omega), Option.bind_some, val_nI (by omega), hT]
      exact Ag.ok rfl rfl rfl (hR.thr 0) hI
    · rw [e1, nx0, z2, eq0 e2, t2]
      exact hth2
  · rw [e1, nx0, z1, eq0 e2, t1]
    exact hth1

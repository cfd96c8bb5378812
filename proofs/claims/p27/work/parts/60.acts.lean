/-! What each method answers, of a state X that is S but for the rows of the search. -/
theorem sm_rfl (S : St) : Sm S S := ⟨rfl, fun _ _ _ => rfl⟩
theorem sm_tr {S X Y : St} (h : Sm S X) (k : Sm X Y) : Sm S Y := ⟨k.1.trans h.1, fun j a b => (k.2 j a b).trans (h.2 j a b)⟩
theorem sm_A {S X : St} (h : Sm S X) (k : Nat) (f : Nat → Int32) : Sm (sA S k f) (sA X k f) := ⟨h.1, fun j a b => by
  by_cases c : j = k
  · subst c; rw [sA_same, sA_same]
  · rw [sA_other c, sA_other c]; exact h.2 j a b⟩
theorem sm_S {S X : St} (h : Sm S X) (k : Nat) (v : Int32) : Sm (sS S k v) (sS X k v) := ⟨by
  show (fun j => if j = k then v else X.1 j) = (fun j => if j = k then v else S.1 j)
  rw [h.1], h.2⟩
theorem sm_r {S X : St} (h : Sm S X) {k : Nat} (hk : k < 7) : X.2 k = S.2 k := h.2 k (by omega) (by omega)
theorem nlt {a b : Nat} (h : a ≤ b) (hb : b < 2 ^ 31) : ¬ nI b < nI a := Int32.not_lt.mpr (nI_le h hb)
theorem el_ok {S : St} {n j : Nat} (h : S.1 0 = nI n) (hn : n ≤ 6) (hj : j < n) : f_X0_isElement S (nI j) = 1 := by
  unfold f_X0_isElement
  rw [h, if_neg (nI_pos (by omega)), if_neg (nI_ge hj (by omega))]
theorem fn_ok {S : St} {n j : Nat} (h : S.1 1 = nI n) (hn : n ≤ 8) (hj : j < n) : f_X0_isFunction S (nI j) = 1 := by
  unfold f_X0_isFunction
  rw [h, if_neg (nI_pos (by omega)), if_neg (nI_ge hj (by omega))]
theorem st_ok {S : St} {n s : Nat} (h : S.1 0 = nI n) (hn : n ≤ 6) (hs : s < 2 ^ n) : f_X0_isSet S (nI s) = 1 := by
  have h6 := pow6 hn
  unfold f_X0_isSet
  rw [sets_nI h hn, if_neg (nI_pos (by omega)), if_neg (nI_ge hs (by omega))]
theorem wi_ok {p a b : Int32} (h1 : ¬ p < a) (h2 : ¬ b < p) : f_X0_isWithin p a b = 1 := by
  unfold f_X0_isWithin
  rw [if_neg h1, if_neg h2]
theorem fam_ok {j : Nat} (hj : j < 2) : f_X0_isFamily (nI j) = 1 := by
  unfold f_X0_isFamily
  rw [if_neg (nI_pos (by omega)), if_neg (show ¬ (2 : Int32) ≤ nI j from nI_ge (b := 2) hj (by omega))]
theorem col_ok {j : Nat} (hj : j < 6) : f_X0_isColour (nI j) = 1 := by
  unfold f_X0_isColour
  rw [if_neg (nI_pos (by omega)), if_neg (show ¬ (6 : Int32) ≤ nI j from nI_ge (b := 6) hj (by omega))]
theorem wi_n {j m : Nat} (hj : j ≤ m) (hm : m < 2 ^ 30) : f_X0_isWithin (nI j) 0 (nI m) = 1 := wi_ok (nI_pos (by omega)) (nlt hj (by omega))
theorem wi_4 {k : Nat} (h : k ≤ 4) : f_X0_isWithin (nI k) 0 4 = 1 := wi_n (m := 4) h (by omega)
theorem wi_6 {k : Nat} (h : k ≤ 6) : f_X0_isWithin (nI k) 0 6 = 1 := wi_n (m := 6) h (by omega)
theorem wi_9 {k : Nat} (h : k ≤ 9) : f_X0_isWithin (nI k) 0 9 = 1 := wi_n (m := 9) h (by omega)
theorem wi_20 {k : Nat} (h : k ≤ 20) : f_X0_isWithin (nI k) 0 20 = 1 := wi_n (m := 20) h (by omega)
theorem wi_100 {k : Nat} (h : k ≤ 100) : f_X0_isWithin (nI k) 0 100 = 1 := wi_n (m := 100) h (by omega)
-- ---- what is told
/-- an object anew -/
def elS (S : St) (m : Nat) : St := (fun k => if k = 2 then 0 else if k = 1 then 0 else if k = 0 then nI m else S.1 k, fun r => if r = 4 then filv 6 (S.2 4) 0 else if r = 3 then filv 12 (S.2 3) 1 else if r = 2 then filv 12 (S.2 2) 0 else if r = 1 then filv 36 (S.2 1) 0 else if r = 0 then filv 6 (S.2 0) 0 else S.2 r)
theorem s_elements {S X : St} {n F t m : Nat} (h : Sm S X) (hI : Iv S n F t) (h1 : 1 ≤ m) (h6 : m ≤ 6) : ∃ X', f_X0_elements X (nI m) = some (0, nI n, X') ∧ Sm (elS S m) X' ∧ Iv (elS S m) m 0 0 := by
  refine ⟨elS X m, ?_, ⟨?_, fun k h7 h8 => ?_⟩, iv_fresh (n := m) rfl rfl rfl h1 h6 (f0 := S.2 0) (f1 := S.2 1) (f2 := S.2 2) (f3 := S.2 3) (f4 := S.2 4) rfl rfl rfl rfl rfl⟩
  · unfold f_X0_elements
    rw [wi_ok (show ¬ nI m < 1 from nlt (a := 1) h1 (by omega)) (show ¬ (6 : Int32) < nI m from nlt (a := m) (b := 6) h6 (by omega)), nx1, z0]
    have e : X.1 0 = nI n := by rw [h.1]; exact hI.1.1
    show some (0, X.1 0, elS X m) = _
    rw [e]
  · show (fun k => if k = 2 then (0 : Int32) else if k = 1 then 0 else if k = 0 then nI m else X.1 k) = (fun k => if k = 2 then 0 else if k = 1 then 0 else if k = 0 then nI m else S.1 k)
    rw [h.1]
  · show (if k = 4 then filv 6 (X.2 4) 0 else if k = 3 then filv 12 (X.2 3) 1 else if k = 2 then filv 12 (X.2 2) 0 else if k = 1 then filv 36 (X.2 1) 0 else if k = 0 then filv 6 (X.2 0) 0 else X.2 k) = (if k = 4 then filv 6 (S.2 4) 0 else if k = 3 then filv 12 (S.2 3) 1 else if k = 2 then filv 12 (S.2 2) 0 else if k = 1 then filv 36 (S.2 1) 0 else if k = 0 then filv 6 (S.2 0) 0 else S.2 k)
    rw [sm_r h (k := 4) (by decide), sm_r h (k := 3) (by decide), sm_r h (k := 2) (by decide), sm_r h (k := 1) (by decide), sm_r h (k := 0) (by decide), h.2 k h7 h8]
def setb (b : Bool) (c k : Nat) : Nat := if b then c ||| 2 ^ k else wo c k
theorem setb_tb {b : Bool} {c k : Nat} (hc : c < 1024) (hk : k < 10) : (setb b c k).testBit k = b := by
  unfold setb
  cases b
  · rw [if_neg (by decide), wo_self hc hk]
  · rw [if_pos rfl, tb_or, decide_eq_true rfl, Bool.or_true]
def cvS (S : St) (b : Bool) (j k : Nat) : St := sA S 0 (upd (S.2 0) j (nI (setb b (nt (S.2 0 j)) k)))
theorem s_cover {S X : St} {n F t j k : Nat} (h : Sm S X) (hI : Iv S n F t) (hj : j < n) (hk : k < 10) (b : Bool) : ∃ X', f_X0_cover X (nI j) (nI k) (bI b) = some (0, bI ((nt (S.2 0 j)).testBit k), X') ∧ Sm (cvS S b j k) X' ∧ Iv (cvS S b j k) n F t := by
  obtain ⟨⟨i1, i2, i3, i4, i5, i6, i7⟩, hC, hE, hK, hRm, hW, hV, hO⟩ := id hI
  obtain ⟨c, hc, ec⟩ := hC j (by omega)
  have en : nt (S.2 0 j) = c := by rw [ec]; exact nt_nI (by omega)
  have hd : setb b c k < 1024 := by
    unfold setb
    cases b
    · rw [if_neg (by decide)]; exact Nat.lt_of_le_of_lt (wo_le c k) hc
    · rw [if_pos rfl]; exact or_lt (n := 10) hc (by omega)
  have x0 : X.1 0 = nI n := by rw [h.1]; exact i1
  have r0 := sm_r h (k := 0) (by decide)
  refine ⟨sA X 0 (upd (X.2 0) j (nI (setb b c k))), ?_, ?_, ?_⟩
  · unfold f_X0_cover f_X0_cover_23 f_X0_cover_60
    rw [ne1 (el_ok x0 i5 hj), ne1 (wi_9 (by omega)), nx1, z0, r0, en, at_nI (by omega) (by omega), ec]
    dsimp only [bnd]
    rw [has_nI (by omega) (by omega), put_nI (by omega) (by omega), put_nI (by omega) (by omega), with_nI (by omega), without_nI hc (by omega)]
    cases b
    · rw [if_pos (show bI false = 0 from rfl)]; rfl
    · rw [if_neg (show ¬ bI true = 0 from one_ne)]; rfl
  · unfold cvS; rw [en, r0]; exact sm_A h 0 _
  · unfold cvS; rw [en]; exact ⟨hI.1, upd_row (P := fun x => ∃ c, c < 1024 ∧ x = nI c) hC ⟨_, hd, rfl⟩, hE, hK, hRm, hW, hV, hO⟩
theorem cvS_at {S : St} {n F t j k : Nat} (hI : Iv S n F t) (hj : j < n) (hk : k < 10) (b : Bool) : (nt ((cvS S b j k).2 0 j)).testBit k = b := by
  obtain ⟨c, hc, ec⟩ := hI.2.1 j (by have := hI.1.2.2.2.2.1; omega)
  have hd : setb b (nt (S.2 0 j)) k < 1024 := by
    rw [ec, nt_nI (by omega)]
    unfold setb
    cases b
    · rw [if_neg (by decide)]; exact Nat.lt_of_le_of_lt (wo_le c k) hc
    · rw [if_pos rfl]; exact or_lt (n := 10) hc (by omega)
  show (nt (upd (S.2 0) j (nI (setb b (nt (S.2 0 j)) k)) j)).testBit k = b
  unfold upd
  rw [if_pos rfl, nt_nI (by omega)]
  refine setb_tb ?_ hk
  rw [ec, nt_nI (by omega)]; exact hc
def egS (S : St) (a b w : Nat) : St := sA S 1 (upd (upd (S.2 1) (6 * a + b) (nI w)) (6 * b + a) (nI w))
theorem s_edge {S X : St} {n F t a b w : Nat} (h : Sm S X) (hI : Iv S n F t) (ha : a < n) (hb : b < n) (hab : a ≠ b) (hw : w ≤ 20) : ∃ X', f_X0_edge X (nI a) (nI b) (nI w) = some (0, S.2 1 (6 * a + b), X') ∧ Sm (egS S a b w) X' ∧ Iv (egS S a b w) n F t := by
  obtain ⟨⟨i1, i2, i3, i4, i5, i6, i7⟩, hC, hE, hK, hRm, hW, hV, hO⟩ := id hI
  have x0 : X.1 0 = nI n := by rw [h.1]; exact i1
  have r1 := sm_r h (k := 1) (by decide)
  refine ⟨sA X 1 (upd (upd (X.2 1) (6 * a + b) (nI w)) (6 * b + a) (nI w)), ?_, ?_, ?_⟩
  · unfold f_X0_edge f_X0_edge_21 f_X0_edge_44
    rw [ne1 (el_ok x0 i5 ha), ne1 (el_ok x0 i5 hb), nx1, z0, if_neg (nI_ne hab (by omega) (by omega)), ne1 (wi_20 hw), nx1, z0]
    unfold f_X0_edgeWeight bnd
    rw [mul6, mul6, at_nI (by omega) (by omega), put_nI (by omega) (by omega), sA_same, put_nI (by omega) (by omega), sA_sA, r1]
  · unfold egS; rw [r1]; exact sm_A h 1 _
  · refine ⟨hI.1, hC, ⟨?_, ?_⟩, hK, hRm, hW, hV, hO⟩
    · exact upd_row (P := fun x => ∃ c, c ≤ 20 ∧ x = nI c) (upd_row (P := fun x => ∃ c, c ≤ 20 ∧ x = nI c) hE.1 ⟨w, hw, rfl⟩) ⟨w, hw, rfl⟩
    · intro i j hi hj
      show upd (upd (S.2 1) (6 * a + b) (nI w)) (6 * b + a) (nI w) (6 * i + j) = upd (upd (S.2 1) (6 * a + b) (nI w)) (6 * b + a) (nI w) (6 * j + i)
      unfold upd
      by_cases c1 : 6 * i + j = 6 * b + a
      · rw [if_pos c1]
        by_cases c2 : 6 * j + i = 6 * b + a
        · rw [if_pos c2]
        · rw [if_neg c2, if_pos (show 6 * j + i = 6 * a + b by omega)]
      · rw [if_neg c1]
        by_cases c3 : 6 * i + j = 6 * a + b
        · rw [if_pos c3, if_pos (show 6 * j + i = 6 * b + a by omega)]
        · rw [if_neg c3, if_neg (show ¬ 6 * j + i = 6 * b + a by omega), if_neg (show ¬ 6 * j + i = 6 * a + b by omega)]
          exact hE.2 i j hi hj
theorem s_edge_same {X : St} {n F t a w : Nat} (hI : Iv X n F t) (ha : a < n) : f_X0_edge X (nI a) (nI a) (nI w) = some (2, 0, X) := by
  obtain ⟨⟨i1, i2, i3, i4, i5, i6, i7⟩, -⟩ := id hI
  unfold f_X0_edge f_X0_edge_21 f_X0_edge_44
  rw [ne1 (el_ok i1 i5 ha), ne1 (el_ok i1 i5 ha), nx1, z0, if_pos rfl, nx0, z2]
def clS (S : St) (f e c : Nat) : St := sA S 2 (upd (S.2 2) (6 * f + e) (nI c))
theorem s_colour {S X : St} {n F t f e c : Nat} (h : Sm S X) (hI : Iv S n F t) (hf : f < 2) (he : e < n) (hc : c < 6) : ∃ X', f_X0_colour X (nI f) (nI e) (nI c) = some (0, S.2 2 (6 * f + e), X') ∧ Sm (clS S f e c) X' ∧ Iv (clS S f e c) n F t := by
  obtain ⟨⟨i1, i2, i3, i4, i5, i6, i7⟩, hC, hE, hK, hRm, hW, hV, hO⟩ := id hI
  have x0 : X.1 0 = nI n := by rw [h.1]; exact i1
  have r2 := sm_r h (k := 2) (by decide)
  refine ⟨sA X 2 (upd (X.2 2) (6 * f + e) (nI c)), ?_, ?_, ⟨hI.1, hC, hE, upd_row (P := fun x => ∃ c, c < 6 ∧ x = nI c) hK ⟨c, hc, rfl⟩, hRm, hW, hV, hO⟩⟩
  · unfold f_X0_colour f_X0_colour_27
    rw [ne1 (fam_ok hf), ne1 (el_ok x0 i5 he), ne1 (col_ok hc), nx1, z0]
    unfold f_X0_colourOf bnd
    rw [mul6, at_nI (by omega) (by omega), put_nI (by omega) (by omega), r2]
  · unfold clS; rw [r2]; exact sm_A h 2 _
def rmS (S : St) (f c w : Nat) : St := sA S 3 (upd (S.2 3) (6 * f + c) (nI w))
theorem s_room {S X : St} {n F t f c w : Nat} (h : Sm S X) (hI : Iv S n F t) (hf : f < 2) (hc : c < 6) (hw : w ≤ 6) : ∃ X', f_X0_room X (nI f) (nI c) (nI w) = some (0, S.2 3 (6 * f + c), X') ∧ Sm (rmS S f c w) X' ∧ Iv (rmS S f c w) n F t := by
  obtain ⟨⟨i1, i2, i3, i4, i5, i6, i7⟩, hC, hE, hK, hRm, hW, hV, hO⟩ := id hI
  have r3 := sm_r h (k := 3) (by decide)
  refine ⟨sA X 3 (upd (X.2 3) (6 * f + c) (nI w)), ?_, ?_, ⟨hI.1, hC, hE, hK, upd_row (P := fun x => ∃ c, c ≤ 6 ∧ x = nI c) hRm ⟨w, hw, rfl⟩, hW, hV, hO⟩⟩
  · unfold f_X0_room f_X0_room_19
    rw [ne1 (fam_ok hf), ne1 (col_ok hc), nx1, z0, (wi_6 hw), nx1, z0]
    unfold f_X0_roomOf bnd
    rw [mul6, at_nI (by omega) (by omega), put_nI (by omega) (by omega), r3]
  · unfold rmS; rw [r3]; exact sm_A h 3 _
def weS (S : St) (e : Nat) (x : Int32) : St := sA S 4 (upd (S.2 4) e x)
theorem s_weigh {S X : St} {n F t e : Nat} {x : Int32} (h : Sm S X) (hI : Iv S n F t) (he : e < n) (h1 : -20 ≤ x.toInt) (h2 : x.toInt ≤ 20) : ∃ X', f_X0_weigh X (nI e) x = some (0, S.2 4 e, X') ∧ Sm (weS S e x) X' ∧ Iv (weS S e x) n F t := by
  obtain ⟨⟨i1, i2, i3, i4, i5, i6, i7⟩, hC, hE, hK, hRm, hW, hV, hO⟩ := id hI
  have x0 : X.1 0 = nI n := by rw [h.1]; exact i1
  have r4 := sm_r h (k := 4) (by decide)
  refine ⟨sA X 4 (upd (X.2 4) e x), ?_, ?_, ⟨hI.1, hC, hE, hK, hRm, upd_row (P := fun x => -20 ≤ x.toInt ∧ x.toInt ≤ 20) hW ⟨h1, h2⟩, hV, hO⟩⟩
  · unfold f_X0_weigh
    rw [el_ok x0 i5 he, nx1, z0, wi_ok (show ¬ x < -20 from fun c => by have := Int32.lt_iff_toInt_lt.mp c; rw [show (-20 : Int32).toInt = -20 from rfl] at this; omega) (show ¬ (20 : Int32) < x from fun c => by have := Int32.lt_iff_toInt_lt.mp c; rw [show (20 : Int32).toInt = 20 from rfl] at this; omega), nx1, z0]
    unfold bnd
    rw [at_nI (by omega) (by omega), put_nI (by omega) (by omega), r4]
  · unfold weS; rw [r4]; exact sm_A h 4 _

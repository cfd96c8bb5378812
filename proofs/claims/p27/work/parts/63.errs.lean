/-! What there is not is refused. -/
def Bad (m : Nat) (e : Int32) : Prop := e < 0 ∨ nI m ≤ e
def Out (a b p : Int32) : Prop := p < a ∨ b < p
theorem below_bad {m : Nat} {e : Int32} (h : Bad m e) : (if e < 0 then 0 else if nI m ≤ e then 0 else 1 : Int32) = 0 := by
  by_cases c : e < 0
  · rw [if_pos c]
  · rw [if_neg c]
    rcases h with h | h
    · exact absurd h c
    · rw [if_pos h]
theorem el_bad {S : St} {n : Nat} {e : Int32} (h : S.1 0 = nI n) (hb : Bad n e) : f_X0_isElement S e = 0 := by
  unfold f_X0_isElement
  rw [h]; exact below_bad hb
theorem fn_bad {S : St} {n : Nat} {e : Int32} (h : S.1 1 = nI n) (hb : Bad n e) : f_X0_isFunction S e = 0 := by
  unfold f_X0_isFunction
  rw [h]; exact below_bad hb
theorem st_bad {S : St} {n : Nat} {e : Int32} (h : S.1 0 = nI n) (hn : n ≤ 6) (hb : Bad (2 ^ n) e) : f_X0_isSet S e = 0 := by
  unfold f_X0_isSet
  rw [sets_nI h hn]; exact below_bad hb
theorem fam_bad {e : Int32} (hb : Bad 2 e) : f_X0_isFamily e = 0 := below_bad hb
theorem col_bad {e : Int32} (hb : Bad 6 e) : f_X0_isColour e = 0 := below_bad hb
theorem wi_bad {a b p : Int32} (h : Out a b p) : f_X0_isWithin p a b = 0 := by
  unfold f_X0_isWithin
  by_cases c : p < a
  · rw [if_pos c]
  · rw [if_neg c]
    rcases h with h | h
    · exact absurd h c
    · rw [if_pos h]
section ERR
variable {X : St} {n F t : Nat}
theorem e_elements (hI : Iv X n F t) {p : Int32} (h : Out 1 6 p) : f_X0_elements X p = some (2, 0, X) := by
  obtain ⟨⟨i1, i2, i3, i4, i5, i6, i7⟩, -⟩ := id hI
  unfold f_X0_elements
  rw [wi_bad h, nx0, z2]
theorem e_cover1 (hI : Iv X n F t) {p : Int32} (h : Bad n p) (q b : Int32) : f_X0_cover X p q b = some (1, 0, X) := by
  obtain ⟨⟨i1, i2, i3, i4, i5, i6, i7⟩, -⟩ := id hI
  unfold f_X0_cover f_X0_cover_23
  rw [eq0 (el_bad i1 h), nx0, z1]
theorem e_cover2 (hI : Iv X n F t) (p : Int32) {q : Int32} (h : Out 0 9 q) (b : Int32) : f_X0_cover X p q b = some (1, 0, X) := by
  obtain ⟨⟨i1, i2, i3, i4, i5, i6, i7⟩, -⟩ := id hI
  unfold f_X0_cover f_X0_cover_23
  by_cases c : f_X0_isElement X p = 0
  · rw [eq0 c, nx0, z1]
  · rw [if_neg c, eq0 (wi_bad h), nx0, z1]
theorem e_edge1 (hI : Iv X n F t) {p : Int32} (h : Bad n p) (q w : Int32) : f_X0_edge X p q w = some (1, 0, X) := by
  obtain ⟨⟨i1, i2, i3, i4, i5, i6, i7⟩, -⟩ := id hI
  unfold f_X0_edge f_X0_edge_21
  rw [eq0 (el_bad i1 h), nx0, z1]
theorem e_edge2 (hI : Iv X n F t) (p : Int32) {q : Int32} (h : Bad n q) (w : Int32) : f_X0_edge X p q w = some (1, 0, X) := by
  obtain ⟨⟨i1, i2, i3, i4, i5, i6, i7⟩, -⟩ := id hI
  unfold f_X0_edge f_X0_edge_21
  by_cases c : f_X0_isElement X p = 0
  · rw [eq0 c, nx0, z1]
  · rw [if_neg c, eq0 (el_bad i1 h), nx0, z1]
theorem e_edge3 (hI : Iv X n F t) {a : Nat} (ha : a < n) (w : Int32) : f_X0_edge X (nI a) (nI a) w = some (2, 0, X) := by
  obtain ⟨⟨i1, i2, i3, i4, i5, i6, i7⟩, -⟩ := id hI
  unfold f_X0_edge f_X0_edge_21 f_X0_edge_44
  rw [ne1 (el_ok i1 i5 ha), ne1 (el_ok i1 i5 ha), nx1, z0, if_pos rfl, nx0, z2]
theorem e_edge4 (hI : Iv X n F t) {a b : Nat} (ha : a < n) (hb : b < n) (hab : a ≠ b) {w : Int32} (h : Out 0 20 w) : f_X0_edge X (nI a) (nI b) w = some (2, 0, X) := by
  obtain ⟨⟨i1, i2, i3, i4, i5, i6, i7⟩, -⟩ := id hI
  unfold f_X0_edge f_X0_edge_21 f_X0_edge_44
  rw [ne1 (el_ok i1 i5 ha), ne1 (el_ok i1 i5 hb), nx1, z0, if_neg (nI_ne hab (by omega) (by omega)), eq0 (wi_bad h), nx0, z2]
theorem e_colour1 (hI : Iv X n F t) {p : Int32} (h : Bad 2 p) (q c : Int32) : f_X0_colour X p q c = some (1, 0, X) := by
  obtain ⟨⟨i1, i2, i3, i4, i5, i6, i7⟩, -⟩ := id hI
  unfold f_X0_colour f_X0_colour_27
  rw [eq0 (fam_bad h), nx0, z1]
theorem e_colour2 (hI : Iv X n F t) (p : Int32) {q : Int32} (h : Bad n q) (x : Int32) : f_X0_colour X p q x = some (1, 0, X) := by
  obtain ⟨⟨i1, i2, i3, i4, i5, i6, i7⟩, -⟩ := id hI
  unfold f_X0_colour f_X0_colour_27
  by_cases c : f_X0_isFamily p = 0
  · rw [eq0 c, nx0, z1]
  · rw [if_neg c, eq0 (el_bad i1 h), nx0, z1]
theorem e_colour3 (hI : Iv X n F t) (p q : Int32) {x : Int32} (h : Bad 6 x) : f_X0_colour X p q x = some (1, 0, X) := by
  obtain ⟨⟨i1, i2, i3, i4, i5, i6, i7⟩, -⟩ := id hI
  unfold f_X0_colour f_X0_colour_27
  by_cases c : f_X0_isFamily p = 0
  · rw [eq0 c, nx0, z1]
  · rw [if_neg c]
    by_cases d : f_X0_isElement X q = 0
    · rw [eq0 d, nx0, z1]
    · rw [if_neg d, eq0 (col_bad h), nx0, z1]
theorem e_room1 (hI : Iv X n F t) {p : Int32} (h : Bad 2 p) (q x : Int32) : f_X0_room X p q x = some (1, 0, X) := by
  obtain ⟨⟨i1, i2, i3, i4, i5, i6, i7⟩, -⟩ := id hI
  unfold f_X0_room f_X0_room_19
  rw [eq0 (fam_bad h), nx0, z1]
theorem e_room2 (hI : Iv X n F t) (p : Int32) {q : Int32} (h : Bad 6 q) (x : Int32) : f_X0_room X p q x = some (1, 0, X) := by
  obtain ⟨⟨i1, i2, i3, i4, i5, i6, i7⟩, -⟩ := id hI
  unfold f_X0_room f_X0_room_19
  by_cases c : f_X0_isFamily p = 0
  · rw [eq0 c, nx0, z1]
  · rw [if_neg c, eq0 (col_bad h), nx0, z1]
theorem e_room3 (hI : Iv X n F t) {f c : Nat} (hf : f < 2) (hc : c < 6) {x : Int32} (h : Out 0 6 x) : f_X0_room X (nI f) (nI c) x = some (2, 0, X) := by
  obtain ⟨⟨i1, i2, i3, i4, i5, i6, i7⟩, -⟩ := id hI
  unfold f_X0_room f_X0_room_19
  rw [ne1 (fam_ok hf), ne1 (col_ok hc), nx1, z0, wi_bad h, nx0, z2]
theorem e_weigh1 (hI : Iv X n F t) {p : Int32} (h : Bad n p) (x : Int32) : f_X0_weigh X p x = some (1, 0, X) := by
  obtain ⟨⟨i1, i2, i3, i4, i5, i6, i7⟩, -⟩ := id hI
  unfold f_X0_weigh
  rw [el_bad i1 h, nx0, z1]
theorem e_weigh2 (hI : Iv X n F t) {e : Nat} (he : e < n) {x : Int32} (h : Out (-20) 20 x) : f_X0_weigh X (nI e) x = some (2, 0, X) := by
  obtain ⟨⟨i1, i2, i3, i4, i5, i6, i7⟩, -⟩ := id hI
  unfold f_X0_weigh
  rw [el_ok i1 i5 he, nx1, z0, wi_bad h, nx0, z2]
theorem e_make (hI : Iv X n F t) {p : Int32} (h : Out 0 4 p) : f_X0_make X p = some (2, 0, X) := by
  obtain ⟨⟨i1, i2, i3, i4, i5, i6, i7⟩, -⟩ := id hI
  unfold f_X0_make
  rw [wi_bad h, nx0, z2]
theorem e_sum1 (hI : Iv X n F t) {p : Int32} (h : Bad F p) (q : Int32) : f_X0_sum X p q = some (1, 0, X) := by
  obtain ⟨⟨i1, i2, i3, i4, i5, i6, i7⟩, -⟩ := id hI
  unfold f_X0_sum f_X0_sum_21
  rw [eq0 (fn_bad i2 h), nx0, z1]
theorem e_sum2 (hI : Iv X n F t) (p : Int32) {q : Int32} (h : Bad F q) : f_X0_sum X p q = some (1, 0, X) := by
  obtain ⟨⟨i1, i2, i3, i4, i5, i6, i7⟩, -⟩ := id hI
  unfold f_X0_sum f_X0_sum_21
  by_cases c : f_X0_isFunction X p = 0
  · rw [eq0 c, nx0, z1]
  · rw [if_neg c, eq0 (fn_bad i2 h), nx0, z1]
theorem e_contract1 (hI : Iv X n F t) {p : Int32} (h : Bad F p) (q : Int32) : f_X0_contract X p q = some (1, 0, X) := by
  obtain ⟨⟨i1, i2, i3, i4, i5, i6, i7⟩, -⟩ := id hI
  unfold f_X0_contract
  rw [fn_bad i2 h, nx0, z1]
theorem e_cap1 (hI : Iv X n F t) {p : Int32} (h : Bad F p) (q : Int32) : f_X0_cap X p q = some (1, 0, X) := by
  obtain ⟨⟨i1, i2, i3, i4, i5, i6, i7⟩, -⟩ := id hI
  unfold f_X0_cap
  rw [fn_bad i2 h, nx0, z1]
theorem e_value1 (hI : Iv X n F t) {p : Int32} (h : Bad F p) (q : Int32) : f_X0_value X p q = some (1, 0, X) := by
  obtain ⟨⟨i1, i2, i3, i4, i5, i6, i7⟩, -⟩ := id hI
  unfold f_X0_value
  rw [fn_bad i2 h, nx0, z1]
theorem e_greedy1 (hI : Iv X n F t) {p : Int32} (h : Bad F p) (q : Int32) : f_X0_greedy X p q = some (1, 0, X) := by
  obtain ⟨⟨i1, i2, i3, i4, i5, i6, i7⟩, -⟩ := id hI
  unfold f_X0_greedy
  rw [fn_bad i2 h, nx0, z1]
theorem e_best1 (hI : Iv X n F t) {p : Int32} (h : Bad F p) (q : Int32) : f_X0_best X p q = some (1, 0, X) := by
  obtain ⟨⟨i1, i2, i3, i4, i5, i6, i7⟩, -⟩ := id hI
  unfold f_X0_best
  rw [fn_bad i2 h, nx0, z1]
theorem e_contract2 (hI : Iv X n F t) {a : Nat} (ha : a < F) {q : Int32} (h : Bad (2 ^ n) q) : f_X0_contract X (nI a) q = some (2, 0, X) := by
  obtain ⟨⟨i1, i2, i3, i4, i5, i6, i7⟩, -⟩ := id hI
  unfold f_X0_contract
  rw [fn_ok i2 i6 ha, nx1, z0, st_bad i1 i5 h, nx0, z2]
theorem e_value2 (hI : Iv X n F t) {a : Nat} (ha : a < F) {q : Int32} (h : Bad (2 ^ n) q) : f_X0_value X (nI a) q = some (2, 0, X) := by
  obtain ⟨⟨i1, i2, i3, i4, i5, i6, i7⟩, -⟩ := id hI
  unfold f_X0_value
  rw [fn_ok i2 i6 ha, nx1, z0, st_bad i1 i5 h, nx0, z2]
theorem e_cap2 (hI : Iv X n F t) {a : Nat} (ha : a < F) {q : Int32} (h : Out 0 100 q) : f_X0_cap X (nI a) q = some (2, 0, X) := by
  obtain ⟨⟨i1, i2, i3, i4, i5, i6, i7⟩, -⟩ := id hI
  unfold f_X0_cap
  rw [fn_ok i2 i6 ha, nx1, z0, wi_bad h, nx0, z2]
theorem e_greedy2 (hI : Iv X n F t) {a : Nat} (ha : a < F) {q : Int32} (h : Out 0 6 q) : f_X0_greedy X (nI a) q = some (2, 0, X) := by
  obtain ⟨⟨i1, i2, i3, i4, i5, i6, i7⟩, -⟩ := id hI
  unfold f_X0_greedy
  rw [fn_ok i2 i6 ha, nx1, z0, wi_bad h, nx0, z2]
theorem e_best2 (hI : Iv X n F t) {a : Nat} (ha : a < F) {q : Int32} (h : Out 0 6 q) : f_X0_best X (nI a) q = some (2, 0, X) := by
  obtain ⟨⟨i1, i2, i3, i4, i5, i6, i7⟩, -⟩ := id hI
  unfold f_X0_best
  rw [fn_ok i2 i6 ha, nx1, z0, wi_bad h, nx0, z2]
theorem e_isLawful (hI : Iv X n F t) {p : Int32} (h : Bad F p) : f_X0_isLawful X p = some (1, 0, X) := by
  obtain ⟨⟨i1, i2, i3, i4, i5, i6, i7⟩, -⟩ := id hI
  unfold f_X0_isLawful
  rw [fn_bad i2 h, nx0, z1]
theorem e_rises (hI : Iv X n F t) {p : Int32} (h : Bad F p) : f_X0_rises X p = some (1, 0, X) := by
  obtain ⟨⟨i1, i2, i3, i4, i5, i6, i7⟩, -⟩ := id hI
  unfold f_X0_rises
  rw [fn_bad i2 h, nx0, z1]
theorem e_least (hI : Iv X n F t) {p : Int32} (h : Bad F p) : f_X0_least X p = some (1, 0, X) := by
  obtain ⟨⟨i1, i2, i3, i4, i5, i6, i7⟩, -⟩ := id hI
  unfold f_X0_least
  rw [fn_bad i2 h, nx0, z1]
theorem e_leastSet (hI : Iv X n F t) {p : Int32} (h : Bad F p) (q : Int32) : f_X0_leastSet X p q = some (1, 0, X) := by
  obtain ⟨⟨i1, i2, i3, i4, i5, i6, i7⟩, -⟩ := id hI
  unfold f_X0_leastSet
  rw [fn_bad i2 h, nx0, z1]
theorem e_leastSetAnew (hI : Iv X n F t) {p : Int32} (h : Bad F p) (q : Int32) : f_X0_leastSetAnew X p q = some (1, 0, X) := by
  obtain ⟨⟨i1, i2, i3, i4, i5, i6, i7⟩, -⟩ := id hI
  unfold f_X0_leastSetAnew
  rw [fn_bad i2 h, nx0, z1]
theorem e_order (hI : Iv X n F t) {p : Int32} (h : Bad n p) : f_X0_order X p = some (1, 0, X) := by
  obtain ⟨⟨i1, i2, i3, i4, i5, i6, i7⟩, -⟩ := id hI
  unfold f_X0_order
  rw [el_bad i1 h, nx0, z1]
theorem e_corner1 (hI : Iv X n F t) {p : Int32} (h : Bad F p) (q : Int32) : f_X0_corner X p q = some (1, 0, X) := by
  obtain ⟨⟨i1, i2, i3, i4, i5, i6, i7⟩, -⟩ := id hI
  unfold f_X0_corner f_X0_corner_21
  rw [eq0 (fn_bad i2 h), nx0, z1]
theorem e_corner2 (hI : Iv X n F t) (p : Int32) {q : Int32} (h : Bad n q) : f_X0_corner X p q = some (1, 0, X) := by
  obtain ⟨⟨i1, i2, i3, i4, i5, i6, i7⟩, -⟩ := id hI
  unfold f_X0_corner f_X0_corner_21
  by_cases c : f_X0_isFunction X p = 0
  · rw [eq0 c, nx0, z1]
  · rw [if_neg c, eq0 (el_bad i1 h), nx0, z1]
theorem e_share1 (hI : Iv X n F t) {p : Int32} (h : Bad F p) (q : Int32) : f_X0_share X p q = some (1, 0, X) := by
  obtain ⟨⟨i1, i2, i3, i4, i5, i6, i7⟩, -⟩ := id hI
  unfold f_X0_share f_X0_share_21
  rw [eq0 (fn_bad i2 h), nx0, z1]
theorem e_share2 (hI : Iv X n F t) (p : Int32) {q : Int32} (h : Bad n q) : f_X0_share X p q = some (1, 0, X) := by
  obtain ⟨⟨i1, i2, i3, i4, i5, i6, i7⟩, -⟩ := id hI
  unfold f_X0_share f_X0_share_21
  by_cases c : f_X0_isFunction X p = 0
  · rw [eq0 c, nx0, z1]
  · rw [if_neg c, eq0 (el_bad i1 h), nx0, z1]
theorem e_shareAnew1 (hI : Iv X n F t) {p : Int32} (h : Bad F p) (q : Int32) : f_X0_shareAnew X p q = some (1, 0, X) := by
  obtain ⟨⟨i1, i2, i3, i4, i5, i6, i7⟩, -⟩ := id hI
  unfold f_X0_shareAnew f_X0_shareAnew_21
  rw [eq0 (fn_bad i2 h), nx0, z1]
theorem e_shareAnew2 (hI : Iv X n F t) (p : Int32) {q : Int32} (h : Bad n q) : f_X0_shareAnew X p q = some (1, 0, X) := by
  obtain ⟨⟨i1, i2, i3, i4, i5, i6, i7⟩, -⟩ := id hI
  unfold f_X0_shareAnew f_X0_shareAnew_21
  by_cases c : f_X0_isFunction X p = 0
  · rw [eq0 c, nx0, z1]
  · rw [if_neg c, eq0 (el_bad i1 h), nx0, z1]
end ERR

/-! Answers of objects that are told by hand: steps of the law's text, and checks that the kernel can run. -/
theorem go_eq {α : Type} {x : Option (Nat × Int32 × St)} {v w : Int32} {Y : St} {K : St → Option α} {r : Option α} (h : x = some (0, v, Y)) (hv : v = w) (hk : K Y = r) : xv x (fun v S => if v = w then K S else none) = r := by
  rw [xv_ok h, if_pos hv]; exact hk
theorem go_nz {α : Type} {x : Option (Nat × Int32 × St)} {v : Int32} {Y : St} {K : St → Option α} {r : Option α} (h : x = some (0, v, Y)) (hv : ¬ v = 0) (hk : K Y = r) : xv x (fun v S => if v = 0 then none else K S) = r := by
  rw [xv_ok h, if_neg hv]; exact hk
/-- a row by its numbers -/
def tb (l : List Int32) : Nat → Int32 := fun s => l.getD s 0
def tbC (g : Nat → Int32) (l : List Int32) (n : Nat) : Bool := (List.range (2 ^ n)).all (fun s => decide (g s = l.getD s 0))
theorem tb_eq {S : St} {n F : Nat} {g : Nat → Int32} {l : List Int32} (h : tbC g l n = true) : nS S n F g = nS S n F (tb l) :=
  nS_congr (fun s hs => of_decide_eq_true (List.all_eq_true.mp h s (List.mem_range.mpr hs)))
section EVL
variable {S X : St} {n F t : Nat}
theorem sub_and {r s : Nat} (h : r &&& s = r) : sub r s := fun i hi => by
  rw [← h, Nat.testBit_and] at hi
  exact (Bool.and_eq_true _ _ ▸ hi).2
/-- r0 is the least and r1 the greatest of the sets with the least value v -/
def lsC (S : St) (n a r0 r1 : Nat) (v : Int32) : Bool := al (fun s => decide (v.toInt ≤ vl S a s) && (!decide (vl S a s = v.toInt) || (decide (r0 &&& s = r0) && decide (s &&& r1 = s)))) (2 ^ n) && decide (r0 < 2 ^ n) && decide (r1 < 2 ^ n) && decide (vl S a r0 = v.toInt) && decide (vl S a r1 = v.toInt)
theorem ls_chk {a r0 r1 : Nat} {v : Int32} (hV : IvV S n F) (ha : a < F) (h : lsC S n a r0 r1 v = true) : lsV S n a = v ∧ lsS S n a 0 = r0 ∧ lsS S n a 1 = r1 := by
  unfold lsC at h
  simp only [Bool.and_eq_true, decide_eq_true_eq] at h
  obtain ⟨⟨⟨⟨h1, h2⟩, h3⟩, h4⟩, h5⟩ := h
  rw [al_iff] at h1
  simp only [Bool.and_eq_true, Bool.or_eq_true, Bool.not_eq_true', decide_eq_true_eq, decide_eq_false_iff_not] at h1
  have e0 : S.2 5 (64 * a + r0) = v := Int32.toInt_inj.mp h4
  have e1 : S.2 5 (64 * a + r1) = v := Int32.toInt_inj.mp h5
  have hm : lsV S n a = v := by
    unfold lsV
    rw [mn_at hV ha h2 (fun s hs => by rw [h4]; exact (h1 s hs).1), e0]
  refine ⟨hm, ?_, ?_⟩
  · unfold lsS
    rw [if_pos rfl, hm, ← e0]
    exact mt_at h2 (fun s hs hq => by
      rcases (h1 s hs).2 with h | h
      · exact absurd (hq.trans h4) h
      · exact sub_and h.1)
  · unfold lsS
    rw [if_neg (by decide), hm, ← e1]
    exact wh_at h3 (fun s hs hq => by
      rcases (h1 s hs).2 with h | h
      · exact absurd (hq.trans h5) h
      · exact sub_and h.2)
theorem s_Lleast {a r0 r1 : Nat} {v : Int32} (h : Sm S X) (hI : Iv S n F t) (ha : a < F) (hL : lwB S n a = true) (hc : lsC S n a r0 r1 v = true) : f_L_least X (nI a) v (nI r0) (nI r1) = some X := by
  obtain ⟨e1, e2, e3⟩ := ls_chk hI.2.2.2.2.2.2.1 ha hc
  unfold f_L_least
  rw [xv_ok (s_least h hI ha hL), if_pos e1, xv_ok (s_leastSet h hI ha hL 0), if_pos (by rw [e2]), xv_ok (s_leastSet h hI ha hL 1), if_pos (by rw [e3]), xv_ok (s_leastSetAnew h hI ha hL 0), if_pos (by rw [e2]), xv_ok (s_leastSetAnew h hI ha hL 1), if_pos (by rw [e3])]
theorem s_Lshare {a e : Nat} {v : Int32} (h : Sm S X) (hI : Iv S n F t) (ha : a < F) (he : e < n) (hv : shV S n a e = v) : f_L_share X (nI a) (nI e) v = some X := by
  unfold f_L_share
  rw [xv_ok (s_share h hI ha he), if_pos hv, xv_ok (s_shareAnew h hI ha he), if_pos hv]
def mxC (S : St) (n a m i0 : Nat) (v : Int32) : Bool := al (fun i => decide (m < pc i) || decide (vl S a i ≤ v.toInt)) (2 ^ n) && decide (i0 < 2 ^ n) && decide (pc i0 ≤ m) && decide (vl S a i0 = v.toInt) && decide (0 ≤ v.toInt)
theorem mx_chk {a m i0 : Nat} {v : Int32} (h : mxC S n a m i0 v = true) : mxF (rowf S a) m (2 ^ n) = v := by
  unfold mxC at h
  simp only [Bool.and_eq_true, decide_eq_true_eq] at h
  obtain ⟨⟨⟨⟨h1, h2⟩, h3⟩, h4⟩, h5⟩ := h
  rw [al_iff] at h1
  simp only [Bool.or_eq_true, decide_eq_true_eq] at h1
  have hle : ∀ k, k ≤ 2 ^ n → mxF (rowf S a) m k ≤ v := fun k => by
    induction k with
    | zero => intro _; exact Int32.le_iff_toInt_le.mpr h5
    | succ k ih =>
      intro hk
      have h6 := ih (by omega)
      rw [mxF]
      by_cases c : m < pc k
      · rw [if_pos c]; exact h6
      · rw [if_neg c]
        by_cases d : rowf S a k ≤ mxF (rowf S a) m k
        · rw [if_pos d]; exact h6
        · rw [if_neg d]
          rcases h1 k (by omega) with g | g
          · exact absurd g c
          · exact Int32.le_iff_toInt_le.mpr g
  have hge := mx_ge (rowf S a) m (2 ^ n) i0 h2 h3
  have e : rowf S a i0 = v := Int32.toInt_inj.mp h4
  rw [e] at hge
  exact Int32.le_antisymm (hle _ (Nat.le_refl _)) hge
def cmC (S : St) (n J m : Nat) : Bool := al (fun i => !(frB S n 0 i && frB S n 1 i) || decide (pc i ≤ m)) (2 ^ n) && decide (J < 2 ^ n) && frB S n 0 J && frB S n 1 J && decide (pc J = m)
theorem cm_chk {J m : Nat} (h : cmC S n J m = true) : cmF S n (2 ^ n) = m := by
  unfold cmC at h
  simp only [Bool.and_eq_true, decide_eq_true_eq] at h
  obtain ⟨⟨⟨⟨h1, h2⟩, h3⟩, h4⟩, h5⟩ := h
  rw [al_iff] at h1
  refine Nat.le_antisymm (cm_le S n m _ (fun i hi f0 f1 => ?_)) (by rw [← h5]; exact cm_ge S n _ J h2 h3 h4)
  have h6 := h1 i hi
  rw [f0, f1] at h6
  exact of_decide_eq_true h6
end EVL

def f_X1_thrown (S : St) : Int32 := (S.1 3)

def f_X1_isIn (p0 : Int32) (p1 : Int32) (p2 : Int32) : Int32 := (if p0 < p1 then 0 else (if p2 < p0 then 0 else 1))
theorem z_X1_isIn (p0 p1 p2 : Int32) : f_X1_isIn p0 p1 p2 &&& 1 = f_X1_isIn p0 p1 p2 := by
  unfold f_X1_isIn
  repeat' split
  all_goals first | decide

def f_X1_isElement (S : St) (p1 : Int32) : Int32 := (f_X1_isIn p1 0 ((S.1 0) - 1))
theorem z_X1_isElement (S : St) (p1 : Int32) : f_X1_isElement S p1 &&& 1 = f_X1_isElement S p1 := by
  unfold f_X1_isElement
  repeat' split
  all_goals first | decide | exact z_X1_isIn ..

def f_X1_isFunction (S : St) (p1 : Int32) : Int32 := (f_X1_isIn p1 0 ((S.1 1) - 1))
theorem z_X1_isFunction (S : St) (p1 : Int32) : f_X1_isFunction S p1 &&& 1 = f_X1_isFunction S p1 := by
  unfold f_X1_isFunction
  repeat' split
  all_goals first | decide | exact z_X1_isIn ..

def f_X1_isSet (S : St) (p1 : Int32) : Int32 := (f_X1_isIn p1 0 (((1 : Int32) <<< ((S.1 0) &&& 31)) - 1))
theorem z_X1_isSet (S : St) (p1 : Int32) : f_X1_isSet S p1 &&& 1 = f_X1_isSet S p1 := by
  unfold f_X1_isSet
  repeat' split
  all_goals first | decide | exact z_X1_isIn ..

def f_X1_has (p0 : Int32) (p1 : Int32) : Int32 := (if ((p0 >>> (p1 &&& 31)) &&& 1) = 1 then 1 else 0)
theorem z_X1_has (p0 p1 : Int32) : f_X1_has p0 p1 &&& 1 = f_X1_has p0 p1 := by
  unfold f_X1_has
  repeat' split
  all_goals first | decide

def f_X1_many_4 (p0 : Int32) : Nat → Int32 → Int32 → Option Int32
  | 0, _, _ => none
  | k + 1, x1, x2 => (if 10 ≤ x2 then some x1 else (bnd (x1 + ((p0 >>> (x2 &&& 31)) &&& 1)) fun y2 => (bnd (x2 + 1) fun y3 => ((f_X1_many_4 p0 k) y2 y3))))
def f_X1_many (p0 : Int32) : Option Int32 := (f_X1_many_4 p0 70 0 0)

def f_X1_covered_31 (S : St) (p1 : Int32) (K4 : Int32 → Int32 → Option Int32) (x3 : Int32) (s0 : Int32) (s1 : Int32) : Option Int32 := (bnd (s0 ||| s1) fun y1 => (bnd (x3 + 1) fun y2 => (K4 y1 y2)))
def f_X1_covered_4 (S : St) (p1 : Int32) : Nat → Int32 → Int32 → Option Int32
  | 0, _, _ => none
  | k + 1, x2, x3 => (if (S.1 0) ≤ x3 then ((f_X1_many x2).bind fun v2 => some v2) else (if (f_X1_has p1 x3) = 0 then (f_X1_covered_31 S p1 (f_X1_covered_4 S p1 k) x3 x2 0) else ((rdA 6 (S.2 0) x3).bind fun v4 => (f_X1_covered_31 S p1 (f_X1_covered_4 S p1 k) x3 x2 v4))))
def f_X1_covered (S : St) (p1 : Int32) : Option Int32 := (f_X1_covered_4 S p1 70 0 0)

def f_X1_cutBy_58 (S : St) (p1 : Int32) (K4 : Int32 → Int32 → Option Int32) (K15 : Int32 → Int32 → Int32 → Option Int32) (x3 : Int32) (x4 : Int32) (s0 : Int32) (s1 : Int32) : Option Int32 := (bnd (s0 + s1) fun y1 => (bnd (x4 + 1) fun y2 => (K15 y1 x3 y2)))
def f_X1_cutBy_15 (S : St) (p1 : Int32) (K4 : Int32 → Int32 → Option Int32) : Nat → Int32 → Int32 → Int32 → Option Int32
  | 0, _, _, _ => none
  | k + 1, x2, x3, x4 => (if (S.1 0) ≤ x4 then (bnd (x3 + 1) fun y2 => (K4 x2 y2)) else (if (f_X1_has p1 x3) = 0 then (f_X1_cutBy_58 S p1 K4 (f_X1_cutBy_15 S p1 K4 k) x3 x4 x2 0) else (if (f_X1_has p1 x4) = 0 then ((rdA 36 (S.2 1) ((6 * x3) + x4)).bind fun v5 => (f_X1_cutBy_58 S p1 K4 (f_X1_cutBy_15 S p1 K4 k) x3 x4 x2 v5)) else (f_X1_cutBy_58 S p1 K4 (f_X1_cutBy_15 S p1 K4 k) x3 x4 x2 0))))
def f_X1_cutBy_4 (S : St) (p1 : Int32) : Nat → Int32 → Int32 → Option Int32
  | 0, _, _ => none
  | k + 1, x2, x3 => (if (S.1 0) ≤ x3 then some x2 else (f_X1_cutBy_15 S p1 (f_X1_cutBy_4 S p1 k) 70 x2 x3 0))
def f_X1_cutBy (S : St) (p1 : Int32) : Option Int32 := (f_X1_cutBy_4 S p1 70 0 0)

def f_X1_ofColour_47 (S : St) (p1 p2 p3 : Int32) (K6 : Int32 → Int32 → Option Int32) (x5 : Int32) (s0 : Int32) (s1 : Int32) : Option Int32 := (bnd (s0 + s1) fun y1 => (bnd (x5 + 1) fun y2 => (K6 y1 y2)))
def f_X1_ofColour_6 (S : St) (p1 p2 p3 : Int32) : Nat → Int32 → Int32 → Option Int32
  | 0, _, _ => none
  | k + 1, x4, x5 => (if (S.1 0) ≤ x5 then some x4 else (if (f_X1_has p3 x5) = 0 then (f_X1_ofColour_47 S p1 p2 p3 (f_X1_ofColour_6 S p1 p2 p3 k) x5 x4 0) else ((rdA 12 (S.2 2) ((6 * p1) + x5)).bind fun v3 => (if v3 = p2 then (f_X1_ofColour_47 S p1 p2 p3 (f_X1_ofColour_6 S p1 p2 p3 k) x5 x4 1) else (f_X1_ofColour_47 S p1 p2 p3 (f_X1_ofColour_6 S p1 p2 p3 k) x5 x4 0)))))
def f_X1_ofColour (S : St) (p1 : Int32) (p2 : Int32) (p3 : Int32) : Option Int32 := (f_X1_ofColour_6 S p1 p2 p3 70 0 0)

def f_X1_rank_57 (S : St) (p1 p2 : Int32) (K5 : Int32 → Int32 → Option Int32) (x4 : Int32) (s0 : Int32) (s1 : Int32) : Option Int32 := (bnd (s0 + s1) fun y1 => (bnd (x4 + 1) fun y2 => (K5 y1 y2)))
def f_X1_rank_5 (S : St) (p1 p2 : Int32) : Nat → Int32 → Int32 → Option Int32
  | 0, _, _ => none
  | k + 1, x3, x4 => (if 6 ≤ x4 then some x3 else ((f_X1_ofColour S p1 x4 p2).bind fun v2 => ((rdA 12 (S.2 3) ((6 * p1) + x4)).bind fun v3 => (if v3 ≤ v2 then ((rdA 12 (S.2 3) ((6 * p1) + x4)).bind fun v5 => (f_X1_rank_57 S p1 p2 (f_X1_rank_5 S p1 p2 k) x4 x3 v5)) else (f_X1_rank_57 S p1 p2 (f_X1_rank_5 S p1 p2 k) x4 x3 v2)))))
def f_X1_rank (S : St) (p1 : Int32) (p2 : Int32) : Option Int32 := (f_X1_rank_5 S p1 p2 70 0 0)

def f_X1_weight_31 (S : St) (p1 : Int32) (K4 : Int32 → Int32 → Option Int32) (x3 : Int32) (s0 : Int32) (s1 : Int32) : Option Int32 := (bnd (s0 + s1) fun y1 => (bnd (x3 + 1) fun y2 => (K4 y1 y2)))
def f_X1_weight_4 (S : St) (p1 : Int32) : Nat → Int32 → Int32 → Option Int32
  | 0, _, _ => none
  | k + 1, x2, x3 => (if (S.1 0) ≤ x3 then some x2 else (if (f_X1_has p1 x3) = 0 then (f_X1_weight_31 S p1 (f_X1_weight_4 S p1 k) x3 x2 0) else ((rdA 6 (S.2 4) x3).bind fun v3 => (f_X1_weight_31 S p1 (f_X1_weight_4 S p1 k) x3 x2 v3))))
def f_X1_weight (S : St) (p1 : Int32) : Option Int32 := (f_X1_weight_4 S p1 70 0 0)

def f_X1_hasLaw_137 (S : St) (p1 : Int32) (K4 : Int32 → Int32 → Option Int32) (K15 : Int32 → Int32 → Int32 → Option Int32) (K27 : Int32 → Int32 → Int32 → Int32 → Option Int32) (x3 : Int32) (x4 : Int32) (x5 : Int32) (s0 : Int32) (s1 : Int32) : Option Int32 := (bnd (s0 &&& s1) fun y1 => (bnd (x5 + 1) fun y2 => (K27 y1 x3 x4 y2)))
def f_X1_hasLaw_63 (S : St) (p1 : Int32) (K4 : Int32 → Int32 → Option Int32) (K15 : Int32 → Int32 → Int32 → Option Int32) (K27 : Int32 → Int32 → Int32 → Int32 → Option Int32) (x2 : Int32) (x3 : Int32) (x4 : Int32) (x5 : Int32) (x6 : Int32) (s0 : Int32) : Option Int32 := (if s0 = 0 then (f_X1_hasLaw_137 S p1 K4 K15 K27 x3 x4 x5 x2 1) else ((rdA 512 (S.2 5) (x6 + (x3 ||| ((1 : Int32) <<< (x4 &&& 31))))).bind fun v2 => ((rdA 512 (S.2 5) (x6 + (x3 ||| ((1 : Int32) <<< (x5 &&& 31))))).bind fun v3 => ((rdA 512 (S.2 5) (x6 + x3)).bind fun v4 => ((rdA 512 (S.2 5) (x6 + ((x3 ||| ((1 : Int32) <<< (x4 &&& 31))) ||| ((1 : Int32) <<< (x5 &&& 31))))).bind fun v5 => (if (v2 + v3) < (v4 + v5) then (f_X1_hasLaw_137 S p1 K4 K15 K27 x3 x4 x5 x2 0) else (f_X1_hasLaw_137 S p1 K4 K15 K27 x3 x4 x5 x2 1)))))))
def f_X1_hasLaw_27 (S : St) (p1 : Int32) (K4 : Int32 → Int32 → Option Int32) (K15 : Int32 → Int32 → Int32 → Option Int32) : Nat → Int32 → Int32 → Int32 → Int32 → Option Int32
  | 0, _, _, _, _ => none
  | k + 1, x2, x3, x4, x5 => (if x4 ≤ x5 then (bnd (x4 + 1) fun y2 => (K15 x2 x3 y2)) else (bnd (64 * p1) fun y3 => (if (f_X1_has x3 x4) = 0 then (if (f_X1_has x3 x5) = 0 then (f_X1_hasLaw_63 S p1 K4 K15 (f_X1_hasLaw_27 S p1 K4 K15 k) x2 x3 x4 x5 y3 1) else (f_X1_hasLaw_63 S p1 K4 K15 (f_X1_hasLaw_27 S p1 K4 K15 k) x2 x3 x4 x5 y3 0)) else (f_X1_hasLaw_63 S p1 K4 K15 (f_X1_hasLaw_27 S p1 K4 K15 k) x2 x3 x4 x5 y3 0))))
def f_X1_hasLaw_15 (S : St) (p1 : Int32) (K4 : Int32 → Int32 → Option Int32) : Nat → Int32 → Int32 → Int32 → Option Int32
  | 0, _, _, _ => none
  | k + 1, x2, x3, x4 => (if (S.1 0) ≤ x4 then (bnd (x3 + 1) fun y2 => (K4 x2 y2)) else (f_X1_hasLaw_27 S p1 K4 (f_X1_hasLaw_15 S p1 K4 k) 70 x2 x3 x4 0))
def f_X1_hasLaw_4 (S : St) (p1 : Int32) : Nat → Int32 → Int32 → Option Int32
  | 0, _, _ => none
  | k + 1, x2, x3 => (if (f_X1_isSet S x3) = 0 then (if x2 &&& 1 = x2 then some x2 else none) else (f_X1_hasLaw_15 S p1 (f_X1_hasLaw_4 S p1 k) 70 x2 x3 0))
def f_X1_hasLaw (S : St) (p1 : Int32) : Option Int32 := (f_X1_hasLaw_4 S p1 70 1 0)

def f_X1_leastOf_4 (S : St) (p1 : Int32) : Nat → Int32 → Int32 → Option Int32
  | 0, _, _ => none
  | k + 1, x2, x3 => (if (f_X1_isSet S x3) = 0 then some x2 else ((rdA 512 (S.2 5) ((64 * p1) + x3)).bind fun v2 => (if x2 ≤ v2 then (bnd (x3 + 1) fun y4 => ((f_X1_leastOf_4 S p1 k) x2 y4)) else ((rdA 512 (S.2 5) ((64 * p1) + x3)).bind fun v5 => (bnd (x3 + 1) fun y6 => ((f_X1_leastOf_4 S p1 k) v5 y6))))))
def f_X1_leastOf (S : St) (p1 : Int32) : Option Int32 := (f_X1_leastOf_4 S p1 70 0 0)

def f_X1_placeOf_4 (S : St) (p1 : Int32) : Nat → Int32 → Int32 → Option Int32
  | 0, _, _ => none
  | k + 1, x2, x3 => (if (S.1 2) ≤ x3 then some x2 else ((rdA 6 (S.2 6) x3).bind fun v2 => (if v2 = p1 then (bnd (x3 + 1) fun y5 => ((f_X1_placeOf_4 S p1 k) x3 y5)) else (bnd (x3 + 1) fun y4 => ((f_X1_placeOf_4 S p1 k) x2 y4)))))
def f_X1_placeOf (S : St) (p1 : Int32) : Option Int32 := (f_X1_placeOf_4 S p1 70 (-1) 0)

def f_X1_isFair (S : St) (p1 : Int32) (p2 : Int32) : Option Int32 := ((f_X1_rank S p1 p2).bind fun v1 => ((f_X1_many p2).bind fun v2 => (if v1 = v2 then some 1 else some 0)))

def f_X1_commonSize_4 (S : St) : Nat → Int32 → Int32 → Option Int32
  | 0, _, _ => none
  | k + 1, x1, x2 => (if (f_X1_isSet S x2) = 0 then some x1 else ((f_X1_isFair S 0 x2).bind fun v2 => (if v2 = 0 then (bnd (x2 + 1) fun y4 => ((f_X1_commonSize_4 S k) x1 y4)) else ((f_X1_isFair S 1 x2).bind fun v5 => (if v5 = 0 then (bnd (x2 + 1) fun y7 => ((f_X1_commonSize_4 S k) x1 y7)) else ((f_X1_many x2).bind fun v8 => (if v8 ≤ x1 then (bnd (x2 + 1) fun y10 => ((f_X1_commonSize_4 S k) x1 y10)) else ((f_X1_many x2).bind fun v11 => (bnd (x2 + 1) fun y12 => ((f_X1_commonSize_4 S k) v11 y12))))))))))
def f_X1_commonSize (S : St) : Option Int32 := (f_X1_commonSize_4 S 70 0 0)

theorem cd_X1_thrown : yX1_thrown.cls = RX1 ∧ yX1_thrown.cls ≠ "java/lang/invoke/MethodHandle" ∧ yX1_thrown.cls ≠ "java/lang/invoke/VarHandle" ∧ (parseMethodDescriptor yX1_thrown.desc).map (fun d => d.parameters.length) = some 0 := by decide +kernel
set_option maxHeartbeats 4000000 in
set_option maxRecDepth 100000 in
theorem k_X1_thrown (l : Launch) (dC : Nat → ClassId) (dI : Nat → Nat → Nat) (cA : ClassId) (a : Nat → Nat) (S : St) (r : Int32) (hf : f_X1_thrown S = r) : Met l yX1_thrown wsX1_thrown ({ frames := 0, cells := 0, slots := 0, locals := 0 }) (va_Pc [.ref (a 0)] (PMs (dC, dI) cA a S)) (pQi r) 0 0 (fun _ => False) := by
  refine Met.ofW (cc := cX1_thrown) (maxL := 1) (ret := (some .int)) (by decide) rfl ?_
  intro p e s m args below meth c s₁ B hml hv
  obtain ⟨rfl, hP, hK⟩ := hv
  have hx := B.exec
  have hb := B.bytes
  have hr := B.returns
  have hts := atoms_spec (ws := wsX1_thrown) B.pre
  have hown : s.vm.findClass RX1 = some m.cls := findClass_of_methodNamed B.named
  have hlocks := B.notSynchronized
  have hin : ∀ w ∈ u_ws RX1 TX1 11, w ∈ wsX1_thrown := by decide +kernel
  have hw0 := hts (.fieldLink RX1 44 "SubmodularyModel" "thrown" "I") (by decide +kernel)
  have hl := lv_entry ([.ref (a 0)]) (n := 1) (Nat.le_of_ble_eq_true rfl)
  rw [lg_entry_eq]
  generalize (lg_sl ([.ref (a 0)]) ++ List.replicate (1 - (lg_sl ([.ref (a 0)])).length) Slot.unset).toArray = ls at hl ⊢
  have hl : lv_has ls 1 [(0, .ref (a 0))] := hl
  unfold f_X1_thrown at hf
  refine lv_aload_n hx hb dX1_thrown_0 rfl (lv_at hl 0 rfl) ?_
  refine gfM hx hb hts hin hown hK hP 10 (by decide) hw0 rfl rfl dX1_thrown_1 ?_
  subst hf
  exact W.iret hx hb hr (fun t ht hW => ⟨rfl, ht⟩) (fun q h => by cases h) dX1_thrown_4
theorem cd_X1_isIn : yX1_isIn.cls ≠ "java/lang/invoke/MethodHandle" ∧ yX1_isIn.cls ≠ "java/lang/invoke/VarHandle" ∧ (parseMethodDescriptor yX1_isIn.desc).map (fun d => d.parameters.length) = some 3 := by decide +kernel
set_option maxHeartbeats 4000000 in
set_option maxRecDepth 100000 in
theorem k_X1_isIn (l : Launch) (p0 : Int32) (p1 : Int32) (p2 : Int32) (r : Int32) (hf : f_X1_isIn p0 p1 p2 = r) : Met l yX1_isIn wsX1_isIn ({ frames := 0, cells := 0, slots := 0, locals := 0 }) (va_Pc [.int p0, .int p1, .int p2] (fun _ => True)) (pQi r) 0 0 (fun _ => False) := by
  refine Met.ofW (cc := cX1_isIn) (maxL := 3) (ret := (some .boolean)) (by decide) rfl ?_
  intro p e s m args below meth c s₁ B hml hv
  obtain ⟨rfl, -⟩ := hv
  have hx := B.exec
  have hb := B.bytes
  have hr := B.returns
  have hts := atoms_spec (ws := wsX1_isIn) B.pre
  have hown : s.vm.findClass RX1 = some m.cls := findClass_of_methodNamed B.named
  have hlocks := B.notSynchronized
  have hl := lv_entry ([.int p0, .int p1, .int p2]) (n := 3) (Nat.le_of_ble_eq_true rfl)
  rw [lg_entry_eq]
  generalize (lg_sl ([.int p0, .int p1, .int p2]) ++ List.replicate (3 - (lg_sl ([.int p0, .int p1, .int p2])).length) Slot.unset).toArray = ls at hl ⊢
  have hl : lv_has ls 3 [(0, .int p0), (1, .int p1), (2, .int p2)] := hl
  unfold f_X1_isIn at hf
  refine lv_iload_n hx hb dX1_isIn_0 rfl (lv_at hl 0 rfl) ?_
  refine lv_iload_n hx hb dX1_isIn_1 rfl (lv_at hl 1 rfl) ?_
  refine lv_icmp_lt (tgt := 14) hx hb dX1_isIn_2 (by decide) (fun c1 => ?_) (fun c1 => ?_)
  · rw [if_pos c1] at hf
    refine lv_iconst (v := 0) hx hb dX1_isIn_14 (by decide) ?_
    subst hf
    exact W.zret hx hb hr rfl (fun t ht hW => ⟨rfl, ht⟩) (fun q h => by cases h) dX1_isIn_15
  · rw [if_neg c1] at hf
    refine lv_iload_n hx hb dX1_isIn_5 rfl (lv_at hl 0 rfl) ?_
    refine lv_iload_n hx hb dX1_isIn_6 rfl (lv_at hl 2 rfl) ?_
    refine lv_icmp_gt (tgt := 14) hx hb dX1_isIn_7 (by decide) (fun c2 => ?_) (fun c2 => ?_)
    · rw [if_pos c2] at hf
      refine lv_iconst (v := 0) hx hb dX1_isIn_14 (by decide) ?_
      subst hf
      exact W.zret hx hb hr rfl (fun t ht hW => ⟨rfl, ht⟩) (fun q h => by cases h) dX1_isIn_15
    · rw [if_neg c2] at hf
      refine lv_iconst (v := 1) hx hb dX1_isIn_10 (by decide) ?_
      refine lv_goto (tgt := 15) hx hb dX1_isIn_11 (by decide) ?_
      subst hf
      exact W.zret hx hb hr rfl (fun t ht hW => ⟨rfl, ht⟩) (fun q h => by cases h) dX1_isIn_15
theorem cd_X1_isElement : yX1_isElement.cls = RX1 ∧ yX1_isElement.cls ≠ "java/lang/invoke/MethodHandle" ∧ yX1_isElement.cls ≠ "java/lang/invoke/VarHandle" ∧ (parseMethodDescriptor yX1_isElement.desc).map (fun d => d.parameters.length) = some 1 := by decide +kernel
set_option maxHeartbeats 4000000 in
set_option maxRecDepth 100000 in
theorem k_X1_isElement (l : Launch) (dC : Nat → ClassId) (dI : Nat → Nat → Nat) (cA : ClassId) (a : Nat → Nat) (S : St) (p1 : Int32) (r : Int32) (hf : f_X1_isElement S p1 = r) : Met l yX1_isElement wsX1_isElement ({ frames := 1, cells := 0, slots := 0, locals := 22 }) (va_Pc [.ref (a 0), .int p1] (PMs (dC, dI) cA a S)) (pQi r) 0 0 (fun _ => False) := by
  refine Met.ofW (cc := cX1_isElement) (maxL := 2) (ret := (some .boolean)) (by decide) rfl ?_
  intro p e s m args below meth c s₁ B hml hv
  obtain ⟨rfl, hP, hK⟩ := hv
  have hx := B.exec
  have hb := B.bytes
  have hr := B.returns
  have hts := atoms_spec (ws := wsX1_isElement) B.pre
  have hown : s.vm.findClass RX1 = some m.cls := findClass_of_methodNamed B.named
  have hlocks := B.notSynchronized
  have hin : ∀ w ∈ u_ws RX1 TX1 11, w ∈ wsX1_isElement := by decide +kernel
  have hw0 := hts (.fieldLink RX1 7 "SubmodularyModel" "n" "I") (by decide +kernel)
  have hl := lv_entry ([.ref (a 0), .int p1]) (n := 2) (Nat.le_of_ble_eq_true rfl)
  rw [lg_entry_eq]
  generalize (lg_sl ([.ref (a 0), .int p1]) ++ List.replicate (2 - (lg_sl ([.ref (a 0), .int p1])).length) Slot.unset).toArray = ls at hl ⊢
  have hl : lv_has ls 2 [(0, .ref (a 0)), (1, .int p1)] := hl
  unfold f_X1_isElement at hf
  refine lv_iload_n hx hb dX1_isElement_0 rfl (lv_at hl 1 rfl) ?_
  refine lv_iconst (v := 0) hx hb dX1_isElement_1 (by decide) ?_
  refine lv_aload_n hx hb dX1_isElement_2 rfl (lv_at hl 0 rfl) ?_
  refine gfM hx hb hts hin hown hK hP 0 (by decide) hw0 rfl rfl dX1_isElement_3 ?_
  refine lv_iconst (v := 1) hx hb dX1_isElement_6 (by decide) ?_
  refine lv_isub hx hb dX1_isElement_7 ?_
  refine pu_S (As := [.int p1, .int 0, .int ((S.1 0) - 1)]) (rest := []) ⟨hx, hb, hml, hown, hts⟩ (k_X1_isIn l p1 0 ((S.1 0) - 1) _ rfl) gX1_isElement_X1_isIn rfl rfl rfl cd_X1_isIn (Nat.le_of_ble_eq_true rfl) (Nat.le_of_ble_eq_true rfl) (preT) rfl hl.1 rfl (Nat.le_of_ble_eq_true rfl) (Nat.zero_le _) (Nat.zero_le _) dX1_isElement_8 ?_
  subst hf
  exact W.zret hx hb hr (by show Value.int (_ &&& 1) = _; rw [z_X1_isIn]) (fun t ht hW => ⟨rfl, ht⟩) (fun q h => by cases h) dX1_isElement_11
theorem cd_X1_isFunction : yX1_isFunction.cls = RX1 ∧ yX1_isFunction.cls ≠ "java/lang/invoke/MethodHandle" ∧ yX1_isFunction.cls ≠ "java/lang/invoke/VarHandle" ∧ (parseMethodDescriptor yX1_isFunction.desc).map (fun d => d.parameters.length) = some 1 := by decide +kernel
set_option maxHeartbeats 4000000 in
set_option maxRecDepth 100000 in
theorem k_X1_isFunction (l : Launch) (dC : Nat → ClassId) (dI : Nat → Nat → Nat) (cA : ClassId) (a : Nat → Nat) (S : St) (p1 : Int32) (r : Int32) (hf : f_X1_isFunction S p1 = r) : Met l yX1_isFunction wsX1_isFunction ({ frames := 1, cells := 0, slots := 0, locals := 22 }) (va_Pc [.ref (a 0), .int p1] (PMs (dC, dI) cA a S)) (pQi r) 0 0 (fun _ => False) := by
  refine Met.ofW (cc := cX1_isFunction) (maxL := 2) (ret := (some .boolean)) (by decide) rfl ?_
  intro p e s m args below meth c s₁ B hml hv
  obtain ⟨rfl, hP, hK⟩ := hv
  have hx := B.exec
  have hb := B.bytes
  have hr := B.returns
  have hts := atoms_spec (ws := wsX1_isFunction) B.pre
  have hown : s.vm.findClass RX1 = some m.cls := findClass_of_methodNamed B.named
  have hlocks := B.notSynchronized
  have hin : ∀ w ∈ u_ws RX1 TX1 11, w ∈ wsX1_isFunction := by decide +kernel
  have hw0 := hts (.fieldLink RX1 38 "SubmodularyModel" "functions" "I") (by decide +kernel)
  have hl := lv_entry ([.ref (a 0), .int p1]) (n := 2) (Nat.le_of_ble_eq_true rfl)
  rw [lg_entry_eq]
  generalize (lg_sl ([.ref (a 0), .int p1]) ++ List.replicate (2 - (lg_sl ([.ref (a 0), .int p1])).length) Slot.unset).toArray = ls at hl ⊢
  have hl : lv_has ls 2 [(0, .ref (a 0)), (1, .int p1)] := hl
  unfold f_X1_isFunction at hf
  refine lv_iload_n hx hb dX1_isFunction_0 rfl (lv_at hl 1 rfl) ?_
  refine lv_iconst (v := 0) hx hb dX1_isFunction_1 (by decide) ?_
  refine lv_aload_n hx hb dX1_isFunction_2 rfl (lv_at hl 0 rfl) ?_
  refine gfM hx hb hts hin hown hK hP 6 (by decide) hw0 rfl rfl dX1_isFunction_3 ?_
  refine lv_iconst (v := 1) hx hb dX1_isFunction_6 (by decide) ?_
  refine lv_isub hx hb dX1_isFunction_7 ?_
  refine pu_S (As := [.int p1, .int 0, .int ((S.1 1) - 1)]) (rest := []) ⟨hx, hb, hml, hown, hts⟩ (k_X1_isIn l p1 0 ((S.1 1) - 1) _ rfl) gX1_isFunction_X1_isIn rfl rfl rfl cd_X1_isIn (Nat.le_of_ble_eq_true rfl) (Nat.le_of_ble_eq_true rfl) (preT) rfl hl.1 rfl (Nat.le_of_ble_eq_true rfl) (Nat.zero_le _) (Nat.zero_le _) dX1_isFunction_8 ?_
  subst hf
  exact W.zret hx hb hr (by show Value.int (_ &&& 1) = _; rw [z_X1_isIn]) (fun t ht hW => ⟨rfl, ht⟩) (fun q h => by cases h) dX1_isFunction_11
theorem cd_X1_isSet : yX1_isSet.cls = RX1 ∧ yX1_isSet.cls ≠ "java/lang/invoke/MethodHandle" ∧ yX1_isSet.cls ≠ "java/lang/invoke/VarHandle" ∧ (parseMethodDescriptor yX1_isSet.desc).map (fun d => d.parameters.length) = some 1 := by decide +kernel
set_option maxHeartbeats 4000000 in
set_option maxRecDepth 100000 in
theorem k_X1_isSet (l : Launch) (dC : Nat → ClassId) (dI : Nat → Nat → Nat) (cA : ClassId) (a : Nat → Nat) (S : St) (p1 : Int32) (r : Int32) (hf : f_X1_isSet S p1 = r) : Met l yX1_isSet wsX1_isSet ({ frames := 1, cells := 0, slots := 0, locals := 22 }) (va_Pc [.ref (a 0), .int p1] (PMs (dC, dI) cA a S)) (pQi r) 0 0 (fun _ => False) := by
  refine Met.ofW (cc := cX1_isSet) (maxL := 2) (ret := (some .boolean)) (by decide) rfl ?_
  intro p e s m args below meth c s₁ B hml hv
  obtain ⟨rfl, hP, hK⟩ := hv
  have hx := B.exec
  have hb := B.bytes
  have hr := B.returns
  have hts := atoms_spec (ws := wsX1_isSet) B.pre
  have hown : s.vm.findClass RX1 = some m.cls := findClass_of_methodNamed B.named
  have hlocks := B.notSynchronized
  have hin : ∀ w ∈ u_ws RX1 TX1 11, w ∈ wsX1_isSet := by decide +kernel
  have hw0 := hts (.fieldLink RX1 7 "SubmodularyModel" "n" "I") (by decide +kernel)
  have hl := lv_entry ([.ref (a 0), .int p1]) (n := 2) (Nat.le_of_ble_eq_true rfl)
  rw [lg_entry_eq]
  generalize (lg_sl ([.ref (a 0), .int p1]) ++ List.replicate (2 - (lg_sl ([.ref (a 0), .int p1])).length) Slot.unset).toArray = ls at hl ⊢
  have hl : lv_has ls 2 [(0, .ref (a 0)), (1, .int p1)] := hl
  unfold f_X1_isSet at hf
  refine lv_iload_n hx hb dX1_isSet_0 rfl (lv_at hl 1 rfl) ?_
  refine lv_iconst (v := 0) hx hb dX1_isSet_1 (by decide) ?_
  refine lv_iconst (v := 1) hx hb dX1_isSet_2 (by decide) ?_
  refine lv_aload_n hx hb dX1_isSet_3 rfl (lv_at hl 0 rfl) ?_
  refine gfM hx hb hts hin hown hK hP 0 (by decide) hw0 rfl rfl dX1_isSet_4 ?_
  refine lv_ishl hx hb dX1_isSet_7 ?_
  refine lv_iconst (v := 1) hx hb dX1_isSet_8 (by decide) ?_
  refine lv_isub hx hb dX1_isSet_9 ?_
  refine pu_S (As := [.int p1, .int 0, .int (((1 : Int32) <<< ((S.1 0) &&& 31)) - 1)]) (rest := []) ⟨hx, hb, hml, hown, hts⟩ (k_X1_isIn l p1 0 (((1 : Int32) <<< ((S.1 0) &&& 31)) - 1) _ rfl) gX1_isSet_X1_isIn rfl rfl rfl cd_X1_isIn (Nat.le_of_ble_eq_true rfl) (Nat.le_of_ble_eq_true rfl) (preT) rfl hl.1 rfl (Nat.le_of_ble_eq_true rfl) (Nat.zero_le _) (Nat.zero_le _) dX1_isSet_10 ?_
  subst hf
  exact W.zret hx hb hr (by show Value.int (_ &&& 1) = _; rw [z_X1_isIn]) (fun t ht hW => ⟨rfl, ht⟩) (fun q h => by cases h) dX1_isSet_13
theorem cd_X1_has : yX1_has.cls ≠ "java/lang/invoke/MethodHandle" ∧ yX1_has.cls ≠ "java/lang/invoke/VarHandle" ∧ (parseMethodDescriptor yX1_has.desc).map (fun d => d.parameters.length) = some 2 := by decide +kernel
set_option maxHeartbeats 4000000 in
set_option maxRecDepth 100000 in
theorem k_X1_has (l : Launch) (p0 : Int32) (p1 : Int32) (r : Int32) (hf : f_X1_has p0 p1 = r) : Met l yX1_has wsX1_has ({ frames := 0, cells := 0, slots := 0, locals := 0 }) (va_Pc [.int p0, .int p1] (fun _ => True)) (pQi r) 0 0 (fun _ => False) := by
  refine Met.ofW (cc := cX1_has) (maxL := 2) (ret := (some .boolean)) (by decide) rfl ?_
  intro p e s m args below meth c s₁ B hml hv
  obtain ⟨rfl, -⟩ := hv
  have hx := B.exec
  have hb := B.bytes
  have hr := B.returns
  have hts := atoms_spec (ws := wsX1_has) B.pre
  have hown : s.vm.findClass RX1 = some m.cls := findClass_of_methodNamed B.named
  have hlocks := B.notSynchronized
  have hl := lv_entry ([.int p0, .int p1]) (n := 2) (Nat.le_of_ble_eq_true rfl)
  rw [lg_entry_eq]
  generalize (lg_sl ([.int p0, .int p1]) ++ List.replicate (2 - (lg_sl ([.int p0, .int p1])).length) Slot.unset).toArray = ls at hl ⊢
  have hl : lv_has ls 2 [(0, .int p0), (1, .int p1)] := hl
  unfold f_X1_has at hf
  refine lv_iload_n hx hb dX1_has_0 rfl (lv_at hl 0 rfl) ?_
  refine lv_iload_n hx hb dX1_has_1 rfl (lv_at hl 1 rfl) ?_
  refine lv_ishr hx hb dX1_has_2 ?_
  refine lv_iconst (v := 1) hx hb dX1_has_3 (by decide) ?_
  refine lv_iand hx hb dX1_has_4 ?_
  refine lv_iconst (v := 1) hx hb dX1_has_5 (by decide) ?_
  refine lv_icmp_ne (tgt := 13) hx hb dX1_has_6 (by decide) (fun c1 => ?_) (fun c1 => ?_)
  · rw [if_neg c1] at hf
    refine lv_iconst (v := 0) hx hb dX1_has_13 (by decide) ?_
    subst hf
    exact W.zret hx hb hr rfl (fun t ht hW => ⟨rfl, ht⟩) (fun q h => by cases h) dX1_has_14
  · rw [if_pos c1] at hf
    refine lv_iconst (v := 1) hx hb dX1_has_9 (by decide) ?_
    refine lv_goto (tgt := 14) hx hb dX1_has_10 (by decide) ?_
    subst hf
    exact W.zret hx hb hr rfl (fun t ht hW => ⟨rfl, ht⟩) (fun q h => by cases h) dX1_has_14
theorem cd_X1_many : yX1_many.cls ≠ "java/lang/invoke/MethodHandle" ∧ yX1_many.cls ≠ "java/lang/invoke/VarHandle" ∧ (parseMethodDescriptor yX1_many.desc).map (fun d => d.parameters.length) = some 1 := by decide +kernel
set_option maxHeartbeats 4000000 in
set_option maxRecDepth 100000 in
theorem k_X1_many (l : Launch) (p0 : Int32) (r : Int32) (hf : f_X1_many p0 = some r) : Met l yX1_many wsX1_many ({ frames := 0, cells := 0, slots := 0, locals := 0 }) (va_Pc [.int p0] (fun _ => True)) (pQi r) 0 0 (fun _ => False) := by
  refine Met.ofW (cc := cX1_many) (maxL := 3) (ret := (some .int)) (by decide) rfl ?_
  intro p e s m args below meth c s₁ B hml hv
  obtain ⟨rfl, -⟩ := hv
  have hx := B.exec
  have hb := B.bytes
  have hr := B.returns
  have hts := atoms_spec (ws := wsX1_many) B.pre
  have hown : s.vm.findClass RX1 = some m.cls := findClass_of_methodNamed B.named
  have hlocks := B.notSynchronized
  have hl := lv_entry ([.int p0]) (n := 3) (Nat.le_of_ble_eq_true rfl)
  rw [lg_entry_eq]
  generalize (lg_sl ([.int p0]) ++ List.replicate (3 - (lg_sl ([.int p0])).length) Slot.unset).toArray = ls at hl ⊢
  have hl : lv_has ls 3 [(0, .int p0)] := hl
  have hW4 : ∀ (k4 : Nat) (x1 x2 : Int32) (ls : Array Slot), f_X1_many_4 p0 k4 x1 x2 = some r → lv_has ls 3 [(0, .int p0), (1, .int x1), (2, .int x2)] → W p l e (headSpec wsX1_many ({ frames := 0, cells := 0, slots := 0, locals := 0 })).room s m ([.int p0] : List Value).toArray below meth c s.heap [] 0 0 (MQ below (pQi r) ([.int p0] : List Value).toArray s 0 0 (fun _ => False)) (F0 m 4 ls []) := by
    intro k4
    induction k4 with
    | zero =>
      intro x1 x2 ls hf hl
      rw [f_X1_many_4] at hf
      cases hf
    | succ k4 ih4 =>
      intro x1 x2 ls hf hl
      rw [f_X1_many_4] at hf
      refine lv_iload_n hx hb dX1_many_4 rfl (lv_at hl 2 rfl) ?_
      refine lv_bipush (v := 10) hx hb dX1_many_5 (by decide) ?_
      refine lv_icmp_ge (tgt := 24) hx hb dX1_many_7 (by decide) (fun c1 => ?_) (fun c1 => ?_)
      · rw [if_pos c1] at hf
        refine lv_iload_n hx hb dX1_many_24 rfl (lv_at hl 1 rfl) ?_
        have hf := Option.some.inj hf; subst hf
        exact W.iret hx hb hr (fun t ht hW => ⟨rfl, ht⟩) (fun q h => by cases h) dX1_many_25
      · rw [if_neg c1] at hf
        refine lv_iload_n hx hb dX1_many_10 rfl (lv_at hl 1 rfl) ?_
        refine lv_iload_n hx hb dX1_many_11 rfl (lv_at hl 0 rfl) ?_
        refine lv_iload_n hx hb dX1_many_12 rfl (lv_at hl 2 rfl) ?_
        refine lv_ishr hx hb dX1_many_13 ?_
        refine lv_iconst (v := 1) hx hb dX1_many_14 (by decide) ?_
        refine lv_iand hx hb dX1_many_15 ?_
        refine lv_iadd hx hb dX1_many_16 ?_
        refine lv_topi (fun y2 ey2 => ?_)
        have hf := bnd_at hf ey2
        refine lv_istore_n (lv' := [(1, .int y2), (0, .int p0), (2, .int x2)]) hx hb dX1_many_17 rfl hl (by decide) rfl (fun ls hl => ?_)
        obtain ⟨y3, ey3⟩ : ∃ y : Int32, y = (x2 + 1) := ⟨_, rfl⟩
        have hf := bnd_at hf ey3
        refine lv_iinc (v := y3) (lv' := [(2, .int y3), (1, .int y2), (0, .int p0)]) hx hb dX1_many_18 hl (k := 2) rfl (by rw [ey3]; rfl) (by decide) rfl (fun ls hl => ?_)
        refine lv_goto (tgt := 4) hx hb dX1_many_21 (by decide) ?_
        exact ih4 y2 y3 ls hf (lv_sub hl [2, 1, 0] rfl)
  unfold f_X1_many at hf
  refine lv_iconst (v := 0) hx hb dX1_many_0 (by decide) ?_
  refine lv_istore_n (lv' := [(1, .int 0), (0, .int p0)]) hx hb dX1_many_1 rfl hl (by decide) rfl (fun ls hl => ?_)
  refine lv_iconst (v := 0) hx hb dX1_many_2 (by decide) ?_
  refine lv_istore_n (lv' := [(2, .int 0), (1, .int 0), (0, .int p0)]) hx hb dX1_many_3 rfl hl (by decide) rfl (fun ls hl => ?_)
  exact hW4 70 0 0 ls hf (lv_sub hl [2, 1, 0] rfl)
theorem cd_X1_covered : yX1_covered.cls = RX1 ∧ yX1_covered.cls ≠ "java/lang/invoke/MethodHandle" ∧ yX1_covered.cls ≠ "java/lang/invoke/VarHandle" ∧ (parseMethodDescriptor yX1_covered.desc).map (fun d => d.parameters.length) = some 1 := by decide +kernel
set_option maxHeartbeats 4000000 in
set_option maxRecDepth 100000 in
theorem k_X1_covered (l : Launch) (dC : Nat → ClassId) (dI : Nat → Nat → Nat) (cA : ClassId) (a : Nat → Nat) (S : St) (p1 : Int32) (r : Int32) (hf : f_X1_covered S p1 = some r) : Met l yX1_covered wsX1_covered ({ frames := 1, cells := 0, slots := 0, locals := 22 }) (va_Pc [.ref (a 0), .int p1] (PMs (dC, dI) cA a S)) (pQi r) 0 0 (fun _ => False) := by
  refine Met.ofW (cc := cX1_covered) (maxL := 4) (ret := (some .int)) (by decide) rfl ?_
  intro p e s m args below meth c s₁ B hml hv
  obtain ⟨rfl, hP, hK⟩ := hv
  have hx := B.exec
  have hb := B.bytes
  have hr := B.returns
  have hts := atoms_spec (ws := wsX1_covered) B.pre
  have hown : s.vm.findClass RX1 = some m.cls := findClass_of_methodNamed B.named
  have hlocks := B.notSynchronized
  have hin : ∀ w ∈ u_ws RX1 TX1 11, w ∈ wsX1_covered := by decide +kernel
  have hw0 := hts (.fieldLink RX1 7 "SubmodularyModel" "n" "I") (by decide +kernel)
  have hw1 := hts (.fieldLink RX1 13 "SubmodularyModel" "points" "[I") (by decide +kernel)
  have hl := lv_entry ([.ref (a 0), .int p1]) (n := 4) (Nat.le_of_ble_eq_true rfl)
  rw [lg_entry_eq]
  generalize (lg_sl ([.ref (a 0), .int p1]) ++ List.replicate (4 - (lg_sl ([.ref (a 0), .int p1])).length) Slot.unset).toArray = ls at hl ⊢
  have hl : lv_has ls 4 [(0, .ref (a 0)), (1, .int p1)] := hl
  have hW4 : ∀ (k4 : Nat) (x2 x3 : Int32) (ls : Array Slot), f_X1_covered_4 S p1 k4 x2 x3 = some r → lv_has ls 4 [(0, .ref (a 0)), (1, .int p1), (2, .int x2), (3, .int x3)] → W p l e (headSpec wsX1_covered ({ frames := 1, cells := 0, slots := 0, locals := 22 })).room s m ([.ref (a 0), .int p1] : List Value).toArray below meth c s.heap [] 0 0 (MQ below (pQi r) ([.ref (a 0), .int p1] : List Value).toArray s 0 0 (fun _ => False)) (F0 m 4 ls []) := by
    intro k4
    induction k4 with
    | zero =>
      intro x2 x3 ls hf hl
      rw [f_X1_covered_4] at hf
      cases hf
    | succ k4 ih4 =>
      have hW31 : ∀ (x3 s0 s1 : Int32) (ls : Array Slot), f_X1_covered_31 S p1 (f_X1_covered_4 S p1 k4) x3 s0 s1 = some r → lv_has ls 4 [(0, .ref (a 0)), (1, .int p1), (3, .int x3)] → W p l e (headSpec wsX1_covered ({ frames := 1, cells := 0, slots := 0, locals := 22 })).room s m ([.ref (a 0), .int p1] : List Value).toArray below meth c s.heap [] 0 0 (MQ below (pQi r) ([.ref (a 0), .int p1] : List Value).toArray s 0 0 (fun _ => False)) (F0 m 31 ls [.int s1, .int s0]) := by
        intro x3 s0 s1 ls hf hl
        unfold f_X1_covered_31 at hf
        refine lv_ior hx hb dX1_covered_31 ?_
        refine lv_topi (fun y1 ey1 => ?_)
        have hf := bnd_at hf ey1
        refine lv_istore_n (lv' := [(2, .int y1), (0, .ref (a 0)), (1, .int p1), (3, .int x3)]) hx hb dX1_covered_32 rfl hl (by decide) rfl (fun ls hl => ?_)
        obtain ⟨y2, ey2⟩ : ∃ y : Int32, y = (x3 + 1) := ⟨_, rfl⟩
        have hf := bnd_at hf ey2
        refine lv_iinc (v := y2) (lv' := [(3, .int y2), (2, .int y1), (0, .ref (a 0)), (1, .int p1)]) hx hb dX1_covered_33 hl (k := 3) rfl (by rw [ey2]; rfl) (by decide) rfl (fun ls hl => ?_)
        refine lv_goto (tgt := 4) hx hb dX1_covered_36 (by decide) ?_
        exact ih4 y1 y2 ls hf (lv_sub hl [2, 3, 1, 0] rfl)
      intro x2 x3 ls hf hl
      rw [f_X1_covered_4] at hf
      refine lv_iload_n hx hb dX1_covered_4 rfl (lv_at hl 3 rfl) ?_
      refine lv_aload_n hx hb dX1_covered_5 rfl (lv_at hl 0 rfl) ?_
      refine gfM hx hb hts hin hown hK hP 0 (by decide) hw0 rfl rfl dX1_covered_6 ?_
      refine lv_icmp_ge (tgt := 39) hx hb dX1_covered_9 (by decide) (fun c3 => ?_) (fun c3 => ?_)
      · rw [if_pos c3] at hf
        refine lv_iload_n hx hb dX1_covered_39 rfl (lv_at hl 2 rfl) ?_
        obtain ⟨v4, hv4, hf⟩ := ob_some hf
        refine pu_S (As := [.int x2]) (rest := []) ⟨hx, hb, hml, hown, hts⟩ (k_X1_many l x2 _ hv4) gX1_covered_X1_many rfl rfl rfl cd_X1_many (Nat.le_of_ble_eq_true rfl) (Nat.le_of_ble_eq_true rfl) (preT) rfl hl.1 rfl (Nat.le_of_ble_eq_true rfl) (Nat.zero_le _) (Nat.zero_le _) dX1_covered_40 ?_
        have hf := Option.some.inj hf; subst hf
        exact W.iret hx hb hr (fun t ht hW => ⟨rfl, ht⟩) (fun q h => by cases h) dX1_covered_43
      · rw [if_neg c3] at hf
        refine lv_iload_n hx hb dX1_covered_12 rfl (lv_at hl 2 rfl) ?_
        refine lv_iload_n hx hb dX1_covered_13 rfl (lv_at hl 1 rfl) ?_
        refine lv_iload_n hx hb dX1_covered_14 rfl (lv_at hl 3 rfl) ?_
        refine pu_S (As := [.int p1, .int x3]) (rest := [.int x2]) ⟨hx, hb, hml, hown, hts⟩ (k_X1_has l p1 x3 _ rfl) gX1_covered_X1_has rfl rfl rfl cd_X1_has (Nat.le_of_ble_eq_true rfl) (Nat.le_of_ble_eq_true rfl) (preT) rfl hl.1 rfl (Nat.le_of_ble_eq_true rfl) (Nat.zero_le _) (Nat.zero_le _) dX1_covered_15 ?_
        refine lv_if_eq (tgt := 30) hx hb dX1_covered_18 (by decide) (fun c5 => ?_) (fun c5 => ?_)
        · rw [if_pos c5] at hf
          refine lv_iconst (v := 0) hx hb dX1_covered_30 (by decide) ?_
          exact hW31 x3 x2 0 ls hf (lv_sub hl [0, 1, 3] rfl)
        · rw [if_neg c5] at hf
          refine lv_aload_n hx hb dX1_covered_21 rfl (lv_at hl 0 rfl) ?_
          refine gfM hx hb hts hin hown hK hP 1 (by decide) hw1 rfl rfl dX1_covered_22 ?_
          refine lv_iload_n hx hb dX1_covered_25 rfl (lv_at hl 3 rfl) ?_
          obtain ⟨v6, hv6, hf⟩ := ob_some hf
          refine rdI hx hb hK hP 1 rfl hv6 dX1_covered_26 ?_
          refine lv_goto (tgt := 31) hx hb dX1_covered_27 (by decide) ?_
          exact hW31 x3 x2 v6 ls hf (lv_sub hl [0, 1, 3] rfl)
  unfold f_X1_covered at hf
  refine lv_iconst (v := 0) hx hb dX1_covered_0 (by decide) ?_
  refine lv_istore_n (lv' := [(2, .int 0), (0, .ref (a 0)), (1, .int p1)]) hx hb dX1_covered_1 rfl hl (by decide) rfl (fun ls hl => ?_)
  refine lv_iconst (v := 0) hx hb dX1_covered_2 (by decide) ?_
  refine lv_istore_n (lv' := [(3, .int 0), (2, .int 0), (0, .ref (a 0)), (1, .int p1)]) hx hb dX1_covered_3 rfl hl (by decide) rfl (fun ls hl => ?_)
  exact hW4 70 0 0 ls hf (lv_sub hl [2, 3, 1, 0] rfl)
theorem cd_X1_cutBy : yX1_cutBy.cls = RX1 ∧ yX1_cutBy.cls ≠ "java/lang/invoke/MethodHandle" ∧ yX1_cutBy.cls ≠ "java/lang/invoke/VarHandle" ∧ (parseMethodDescriptor yX1_cutBy.desc).map (fun d => d.parameters.length) = some 1 := by decide +kernel
set_option maxHeartbeats 4000000 in
set_option maxRecDepth 100000 in
theorem k_X1_cutBy (l : Launch) (dC : Nat → ClassId) (dI : Nat → Nat → Nat) (cA : ClassId) (a : Nat → Nat) (S : St) (p1 : Int32) (r : Int32) (hf : f_X1_cutBy S p1 = some r) : Met l yX1_cutBy wsX1_cutBy ({ frames := 1, cells := 0, slots := 0, locals := 21 }) (va_Pc [.ref (a 0), .int p1] (PMs (dC, dI) cA a S)) (pQi r) 0 0 (fun _ => False) := by
  refine Met.ofW (cc := cX1_cutBy) (maxL := 5) (ret := (some .int)) (by decide) rfl ?_
  intro p e s m args below meth c s₁ B hml hv
  obtain ⟨rfl, hP, hK⟩ := hv
  have hx := B.exec
  have hb := B.bytes
  have hr := B.returns
  have hts := atoms_spec (ws := wsX1_cutBy) B.pre
  have hown : s.vm.findClass RX1 = some m.cls := findClass_of_methodNamed B.named
  have hlocks := B.notSynchronized
  have hin : ∀ w ∈ u_ws RX1 TX1 11, w ∈ wsX1_cutBy := by decide +kernel
  have hw0 := hts (.fieldLink RX1 7 "SubmodularyModel" "n" "I") (by decide +kernel)
  have hw1 := hts (.fieldLink RX1 17 "SubmodularyModel" "edges" "[I") (by decide +kernel)
  have hl := lv_entry ([.ref (a 0), .int p1]) (n := 5) (Nat.le_of_ble_eq_true rfl)
  rw [lg_entry_eq]
  generalize (lg_sl ([.ref (a 0), .int p1]) ++ List.replicate (5 - (lg_sl ([.ref (a 0), .int p1])).length) Slot.unset).toArray = ls at hl ⊢
  have hl : lv_has ls 5 [(0, .ref (a 0)), (1, .int p1)] := hl
  have hW4 : ∀ (k4 : Nat) (x2 x3 : Int32) (ls : Array Slot), f_X1_cutBy_4 S p1 k4 x2 x3 = some r → lv_has ls 5 [(0, .ref (a 0)), (1, .int p1), (2, .int x2), (3, .int x3)] → W p l e (headSpec wsX1_cutBy ({ frames := 1, cells := 0, slots := 0, locals := 21 })).room s m ([.ref (a 0), .int p1] : List Value).toArray below meth c s.heap [] 0 0 (MQ below (pQi r) ([.ref (a 0), .int p1] : List Value).toArray s 0 0 (fun _ => False)) (F0 m 4 ls []) := by
    intro k4
    induction k4 with
    | zero =>
      intro x2 x3 ls hf hl
      rw [f_X1_cutBy_4] at hf
      cases hf
    | succ k4 ih4 =>
      have hW15 : ∀ (k15 : Nat) (x2 x3 x4 : Int32) (ls : Array Slot), f_X1_cutBy_15 S p1 (f_X1_cutBy_4 S p1 k4) k15 x2 x3 x4 = some r → lv_has ls 5 [(0, .ref (a 0)), (1, .int p1), (2, .int x2), (3, .int x3), (4, .int x4)] → W p l e (headSpec wsX1_cutBy ({ frames := 1, cells := 0, slots := 0, locals := 21 })).room s m ([.ref (a 0), .int p1] : List Value).toArray below meth c s.heap [] 0 0 (MQ below (pQi r) ([.ref (a 0), .int p1] : List Value).toArray s 0 0 (fun _ => False)) (F0 m 15 ls []) := by
        intro k15
        induction k15 with
        | zero =>
          intro x2 x3 x4 ls hf hl
          rw [f_X1_cutBy_15] at hf
          cases hf
        | succ k15 ih15 =>
          have hW58 : ∀ (x3 x4 s0 s1 : Int32) (ls : Array Slot), f_X1_cutBy_58 S p1 (f_X1_cutBy_4 S p1 k4) (f_X1_cutBy_15 S p1 (f_X1_cutBy_4 S p1 k4) k15) x3 x4 s0 s1 = some r → lv_has ls 5 [(0, .ref (a 0)), (1, .int p1), (3, .int x3), (4, .int x4)] → W p l e (headSpec wsX1_cutBy ({ frames := 1, cells := 0, slots := 0, locals := 21 })).room s m ([.ref (a 0), .int p1] : List Value).toArray below meth c s.heap [] 0 0 (MQ below (pQi r) ([.ref (a 0), .int p1] : List Value).toArray s 0 0 (fun _ => False)) (F0 m 58 ls [.int s1, .int s0]) := by
            intro x3 x4 s0 s1 ls hf hl
            unfold f_X1_cutBy_58 at hf
            refine lv_iadd hx hb dX1_cutBy_58 ?_
            refine lv_topi (fun y1 ey1 => ?_)
            have hf := bnd_at hf ey1
            refine lv_istore_n (lv' := [(2, .int y1), (0, .ref (a 0)), (1, .int p1), (3, .int x3), (4, .int x4)]) hx hb dX1_cutBy_59 rfl hl (by decide) rfl (fun ls hl => ?_)
            obtain ⟨y2, ey2⟩ : ∃ y : Int32, y = (x4 + 1) := ⟨_, rfl⟩
            have hf := bnd_at hf ey2
            refine lv_iinc (v := y2) (lv' := [(4, .int y2), (2, .int y1), (0, .ref (a 0)), (1, .int p1), (3, .int x3)]) hx hb dX1_cutBy_60 hl (k := 4) rfl (by rw [ey2]; rfl) (by decide) rfl (fun ls hl => ?_)
            refine lv_goto (tgt := 15) hx hb dX1_cutBy_63 (by decide) ?_
            exact ih15 y1 x3 y2 ls hf (lv_sub hl [2, 3, 1, 4, 0] rfl)
          intro x2 x3 x4 ls hf hl
          rw [f_X1_cutBy_15] at hf
          refine lv_iload hx hb dX1_cutBy_15 (lv_at hl 4 rfl) ?_
          refine lv_aload_n hx hb dX1_cutBy_17 rfl (lv_at hl 0 rfl) ?_
          refine gfM hx hb hts hin hown hK hP 0 (by decide) hw0 rfl rfl dX1_cutBy_18 ?_
          refine lv_icmp_ge (tgt := 66) hx hb dX1_cutBy_21 (by decide) (fun c3 => ?_) (fun c3 => ?_)
          · rw [if_pos c3] at hf
            obtain ⟨y4, ey4⟩ : ∃ y : Int32, y = (x3 + 1) := ⟨_, rfl⟩
            have hf := bnd_at hf ey4
            refine lv_iinc (v := y4) (lv' := [(3, .int y4), (0, .ref (a 0)), (1, .int p1), (2, .int x2), (4, .int x4)]) hx hb dX1_cutBy_66 hl (k := 3) rfl (by rw [ey4]; rfl) (by decide) rfl (fun ls hl => ?_)
            refine lv_goto (tgt := 4) hx hb dX1_cutBy_69 (by decide) ?_
            exact ih4 x2 y4 ls hf (lv_sub hl [1, 2, 3, 0] rfl)
          · rw [if_neg c3] at hf
            refine lv_iload_n hx hb dX1_cutBy_24 rfl (lv_at hl 2 rfl) ?_
            refine lv_iload_n hx hb dX1_cutBy_25 rfl (lv_at hl 1 rfl) ?_
            refine lv_iload_n hx hb dX1_cutBy_26 rfl (lv_at hl 3 rfl) ?_
            refine pu_S (As := [.int p1, .int x3]) (rest := [.int x2]) ⟨hx, hb, hml, hown, hts⟩ (k_X1_has l p1 x3 _ rfl) gX1_cutBy_X1_has rfl rfl rfl cd_X1_has (Nat.le_of_ble_eq_true rfl) (Nat.le_of_ble_eq_true rfl) (preT) rfl hl.1 rfl (Nat.le_of_ble_eq_true rfl) (Nat.zero_le _) (Nat.zero_le _) dX1_cutBy_27 ?_
            refine lv_if_eq (tgt := 57) hx hb dX1_cutBy_30 (by decide) (fun c5 => ?_) (fun c5 => ?_)
            · rw [if_pos c5] at hf
              refine lv_iconst (v := 0) hx hb dX1_cutBy_57 (by decide) ?_
              exact hW58 x3 x4 x2 0 ls hf (lv_sub hl [0, 1, 3, 4] rfl)
            · rw [if_neg c5] at hf
              refine lv_iload_n hx hb dX1_cutBy_33 rfl (lv_at hl 1 rfl) ?_
              refine lv_iload hx hb dX1_cutBy_34 (lv_at hl 4 rfl) ?_
              refine pu_S (As := [.int p1, .int x4]) (rest := [.int x2]) ⟨hx, hb, hml, hown, hts⟩ (k_X1_has l p1 x4 _ rfl) gX1_cutBy_X1_has rfl rfl rfl cd_X1_has (Nat.le_of_ble_eq_true rfl) (Nat.le_of_ble_eq_true rfl) (preT) rfl hl.1 rfl (Nat.le_of_ble_eq_true rfl) (Nat.zero_le _) (Nat.zero_le _) dX1_cutBy_36 ?_
              refine lv_if_ne (tgt := 57) hx hb dX1_cutBy_39 (by decide) (fun c6 => ?_) (fun c6 => ?_)
              · rw [if_neg c6] at hf
                refine lv_iconst (v := 0) hx hb dX1_cutBy_57 (by decide) ?_
                exact hW58 x3 x4 x2 0 ls hf (lv_sub hl [0, 1, 3, 4] rfl)
              · rw [if_pos c6] at hf
                refine lv_aload_n hx hb dX1_cutBy_42 rfl (lv_at hl 0 rfl) ?_
                refine gfM hx hb hts hin hown hK hP 2 (by decide) hw1 rfl rfl dX1_cutBy_43 ?_
                refine lv_bipush (v := 6) hx hb dX1_cutBy_46 (by decide) ?_
                refine lv_iload_n hx hb dX1_cutBy_48 rfl (lv_at hl 3 rfl) ?_
                refine lv_imul hx hb dX1_cutBy_49 ?_
                refine lv_iload hx hb dX1_cutBy_50 (lv_at hl 4 rfl) ?_
                refine lv_iadd hx hb dX1_cutBy_52 ?_
                obtain ⟨v7, hv7, hf⟩ := ob_some hf
                refine rdI hx hb hK hP 2 rfl hv7 dX1_cutBy_53 ?_
                refine lv_goto (tgt := 58) hx hb dX1_cutBy_54 (by decide) ?_
                exact hW58 x3 x4 x2 v7 ls hf (lv_sub hl [0, 1, 3, 4] rfl)
      intro x2 x3 ls hf hl
      rw [f_X1_cutBy_4] at hf
      refine lv_iload_n hx hb dX1_cutBy_4 rfl (lv_at hl 3 rfl) ?_
      refine lv_aload_n hx hb dX1_cutBy_5 rfl (lv_at hl 0 rfl) ?_
      refine gfM hx hb hts hin hown hK hP 0 (by decide) hw0 rfl rfl dX1_cutBy_6 ?_
      refine lv_icmp_ge (tgt := 72) hx hb dX1_cutBy_9 (by decide) (fun c8 => ?_) (fun c8 => ?_)
      · rw [if_pos c8] at hf
        refine lv_iload_n hx hb dX1_cutBy_72 rfl (lv_at hl 2 rfl) ?_
        have hf := Option.some.inj hf; subst hf
        exact W.iret hx hb hr (fun t ht hW => ⟨rfl, ht⟩) (fun q h => by cases h) dX1_cutBy_73
      · rw [if_neg c8] at hf
        refine lv_iconst (v := 0) hx hb dX1_cutBy_12 (by decide) ?_
        refine lv_istore (lv' := [(4, .int 0), (0, .ref (a 0)), (1, .int p1), (2, .int x2), (3, .int x3)]) hx hb dX1_cutBy_13 hl (by decide) rfl (fun ls hl => ?_)
        exact hW15 70 x2 x3 0 ls hf (lv_sub hl [1, 2, 3, 4, 0] rfl)
  unfold f_X1_cutBy at hf
  refine lv_iconst (v := 0) hx hb dX1_cutBy_0 (by decide) ?_
  refine lv_istore_n (lv' := [(2, .int 0), (0, .ref (a 0)), (1, .int p1)]) hx hb dX1_cutBy_1 rfl hl (by decide) rfl (fun ls hl => ?_)
  refine lv_iconst (v := 0) hx hb dX1_cutBy_2 (by decide) ?_
  refine lv_istore_n (lv' := [(3, .int 0), (2, .int 0), (0, .ref (a 0)), (1, .int p1)]) hx hb dX1_cutBy_3 rfl hl (by decide) rfl (fun ls hl => ?_)
  exact hW4 70 0 0 ls hf (lv_sub hl [2, 3, 1, 0] rfl)
theorem cd_X1_ofColour : yX1_ofColour.cls = RX1 ∧ yX1_ofColour.cls ≠ "java/lang/invoke/MethodHandle" ∧ yX1_ofColour.cls ≠ "java/lang/invoke/VarHandle" ∧ (parseMethodDescriptor yX1_ofColour.desc).map (fun d => d.parameters.length) = some 3 := by decide +kernel
set_option maxHeartbeats 4000000 in
set_option maxRecDepth 100000 in
theorem k_X1_ofColour (l : Launch) (dC : Nat → ClassId) (dI : Nat → Nat → Nat) (cA : ClassId) (a : Nat → Nat) (S : St) (p1 : Int32) (p2 : Int32) (p3 : Int32) (r : Int32) (hf : f_X1_ofColour S p1 p2 p3 = some r) : Met l yX1_ofColour wsX1_ofColour ({ frames := 1, cells := 0, slots := 0, locals := 21 }) (va_Pc [.ref (a 0), .int p1, .int p2, .int p3] (PMs (dC, dI) cA a S)) (pQi r) 0 0 (fun _ => False) := by
  refine Met.ofW (cc := cX1_ofColour) (maxL := 6) (ret := (some .int)) (by decide) rfl ?_
  intro p e s m args below meth c s₁ B hml hv
  obtain ⟨rfl, hP, hK⟩ := hv
  have hx := B.exec
  have hb := B.bytes
  have hr := B.returns
  have hts := atoms_spec (ws := wsX1_ofColour) B.pre
  have hown : s.vm.findClass RX1 = some m.cls := findClass_of_methodNamed B.named
  have hlocks := B.notSynchronized
  have hin : ∀ w ∈ u_ws RX1 TX1 11, w ∈ wsX1_ofColour := by decide +kernel
  have hw0 := hts (.fieldLink RX1 7 "SubmodularyModel" "n" "I") (by decide +kernel)
  have hw1 := hts (.fieldLink RX1 20 "SubmodularyModel" "colours" "[I") (by decide +kernel)
  have hl := lv_entry ([.ref (a 0), .int p1, .int p2, .int p3]) (n := 6) (Nat.le_of_ble_eq_true rfl)
  rw [lg_entry_eq]
  generalize (lg_sl ([.ref (a 0), .int p1, .int p2, .int p3]) ++ List.replicate (6 - (lg_sl ([.ref (a 0), .int p1, .int p2, .int p3])).length) Slot.unset).toArray = ls at hl ⊢
  have hl : lv_has ls 6 [(0, .ref (a 0)), (1, .int p1), (2, .int p2), (3, .int p3)] := hl
  have hW6 : ∀ (k6 : Nat) (x4 x5 : Int32) (ls : Array Slot), f_X1_ofColour_6 S p1 p2 p3 k6 x4 x5 = some r → lv_has ls 6 [(0, .ref (a 0)), (1, .int p1), (2, .int p2), (3, .int p3), (4, .int x4), (5, .int x5)] → W p l e (headSpec wsX1_ofColour ({ frames := 1, cells := 0, slots := 0, locals := 21 })).room s m ([.ref (a 0), .int p1, .int p2, .int p3] : List Value).toArray below meth c s.heap [] 0 0 (MQ below (pQi r) ([.ref (a 0), .int p1, .int p2, .int p3] : List Value).toArray s 0 0 (fun _ => False)) (F0 m 6 ls []) := by
    intro k6
    induction k6 with
    | zero =>
      intro x4 x5 ls hf hl
      rw [f_X1_ofColour_6] at hf
      cases hf
    | succ k6 ih6 =>
      have hW47 : ∀ (x5 s0 s1 : Int32) (ls : Array Slot), f_X1_ofColour_47 S p1 p2 p3 (f_X1_ofColour_6 S p1 p2 p3 k6) x5 s0 s1 = some r → lv_has ls 6 [(0, .ref (a 0)), (1, .int p1), (2, .int p2), (3, .int p3), (5, .int x5)] → W p l e (headSpec wsX1_ofColour ({ frames := 1, cells := 0, slots := 0, locals := 21 })).room s m ([.ref (a 0), .int p1, .int p2, .int p3] : List Value).toArray below meth c s.heap [] 0 0 (MQ below (pQi r) ([.ref (a 0), .int p1, .int p2, .int p3] : List Value).toArray s 0 0 (fun _ => False)) (F0 m 47 ls [.int s1, .int s0]) := by
        intro x5 s0 s1 ls hf hl
        unfold f_X1_ofColour_47 at hf
        refine lv_iadd hx hb dX1_ofColour_47 ?_
        refine lv_topi (fun y1 ey1 => ?_)
        have hf := bnd_at hf ey1
        refine lv_istore (lv' := [(4, .int y1), (0, .ref (a 0)), (1, .int p1), (2, .int p2), (3, .int p3), (5, .int x5)]) hx hb dX1_ofColour_48 hl (by decide) rfl (fun ls hl => ?_)
        obtain ⟨y2, ey2⟩ : ∃ y : Int32, y = (x5 + 1) := ⟨_, rfl⟩
        have hf := bnd_at hf ey2
        refine lv_iinc (v := y2) (lv' := [(5, .int y2), (4, .int y1), (0, .ref (a 0)), (1, .int p1), (2, .int p2), (3, .int p3)]) hx hb dX1_ofColour_50 hl (k := 5) rfl (by rw [ey2]; rfl) (by decide) rfl (fun ls hl => ?_)
        refine lv_goto (tgt := 6) hx hb dX1_ofColour_53 (by decide) ?_
        exact ih6 y1 y2 ls hf (lv_sub hl [2, 3, 4, 5, 1, 0] rfl)
      intro x4 x5 ls hf hl
      rw [f_X1_ofColour_6] at hf
      refine lv_iload hx hb dX1_ofColour_6 (lv_at hl 5 rfl) ?_
      refine lv_aload_n hx hb dX1_ofColour_8 rfl (lv_at hl 0 rfl) ?_
      refine gfM hx hb hts hin hown hK hP 0 (by decide) hw0 rfl rfl dX1_ofColour_9 ?_
      refine lv_icmp_ge (tgt := 56) hx hb dX1_ofColour_12 (by decide) (fun c3 => ?_) (fun c3 => ?_)
      · rw [if_pos c3] at hf
        refine lv_iload hx hb dX1_ofColour_56 (lv_at hl 4 rfl) ?_
        have hf := Option.some.inj hf; subst hf
        exact W.iret hx hb hr (fun t ht hW => ⟨rfl, ht⟩) (fun q h => by cases h) dX1_ofColour_58
      · rw [if_neg c3] at hf
        refine lv_iload hx hb dX1_ofColour_15 (lv_at hl 4 rfl) ?_
        refine lv_iload_n hx hb dX1_ofColour_17 rfl (lv_at hl 3 rfl) ?_
        refine lv_iload hx hb dX1_ofColour_18 (lv_at hl 5 rfl) ?_
        refine pu_S (As := [.int p3, .int x5]) (rest := [.int x4]) ⟨hx, hb, hml, hown, hts⟩ (k_X1_has l p3 x5 _ rfl) gX1_ofColour_X1_has rfl rfl rfl cd_X1_has (Nat.le_of_ble_eq_true rfl) (Nat.le_of_ble_eq_true rfl) (preT) rfl hl.1 rfl (Nat.le_of_ble_eq_true rfl) (Nat.zero_le _) (Nat.zero_le _) dX1_ofColour_20 ?_
        refine lv_if_eq (tgt := 46) hx hb dX1_ofColour_23 (by decide) (fun c4 => ?_) (fun c4 => ?_)
        · rw [if_pos c4] at hf
          refine lv_iconst (v := 0) hx hb dX1_ofColour_46 (by decide) ?_
          exact hW47 x5 x4 0 ls hf (lv_sub hl [0, 1, 2, 3, 5] rfl)
        · rw [if_neg c4] at hf
          refine lv_aload_n hx hb dX1_ofColour_26 rfl (lv_at hl 0 rfl) ?_
          refine gfM hx hb hts hin hown hK hP 3 (by decide) hw1 rfl rfl dX1_ofColour_27 ?_
          refine lv_bipush (v := 6) hx hb dX1_ofColour_30 (by decide) ?_
          refine lv_iload_n hx hb dX1_ofColour_32 rfl (lv_at hl 1 rfl) ?_
          refine lv_imul hx hb dX1_ofColour_33 ?_
          refine lv_iload hx hb dX1_ofColour_34 (lv_at hl 5 rfl) ?_
          refine lv_iadd hx hb dX1_ofColour_36 ?_
          obtain ⟨v5, hv5, hf⟩ := ob_some hf
          refine rdI hx hb hK hP 3 rfl hv5 dX1_ofColour_37 ?_
          refine lv_iload_n hx hb dX1_ofColour_38 rfl (lv_at hl 2 rfl) ?_
          refine lv_icmp_ne (tgt := 46) hx hb dX1_ofColour_39 (by decide) (fun c6 => ?_) (fun c6 => ?_)
          · rw [if_neg c6] at hf
            refine lv_iconst (v := 0) hx hb dX1_ofColour_46 (by decide) ?_
            exact hW47 x5 x4 0 ls hf (lv_sub hl [0, 1, 2, 3, 5] rfl)
          · rw [if_pos c6] at hf
            refine lv_iconst (v := 1) hx hb dX1_ofColour_42 (by decide) ?_
            refine lv_goto (tgt := 47) hx hb dX1_ofColour_43 (by decide) ?_
            exact hW47 x5 x4 1 ls hf (lv_sub hl [0, 1, 2, 3, 5] rfl)
  unfold f_X1_ofColour at hf
  refine lv_iconst (v := 0) hx hb dX1_ofColour_0 (by decide) ?_
  refine lv_istore (lv' := [(4, .int 0), (0, .ref (a 0)), (1, .int p1), (2, .int p2), (3, .int p3)]) hx hb dX1_ofColour_1 hl (by decide) rfl (fun ls hl => ?_)
  refine lv_iconst (v := 0) hx hb dX1_ofColour_3 (by decide) ?_
  refine lv_istore (lv' := [(5, .int 0), (4, .int 0), (0, .ref (a 0)), (1, .int p1), (2, .int p2), (3, .int p3)]) hx hb dX1_ofColour_4 hl (by decide) rfl (fun ls hl => ?_)
  exact hW6 70 0 0 ls hf (lv_sub hl [2, 3, 4, 5, 1, 0] rfl)
theorem cd_X1_rank : yX1_rank.cls = RX1 ∧ yX1_rank.cls ≠ "java/lang/invoke/MethodHandle" ∧ yX1_rank.cls ≠ "java/lang/invoke/VarHandle" ∧ (parseMethodDescriptor yX1_rank.desc).map (fun d => d.parameters.length) = some 2 := by decide +kernel
set_option maxHeartbeats 4000000 in
set_option maxRecDepth 100000 in
theorem k_X1_rank (l : Launch) (dC : Nat → ClassId) (dI : Nat → Nat → Nat) (cA : ClassId) (a : Nat → Nat) (S : St) (p1 : Int32) (p2 : Int32) (r : Int32) (hf : f_X1_rank S p1 p2 = some r) : Met l yX1_rank wsX1_rank ({ frames := 2, cells := 0, slots := 0, locals := 46 }) (va_Pc [.ref (a 0), .int p1, .int p2] (PMs (dC, dI) cA a S)) (pQi r) 0 0 (fun _ => False) := by
  refine Met.ofW (cc := cX1_rank) (maxL := 6) (ret := (some .int)) (by decide) rfl ?_
  intro p e s m args below meth c s₁ B hml hv
  obtain ⟨rfl, hP, hK⟩ := hv
  have hx := B.exec
  have hb := B.bytes
  have hr := B.returns
  have hts := atoms_spec (ws := wsX1_rank) B.pre
  have hown : s.vm.findClass RX1 = some m.cls := findClass_of_methodNamed B.named
  have hlocks := B.notSynchronized
  have hin : ∀ w ∈ u_ws RX1 TX1 11, w ∈ wsX1_rank := by decide +kernel
  have hw0 := hts (.fieldLink RX1 23 "SubmodularyModel" "rooms" "[I") (by decide +kernel)
  have hl := lv_entry ([.ref (a 0), .int p1, .int p2]) (n := 6) (Nat.le_of_ble_eq_true rfl)
  rw [lg_entry_eq]
  generalize (lg_sl ([.ref (a 0), .int p1, .int p2]) ++ List.replicate (6 - (lg_sl ([.ref (a 0), .int p1, .int p2])).length) Slot.unset).toArray = ls at hl ⊢
  have hl : lv_has ls 6 [(0, .ref (a 0)), (1, .int p1), (2, .int p2)] := hl
  have hW5 : ∀ (k5 : Nat) (x3 x4 : Int32) (ls : Array Slot), f_X1_rank_5 S p1 p2 k5 x3 x4 = some r → lv_has ls 6 [(0, .ref (a 0)), (1, .int p1), (2, .int p2), (3, .int x3), (4, .int x4)] → W p l e (headSpec wsX1_rank ({ frames := 2, cells := 0, slots := 0, locals := 46 })).room s m ([.ref (a 0), .int p1, .int p2] : List Value).toArray below meth c s.heap [] 0 0 (MQ below (pQi r) ([.ref (a 0), .int p1, .int p2] : List Value).toArray s 0 0 (fun _ => False)) (F0 m 5 ls []) := by
    intro k5
    induction k5 with
    | zero =>
      intro x3 x4 ls hf hl
      rw [f_X1_rank_5] at hf
      cases hf
    | succ k5 ih5 =>
      have hW57 : ∀ (x4 s0 s1 : Int32) (ls : Array Slot), f_X1_rank_57 S p1 p2 (f_X1_rank_5 S p1 p2 k5) x4 s0 s1 = some r → lv_has ls 6 [(0, .ref (a 0)), (1, .int p1), (2, .int p2), (4, .int x4)] → W p l e (headSpec wsX1_rank ({ frames := 2, cells := 0, slots := 0, locals := 46 })).room s m ([.ref (a 0), .int p1, .int p2] : List Value).toArray below meth c s.heap [] 0 0 (MQ below (pQi r) ([.ref (a 0), .int p1, .int p2] : List Value).toArray s 0 0 (fun _ => False)) (F0 m 57 ls [.int s1, .int s0]) := by
        intro x4 s0 s1 ls hf hl
        unfold f_X1_rank_57 at hf
        refine lv_iadd hx hb dX1_rank_57 ?_
        refine lv_topi (fun y1 ey1 => ?_)
        have hf := bnd_at hf ey1
        refine lv_istore_n (lv' := [(3, .int y1), (0, .ref (a 0)), (1, .int p1), (2, .int p2), (4, .int x4)]) hx hb dX1_rank_58 rfl hl (by decide) rfl (fun ls hl => ?_)
        obtain ⟨y2, ey2⟩ : ∃ y : Int32, y = (x4 + 1) := ⟨_, rfl⟩
        have hf := bnd_at hf ey2
        refine lv_iinc (v := y2) (lv' := [(4, .int y2), (3, .int y1), (0, .ref (a 0)), (1, .int p1), (2, .int p2)]) hx hb dX1_rank_59 hl (k := 4) rfl (by rw [ey2]; rfl) (by decide) rfl (fun ls hl => ?_)
        refine lv_goto (tgt := 5) hx hb dX1_rank_62 (by decide) ?_
        exact ih5 y1 y2 ls hf (lv_sub hl [2, 3, 4, 1, 0] rfl)
      intro x3 x4 ls hf hl
      rw [f_X1_rank_5] at hf
      refine lv_iload hx hb dX1_rank_5 (lv_at hl 4 rfl) ?_
      refine lv_bipush (v := 6) hx hb dX1_rank_7 (by decide) ?_
      refine lv_icmp_ge (tgt := 65) hx hb dX1_rank_9 (by decide) (fun c3 => ?_) (fun c3 => ?_)
      · rw [if_pos c3] at hf
        refine lv_iload_n hx hb dX1_rank_65 rfl (lv_at hl 3 rfl) ?_
        have hf := Option.some.inj hf; subst hf
        exact W.iret hx hb hr (fun t ht hW => ⟨rfl, ht⟩) (fun q h => by cases h) dX1_rank_66
      · rw [if_neg c3] at hf
        refine lv_aload_n hx hb dX1_rank_12 rfl (lv_at hl 0 rfl) ?_
        refine lv_iload_n hx hb dX1_rank_13 rfl (lv_at hl 1 rfl) ?_
        refine lv_iload hx hb dX1_rank_14 (lv_at hl 4 rfl) ?_
        refine lv_iload_n hx hb dX1_rank_16 rfl (lv_at hl 2 rfl) ?_
        obtain ⟨v4, hv4, hf⟩ := ob_some hf
        refine pu_V (As := [.int p1, .int x4, .int p2]) (rest := []) ⟨hx, hb, hml, hown, hts⟩ (k_X1_ofColour l dC dI cA a S p1 x4 p2 _ hv4) gX1_rank_X1_ofColour rfl rfl rfl cd_X1_ofColour (Nat.le_of_ble_eq_true rfl) (Nat.le_of_ble_eq_true rfl) (preM hK hP) rfl hl.1 rfl (Nat.le_of_ble_eq_true rfl) (Nat.zero_le _) (Nat.zero_le _) dX1_rank_17 ?_
        refine lv_istore (lv' := [(5, .int v4), (0, .ref (a 0)), (1, .int p1), (2, .int p2), (3, .int x3), (4, .int x4)]) hx hb dX1_rank_20 hl (by decide) rfl (fun ls hl => ?_)
        refine lv_iload_n hx hb dX1_rank_22 rfl (lv_at hl 4 rfl) ?_
        refine lv_iload hx hb dX1_rank_23 (lv_at hl 0 rfl) ?_
        refine lv_aload_n hx hb dX1_rank_25 rfl (lv_at hl 1 rfl) ?_
        refine gfM hx hb hts hin hown hK hP 4 (by decide) hw0 rfl rfl dX1_rank_26 ?_
        refine lv_bipush (v := 6) hx hb dX1_rank_29 (by decide) ?_
        refine lv_iload_n hx hb dX1_rank_31 rfl (lv_at hl 2 rfl) ?_
        refine lv_imul hx hb dX1_rank_32 ?_
        refine lv_iload hx hb dX1_rank_33 (lv_at hl 5 rfl) ?_
        refine lv_iadd hx hb dX1_rank_35 ?_
        obtain ⟨v5, hv5, hf⟩ := ob_some hf
        refine rdI hx hb hK hP 4 rfl hv5 dX1_rank_36 ?_
        refine lv_icmp_ge (tgt := 45) hx hb dX1_rank_37 (by decide) (fun c6 => ?_) (fun c6 => ?_)
        · rw [if_pos c6] at hf
          refine lv_aload_n hx hb dX1_rank_45 rfl (lv_at hl 1 rfl) ?_
          refine gfM hx hb hts hin hown hK hP 4 (by decide) hw0 rfl rfl dX1_rank_46 ?_
          refine lv_bipush (v := 6) hx hb dX1_rank_49 (by decide) ?_
          refine lv_iload_n hx hb dX1_rank_51 rfl (lv_at hl 2 rfl) ?_
          refine lv_imul hx hb dX1_rank_52 ?_
          refine lv_iload hx hb dX1_rank_53 (lv_at hl 5 rfl) ?_
          refine lv_iadd hx hb dX1_rank_55 ?_
          obtain ⟨v7, hv7, hf⟩ := ob_some hf
          refine rdI hx hb hK hP 4 rfl hv7 dX1_rank_56 ?_
          exact hW57 x4 x3 v7 ls hf (lv_sub hl [1, 2, 3, 5] rfl)
        · rw [if_neg c6] at hf
          refine lv_iload hx hb dX1_rank_40 (lv_at hl 0 rfl) ?_
          refine lv_goto (tgt := 57) hx hb dX1_rank_42 (by decide) ?_
          exact hW57 x4 x3 v4 ls hf (lv_sub hl [1, 2, 3, 5] rfl)
  unfold f_X1_rank at hf
  refine lv_iconst (v := 0) hx hb dX1_rank_0 (by decide) ?_
  refine lv_istore_n (lv' := [(3, .int 0), (0, .ref (a 0)), (1, .int p1), (2, .int p2)]) hx hb dX1_rank_1 rfl hl (by decide) rfl (fun ls hl => ?_)
  refine lv_iconst (v := 0) hx hb dX1_rank_2 (by decide) ?_
  refine lv_istore (lv' := [(4, .int 0), (3, .int 0), (0, .ref (a 0)), (1, .int p1), (2, .int p2)]) hx hb dX1_rank_3 hl (by decide) rfl (fun ls hl => ?_)
  exact hW5 70 0 0 ls hf (lv_sub hl [2, 3, 4, 1, 0] rfl)
theorem cd_X1_weight : yX1_weight.cls = RX1 ∧ yX1_weight.cls ≠ "java/lang/invoke/MethodHandle" ∧ yX1_weight.cls ≠ "java/lang/invoke/VarHandle" ∧ (parseMethodDescriptor yX1_weight.desc).map (fun d => d.parameters.length) = some 1 := by decide +kernel
set_option maxHeartbeats 4000000 in
set_option maxRecDepth 100000 in
theorem k_X1_weight (l : Launch) (dC : Nat → ClassId) (dI : Nat → Nat → Nat) (cA : ClassId) (a : Nat → Nat) (S : St) (p1 : Int32) (r : Int32) (hf : f_X1_weight S p1 = some r) : Met l yX1_weight wsX1_weight ({ frames := 1, cells := 0, slots := 0, locals := 21 }) (va_Pc [.ref (a 0), .int p1] (PMs (dC, dI) cA a S)) (pQi r) 0 0 (fun _ => False) := by
  refine Met.ofW (cc := cX1_weight) (maxL := 4) (ret := (some .int)) (by decide) rfl ?_
  intro p e s m args below meth c s₁ B hml hv
  obtain ⟨rfl, hP, hK⟩ := hv
  have hx := B.exec
  have hb := B.bytes
  have hr := B.returns
  have hts := atoms_spec (ws := wsX1_weight) B.pre
  have hown : s.vm.findClass RX1 = some m.cls := findClass_of_methodNamed B.named
  have hlocks := B.notSynchronized
  have hin : ∀ w ∈ u_ws RX1 TX1 11, w ∈ wsX1_weight := by decide +kernel
  have hw0 := hts (.fieldLink RX1 7 "SubmodularyModel" "n" "I") (by decide +kernel)
  have hw1 := hts (.fieldLink RX1 26 "SubmodularyModel" "weights" "[I") (by decide +kernel)
  have hl := lv_entry ([.ref (a 0), .int p1]) (n := 4) (Nat.le_of_ble_eq_true rfl)
  rw [lg_entry_eq]
  generalize (lg_sl ([.ref (a 0), .int p1]) ++ List.replicate (4 - (lg_sl ([.ref (a 0), .int p1])).length) Slot.unset).toArray = ls at hl ⊢
  have hl : lv_has ls 4 [(0, .ref (a 0)), (1, .int p1)] := hl
  have hW4 : ∀ (k4 : Nat) (x2 x3 : Int32) (ls : Array Slot), f_X1_weight_4 S p1 k4 x2 x3 = some r → lv_has ls 4 [(0, .ref (a 0)), (1, .int p1), (2, .int x2), (3, .int x3)] → W p l e (headSpec wsX1_weight ({ frames := 1, cells := 0, slots := 0, locals := 21 })).room s m ([.ref (a 0), .int p1] : List Value).toArray below meth c s.heap [] 0 0 (MQ below (pQi r) ([.ref (a 0), .int p1] : List Value).toArray s 0 0 (fun _ => False)) (F0 m 4 ls []) := by
    intro k4
    induction k4 with
    | zero =>
      intro x2 x3 ls hf hl
      rw [f_X1_weight_4] at hf
      cases hf
    | succ k4 ih4 =>
      have hW31 : ∀ (x3 s0 s1 : Int32) (ls : Array Slot), f_X1_weight_31 S p1 (f_X1_weight_4 S p1 k4) x3 s0 s1 = some r → lv_has ls 4 [(0, .ref (a 0)), (1, .int p1), (3, .int x3)] → W p l e (headSpec wsX1_weight ({ frames := 1, cells := 0, slots := 0, locals := 21 })).room s m ([.ref (a 0), .int p1] : List Value).toArray below meth c s.heap [] 0 0 (MQ below (pQi r) ([.ref (a 0), .int p1] : List Value).toArray s 0 0 (fun _ => False)) (F0 m 31 ls [.int s1, .int s0]) := by
        intro x3 s0 s1 ls hf hl
        unfold f_X1_weight_31 at hf
        refine lv_iadd hx hb dX1_weight_31 ?_
        refine lv_topi (fun y1 ey1 => ?_)
        have hf := bnd_at hf ey1
        refine lv_istore_n (lv' := [(2, .int y1), (0, .ref (a 0)), (1, .int p1), (3, .int x3)]) hx hb dX1_weight_32 rfl hl (by decide) rfl (fun ls hl => ?_)
        obtain ⟨y2, ey2⟩ : ∃ y : Int32, y = (x3 + 1) := ⟨_, rfl⟩
        have hf := bnd_at hf ey2
        refine lv_iinc (v := y2) (lv' := [(3, .int y2), (2, .int y1), (0, .ref (a 0)), (1, .int p1)]) hx hb dX1_weight_33 hl (k := 3) rfl (by rw [ey2]; rfl) (by decide) rfl (fun ls hl => ?_)
        refine lv_goto (tgt := 4) hx hb dX1_weight_36 (by decide) ?_
        exact ih4 y1 y2 ls hf (lv_sub hl [2, 3, 1, 0] rfl)
      intro x2 x3 ls hf hl
      rw [f_X1_weight_4] at hf
      refine lv_iload_n hx hb dX1_weight_4 rfl (lv_at hl 3 rfl) ?_
      refine lv_aload_n hx hb dX1_weight_5 rfl (lv_at hl 0 rfl) ?_
      refine gfM hx hb hts hin hown hK hP 0 (by decide) hw0 rfl rfl dX1_weight_6 ?_
      refine lv_icmp_ge (tgt := 39) hx hb dX1_weight_9 (by decide) (fun c3 => ?_) (fun c3 => ?_)
      · rw [if_pos c3] at hf
        refine lv_iload_n hx hb dX1_weight_39 rfl (lv_at hl 2 rfl) ?_
        have hf := Option.some.inj hf; subst hf
        exact W.iret hx hb hr (fun t ht hW => ⟨rfl, ht⟩) (fun q h => by cases h) dX1_weight_40
      · rw [if_neg c3] at hf
        refine lv_iload_n hx hb dX1_weight_12 rfl (lv_at hl 2 rfl) ?_
        refine lv_iload_n hx hb dX1_weight_13 rfl (lv_at hl 1 rfl) ?_
        refine lv_iload_n hx hb dX1_weight_14 rfl (lv_at hl 3 rfl) ?_
        refine pu_S (As := [.int p1, .int x3]) (rest := [.int x2]) ⟨hx, hb, hml, hown, hts⟩ (k_X1_has l p1 x3 _ rfl) gX1_weight_X1_has rfl rfl rfl cd_X1_has (Nat.le_of_ble_eq_true rfl) (Nat.le_of_ble_eq_true rfl) (preT) rfl hl.1 rfl (Nat.le_of_ble_eq_true rfl) (Nat.zero_le _) (Nat.zero_le _) dX1_weight_15 ?_
        refine lv_if_eq (tgt := 30) hx hb dX1_weight_18 (by decide) (fun c4 => ?_) (fun c4 => ?_)
        · rw [if_pos c4] at hf
          refine lv_iconst (v := 0) hx hb dX1_weight_30 (by decide) ?_
          exact hW31 x3 x2 0 ls hf (lv_sub hl [0, 1, 3] rfl)
        · rw [if_neg c4] at hf
          refine lv_aload_n hx hb dX1_weight_21 rfl (lv_at hl 0 rfl) ?_
          refine gfM hx hb hts hin hown hK hP 5 (by decide) hw1 rfl rfl dX1_weight_22 ?_
          refine lv_iload_n hx hb dX1_weight_25 rfl (lv_at hl 3 rfl) ?_
          obtain ⟨v5, hv5, hf⟩ := ob_some hf
          refine rdI hx hb hK hP 5 rfl hv5 dX1_weight_26 ?_
          refine lv_goto (tgt := 31) hx hb dX1_weight_27 (by decide) ?_
          exact hW31 x3 x2 v5 ls hf (lv_sub hl [0, 1, 3] rfl)
  unfold f_X1_weight at hf
  refine lv_iconst (v := 0) hx hb dX1_weight_0 (by decide) ?_
  refine lv_istore_n (lv' := [(2, .int 0), (0, .ref (a 0)), (1, .int p1)]) hx hb dX1_weight_1 rfl hl (by decide) rfl (fun ls hl => ?_)
  refine lv_iconst (v := 0) hx hb dX1_weight_2 (by decide) ?_
  refine lv_istore_n (lv' := [(3, .int 0), (2, .int 0), (0, .ref (a 0)), (1, .int p1)]) hx hb dX1_weight_3 rfl hl (by decide) rfl (fun ls hl => ?_)
  exact hW4 70 0 0 ls hf (lv_sub hl [2, 3, 1, 0] rfl)
theorem cd_X1_hasLaw : yX1_hasLaw.cls = RX1 ∧ yX1_hasLaw.cls ≠ "java/lang/invoke/MethodHandle" ∧ yX1_hasLaw.cls ≠ "java/lang/invoke/VarHandle" ∧ (parseMethodDescriptor yX1_hasLaw.desc).map (fun d => d.parameters.length) = some 1 := by decide +kernel
set_option maxHeartbeats 4000000 in
set_option maxRecDepth 100000 in
theorem k_X1_hasLaw (l : Launch) (dC : Nat → ClassId) (dI : Nat → Nat → Nat) (cA : ClassId) (a : Nat → Nat) (S : St) (p1 : Int32) (r : Int32) (hf : f_X1_hasLaw S p1 = some r) : Met l yX1_hasLaw wsX1_hasLaw ({ frames := 2, cells := 0, slots := 0, locals := 43 }) (va_Pc [.ref (a 0), .int p1] (PMs (dC, dI) cA a S)) (pQi r) 0 0 (fun _ => False) := by
  refine Met.ofW (cc := cX1_hasLaw) (maxL := 8) (ret := (some .boolean)) (by decide) rfl ?_
  intro p e s m args below meth c s₁ B hml hv
  obtain ⟨rfl, hP, hK⟩ := hv
  have hx := B.exec
  have hb := B.bytes
  have hr := B.returns
  have hts := atoms_spec (ws := wsX1_hasLaw) B.pre
  have hown : s.vm.findClass RX1 = some m.cls := findClass_of_methodNamed B.named
  have hlocks := B.notSynchronized
  have hin : ∀ w ∈ u_ws RX1 TX1 11, w ∈ wsX1_hasLaw := by decide +kernel
  have hw0 := hts (.fieldLink RX1 29 "SubmodularyModel" "values" "[I") (by decide +kernel)
  have hw1 := hts (.fieldLink RX1 7 "SubmodularyModel" "n" "I") (by decide +kernel)
  have hl := lv_entry ([.ref (a 0), .int p1]) (n := 8) (Nat.le_of_ble_eq_true rfl)
  rw [lg_entry_eq]
  generalize (lg_sl ([.ref (a 0), .int p1]) ++ List.replicate (8 - (lg_sl ([.ref (a 0), .int p1])).length) Slot.unset).toArray = ls at hl ⊢
  have hl : lv_has ls 8 [(0, .ref (a 0)), (1, .int p1)] := hl
  have hW4 : ∀ (k4 : Nat) (x2 x3 : Int32) (ls : Array Slot), f_X1_hasLaw_4 S p1 k4 x2 x3 = some r → lv_has ls 8 [(0, .ref (a 0)), (1, .int p1), (2, .int x2), (3, .int x3)] → W p l e (headSpec wsX1_hasLaw ({ frames := 2, cells := 0, slots := 0, locals := 43 })).room s m ([.ref (a 0), .int p1] : List Value).toArray below meth c s.heap [] 0 0 (MQ below (pQi r) ([.ref (a 0), .int p1] : List Value).toArray s 0 0 (fun _ => False)) (F0 m 4 ls []) := by
    intro k4
    induction k4 with
    | zero =>
      intro x2 x3 ls hf hl
      rw [f_X1_hasLaw_4] at hf
      cases hf
    | succ k4 ih4 =>
      have hW15 : ∀ (k15 : Nat) (x2 x3 x4 : Int32) (ls : Array Slot), f_X1_hasLaw_15 S p1 (f_X1_hasLaw_4 S p1 k4) k15 x2 x3 x4 = some r → lv_has ls 8 [(0, .ref (a 0)), (1, .int p1), (2, .int x2), (3, .int x3), (4, .int x4)] → W p l e (headSpec wsX1_hasLaw ({ frames := 2, cells := 0, slots := 0, locals := 43 })).room s m ([.ref (a 0), .int p1] : List Value).toArray below meth c s.heap [] 0 0 (MQ below (pQi r) ([.ref (a 0), .int p1] : List Value).toArray s 0 0 (fun _ => False)) (F0 m 15 ls []) := by
        intro k15
        induction k15 with
        | zero =>
          intro x2 x3 x4 ls hf hl
          rw [f_X1_hasLaw_15] at hf
          cases hf
        | succ k15 ih15 =>
          have hW27 : ∀ (k27 : Nat) (x2 x3 x4 x5 : Int32) (ls : Array Slot), f_X1_hasLaw_27 S p1 (f_X1_hasLaw_4 S p1 k4) (f_X1_hasLaw_15 S p1 (f_X1_hasLaw_4 S p1 k4) k15) k27 x2 x3 x4 x5 = some r → lv_has ls 8 [(0, .ref (a 0)), (1, .int p1), (2, .int x2), (3, .int x3), (4, .int x4), (5, .int x5)] → W p l e (headSpec wsX1_hasLaw ({ frames := 2, cells := 0, slots := 0, locals := 43 })).room s m ([.ref (a 0), .int p1] : List Value).toArray below meth c s.heap [] 0 0 (MQ below (pQi r) ([.ref (a 0), .int p1] : List Value).toArray s 0 0 (fun _ => False)) (F0 m 27 ls []) := by
            intro k27
            induction k27 with
            | zero =>
              intro x2 x3 x4 x5 ls hf hl
              rw [f_X1_hasLaw_27] at hf
              cases hf
            | succ k27 ih27 =>
              have hW137 : ∀ (x3 x4 x5 s0 s1 : Int32) (ls : Array Slot), f_X1_hasLaw_137 S p1 (f_X1_hasLaw_4 S p1 k4) (f_X1_hasLaw_15 S p1 (f_X1_hasLaw_4 S p1 k4) k15) (f_X1_hasLaw_27 S p1 (f_X1_hasLaw_4 S p1 k4) (f_X1_hasLaw_15 S p1 (f_X1_hasLaw_4 S p1 k4) k15) k27) x3 x4 x5 s0 s1 = some r → lv_has ls 8 [(0, .ref (a 0)), (1, .int p1), (3, .int x3), (4, .int x4), (5, .int x5)] → W p l e (headSpec wsX1_hasLaw ({ frames := 2, cells := 0, slots := 0, locals := 43 })).room s m ([.ref (a 0), .int p1] : List Value).toArray below meth c s.heap [] 0 0 (MQ below (pQi r) ([.ref (a 0), .int p1] : List Value).toArray s 0 0 (fun _ => False)) (F0 m 137 ls [.int s1, .int s0]) := by
                intro x3 x4 x5 s0 s1 ls hf hl
                unfold f_X1_hasLaw_137 at hf
                refine lv_iand hx hb dX1_hasLaw_137 ?_
                refine lv_topi (fun y1 ey1 => ?_)
                have hf := bnd_at hf ey1
                refine lv_istore_n (lv' := [(2, .int y1), (0, .ref (a 0)), (1, .int p1), (3, .int x3), (4, .int x4), (5, .int x5)]) hx hb dX1_hasLaw_138 rfl hl (by decide) rfl (fun ls hl => ?_)
                obtain ⟨y2, ey2⟩ : ∃ y : Int32, y = (x5 + 1) := ⟨_, rfl⟩
                have hf := bnd_at hf ey2
                refine lv_iinc (v := y2) (lv' := [(5, .int y2), (2, .int y1), (0, .ref (a 0)), (1, .int p1), (3, .int x3), (4, .int x4)]) hx hb dX1_hasLaw_139 hl (k := 5) rfl (by rw [ey2]; rfl) (by decide) rfl (fun ls hl => ?_)
                refine lv_goto (tgt := 27) hx hb dX1_hasLaw_142 (by decide) ?_
                exact ih27 y1 x3 x4 y2 ls hf (lv_sub hl [2, 3, 1, 4, 5, 0] rfl)
              have hW63 : ∀ (x2 x3 x4 x5 x6 s0 : Int32) (ls : Array Slot), f_X1_hasLaw_63 S p1 (f_X1_hasLaw_4 S p1 k4) (f_X1_hasLaw_15 S p1 (f_X1_hasLaw_4 S p1 k4) k15) (f_X1_hasLaw_27 S p1 (f_X1_hasLaw_4 S p1 k4) (f_X1_hasLaw_15 S p1 (f_X1_hasLaw_4 S p1 k4) k15) k27) x2 x3 x4 x5 x6 s0 = some r → lv_has ls 8 [(0, .ref (a 0)), (1, .int p1), (2, .int x2), (3, .int x3), (4, .int x4), (5, .int x5), (6, .int x6)] → W p l e (headSpec wsX1_hasLaw ({ frames := 2, cells := 0, slots := 0, locals := 43 })).room s m ([.ref (a 0), .int p1] : List Value).toArray below meth c s.heap [] 0 0 (MQ below (pQi r) ([.ref (a 0), .int p1] : List Value).toArray s 0 0 (fun _ => False)) (F0 m 63 ls [.int s0]) := by
                intro x2 x3 x4 x5 x6 s0 ls hf hl
                unfold f_X1_hasLaw_63 at hf
                refine lv_istore (lv' := [(7, .int s0), (0, .ref (a 0)), (1, .int p1), (2, .int x2), (3, .int x3), (4, .int x4), (5, .int x5), (6, .int x6)]) hx hb dX1_hasLaw_63 hl (by decide) rfl (fun ls hl => ?_)
                refine lv_iload_n hx hb dX1_hasLaw_65 rfl (lv_at hl 3 rfl) ?_
                refine lv_iload hx hb dX1_hasLaw_66 (lv_at hl 0 rfl) ?_
                refine lv_if_eq (tgt := 132) hx hb dX1_hasLaw_68 (by decide) (fun c3 => ?_) (fun c3 => ?_)
                · rw [if_pos c3] at hf
                  refine lv_iconst (v := 1) hx hb dX1_hasLaw_132 (by decide) ?_
                  refine lv_goto (tgt := 137) hx hb dX1_hasLaw_133 (by decide) ?_
                  exact hW137 x3 x4 x5 x2 1 ls hf (lv_sub hl [1, 2, 4, 5, 6] rfl)
                · rw [if_neg c3] at hf
                  refine lv_aload_n hx hb dX1_hasLaw_71 rfl (lv_at hl 1 rfl) ?_
                  refine gfM hx hb hts hin hown hK hP 7 (by decide) hw0 rfl rfl dX1_hasLaw_72 ?_
                  refine lv_iload hx hb dX1_hasLaw_75 (lv_at hl 7 rfl) ?_
                  refine lv_iload_n hx hb dX1_hasLaw_77 rfl (lv_at hl 4 rfl) ?_
                  refine lv_iconst (v := 1) hx hb dX1_hasLaw_78 (by decide) ?_
                  refine lv_iload hx hb dX1_hasLaw_79 (lv_at hl 5 rfl) ?_
                  refine lv_ishl hx hb dX1_hasLaw_81 ?_
                  refine lv_ior hx hb dX1_hasLaw_82 ?_
                  refine lv_iadd hx hb dX1_hasLaw_83 ?_
                  obtain ⟨v4, hv4, hf⟩ := ob_some hf
                  refine rdI hx hb hK hP 6 rfl hv4 dX1_hasLaw_84 ?_
                  refine lv_aload_n hx hb dX1_hasLaw_85 rfl (lv_at hl 1 rfl) ?_
                  refine gfM hx hb hts hin hown hK hP 7 (by decide) hw0 rfl rfl dX1_hasLaw_86 ?_
                  refine lv_iload hx hb dX1_hasLaw_89 (lv_at hl 7 rfl) ?_
                  refine lv_iload_n hx hb dX1_hasLaw_91 rfl (lv_at hl 4 rfl) ?_
                  refine lv_iconst (v := 1) hx hb dX1_hasLaw_92 (by decide) ?_
                  refine lv_iload hx hb dX1_hasLaw_93 (lv_at hl 6 rfl) ?_
                  refine lv_ishl hx hb dX1_hasLaw_95 ?_
                  refine lv_ior hx hb dX1_hasLaw_96 ?_
                  refine lv_iadd hx hb dX1_hasLaw_97 ?_
                  obtain ⟨v5, hv5, hf⟩ := ob_some hf
                  refine rdI hx hb hK hP 6 rfl hv5 dX1_hasLaw_98 ?_
                  refine lv_iadd hx hb dX1_hasLaw_99 ?_
                  refine lv_aload_n hx hb dX1_hasLaw_100 rfl (lv_at hl 1 rfl) ?_
                  refine gfM hx hb hts hin hown hK hP 7 (by decide) hw0 rfl rfl dX1_hasLaw_101 ?_
                  refine lv_iload hx hb dX1_hasLaw_104 (lv_at hl 7 rfl) ?_
                  refine lv_iload_n hx hb dX1_hasLaw_106 rfl (lv_at hl 4 rfl) ?_
                  refine lv_iadd hx hb dX1_hasLaw_107 ?_
                  obtain ⟨v6, hv6, hf⟩ := ob_some hf
                  refine rdI hx hb hK hP 6 rfl hv6 dX1_hasLaw_108 ?_
                  refine lv_aload_n hx hb dX1_hasLaw_109 rfl (lv_at hl 1 rfl) ?_
                  refine gfM hx hb hts hin hown hK hP 7 (by decide) hw0 rfl rfl dX1_hasLaw_110 ?_
                  refine lv_iload hx hb dX1_hasLaw_113 (lv_at hl 7 rfl) ?_
                  refine lv_iload_n hx hb dX1_hasLaw_115 rfl (lv_at hl 4 rfl) ?_
                  refine lv_iconst (v := 1) hx hb dX1_hasLaw_116 (by decide) ?_
                  refine lv_iload hx hb dX1_hasLaw_117 (lv_at hl 5 rfl) ?_
                  refine lv_ishl hx hb dX1_hasLaw_119 ?_
                  refine lv_ior hx hb dX1_hasLaw_120 ?_
                  refine lv_iconst (v := 1) hx hb dX1_hasLaw_121 (by decide) ?_
                  refine lv_iload hx hb dX1_hasLaw_122 (lv_at hl 6 rfl) ?_
                  refine lv_ishl hx hb dX1_hasLaw_124 ?_
                  refine lv_ior hx hb dX1_hasLaw_125 ?_
                  refine lv_iadd hx hb dX1_hasLaw_126 ?_
                  obtain ⟨v7, hv7, hf⟩ := ob_some hf
                  refine rdI hx hb hK hP 6 rfl hv7 dX1_hasLaw_127 ?_
                  refine lv_iadd hx hb dX1_hasLaw_128 ?_
                  refine lv_icmp_lt (tgt := 136) hx hb dX1_hasLaw_129 (by decide) (fun c8 => ?_) (fun c8 => ?_)
                  · rw [if_pos c8] at hf
                    refine lv_iconst (v := 0) hx hb dX1_hasLaw_136 (by decide) ?_
                    exact hW137 x3 x4 x5 x2 0 ls hf (lv_sub hl [1, 2, 4, 5, 6] rfl)
                  · rw [if_neg c8] at hf
                    refine lv_iconst (v := 1) hx hb dX1_hasLaw_132 (by decide) ?_
                    refine lv_goto (tgt := 137) hx hb dX1_hasLaw_133 (by decide) ?_
                    exact hW137 x3 x4 x5 x2 1 ls hf (lv_sub hl [1, 2, 4, 5, 6] rfl)
              intro x2 x3 x4 x5 ls hf hl
              rw [f_X1_hasLaw_27] at hf
              refine lv_iload hx hb dX1_hasLaw_27 (lv_at hl 5 rfl) ?_
              refine lv_iload hx hb dX1_hasLaw_29 (lv_at hl 4 rfl) ?_
              refine lv_icmp_ge (tgt := 145) hx hb dX1_hasLaw_31 (by decide) (fun c9 => ?_) (fun c9 => ?_)
              · rw [if_pos c9] at hf
                obtain ⟨y10, ey10⟩ : ∃ y : Int32, y = (x4 + 1) := ⟨_, rfl⟩
                have hf := bnd_at hf ey10
                refine lv_iinc (v := y10) (lv' := [(4, .int y10), (0, .ref (a 0)), (1, .int p1), (2, .int x2), (3, .int x3), (5, .int x5)]) hx hb dX1_hasLaw_145 hl (k := 4) rfl (by rw [ey10]; rfl) (by decide) rfl (fun ls hl => ?_)
                refine lv_goto (tgt := 15) hx hb dX1_hasLaw_148 (by decide) ?_
                exact ih15 x2 x3 y10 ls hf (lv_sub hl [1, 2, 3, 4, 0] rfl)
              · rw [if_neg c9] at hf
                refine lv_bipush (v := 64) hx hb dX1_hasLaw_34 (by decide) ?_
                refine lv_iload_n hx hb dX1_hasLaw_36 rfl (lv_at hl 1 rfl) ?_
                refine lv_imul hx hb dX1_hasLaw_37 ?_
                refine lv_topi (fun y11 ey11 => ?_)
                have hf := bnd_at hf ey11
                refine lv_istore (lv' := [(6, .int y11), (0, .ref (a 0)), (1, .int p1), (2, .int x2), (3, .int x3), (4, .int x4), (5, .int x5)]) hx hb dX1_hasLaw_38 hl (by decide) rfl (fun ls hl => ?_)
                refine lv_iload_n hx hb dX1_hasLaw_40 rfl (lv_at hl 4 rfl) ?_
                refine lv_iload hx hb dX1_hasLaw_41 (lv_at hl 5 rfl) ?_
                refine pu_S (As := [.int x3, .int x4]) (rest := []) ⟨hx, hb, hml, hown, hts⟩ (k_X1_has l x3 x4 _ rfl) gX1_hasLaw_X1_has rfl rfl rfl cd_X1_has (Nat.le_of_ble_eq_true rfl) (Nat.le_of_ble_eq_true rfl) (preT) rfl hl.1 rfl (Nat.le_of_ble_eq_true rfl) (Nat.zero_le _) (Nat.zero_le _) dX1_hasLaw_43 ?_
                refine lv_if_ne (tgt := 62) hx hb dX1_hasLaw_46 (by decide) (fun c12 => ?_) (fun c12 => ?_)
                · rw [if_neg c12] at hf
                  refine lv_iconst (v := 0) hx hb dX1_hasLaw_62 (by decide) ?_
                  exact hW63 x2 x3 x4 x5 y11 0 ls hf (lv_sub hl [1, 2, 3, 4, 5, 6, 0] rfl)
                · rw [if_pos c12] at hf
                  refine lv_iload_n hx hb dX1_hasLaw_49 rfl (lv_at hl 4 rfl) ?_
                  refine lv_iload hx hb dX1_hasLaw_50 (lv_at hl 6 rfl) ?_
                  refine pu_S (As := [.int x3, .int x5]) (rest := []) ⟨hx, hb, hml, hown, hts⟩ (k_X1_has l x3 x5 _ rfl) gX1_hasLaw_X1_has rfl rfl rfl cd_X1_has (Nat.le_of_ble_eq_true rfl) (Nat.le_of_ble_eq_true rfl) (preT) rfl hl.1 rfl (Nat.le_of_ble_eq_true rfl) (Nat.zero_le _) (Nat.zero_le _) dX1_hasLaw_52 ?_
                  refine lv_if_ne (tgt := 62) hx hb dX1_hasLaw_55 (by decide) (fun c13 => ?_) (fun c13 => ?_)
                  · rw [if_neg c13] at hf
                    refine lv_iconst (v := 0) hx hb dX1_hasLaw_62 (by decide) ?_
                    exact hW63 x2 x3 x4 x5 y11 0 ls hf (lv_sub hl [1, 2, 3, 4, 5, 6, 0] rfl)
                  · rw [if_pos c13] at hf
                    refine lv_iconst (v := 1) hx hb dX1_hasLaw_58 (by decide) ?_
                    refine lv_goto (tgt := 63) hx hb dX1_hasLaw_59 (by decide) ?_
                    exact hW63 x2 x3 x4 x5 y11 1 ls hf (lv_sub hl [1, 2, 3, 4, 5, 6, 0] rfl)
          intro x2 x3 x4 ls hf hl
          rw [f_X1_hasLaw_15] at hf
          refine lv_iload hx hb dX1_hasLaw_15 (lv_at hl 4 rfl) ?_
          refine lv_aload_n hx hb dX1_hasLaw_17 rfl (lv_at hl 0 rfl) ?_
          refine gfM hx hb hts hin hown hK hP 0 (by decide) hw1 rfl rfl dX1_hasLaw_18 ?_
          refine lv_icmp_ge (tgt := 151) hx hb dX1_hasLaw_21 (by decide) (fun c14 => ?_) (fun c14 => ?_)
          · rw [if_pos c14] at hf
            obtain ⟨y15, ey15⟩ : ∃ y : Int32, y = (x3 + 1) := ⟨_, rfl⟩
            have hf := bnd_at hf ey15
            refine lv_iinc (v := y15) (lv' := [(3, .int y15), (0, .ref (a 0)), (1, .int p1), (2, .int x2), (4, .int x4)]) hx hb dX1_hasLaw_151 hl (k := 3) rfl (by rw [ey15]; rfl) (by decide) rfl (fun ls hl => ?_)
            refine lv_goto (tgt := 4) hx hb dX1_hasLaw_154 (by decide) ?_
            exact ih4 x2 y15 ls hf (lv_sub hl [1, 2, 3, 0] rfl)
          · rw [if_neg c14] at hf
            refine lv_iconst (v := 0) hx hb dX1_hasLaw_24 (by decide) ?_
            refine lv_istore (lv' := [(5, .int 0), (0, .ref (a 0)), (1, .int p1), (2, .int x2), (3, .int x3), (4, .int x4)]) hx hb dX1_hasLaw_25 hl (by decide) rfl (fun ls hl => ?_)
            exact hW27 70 x2 x3 x4 0 ls hf (lv_sub hl [1, 2, 3, 4, 5, 0] rfl)
      intro x2 x3 ls hf hl
      rw [f_X1_hasLaw_4] at hf
      refine lv_aload_n hx hb dX1_hasLaw_4 rfl (lv_at hl 0 rfl) ?_
      refine lv_iload_n hx hb dX1_hasLaw_5 rfl (lv_at hl 3 rfl) ?_
      refine pu_V (As := [.int x3]) (rest := []) ⟨hx, hb, hml, hown, hts⟩ (k_X1_isSet l dC dI cA a S x3 _ rfl) gX1_hasLaw_X1_isSet rfl rfl rfl cd_X1_isSet (Nat.le_of_ble_eq_true rfl) (Nat.le_of_ble_eq_true rfl) (preM hK hP) rfl hl.1 rfl (Nat.le_of_ble_eq_true rfl) (Nat.zero_le _) (Nat.zero_le _) dX1_hasLaw_6 ?_
      refine lv_if_eq (tgt := 157) hx hb dX1_hasLaw_9 (by decide) (fun c16 => ?_) (fun c16 => ?_)
      · rw [if_pos c16] at hf
        refine lv_iload_n hx hb dX1_hasLaw_157 rfl (lv_at hl 2 rfl) ?_
        by_cases c17 : x2 &&& 1 = x2
        · rw [if_pos c17] at hf
          have hf := Option.some.inj hf
          subst hf
          exact W.zret hx hb hr (by show Value.int (x2 &&& 1) = _; rw [c17]) (fun t ht hW => ⟨rfl, ht⟩) (fun q h => by cases h) dX1_hasLaw_158
        · rw [if_neg c17] at hf; cases hf
      · rw [if_neg c16] at hf
        refine lv_iconst (v := 0) hx hb dX1_hasLaw_12 (by decide) ?_
        refine lv_istore (lv' := [(4, .int 0), (0, .ref (a 0)), (1, .int p1), (2, .int x2), (3, .int x3)]) hx hb dX1_hasLaw_13 hl (by decide) rfl (fun ls hl => ?_)
        exact hW15 70 x2 x3 0 ls hf (lv_sub hl [1, 2, 3, 4, 0] rfl)
  unfold f_X1_hasLaw at hf
  refine lv_iconst (v := 1) hx hb dX1_hasLaw_0 (by decide) ?_
  refine lv_istore_n (lv' := [(2, .int 1), (0, .ref (a 0)), (1, .int p1)]) hx hb dX1_hasLaw_1 rfl hl (by decide) rfl (fun ls hl => ?_)
  refine lv_iconst (v := 0) hx hb dX1_hasLaw_2 (by decide) ?_
  refine lv_istore_n (lv' := [(3, .int 0), (2, .int 1), (0, .ref (a 0)), (1, .int p1)]) hx hb dX1_hasLaw_3 rfl hl (by decide) rfl (fun ls hl => ?_)
  exact hW4 70 1 0 ls hf (lv_sub hl [2, 3, 1, 0] rfl)
theorem cd_X1_leastOf : yX1_leastOf.cls = RX1 ∧ yX1_leastOf.cls ≠ "java/lang/invoke/MethodHandle" ∧ yX1_leastOf.cls ≠ "java/lang/invoke/VarHandle" ∧ (parseMethodDescriptor yX1_leastOf.desc).map (fun d => d.parameters.length) = some 1 := by decide +kernel
set_option maxHeartbeats 4000000 in
set_option maxRecDepth 100000 in
theorem k_X1_leastOf (l : Launch) (dC : Nat → ClassId) (dI : Nat → Nat → Nat) (cA : ClassId) (a : Nat → Nat) (S : St) (p1 : Int32) (r : Int32) (hf : f_X1_leastOf S p1 = some r) : Met l yX1_leastOf wsX1_leastOf ({ frames := 2, cells := 0, slots := 0, locals := 43 }) (va_Pc [.ref (a 0), .int p1] (PMs (dC, dI) cA a S)) (pQi r) 0 0 (fun _ => False) := by
  refine Met.ofW (cc := cX1_leastOf) (maxL := 4) (ret := (some .int)) (by decide) rfl ?_
  intro p e s m args below meth c s₁ B hml hv
  obtain ⟨rfl, hP, hK⟩ := hv
  have hx := B.exec
  have hb := B.bytes
  have hr := B.returns
  have hts := atoms_spec (ws := wsX1_leastOf) B.pre
  have hown : s.vm.findClass RX1 = some m.cls := findClass_of_methodNamed B.named
  have hlocks := B.notSynchronized
  have hin : ∀ w ∈ u_ws RX1 TX1 11, w ∈ wsX1_leastOf := by decide +kernel
  have hw0 := hts (.fieldLink RX1 29 "SubmodularyModel" "values" "[I") (by decide +kernel)
  have hl := lv_entry ([.ref (a 0), .int p1]) (n := 4) (Nat.le_of_ble_eq_true rfl)
  rw [lg_entry_eq]
  generalize (lg_sl ([.ref (a 0), .int p1]) ++ List.replicate (4 - (lg_sl ([.ref (a 0), .int p1])).length) Slot.unset).toArray = ls at hl ⊢
  have hl : lv_has ls 4 [(0, .ref (a 0)), (1, .int p1)] := hl
  have hW4 : ∀ (k4 : Nat) (x2 x3 : Int32) (ls : Array Slot), f_X1_leastOf_4 S p1 k4 x2 x3 = some r → lv_has ls 4 [(0, .ref (a 0)), (1, .int p1), (2, .int x2), (3, .int x3)] → W p l e (headSpec wsX1_leastOf ({ frames := 2, cells := 0, slots := 0, locals := 43 })).room s m ([.ref (a 0), .int p1] : List Value).toArray below meth c s.heap [] 0 0 (MQ below (pQi r) ([.ref (a 0), .int p1] : List Value).toArray s 0 0 (fun _ => False)) (F0 m 4 ls []) := by
    intro k4
    induction k4 with
    | zero =>
      intro x2 x3 ls hf hl
      rw [f_X1_leastOf_4] at hf
      cases hf
    | succ k4 ih4 =>
      intro x2 x3 ls hf hl
      rw [f_X1_leastOf_4] at hf
      refine lv_aload_n hx hb dX1_leastOf_4 rfl (lv_at hl 0 rfl) ?_
      refine lv_iload_n hx hb dX1_leastOf_5 rfl (lv_at hl 3 rfl) ?_
      refine pu_V (As := [.int x3]) (rest := []) ⟨hx, hb, hml, hown, hts⟩ (k_X1_isSet l dC dI cA a S x3 _ rfl) gX1_leastOf_X1_isSet rfl rfl rfl cd_X1_isSet (Nat.le_of_ble_eq_true rfl) (Nat.le_of_ble_eq_true rfl) (preM hK hP) rfl hl.1 rfl (Nat.le_of_ble_eq_true rfl) (Nat.zero_le _) (Nat.zero_le _) dX1_leastOf_6 ?_
      refine lv_if_eq (tgt := 49) hx hb dX1_leastOf_9 (by decide) (fun c1 => ?_) (fun c1 => ?_)
      · rw [if_pos c1] at hf
        refine lv_iload_n hx hb dX1_leastOf_49 rfl (lv_at hl 2 rfl) ?_
        have hf := Option.some.inj hf; subst hf
        exact W.iret hx hb hr (fun t ht hW => ⟨rfl, ht⟩) (fun q h => by cases h) dX1_leastOf_50
      · rw [if_neg c1] at hf
        refine lv_aload_n hx hb dX1_leastOf_12 rfl (lv_at hl 0 rfl) ?_
        refine gfM hx hb hts hin hown hK hP 7 (by decide) hw0 rfl rfl dX1_leastOf_13 ?_
        refine lv_bipush (v := 64) hx hb dX1_leastOf_16 (by decide) ?_
        refine lv_iload_n hx hb dX1_leastOf_18 rfl (lv_at hl 1 rfl) ?_
        refine lv_imul hx hb dX1_leastOf_19 ?_
        refine lv_iload_n hx hb dX1_leastOf_20 rfl (lv_at hl 3 rfl) ?_
        refine lv_iadd hx hb dX1_leastOf_21 ?_
        obtain ⟨v2, hv2, hf⟩ := ob_some hf
        refine rdI hx hb hK hP 6 rfl hv2 dX1_leastOf_22 ?_
        refine lv_iload_n hx hb dX1_leastOf_23 rfl (lv_at hl 2 rfl) ?_
        refine lv_icmp_ge (tgt := 41) hx hb dX1_leastOf_24 (by decide) (fun c3 => ?_) (fun c3 => ?_)
        · rw [if_pos c3] at hf
          refine lv_iload_n hx hb dX1_leastOf_41 rfl (lv_at hl 2 rfl) ?_
          refine lv_istore_n (lv' := [(2, .int x2), (0, .ref (a 0)), (1, .int p1), (3, .int x3)]) hx hb dX1_leastOf_42 rfl hl (by decide) rfl (fun ls hl => ?_)
          obtain ⟨y4, ey4⟩ : ∃ y : Int32, y = (x3 + 1) := ⟨_, rfl⟩
          have hf := bnd_at hf ey4
          refine lv_iinc (v := y4) (lv' := [(3, .int y4), (2, .int x2), (0, .ref (a 0)), (1, .int p1)]) hx hb dX1_leastOf_43 hl (k := 3) rfl (by rw [ey4]; rfl) (by decide) rfl (fun ls hl => ?_)
          refine lv_goto (tgt := 4) hx hb dX1_leastOf_46 (by decide) ?_
          exact ih4 x2 y4 ls hf (lv_sub hl [2, 3, 1, 0] rfl)
        · rw [if_neg c3] at hf
          refine lv_aload_n hx hb dX1_leastOf_27 rfl (lv_at hl 0 rfl) ?_
          refine gfM hx hb hts hin hown hK hP 7 (by decide) hw0 rfl rfl dX1_leastOf_28 ?_
          refine lv_bipush (v := 64) hx hb dX1_leastOf_31 (by decide) ?_
          refine lv_iload_n hx hb dX1_leastOf_33 rfl (lv_at hl 1 rfl) ?_
          refine lv_imul hx hb dX1_leastOf_34 ?_
          refine lv_iload_n hx hb dX1_leastOf_35 rfl (lv_at hl 3 rfl) ?_
          refine lv_iadd hx hb dX1_leastOf_36 ?_
          obtain ⟨v5, hv5, hf⟩ := ob_some hf
          refine rdI hx hb hK hP 6 rfl hv5 dX1_leastOf_37 ?_
          refine lv_goto (tgt := 42) hx hb dX1_leastOf_38 (by decide) ?_
          refine lv_istore_n (lv' := [(2, .int v5), (0, .ref (a 0)), (1, .int p1), (3, .int x3)]) hx hb dX1_leastOf_42 rfl hl (by decide) rfl (fun ls hl => ?_)
          obtain ⟨y6, ey6⟩ : ∃ y : Int32, y = (x3 + 1) := ⟨_, rfl⟩
          have hf := bnd_at hf ey6
          refine lv_iinc (v := y6) (lv' := [(3, .int y6), (2, .int v5), (0, .ref (a 0)), (1, .int p1)]) hx hb dX1_leastOf_43 hl (k := 3) rfl (by rw [ey6]; rfl) (by decide) rfl (fun ls hl => ?_)
          refine lv_goto (tgt := 4) hx hb dX1_leastOf_46 (by decide) ?_
          exact ih4 v5 y6 ls hf (lv_sub hl [2, 3, 1, 0] rfl)
  unfold f_X1_leastOf at hf
  refine lv_iconst (v := 0) hx hb dX1_leastOf_0 (by decide) ?_
  refine lv_istore_n (lv' := [(2, .int 0), (0, .ref (a 0)), (1, .int p1)]) hx hb dX1_leastOf_1 rfl hl (by decide) rfl (fun ls hl => ?_)
  refine lv_iconst (v := 0) hx hb dX1_leastOf_2 (by decide) ?_
  refine lv_istore_n (lv' := [(3, .int 0), (2, .int 0), (0, .ref (a 0)), (1, .int p1)]) hx hb dX1_leastOf_3 rfl hl (by decide) rfl (fun ls hl => ?_)
  exact hW4 70 0 0 ls hf (lv_sub hl [2, 3, 1, 0] rfl)
theorem cd_X1_placeOf : yX1_placeOf.cls = RX1 ∧ yX1_placeOf.cls ≠ "java/lang/invoke/MethodHandle" ∧ yX1_placeOf.cls ≠ "java/lang/invoke/VarHandle" ∧ (parseMethodDescriptor yX1_placeOf.desc).map (fun d => d.parameters.length) = some 1 := by decide +kernel
set_option maxHeartbeats 4000000 in
set_option maxRecDepth 100000 in
theorem k_X1_placeOf (l : Launch) (dC : Nat → ClassId) (dI : Nat → Nat → Nat) (cA : ClassId) (a : Nat → Nat) (S : St) (p1 : Int32) (r : Int32) (hf : f_X1_placeOf S p1 = some r) : Met l yX1_placeOf wsX1_placeOf ({ frames := 0, cells := 0, slots := 0, locals := 0 }) (va_Pc [.ref (a 0), .int p1] (PMs (dC, dI) cA a S)) (pQi r) 0 0 (fun _ => False) := by
  refine Met.ofW (cc := cX1_placeOf) (maxL := 4) (ret := (some .int)) (by decide) rfl ?_
  intro p e s m args below meth c s₁ B hml hv
  obtain ⟨rfl, hP, hK⟩ := hv
  have hx := B.exec
  have hb := B.bytes
  have hr := B.returns
  have hts := atoms_spec (ws := wsX1_placeOf) B.pre
  have hown : s.vm.findClass RX1 = some m.cls := findClass_of_methodNamed B.named
  have hlocks := B.notSynchronized
  have hin : ∀ w ∈ u_ws RX1 TX1 11, w ∈ wsX1_placeOf := by decide +kernel
  have hw0 := hts (.fieldLink RX1 41 "SubmodularyModel" "told" "I") (by decide +kernel)
  have hw1 := hts (.fieldLink RX1 32 "SubmodularyModel" "order" "[I") (by decide +kernel)
  have hl := lv_entry ([.ref (a 0), .int p1]) (n := 4) (Nat.le_of_ble_eq_true rfl)
  rw [lg_entry_eq]
  generalize (lg_sl ([.ref (a 0), .int p1]) ++ List.replicate (4 - (lg_sl ([.ref (a 0), .int p1])).length) Slot.unset).toArray = ls at hl ⊢
  have hl : lv_has ls 4 [(0, .ref (a 0)), (1, .int p1)] := hl
  have hW4 : ∀ (k4 : Nat) (x2 x3 : Int32) (ls : Array Slot), f_X1_placeOf_4 S p1 k4 x2 x3 = some r → lv_has ls 4 [(0, .ref (a 0)), (1, .int p1), (2, .int x2), (3, .int x3)] → W p l e (headSpec wsX1_placeOf ({ frames := 0, cells := 0, slots := 0, locals := 0 })).room s m ([.ref (a 0), .int p1] : List Value).toArray below meth c s.heap [] 0 0 (MQ below (pQi r) ([.ref (a 0), .int p1] : List Value).toArray s 0 0 (fun _ => False)) (F0 m 4 ls []) := by
    intro k4
    induction k4 with
    | zero =>
      intro x2 x3 ls hf hl
      rw [f_X1_placeOf_4] at hf
      cases hf
    | succ k4 ih4 =>
      intro x2 x3 ls hf hl
      rw [f_X1_placeOf_4] at hf
      refine lv_iload_n hx hb dX1_placeOf_4 rfl (lv_at hl 3 rfl) ?_
      refine lv_aload_n hx hb dX1_placeOf_5 rfl (lv_at hl 0 rfl) ?_
      refine gfM hx hb hts hin hown hK hP 8 (by decide) hw0 rfl rfl dX1_placeOf_6 ?_
      refine lv_icmp_ge (tgt := 34) hx hb dX1_placeOf_9 (by decide) (fun c1 => ?_) (fun c1 => ?_)
      · rw [if_pos c1] at hf
        refine lv_iload_n hx hb dX1_placeOf_34 rfl (lv_at hl 2 rfl) ?_
        have hf := Option.some.inj hf; subst hf
        exact W.iret hx hb hr (fun t ht hW => ⟨rfl, ht⟩) (fun q h => by cases h) dX1_placeOf_35
      · rw [if_neg c1] at hf
        refine lv_aload_n hx hb dX1_placeOf_12 rfl (lv_at hl 0 rfl) ?_
        refine gfM hx hb hts hin hown hK hP 9 (by decide) hw1 rfl rfl dX1_placeOf_13 ?_
        refine lv_iload_n hx hb dX1_placeOf_16 rfl (lv_at hl 3 rfl) ?_
        obtain ⟨v2, hv2, hf⟩ := ob_some hf
        refine rdI hx hb hK hP 7 rfl hv2 dX1_placeOf_17 ?_
        refine lv_iload_n hx hb dX1_placeOf_18 rfl (lv_at hl 1 rfl) ?_
        refine lv_icmp_ne (tgt := 26) hx hb dX1_placeOf_19 (by decide) (fun c3 => ?_) (fun c3 => ?_)
        · rw [if_neg c3] at hf
          refine lv_iload_n hx hb dX1_placeOf_26 rfl (lv_at hl 2 rfl) ?_
          refine lv_istore_n (lv' := [(2, .int x2), (0, .ref (a 0)), (1, .int p1), (3, .int x3)]) hx hb dX1_placeOf_27 rfl hl (by decide) rfl (fun ls hl => ?_)
          obtain ⟨y4, ey4⟩ : ∃ y : Int32, y = (x3 + 1) := ⟨_, rfl⟩
          have hf := bnd_at hf ey4
          refine lv_iinc (v := y4) (lv' := [(3, .int y4), (2, .int x2), (0, .ref (a 0)), (1, .int p1)]) hx hb dX1_placeOf_28 hl (k := 3) rfl (by rw [ey4]; rfl) (by decide) rfl (fun ls hl => ?_)
          refine lv_goto (tgt := 4) hx hb dX1_placeOf_31 (by decide) ?_
          exact ih4 x2 y4 ls hf (lv_sub hl [2, 3, 1, 0] rfl)
        · rw [if_pos c3] at hf
          refine lv_iload_n hx hb dX1_placeOf_22 rfl (lv_at hl 3 rfl) ?_
          refine lv_goto (tgt := 27) hx hb dX1_placeOf_23 (by decide) ?_
          refine lv_istore_n (lv' := [(2, .int x3), (0, .ref (a 0)), (1, .int p1), (3, .int x3)]) hx hb dX1_placeOf_27 rfl hl (by decide) rfl (fun ls hl => ?_)
          obtain ⟨y5, ey5⟩ : ∃ y : Int32, y = (x3 + 1) := ⟨_, rfl⟩
          have hf := bnd_at hf ey5
          refine lv_iinc (v := y5) (lv' := [(3, .int y5), (2, .int x3), (0, .ref (a 0)), (1, .int p1)]) hx hb dX1_placeOf_28 hl (k := 3) rfl (by rw [ey5]; rfl) (by decide) rfl (fun ls hl => ?_)
          refine lv_goto (tgt := 4) hx hb dX1_placeOf_31 (by decide) ?_
          exact ih4 x3 y5 ls hf (lv_sub hl [2, 3, 1, 0] rfl)
  unfold f_X1_placeOf at hf
  refine lv_iconst (v := (-1)) hx hb dX1_placeOf_0 (by decide) ?_
  refine lv_istore_n (lv' := [(2, .int (-1)), (0, .ref (a 0)), (1, .int p1)]) hx hb dX1_placeOf_1 rfl hl (by decide) rfl (fun ls hl => ?_)
  refine lv_iconst (v := 0) hx hb dX1_placeOf_2 (by decide) ?_
  refine lv_istore_n (lv' := [(3, .int 0), (2, .int (-1)), (0, .ref (a 0)), (1, .int p1)]) hx hb dX1_placeOf_3 rfl hl (by decide) rfl (fun ls hl => ?_)
  exact hW4 70 (-1) 0 ls hf (lv_sub hl [2, 3, 1, 0] rfl)
theorem cd_X1_isFair : yX1_isFair.cls = RX1 ∧ yX1_isFair.cls ≠ "java/lang/invoke/MethodHandle" ∧ yX1_isFair.cls ≠ "java/lang/invoke/VarHandle" ∧ (parseMethodDescriptor yX1_isFair.desc).map (fun d => d.parameters.length) = some 2 := by decide +kernel
set_option maxHeartbeats 4000000 in
set_option maxRecDepth 100000 in
theorem k_X1_isFair (l : Launch) (dC : Nat → ClassId) (dI : Nat → Nat → Nat) (cA : ClassId) (a : Nat → Nat) (S : St) (p1 : Int32) (p2 : Int32) (r : Int32) (hf : f_X1_isFair S p1 p2 = some r) : Met l yX1_isFair wsX1_isFair ({ frames := 3, cells := 0, slots := 0, locals := 71 }) (va_Pc [.ref (a 0), .int p1, .int p2] (PMs (dC, dI) cA a S)) (pQi r) 0 0 (fun _ => False) := by
  refine Met.ofW (cc := cX1_isFair) (maxL := 3) (ret := (some .boolean)) (by decide) rfl ?_
  intro p e s m args below meth c s₁ B hml hv
  obtain ⟨rfl, hP, hK⟩ := hv
  have hx := B.exec
  have hb := B.bytes
  have hr := B.returns
  have hts := atoms_spec (ws := wsX1_isFair) B.pre
  have hown : s.vm.findClass RX1 = some m.cls := findClass_of_methodNamed B.named
  have hlocks := B.notSynchronized
  have hl := lv_entry ([.ref (a 0), .int p1, .int p2]) (n := 3) (Nat.le_of_ble_eq_true rfl)
  rw [lg_entry_eq]
  generalize (lg_sl ([.ref (a 0), .int p1, .int p2]) ++ List.replicate (3 - (lg_sl ([.ref (a 0), .int p1, .int p2])).length) Slot.unset).toArray = ls at hl ⊢
  have hl : lv_has ls 3 [(0, .ref (a 0)), (1, .int p1), (2, .int p2)] := hl
  unfold f_X1_isFair at hf
  refine lv_aload_n hx hb dX1_isFair_0 rfl (lv_at hl 0 rfl) ?_
  refine lv_iload_n hx hb dX1_isFair_1 rfl (lv_at hl 1 rfl) ?_
  refine lv_iload_n hx hb dX1_isFair_2 rfl (lv_at hl 2 rfl) ?_
  obtain ⟨v1, hv1, hf⟩ := ob_some hf
  refine pu_V (As := [.int p1, .int p2]) (rest := []) ⟨hx, hb, hml, hown, hts⟩ (k_X1_rank l dC dI cA a S p1 p2 _ hv1) gX1_isFair_X1_rank rfl rfl rfl cd_X1_rank (Nat.le_of_ble_eq_true rfl) (Nat.le_of_ble_eq_true rfl) (preM hK hP) rfl hl.1 rfl (Nat.le_of_ble_eq_true rfl) (Nat.zero_le _) (Nat.zero_le _) dX1_isFair_3 ?_
  refine lv_iload_n hx hb dX1_isFair_6 rfl (lv_at hl 2 rfl) ?_
  obtain ⟨v2, hv2, hf⟩ := ob_some hf
  refine pu_S (As := [.int p2]) (rest := [.int v1]) ⟨hx, hb, hml, hown, hts⟩ (k_X1_many l p2 _ hv2) gX1_isFair_X1_many rfl rfl rfl cd_X1_many (Nat.le_of_ble_eq_true rfl) (Nat.le_of_ble_eq_true rfl) (preT) rfl hl.1 rfl (Nat.le_of_ble_eq_true rfl) (Nat.zero_le _) (Nat.zero_le _) dX1_isFair_7 ?_
  refine lv_icmp_ne (tgt := 17) hx hb dX1_isFair_10 (by decide) (fun c3 => ?_) (fun c3 => ?_)
  · rw [if_neg c3] at hf
    refine lv_iconst (v := 0) hx hb dX1_isFair_17 (by decide) ?_
    have hf := Option.some.inj hf; subst hf
    exact W.zret hx hb hr rfl (fun t ht hW => ⟨rfl, ht⟩) (fun q h => by cases h) dX1_isFair_18
  · rw [if_pos c3] at hf
    refine lv_iconst (v := 1) hx hb dX1_isFair_13 (by decide) ?_
    refine lv_goto (tgt := 18) hx hb dX1_isFair_14 (by decide) ?_
    have hf := Option.some.inj hf; subst hf
    exact W.zret hx hb hr rfl (fun t ht hW => ⟨rfl, ht⟩) (fun q h => by cases h) dX1_isFair_18
theorem cd_X1_commonSize : yX1_commonSize.cls = RX1 ∧ yX1_commonSize.cls ≠ "java/lang/invoke/MethodHandle" ∧ yX1_commonSize.cls ≠ "java/lang/invoke/VarHandle" ∧ (parseMethodDescriptor yX1_commonSize.desc).map (fun d => d.parameters.length) = some 0 := by decide +kernel
set_option maxHeartbeats 4000000 in
set_option maxRecDepth 100000 in
theorem k_X1_commonSize (l : Launch) (dC : Nat → ClassId) (dI : Nat → Nat → Nat) (cA : ClassId) (a : Nat → Nat) (S : St) (r : Int32) (hf : f_X1_commonSize S = some r) : Met l yX1_commonSize wsX1_commonSize ({ frames := 4, cells := 0, slots := 0, locals := 93 }) (va_Pc [.ref (a 0)] (PMs (dC, dI) cA a S)) (pQi r) 0 0 (fun _ => False) := by
  refine Met.ofW (cc := cX1_commonSize) (maxL := 3) (ret := (some .int)) (by decide) rfl ?_
  intro p e s m args below meth c s₁ B hml hv
  obtain ⟨rfl, hP, hK⟩ := hv
  have hx := B.exec
  have hb := B.bytes
  have hr := B.returns
  have hts := atoms_spec (ws := wsX1_commonSize) B.pre
  have hown : s.vm.findClass RX1 = some m.cls := findClass_of_methodNamed B.named
  have hlocks := B.notSynchronized
  have hl := lv_entry ([.ref (a 0)]) (n := 3) (Nat.le_of_ble_eq_true rfl)
  rw [lg_entry_eq]
  generalize (lg_sl ([.ref (a 0)]) ++ List.replicate (3 - (lg_sl ([.ref (a 0)])).length) Slot.unset).toArray = ls at hl ⊢
  have hl : lv_has ls 3 [(0, .ref (a 0))] := hl
  have hW4 : ∀ (k4 : Nat) (x1 x2 : Int32) (ls : Array Slot), f_X1_commonSize_4 S k4 x1 x2 = some r → lv_has ls 3 [(0, .ref (a 0)), (1, .int x1), (2, .int x2)] → W p l e (headSpec wsX1_commonSize ({ frames := 4, cells := 0, slots := 0, locals := 93 })).room s m ([.ref (a 0)] : List Value).toArray below meth c s.heap [] 0 0 (MQ below (pQi r) ([.ref (a 0)] : List Value).toArray s 0 0 (fun _ => False)) (F0 m 4 ls []) := by
    intro k4
    induction k4 with
    | zero =>
      intro x1 x2 ls hf hl
      rw [f_X1_commonSize_4] at hf
      cases hf
    | succ k4 ih4 =>
      intro x1 x2 ls hf hl
      rw [f_X1_commonSize_4] at hf
      refine lv_aload_n hx hb dX1_commonSize_4 rfl (lv_at hl 0 rfl) ?_
      refine lv_iload_n hx hb dX1_commonSize_5 rfl (lv_at hl 2 rfl) ?_
      refine pu_V (As := [.int x2]) (rest := []) ⟨hx, hb, hml, hown, hts⟩ (k_X1_isSet l dC dI cA a S x2 _ rfl) gX1_commonSize_X1_isSet rfl rfl rfl cd_X1_isSet (Nat.le_of_ble_eq_true rfl) (Nat.le_of_ble_eq_true rfl) (preM hK hP) rfl hl.1 rfl (Nat.le_of_ble_eq_true rfl) (Nat.zero_le _) (Nat.zero_le _) dX1_commonSize_6 ?_
      refine lv_if_eq (tgt := 53) hx hb dX1_commonSize_9 (by decide) (fun c1 => ?_) (fun c1 => ?_)
      · rw [if_pos c1] at hf
        refine lv_iload_n hx hb dX1_commonSize_53 rfl (lv_at hl 1 rfl) ?_
        have hf := Option.some.inj hf; subst hf
        exact W.iret hx hb hr (fun t ht hW => ⟨rfl, ht⟩) (fun q h => by cases h) dX1_commonSize_54
      · rw [if_neg c1] at hf
        refine lv_aload_n hx hb dX1_commonSize_12 rfl (lv_at hl 0 rfl) ?_
        refine lv_iconst (v := 0) hx hb dX1_commonSize_13 (by decide) ?_
        refine lv_iload_n hx hb dX1_commonSize_14 rfl (lv_at hl 2 rfl) ?_
        obtain ⟨v2, hv2, hf⟩ := ob_some hf
        refine pu_V (As := [.int 0, .int x2]) (rest := []) ⟨hx, hb, hml, hown, hts⟩ (k_X1_isFair l dC dI cA a S 0 x2 _ hv2) gX1_commonSize_X1_isFair rfl rfl rfl cd_X1_isFair (Nat.le_of_ble_eq_true rfl) (Nat.le_of_ble_eq_true rfl) (preM hK hP) rfl hl.1 rfl (Nat.le_of_ble_eq_true rfl) (Nat.zero_le _) (Nat.zero_le _) dX1_commonSize_15 ?_
        refine lv_if_eq (tgt := 45) hx hb dX1_commonSize_18 (by decide) (fun c3 => ?_) (fun c3 => ?_)
        · rw [if_pos c3] at hf
          refine lv_iload_n hx hb dX1_commonSize_45 rfl (lv_at hl 1 rfl) ?_
          refine lv_istore_n (lv' := [(1, .int x1), (0, .ref (a 0)), (2, .int x2)]) hx hb dX1_commonSize_46 rfl hl (by decide) rfl (fun ls hl => ?_)
          obtain ⟨y4, ey4⟩ : ∃ y : Int32, y = (x2 + 1) := ⟨_, rfl⟩
          have hf := bnd_at hf ey4
          refine lv_iinc (v := y4) (lv' := [(2, .int y4), (1, .int x1), (0, .ref (a 0))]) hx hb dX1_commonSize_47 hl (k := 2) rfl (by rw [ey4]; rfl) (by decide) rfl (fun ls hl => ?_)
          refine lv_goto (tgt := 4) hx hb dX1_commonSize_50 (by decide) ?_
          exact ih4 x1 y4 ls hf (lv_sub hl [2, 1, 0] rfl)
        · rw [if_neg c3] at hf
          refine lv_aload_n hx hb dX1_commonSize_21 rfl (lv_at hl 0 rfl) ?_
          refine lv_iconst (v := 1) hx hb dX1_commonSize_22 (by decide) ?_
          refine lv_iload_n hx hb dX1_commonSize_23 rfl (lv_at hl 2 rfl) ?_
          obtain ⟨v5, hv5, hf⟩ := ob_some hf
          refine pu_V (As := [.int 1, .int x2]) (rest := []) ⟨hx, hb, hml, hown, hts⟩ (k_X1_isFair l dC dI cA a S 1 x2 _ hv5) gX1_commonSize_X1_isFair rfl rfl rfl cd_X1_isFair (Nat.le_of_ble_eq_true rfl) (Nat.le_of_ble_eq_true rfl) (preM hK hP) rfl hl.1 rfl (Nat.le_of_ble_eq_true rfl) (Nat.zero_le _) (Nat.zero_le _) dX1_commonSize_24 ?_
          refine lv_if_eq (tgt := 45) hx hb dX1_commonSize_27 (by decide) (fun c6 => ?_) (fun c6 => ?_)
          · rw [if_pos c6] at hf
            refine lv_iload_n hx hb dX1_commonSize_45 rfl (lv_at hl 1 rfl) ?_
            refine lv_istore_n (lv' := [(1, .int x1), (0, .ref (a 0)), (2, .int x2)]) hx hb dX1_commonSize_46 rfl hl (by decide) rfl (fun ls hl => ?_)
            obtain ⟨y7, ey7⟩ : ∃ y : Int32, y = (x2 + 1) := ⟨_, rfl⟩
            have hf := bnd_at hf ey7
            refine lv_iinc (v := y7) (lv' := [(2, .int y7), (1, .int x1), (0, .ref (a 0))]) hx hb dX1_commonSize_47 hl (k := 2) rfl (by rw [ey7]; rfl) (by decide) rfl (fun ls hl => ?_)
            refine lv_goto (tgt := 4) hx hb dX1_commonSize_50 (by decide) ?_
            exact ih4 x1 y7 ls hf (lv_sub hl [2, 1, 0] rfl)
          · rw [if_neg c6] at hf
            refine lv_iload_n hx hb dX1_commonSize_30 rfl (lv_at hl 2 rfl) ?_
            obtain ⟨v8, hv8, hf⟩ := ob_some hf
            refine pu_S (As := [.int x2]) (rest := []) ⟨hx, hb, hml, hown, hts⟩ (k_X1_many l x2 _ hv8) gX1_commonSize_X1_many rfl rfl rfl cd_X1_many (Nat.le_of_ble_eq_true rfl) (Nat.le_of_ble_eq_true rfl) (preT) rfl hl.1 rfl (Nat.le_of_ble_eq_true rfl) (Nat.zero_le _) (Nat.zero_le _) dX1_commonSize_31 ?_
            refine lv_iload_n hx hb dX1_commonSize_34 rfl (lv_at hl 1 rfl) ?_
            refine lv_icmp_le (tgt := 45) hx hb dX1_commonSize_35 (by decide) (fun c9 => ?_) (fun c9 => ?_)
            · rw [if_pos c9] at hf
              refine lv_iload_n hx hb dX1_commonSize_45 rfl (lv_at hl 1 rfl) ?_
              refine lv_istore_n (lv' := [(1, .int x1), (0, .ref (a 0)), (2, .int x2)]) hx hb dX1_commonSize_46 rfl hl (by decide) rfl (fun ls hl => ?_)
              obtain ⟨y10, ey10⟩ : ∃ y : Int32, y = (x2 + 1) := ⟨_, rfl⟩
              have hf := bnd_at hf ey10
              refine lv_iinc (v := y10) (lv' := [(2, .int y10), (1, .int x1), (0, .ref (a 0))]) hx hb dX1_commonSize_47 hl (k := 2) rfl (by rw [ey10]; rfl) (by decide) rfl (fun ls hl => ?_)
              refine lv_goto (tgt := 4) hx hb dX1_commonSize_50 (by decide) ?_
              exact ih4 x1 y10 ls hf (lv_sub hl [2, 1, 0] rfl)
            · rw [if_neg c9] at hf
              refine lv_iload_n hx hb dX1_commonSize_38 rfl (lv_at hl 2 rfl) ?_
              obtain ⟨v11, hv11, hf⟩ := ob_some hf
              refine pu_S (As := [.int x2]) (rest := []) ⟨hx, hb, hml, hown, hts⟩ (k_X1_many l x2 _ hv11) gX1_commonSize_X1_many rfl rfl rfl cd_X1_many (Nat.le_of_ble_eq_true rfl) (Nat.le_of_ble_eq_true rfl) (preT) rfl hl.1 rfl (Nat.le_of_ble_eq_true rfl) (Nat.zero_le _) (Nat.zero_le _) dX1_commonSize_39 ?_
              refine lv_goto (tgt := 46) hx hb dX1_commonSize_42 (by decide) ?_
              refine lv_istore_n (lv' := [(1, .int v11), (0, .ref (a 0)), (2, .int x2)]) hx hb dX1_commonSize_46 rfl hl (by decide) rfl (fun ls hl => ?_)
              obtain ⟨y12, ey12⟩ : ∃ y : Int32, y = (x2 + 1) := ⟨_, rfl⟩
              have hf := bnd_at hf ey12
              refine lv_iinc (v := y12) (lv' := [(2, .int y12), (1, .int v11), (0, .ref (a 0))]) hx hb dX1_commonSize_47 hl (k := 2) rfl (by rw [ey12]; rfl) (by decide) rfl (fun ls hl => ?_)
              refine lv_goto (tgt := 4) hx hb dX1_commonSize_50 (by decide) ?_
              exact ih4 v11 y12 ls hf (lv_sub hl [2, 1, 0] rfl)
  unfold f_X1_commonSize at hf
  refine lv_iconst (v := 0) hx hb dX1_commonSize_0 (by decide) ?_
  refine lv_istore_n (lv' := [(1, .int 0), (0, .ref (a 0))]) hx hb dX1_commonSize_1 rfl hl (by decide) rfl (fun ls hl => ?_)
  refine lv_iconst (v := 0) hx hb dX1_commonSize_2 (by decide) ?_
  refine lv_istore_n (lv' := [(2, .int 0), (1, .int 0), (0, .ref (a 0))]) hx hb dX1_commonSize_3 rfl hl (by decide) rfl (fun ls hl => ?_)
  exact hW4 70 0 0 ls hf (lv_sub hl [2, 1, 0] rfl)

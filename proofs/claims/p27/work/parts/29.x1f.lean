/-! The other functions that the pure part compares with: no method here is walked by them. -/
def f_X1_thrown (S : St) : Int32 := (S.1 3)

def f_X1_isIn (p0 : Int32) (p1 : Int32) (p2 : Int32) : Int32 := (if p0 < p1 then 0 else (if p2 < p0 then 0 else 1))
theorem z_X1_isIn (p0 p1 p2 : Int32) : f_X1_isIn p0 p1 p2 &&& 1 = f_X1_isIn p0 p1 p2 := by
  unfold f_X1_isIn
  repeat' split
  all_goals first | decide

def f_X1_isElement (S : St) (p1 : Int32) : Int32 := (f_X1_isIn p1 0 ((S.1 0) - 1))
theorem z_X1_isElement (S : St) (p1 : Int32) : f_X1_isElement S p1 &&& 1 = f_X1_isElement S p1 := by
  unfold f_X1_isElement
  repeat' split
  all_goals first | decide | exact z_X1_isIn ..

def f_X1_isFunction (S : St) (p1 : Int32) : Int32 := (f_X1_isIn p1 0 ((S.1 1) - 1))
theorem z_X1_isFunction (S : St) (p1 : Int32) : f_X1_isFunction S p1 &&& 1 = f_X1_isFunction S p1 := by
  unfold f_X1_isFunction
  repeat' split
  all_goals first | decide | exact z_X1_isIn ..

def f_X1_isSet (S : St) (p1 : Int32) : Int32 := (f_X1_isIn p1 0 (((1 : Int32) <<< ((S.1 0) &&& 31)) - 1))
theorem z_X1_isSet (S : St) (p1 : Int32) : f_X1_isSet S p1 &&& 1 = f_X1_isSet S p1 := by
  unfold f_X1_isSet
  repeat' split
  all_goals first | decide | exact z_X1_isIn ..

def f_X1_has (p0 : Int32) (p1 : Int32) : Int32 := (if ((p0 >>> (p1 &&& 31)) &&& 1) = 1 then 1 else 0)
theorem z_X1_has (p0 p1 : Int32) : f_X1_has p0 p1 &&& 1 = f_X1_has p0 p1 := by
  unfold f_X1_has
  repeat' split
  all_goals first | decide

def f_X1_many_4 (p0 : Int32) : Nat → Int32 → Int32 → Option Int32
  | 0, _, _ => none
  | k + 1, x1, x2 => (if 10 ≤ x2 then some x1 else (bnd (x1 + ((p0 >>> (x2 &&& 31)) &&& 1)) fun y2 => (bnd (x2 + 1) fun y3 => ((f_X1_many_4 p0 k) y2 y3))))
def f_X1_many (p0 : Int32) : Option Int32 := (f_X1_many_4 p0 70 0 0)

def f_X1_covered_31 (S : St) (p1 : Int32) (K4 : Int32 → Int32 → Option Int32) (x3 : Int32) (s0 : Int32) (s1 : Int32) : Option Int32 := (bnd (s0 ||| s1) fun y1 => (bnd (x3 + 1) fun y2 => (K4 y1 y2)))
def f_X1_covered_4 (S : St) (p1 : Int32) : Nat → Int32 → Int32 → Option Int32
  | 0, _, _ => none
  | k + 1, x2, x3 => (if (S.1 0) ≤ x3 then ((f_X1_many x2).bind fun v2 => some v2) else (if (f_X1_has p1 x3) = 0 then (f_X1_covered_31 S p1 (f_X1_covered_4 S p1 k) x3 x2 0) else ((rdA 6 (S.2 0) x3).bind fun v4 => (f_X1_covered_31 S p1 (f_X1_covered_4 S p1 k) x3 x2 v4))))
def f_X1_covered (S : St) (p1 : Int32) : Option Int32 := (f_X1_covered_4 S p1 70 0 0)

def f_X1_cutBy_58 (S : St) (p1 : Int32) (K4 : Int32 → Int32 → Option Int32) (K15 : Int32 → Int32 → Int32 → Option Int32) (x3 : Int32) (x4 : Int32) (s0 : Int32) (s1 : Int32) : Option Int32 := (bnd (s0 + s1) fun y1 => (bnd (x4 + 1) fun y2 => (K15 y1 x3 y2)))
def f_X1_cutBy_15 (S : St) (p1 : Int32) (K4 : Int32 → Int32 → Option Int32) : Nat → Int32 → Int32 → Int32 → Option Int32
  | 0, _, _, _ => none
  | k + 1, x2, x3, x4 => (if (S.1 0) ≤ x4 then (bnd (x3 + 1) fun y2 => (K4 x2 y2)) else (if (f_X1_has p1 x3) = 0 then (f_X1_cutBy_58 S p1 K4 (f_X1_cutBy_15 S p1 K4 k) x3 x4 x2 0) else (if (f_X1_has p1 x4) = 0 then ((rdA 36 (S.2 1) ((6 * x3) + x4)).bind fun v5 => (f_X1_cutBy_58 S p1 K4 (f_X1_cutBy_15 S p1 K4 k) x3 x4 x2 v5)) else (f_X1_cutBy_58 S p1 K4 (f_X1_cutBy_15 S p1 K4 k) x3 x4 x2 0))))
def f_X1_cutBy_4 (S : St) (p1 : Int32) : Nat → Int32 → Int32 → Option Int32
  | 0, _, _ => none
  | k + 1, x2, x3 => (if (S.1 0) ≤ x3 then some x2 else (f_X1_cutBy_15 S p1 (f_X1_cutBy_4 S p1 k) 70 x2 x3 0))
def f_X1_cutBy (S : St) (p1 : Int32) : Option Int32 := (f_X1_cutBy_4 S p1 70 0 0)

def f_X1_ofColour_47 (S : St) (p1 p2 p3 : Int32) (K6 : Int32 → Int32 → Option Int32) (x5 : Int32) (s0 : Int32) (s1 : Int32) : Option Int32 := (bnd (s0 + s1) fun y1 => (bnd (x5 + 1) fun y2 => (K6 y1 y2)))
def f_X1_ofColour_6 (S : St) (p1 p2 p3 : Int32) : Nat → Int32 → Int32 → Option Int32
  | 0, _, _ => none
  | k + 1, x4, x5 => (if (S.1 0) ≤ x5 then some x4 else (if (f_X1_has p3 x5) = 0 then (f_X1_ofColour_47 S p1 p2 p3 (f_X1_ofColour_6 S p1 p2 p3 k) x5 x4 0) else ((rdA 12 (S.2 2) ((6 * p1) + x5)).bind fun v3 => (if v3 = p2 then (f_X1_ofColour_47 S p1 p2 p3 (f_X1_ofColour_6 S p1 p2 p3 k) x5 x4 1) else (f_X1_ofColour_47 S p1 p2 p3 (f_X1_ofColour_6 S p1 p2 p3 k) x5 x4 0)))))
def f_X1_ofColour (S : St) (p1 : Int32) (p2 : Int32) (p3 : Int32) : Option Int32 := (f_X1_ofColour_6 S p1 p2 p3 70 0 0)

def f_X1_rank_57 (S : St) (p1 p2 : Int32) (K5 : Int32 → Int32 → Option Int32) (x4 : Int32) (s0 : Int32) (s1 : Int32) : Option Int32 := (bnd (s0 + s1) fun y1 => (bnd (x4 + 1) fun y2 => (K5 y1 y2)))
def f_X1_rank_5 (S : St) (p1 p2 : Int32) : Nat → Int32 → Int32 → Option Int32
  | 0, _, _ => none
  | k + 1, x3, x4 => (if 6 ≤ x4 then some x3 else ((f_X1_ofColour S p1 x4 p2).bind fun v2 => ((rdA 12 (S.2 3) ((6 * p1) + x4)).bind fun v3 => (if v3 ≤ v2 then ((rdA 12 (S.2 3) ((6 * p1) + x4)).bind fun v5 => (f_X1_rank_57 S p1 p2 (f_X1_rank_5 S p1 p2 k) x4 x3 v5)) else (f_X1_rank_57 S p1 p2 (f_X1_rank_5 S p1 p2 k) x4 x3 v2)))))
def f_X1_rank (S : St) (p1 : Int32) (p2 : Int32) : Option Int32 := (f_X1_rank_5 S p1 p2 70 0 0)

def f_X1_weight_31 (S : St) (p1 : Int32) (K4 : Int32 → Int32 → Option Int32) (x3 : Int32) (s0 : Int32) (s1 : Int32) : Option Int32 := (bnd (s0 + s1) fun y1 => (bnd (x3 + 1) fun y2 => (K4 y1 y2)))
def f_X1_weight_4 (S : St) (p1 : Int32) : Nat → Int32 → Int32 → Option Int32
  | 0, _, _ => none
  | k + 1, x2, x3 => (if (S.1 0) ≤ x3 then some x2 else (if (f_X1_has p1 x3) = 0 then (f_X1_weight_31 S p1 (f_X1_weight_4 S p1 k) x3 x2 0) else ((rdA 6 (S.2 4) x3).bind fun v3 => (f_X1_weight_31 S p1 (f_X1_weight_4 S p1 k) x3 x2 v3))))
def f_X1_weight (S : St) (p1 : Int32) : Option Int32 := (f_X1_weight_4 S p1 70 0 0)

def f_X1_hasLaw_137 (S : St) (p1 : Int32) (K4 : Int32 → Int32 → Option Int32) (K15 : Int32 → Int32 → Int32 → Option Int32) (K27 : Int32 → Int32 → Int32 → Int32 → Option Int32) (x3 : Int32) (x4 : Int32) (x5 : Int32) (s0 : Int32) (s1 : Int32) : Option Int32 := (bnd (s0 &&& s1) fun y1 => (bnd (x5 + 1) fun y2 => (K27 y1 x3 x4 y2)))
def f_X1_hasLaw_63 (S : St) (p1 : Int32) (K4 : Int32 → Int32 → Option Int32) (K15 : Int32 → Int32 → Int32 → Option Int32) (K27 : Int32 → Int32 → Int32 → Int32 → Option Int32) (x2 : Int32) (x3 : Int32) (x4 : Int32) (x5 : Int32) (x6 : Int32) (s0 : Int32) : Option Int32 := (if s0 = 0 then (f_X1_hasLaw_137 S p1 K4 K15 K27 x3 x4 x5 x2 1) else ((rdA 512 (S.2 5) (x6 + (x3 ||| ((1 : Int32) <<< (x4 &&& 31))))).bind fun v2 => ((rdA 512 (S.2 5) (x6 + (x3 ||| ((1 : Int32) <<< (x5 &&& 31))))).bind fun v3 => ((rdA 512 (S.2 5) (x6 + x3)).bind fun v4 => ((rdA 512 (S.2 5) (x6 + ((x3 ||| ((1 : Int32) <<< (x4 &&& 31))) ||| ((1 : Int32) <<< (x5 &&& 31))))).bind fun v5 => (if (v2 + v3) < (v4 + v5) then (f_X1_hasLaw_137 S p1 K4 K15 K27 x3 x4 x5 x2 0) else (f_X1_hasLaw_137 S p1 K4 K15 K27 x3 x4 x5 x2 1)))))))
def f_X1_hasLaw_27 (S : St) (p1 : Int32) (K4 : Int32 → Int32 → Option Int32) (K15 : Int32 → Int32 → Int32 → Option Int32) : Nat → Int32 → Int32 → Int32 → Int32 → Option Int32
  | 0, _, _, _, _ => none
  | k + 1, x2, x3, x4, x5 => (if x4 ≤ x5 then (bnd (x4 + 1) fun y2 => (K15 x2 x3 y2)) else (bnd (64 * p1) fun y3 => (if (f_X1_has x3 x4) = 0 then (if (f_X1_has x3 x5) = 0 then (f_X1_hasLaw_63 S p1 K4 K15 (f_X1_hasLaw_27 S p1 K4 K15 k) x2 x3 x4 x5 y3 1) else (f_X1_hasLaw_63 S p1 K4 K15 (f_X1_hasLaw_27 S p1 K4 K15 k) x2 x3 x4 x5 y3 0)) else (f_X1_hasLaw_63 S p1 K4 K15 (f_X1_hasLaw_27 S p1 K4 K15 k) x2 x3 x4 x5 y3 0))))
def f_X1_hasLaw_15 (S : St) (p1 : Int32) (K4 : Int32 → Int32 → Option Int32) : Nat → Int32 → Int32 → Int32 → Option Int32
  | 0, _, _, _ => none
  | k + 1, x2, x3, x4 => (if (S.1 0) ≤ x4 then (bnd (x3 + 1) fun y2 => (K4 x2 y2)) else (f_X1_hasLaw_27 S p1 K4 (f_X1_hasLaw_15 S p1 K4 k) 70 x2 x3 x4 0))
def f_X1_hasLaw_4 (S : St) (p1 : Int32) : Nat → Int32 → Int32 → Option Int32
  | 0, _, _ => none
  | k + 1, x2, x3 => (if (f_X1_isSet S x3) = 0 then (if x2 &&& 1 = x2 then some x2 else none) else (f_X1_hasLaw_15 S p1 (f_X1_hasLaw_4 S p1 k) 70 x2 x3 0))
def f_X1_hasLaw (S : St) (p1 : Int32) : Option Int32 := (f_X1_hasLaw_4 S p1 70 1 0)

def f_X1_leastOf_4 (S : St) (p1 : Int32) : Nat → Int32 → Int32 → Option Int32
  | 0, _, _ => none
  | k + 1, x2, x3 => (if (f_X1_isSet S x3) = 0 then some x2 else ((rdA 512 (S.2 5) ((64 * p1) + x3)).bind fun v2 => (if x2 ≤ v2 then (bnd (x3 + 1) fun y4 => ((f_X1_leastOf_4 S p1 k) x2 y4)) else ((rdA 512 (S.2 5) ((64 * p1) + x3)).bind fun v5 => (bnd (x3 + 1) fun y6 => ((f_X1_leastOf_4 S p1 k) v5 y6))))))
def f_X1_leastOf (S : St) (p1 : Int32) : Option Int32 := (f_X1_leastOf_4 S p1 70 0 0)

def f_X1_placeOf_4 (S : St) (p1 : Int32) : Nat → Int32 → Int32 → Option Int32
  | 0, _, _ => none
  | k + 1, x2, x3 => (if (S.1 2) ≤ x3 then some x2 else ((rdA 6 (S.2 6) x3).bind fun v2 => (if v2 = p1 then (bnd (x3 + 1) fun y5 => ((f_X1_placeOf_4 S p1 k) x3 y5)) else (bnd (x3 + 1) fun y4 => ((f_X1_placeOf_4 S p1 k) x2 y4)))))
def f_X1_placeOf (S : St) (p1 : Int32) : Option Int32 := (f_X1_placeOf_4 S p1 70 (-1) 0)

def f_X1_isFair (S : St) (p1 : Int32) (p2 : Int32) : Option Int32 := ((f_X1_rank S p1 p2).bind fun v1 => ((f_X1_many p2).bind fun v2 => (if v1 = v2 then some 1 else some 0)))

def f_X1_commonSize_4 (S : St) : Nat → Int32 → Int32 → Option Int32
  | 0, _, _ => none
  | k + 1, x1, x2 => (if (f_X1_isSet S x2) = 0 then some x1 else ((f_X1_isFair S 0 x2).bind fun v2 => (if v2 = 0 then (bnd (x2 + 1) fun y4 => ((f_X1_commonSize_4 S k) x1 y4)) else ((f_X1_isFair S 1 x2).bind fun v5 => (if v5 = 0 then (bnd (x2 + 1) fun y7 => ((f_X1_commonSize_4 S k) x1 y7)) else ((f_X1_many x2).bind fun v8 => (if v8 ≤ x1 then (bnd (x2 + 1) fun y10 => ((f_X1_commonSize_4 S k) x1 y10)) else ((f_X1_many x2).bind fun v11 => (bnd (x2 + 1) fun y12 => ((f_X1_commonSize_4 S k) v11 y12))))))))))
def f_X1_commonSize (S : St) : Option Int32 := (f_X1_commonSize_4 S 70 0 0)

def f_X1_forgets_61 : Nat → St → Int32 → Option St
  | 0, _, _ => none
  | k + 1, S, x1 => (if 12 ≤ x1 then some S else ((wrA 12 (S.2 2) x1 0).bind fun g2 => ((wrA 12 ((sA S 2 g2).2 3) x1 1).bind fun g3 => (bnd (x1 + 1) fun y4 => ((f_X1_forgets_61 k) (sA (sA S 2 g2) 3 g3) y4)))))
def f_X1_forgets_40 : Nat → St → Int32 → Option St
  | 0, _, _ => none
  | k + 1, S, x1 => (if 36 ≤ x1 then (f_X1_forgets_61 70 S 0) else ((wrA 36 (S.2 1) x1 0).bind fun g2 => (bnd (x1 + 1) fun y3 => ((f_X1_forgets_40 k) (sA S 1 g2) y3))))
def f_X1_forgets_12 : Nat → St → Int32 → Option St
  | 0, _, _ => none
  | k + 1, S, x1 => (if 6 ≤ x1 then (f_X1_forgets_40 70 S 0) else ((wrA 6 (S.2 0) x1 0).bind fun g2 => ((wrA 6 ((sA S 0 g2).2 4) x1 0).bind fun g3 => (bnd (x1 + 1) fun y4 => ((f_X1_forgets_12 k) (sA (sA S 0 g2) 4 g3) y4)))))
def f_X1_forgets (S : St) : Option St := (f_X1_forgets_12 70 (sS (sS S 1 0) 2 0) 0)
def f_X1_elements_16 (p1 : Int32) (S : St) (s1 : Int32) : Option (Int32 × St) := (if ((sS S 3 s1).1 3) ≤ 0 then (bnd ((sS S 3 s1).1 0) fun y2 => ((f_X1_forgets (sS (sS S 3 s1) 0 p1)).bind fun q3 => some (y2, q3))) else some (0, (sS S 3 s1)))
def f_X1_elements (S : St) (p1 : Int32) : Option (Int32 × St) := (if (f_X1_isIn p1 1 6) = 0 then (f_X1_elements_16 p1 S 1) else (f_X1_elements_16 p1 S 0))
def f_X1_cover_82 (p1 p2 p3 : Int32) (S : St) (x4 : Int32) (s1 : Int32) (s2 : Int32) : Option (Int32 × St) := ((wrA 6 (S.2 0) s1 s2).bind fun g1 => (if x4 &&& 1 = x4 then some (x4, (sA S 0 g1)) else none))
def f_X1_cover_24 (p1 p2 p3 : Int32) (S : St) (s1 : Int32) : Option (Int32 × St) := (if ((sS S 3 s1).1 3) ≤ 0 then ((rdA 6 ((sS S 3 s1).2 0) p1).bind fun v2 => (bnd (f_X1_has v2 p2) fun y3 => (if p3 = 0 then ((rdA 6 ((sS S 3 s1).2 0) p1).bind fun v5 => (f_X1_cover_82 p1 p2 p3 (sS S 3 s1) y3 p1 (v5 &&& (((1 : Int32) <<< (p2 &&& 31)) ^^^ (-1))))) else ((rdA 6 ((sS S 3 s1).2 0) p1).bind fun v6 => (f_X1_cover_82 p1 p2 p3 (sS S 3 s1) y3 p1 (v6 ||| ((1 : Int32) <<< (p2 &&& 31)))))))) else some (0, (sS S 3 s1)))
def f_X1_cover (S : St) (p1 : Int32) (p2 : Int32) (p3 : Int32) : Option (Int32 × St) := (if (f_X1_isElement S p1) = 0 then (f_X1_cover_24 p1 p2 p3 S 1) else (if (f_X1_isIn p2 0 9) = 0 then (f_X1_cover_24 p1 p2 p3 S 1) else (f_X1_cover_24 p1 p2 p3 S 0)))
def f_X1_edge_41 (p1 p2 p3 : Int32) (S : St) (s1 : Int32) : Option (Int32 × St) := (if ((sS S 3 s1).1 3) ≤ 0 then ((rdA 36 ((sS S 3 s1).2 1) ((6 * p1) + p2)).bind fun v2 => ((wrA 36 ((sS S 3 s1).2 1) ((6 * p1) + p2) p3).bind fun g3 => ((wrA 36 ((sA (sS S 3 s1) 1 g3).2 1) ((6 * p2) + p1) p3).bind fun g4 => some (v2, (sA (sA (sS S 3 s1) 1 g3) 1 g4))))) else some (0, (sS S 3 s1)))
def f_X1_edge (S : St) (p1 : Int32) (p2 : Int32) (p3 : Int32) : Option (Int32 × St) := (if (f_X1_isElement S p1) = 0 then (f_X1_edge_41 p1 p2 p3 S 1) else (if (f_X1_isElement S p2) = 0 then (f_X1_edge_41 p1 p2 p3 S 1) else (if p1 = p2 then (f_X1_edge_41 p1 p2 p3 S 2) else (if (f_X1_isIn p3 0 20) = 0 then (f_X1_edge_41 p1 p2 p3 S 2) else (f_X1_edge_41 p1 p2 p3 S 0)))))
def f_X1_colour_32 (p1 p2 p3 : Int32) (S : St) (s1 : Int32) : Option (Int32 × St) := (if ((sS S 3 s1).1 3) ≤ 0 then ((rdA 12 ((sS S 3 s1).2 2) ((6 * p1) + p2)).bind fun v2 => ((wrA 12 ((sS S 3 s1).2 2) ((6 * p1) + p2) p3).bind fun g3 => some (v2, (sA (sS S 3 s1) 2 g3)))) else some (0, (sS S 3 s1)))
def f_X1_colour (S : St) (p1 : Int32) (p2 : Int32) (p3 : Int32) : Option (Int32 × St) := (if (f_X1_isIn p1 0 1) = 0 then (f_X1_colour_32 p1 p2 p3 S 1) else (if (f_X1_isElement S p2) = 0 then (f_X1_colour_32 p1 p2 p3 S 1) else (if (f_X1_isIn p3 0 5) = 0 then (f_X1_colour_32 p1 p2 p3 S 1) else (f_X1_colour_32 p1 p2 p3 S 0))))
def f_X1_room_38 (p1 p2 p3 : Int32) (S : St) (s1 : Int32) : Option (Int32 × St) := (if ((sS S 3 s1).1 3) ≤ 0 then ((rdA 12 ((sS S 3 s1).2 3) ((6 * p1) + p2)).bind fun v2 => ((wrA 12 ((sS S 3 s1).2 3) ((6 * p1) + p2) p3).bind fun g3 => some (v2, (sA (sS S 3 s1) 3 g3)))) else some (0, (sS S 3 s1)))
def f_X1_room (S : St) (p1 : Int32) (p2 : Int32) (p3 : Int32) : Option (Int32 × St) := (if (f_X1_isIn p1 0 1) = 0 then (f_X1_room_38 p1 p2 p3 S 1) else (if (f_X1_isIn p2 0 5) = 0 then (f_X1_room_38 p1 p2 p3 S 1) else (if (f_X1_isIn p3 0 6) = 0 then (f_X1_room_38 p1 p2 p3 S 2) else (f_X1_room_38 p1 p2 p3 S 0))))
def f_X1_weigh_29 (p1 p2 : Int32) (S : St) (s1 : Int32) : Option (Int32 × St) := (if ((sS S 3 s1).1 3) ≤ 0 then ((rdA 6 ((sS S 3 s1).2 4) p1).bind fun v2 => ((wrA 6 ((sS S 3 s1).2 4) p1 p2).bind fun g3 => some (v2, (sA (sS S 3 s1) 4 g3)))) else some (0, (sS S 3 s1)))
def f_X1_weigh (S : St) (p1 : Int32) (p2 : Int32) : Option (Int32 × St) := (if (f_X1_isElement S p1) = 0 then (f_X1_weigh_29 p1 p2 S 1) else (if (f_X1_isIn p2 (-20) 20) = 0 then (f_X1_weigh_29 p1 p2 S 2) else (f_X1_weigh_29 p1 p2 S 0)))
def f_X1_make_109 (p1 : Int32) (K42 : St → Int32 → Option (Int32 × St)) (S : St) (x2 : Int32) (s1 : Int32) (s2 : Int32) : Option (Int32 × St) := ((wrA 512 (S.2 5) s1 s2).bind fun g1 => (bnd (x2 + 1) fun y2 => (K42 (sA S 5 g1) y2)))
def f_X1_make_42 (p1 : Int32) : Nat → St → Int32 → Option (Int32 × St)
  | 0, _, _ => none
  | k + 1, S, x2 => (if (f_X1_isSet S x2) = 0 then some ((((sS S 1 ((S.1 1) + 1)).1 1) - 1), (sS S 1 ((S.1 1) + 1))) else (if p1 = 0 then ((f_X1_covered S x2).bind fun v8 => (f_X1_make_109 p1 (f_X1_make_42 p1 k) S x2 ((64 * (S.1 1)) + x2) v8)) else (if p1 = 1 then ((f_X1_cutBy S x2).bind fun v7 => (f_X1_make_109 p1 (f_X1_make_42 p1 k) S x2 ((64 * (S.1 1)) + x2) v7)) else (if p1 = 4 then ((f_X1_weight S x2).bind fun v6 => (f_X1_make_109 p1 (f_X1_make_42 p1 k) S x2 ((64 * (S.1 1)) + x2) v6)) else ((f_X1_rank S (p1 - 2) x2).bind fun v5 => (f_X1_make_109 p1 (f_X1_make_42 p1 k) S x2 ((64 * (S.1 1)) + x2) v5))))))
def f_X1_make_28 (p1 : Int32) (S : St) (s1 : Int32) : Option (Int32 × St) := (if ((sS S 3 s1).1 3) ≤ 0 then (f_X1_make_42 p1 70 (sS S 3 s1) 0) else some (0, (sS S 3 s1)))
def f_X1_make (S : St) (p1 : Int32) : Option (Int32 × St) := (if (f_X1_isIn p1 0 4) = 0 then (f_X1_make_28 p1 S 1) else (if (S.1 1) = 8 then (f_X1_make_28 p1 S 2) else (f_X1_make_28 p1 S 0)))
def f_X1_sum_49 (p1 p2 : Int32) : Nat → St → Int32 → Option (Int32 × St)
  | 0, _, _ => none
  | k + 1, S, x3 => (if (f_X1_isSet S x3) = 0 then some ((((sS S 1 ((S.1 1) + 1)).1 1) - 1), (sS S 1 ((S.1 1) + 1))) else ((rdA 512 (S.2 5) ((64 * p1) + x3)).bind fun v2 => ((rdA 512 (S.2 5) ((64 * p2) + x3)).bind fun v3 => ((wrA 512 (S.2 5) ((64 * (S.1 1)) + x3) (v2 + v3)).bind fun g4 => (bnd (x3 + 1) fun y5 => ((f_X1_sum_49 p1 p2 k) (sA S 5 g4) y5))))))
def f_X1_sum_35 (p1 p2 : Int32) (S : St) (s1 : Int32) : Option (Int32 × St) := (if ((sS S 3 s1).1 3) ≤ 0 then (f_X1_sum_49 p1 p2 70 (sS S 3 s1) 0) else some (0, (sS S 3 s1)))
def f_X1_sum (S : St) (p1 : Int32) (p2 : Int32) : Option (Int32 × St) := (if (f_X1_isFunction S p1) = 0 then (f_X1_sum_35 p1 p2 S 1) else (if (f_X1_isFunction S p2) = 0 then (f_X1_sum_35 p1 p2 S 1) else (if (S.1 1) = 8 then (f_X1_sum_35 p1 p2 S 2) else (f_X1_sum_35 p1 p2 S 0))))
def f_X1_contract_53 (p1 p2 : Int32) : Nat → St → Int32 → Option (Int32 × St)
  | 0, _, _ => none
  | k + 1, S, x3 => (if (f_X1_isSet S x3) = 0 then some ((((sS S 1 ((S.1 1) + 1)).1 1) - 1), (sS S 1 ((S.1 1) + 1))) else ((rdA 512 (S.2 5) ((64 * p1) + (x3 ||| p2))).bind fun v2 => ((rdA 512 (S.2 5) ((64 * p1) + p2)).bind fun v3 => ((wrA 512 (S.2 5) ((64 * (S.1 1)) + x3) (v2 - v3)).bind fun g4 => (bnd (x3 + 1) fun y5 => ((f_X1_contract_53 p1 p2 k) (sA S 5 g4) y5))))))
def f_X1_contract_39 (p1 p2 : Int32) (S : St) (s1 : Int32) : Option (Int32 × St) := (if ((sS S 3 s1).1 3) ≤ 0 then (f_X1_contract_53 p1 p2 70 (sS S 3 s1) 0) else some (0, (sS S 3 s1)))
def f_X1_contract (S : St) (p1 : Int32) (p2 : Int32) : Option (Int32 × St) := (if (f_X1_isFunction S p1) = 0 then (f_X1_contract_39 p1 p2 S 1) else (if (f_X1_isSet S p2) = 0 then (f_X1_contract_39 p1 p2 S 2) else (if (S.1 1) = 8 then (f_X1_contract_39 p1 p2 S 3) else (f_X1_contract_39 p1 p2 S 0))))
def f_X1_cap_101 (p1 p2 : Int32) (K55 : St → Int32 → Option (Int32 × St)) (S : St) (x3 : Int32) (s1 : Int32) (s2 : Int32) : Option (Int32 × St) := ((wrA 512 (S.2 5) s1 s2).bind fun g1 => (bnd (x3 + 1) fun y2 => (K55 (sA S 5 g1) y2)))
def f_X1_cap_55 (p1 p2 : Int32) : Nat → St → Int32 → Option (Int32 × St)
  | 0, _, _ => none
  | k + 1, S, x3 => (if (f_X1_isSet S x3) = 0 then some ((((sS S 1 ((S.1 1) + 1)).1 1) - 1), (sS S 1 ((S.1 1) + 1))) else ((rdA 512 (S.2 5) ((64 * p1) + x3)).bind fun v2 => (if p2 ≤ v2 then (f_X1_cap_101 p1 p2 (f_X1_cap_55 p1 p2 k) S x3 ((64 * (S.1 1)) + x3) p2) else (f_X1_cap_101 p1 p2 (f_X1_cap_55 p1 p2 k) S x3 ((64 * (S.1 1)) + x3) v2))))
def f_X1_cap_41 (p1 p2 : Int32) (S : St) (s1 : Int32) : Option (Int32 × St) := (if ((sS S 3 s1).1 3) ≤ 0 then (f_X1_cap_55 p1 p2 70 (sS S 3 s1) 0) else some (0, (sS S 3 s1)))
def f_X1_cap (S : St) (p1 : Int32) (p2 : Int32) : Option (Int32 × St) := (if (f_X1_isFunction S p1) = 0 then (f_X1_cap_41 p1 p2 S 1) else (if (f_X1_isIn p2 0 100) = 0 then (f_X1_cap_41 p1 p2 S 2) else (if (S.1 1) = 8 then (f_X1_cap_41 p1 p2 S 3) else (f_X1_cap_41 p1 p2 S 0))))
def f_X1_value_26 (p1 p2 : Int32) (S : St) (s1 : Int32) : Option (Int32 × St) := (if ((sS S 3 s1).1 3) ≤ 0 then ((rdA 512 ((sS S 3 s1).2 5) ((64 * p1) + p2)).bind fun v2 => some (v2, (sS S 3 s1))) else some (0, (sS S 3 s1)))
def f_X1_value (S : St) (p1 : Int32) (p2 : Int32) : Option (Int32 × St) := (if (f_X1_isFunction S p1) = 0 then (f_X1_value_26 p1 p2 S 1) else (if (f_X1_isSet S p2) = 0 then (f_X1_value_26 p1 p2 S 2) else (f_X1_value_26 p1 p2 S 0)))
def f_X1_isLawful_14 (p1 : Int32) (S : St) (s1 : Int32) : Option (Int32 × St) := (if ((sS S 3 s1).1 3) = 0 then ((f_X1_hasLaw (sS S 3 s1) p1).bind fun v2 => (if v2 = 0 then some (0, (sS S 3 s1)) else some (1, (sS S 3 s1)))) else some (0, (sS S 3 s1)))
def f_X1_isLawful (S : St) (p1 : Int32) : Option (Int32 × St) := (if (f_X1_isFunction S p1) = 0 then (f_X1_isLawful_14 p1 S 1) else (f_X1_isLawful_14 p1 S 0))
def f_X1_rises_92 (p1 : Int32) (K32 : St → Int32 → Int32 → Option (Int32 × St)) (K47 : St → Int32 → Int32 → Int32 → Option (Int32 × St)) (S : St) (x3 : Int32) (x4 : Int32) (s0 : Int32) (s1 : Int32) : Option (Int32 × St) := (bnd (s0 &&& s1) fun y1 => (bnd (x4 + 1) fun y2 => (K47 S y1 x3 y2)))
def f_X1_rises_47 (p1 : Int32) (K32 : St → Int32 → Int32 → Option (Int32 × St)) : Nat → St → Int32 → Int32 → Int32 → Option (Int32 × St)
  | 0, _, _, _, _ => none
  | k + 1, S, x2, x3, x4 => (if (S.1 0) ≤ x4 then (bnd (x3 + 1) fun y2 => (K32 S x2 y2)) else ((rdA 512 (S.2 5) ((64 * p1) + x3)).bind fun v3 => ((rdA 512 (S.2 5) ((64 * p1) + (x3 ||| ((1 : Int32) <<< (x4 &&& 31))))).bind fun v4 => (if v4 < v3 then (f_X1_rises_92 p1 K32 (f_X1_rises_47 p1 K32 k) S x3 x4 x2 0) else (f_X1_rises_92 p1 K32 (f_X1_rises_47 p1 K32 k) S x3 x4 x2 1)))))
def f_X1_rises_32 (p1 : Int32) : Nat → St → Int32 → Int32 → Option (Int32 × St)
  | 0, _, _, _ => none
  | k + 1, S, x2, x3 => (if (f_X1_isSet S x3) = 0 then (if x2 &&& 1 = x2 then some (x2, S) else none) else (if x2 = 0 then (if x2 &&& 1 = x2 then some (x2, S) else none) else (f_X1_rises_47 p1 (f_X1_rises_32 p1 k) 70 S x2 x3 0)))
def f_X1_rises_14 (p1 : Int32) (S : St) (s1 : Int32) : Option (Int32 × St) := (if ((sS S 3 s1).1 3) = 0 then (f_X1_rises_32 p1 70 (sS S 3 s1) 1 0) else (f_X1_rises_32 p1 70 (sS S 3 s1) 0 0))
def f_X1_rises (S : St) (p1 : Int32) : Option (Int32 × St) := (if (f_X1_isFunction S p1) = 0 then (f_X1_rises_14 p1 S 1) else (f_X1_rises_14 p1 S 0))
def f_X1_least_26 (p1 : Int32) (S : St) (s1 : Int32) : Option (Int32 × St) := (if ((sS S 3 s1).1 3) ≤ 0 then ((f_X1_leastOf (sS S 3 s1) p1).bind fun v2 => some (v2, (sS S 3 s1))) else some (0, (sS S 3 s1)))
def f_X1_least (S : St) (p1 : Int32) : Option (Int32 × St) := (if (f_X1_isFunction S p1) = 0 then (f_X1_least_26 p1 S 1) else ((f_X1_hasLaw S p1).bind fun v2 => (if v2 = 0 then (f_X1_least_26 p1 S 2) else (f_X1_least_26 p1 S 0))))
def f_X1_leastSets_121 (p1 p2 : Int32) (K60 : St → Int32 → Int32 → Int32 → Int32 → Option (Int32 × St)) (S : St) (x3 : Int32) (x4 : Int32) (x6 : Int32) (s0 : Int32) (s1 : Int32) : Option (Int32 × St) := (bnd (s0 ||| s1) fun y1 => (bnd (x6 + 1) fun y2 => (K60 S x3 x4 y1 y2)))
def f_X1_leastSets_94 (p1 p2 : Int32) (K60 : St → Int32 → Int32 → Int32 → Int32 → Option (Int32 × St)) (S : St) (x3 : Int32) (x5 : Int32) (x6 : Int32) (s0 : Int32) (s1 : Int32) : Option (Int32 × St) := (bnd (s0 &&& s1) fun y1 => ((rdA 512 (S.2 5) ((64 * p1) + x6)).bind fun v2 => (if v2 = x3 then (f_X1_leastSets_121 p1 p2 K60 S x3 y1 x6 x5 x6) else (f_X1_leastSets_121 p1 p2 K60 S x3 y1 x6 x5 0))))
def f_X1_leastSets_60 (p1 p2 : Int32) : Nat → St → Int32 → Int32 → Int32 → Int32 → Option (Int32 × St)
  | 0, _, _, _, _, _ => none
  | k + 1, S, x3, x4, x5, x6 => (if (f_X1_isSet S x6) = 0 then (if p2 = 0 then some (x4, S) else some (x5, S)) else ((rdA 512 (S.2 5) ((64 * p1) + x6)).bind fun v3 => (if v3 = x3 then (f_X1_leastSets_94 p1 p2 (f_X1_leastSets_60 p1 p2 k) S x3 x5 x6 x4 x6) else (f_X1_leastSets_94 p1 p2 (f_X1_leastSets_60 p1 p2 k) S x3 x5 x6 x4 x4))))
def f_X1_leastSets_26 (p1 p2 : Int32) (S : St) (s1 : Int32) : Option (Int32 × St) := (if ((sS S 3 s1).1 3) ≤ 0 then ((f_X1_leastOf (sS S 3 s1) p1).bind fun v2 => (bnd (((1 : Int32) <<< (((sS S 3 s1).1 0) &&& 31)) - 1) fun y3 => (f_X1_leastSets_60 p1 p2 70 (sS S 3 s1) v2 y3 0 0))) else some (0, (sS S 3 s1)))
def f_X1_leastSets (S : St) (p1 : Int32) (p2 : Int32) : Option (Int32 × St) := (if (f_X1_isFunction S p1) = 0 then (f_X1_leastSets_26 p1 p2 S 1) else ((f_X1_hasLaw S p1).bind fun v2 => (if v2 = 0 then (f_X1_leastSets_26 p1 p2 S 2) else (f_X1_leastSets_26 p1 p2 S 0))))
def f_X1_leastSet (S : St) (p1 : Int32) (p2 : Int32) : Option (Int32 × St) := ((f_X1_leastSets S p1 p2).bind fun q1 => some (q1.1, q1.2))
def f_X1_leastSetAnew (S : St) (p1 : Int32) (p2 : Int32) : Option (Int32 × St) := ((f_X1_leastSets S p1 p2).bind fun q1 => some (q1.1, q1.2))
def f_X1_order_70 (p1 : Int32) (S : St) (s1 : Int32) : Option (Int32 × St) := ((wrA 6 ((sS S 2 s1).2 6) ((sS S 2 s1).1 2) p1).bind fun g1 => some (((sS (sA (sS S 2 s1) 6 g1) 2 (((sA (sS S 2 s1) 6 g1).1 2) + 1)).1 2), (sS (sA (sS S 2 s1) 6 g1) 2 (((sA (sS S 2 s1) 6 g1).1 2) + 1))))
def f_X1_order_38 (p1 : Int32) (S : St) (s1 : Int32) : Option (Int32 × St) := (if ((sS S 3 s1).1 3) ≤ 0 then (if ((sS S 3 s1).1 2) = ((sS S 3 s1).1 0) then (f_X1_order_70 p1 (sS S 3 s1) 0) else (f_X1_order_70 p1 (sS S 3 s1) ((sS S 3 s1).1 2))) else some (0, (sS S 3 s1)))
def f_X1_order (S : St) (p1 : Int32) : Option (Int32 × St) := (if (f_X1_isElement S p1) = 0 then (f_X1_order_38 p1 S 1) else (if (S.1 0) ≤ (S.1 2) then (f_X1_order_38 p1 S 0) else ((f_X1_placeOf S p1).bind fun v3 => (if v3 = (-1) then (f_X1_order_38 p1 S 0) else (f_X1_order_38 p1 S 2)))))
def f_X1_corner_52 (p1 p2 : Int32) : Nat → St → Int32 → Int32 → Option (Int32 × St)
  | 0, _, _, _ => none
  | k + 1, S, x3, x4 => ((f_X1_placeOf S p2).bind fun v1 => (if v1 ≤ x4 then ((rdA 512 (S.2 5) ((64 * p1) + (x3 ||| ((1 : Int32) <<< (p2 &&& 31))))).bind fun v3 => ((rdA 512 (S.2 5) ((64 * p1) + x3)).bind fun v4 => some ((v3 - v4), S))) else ((rdA 6 (S.2 6) x4).bind fun v5 => (bnd (x3 ||| ((1 : Int32) <<< (v5 &&& 31))) fun y6 => (bnd (x4 + 1) fun y7 => ((f_X1_corner_52 p1 p2 k) S y6 y7))))))
def f_X1_corner_35 (p1 p2 : Int32) (S : St) (s1 : Int32) : Option (Int32 × St) := (if ((sS S 3 s1).1 3) ≤ 0 then (f_X1_corner_52 p1 p2 70 (sS S 3 s1) 0 0) else some (0, (sS S 3 s1)))
def f_X1_corner (S : St) (p1 : Int32) (p2 : Int32) : Option (Int32 × St) := (if (f_X1_isFunction S p1) = 0 then (f_X1_corner_35 p1 p2 S 1) else (if (f_X1_isElement S p2) = 0 then (f_X1_corner_35 p1 p2 S 1) else ((f_X1_placeOf S p2).bind fun v3 => (if v3 = (-1) then (f_X1_corner_35 p1 p2 S 2) else (f_X1_corner_35 p1 p2 S 0)))))
def f_X1_greedy_65 (p1 p2 : Int32) (K45 : St → Int32 → Int32 → Option (Int32 × St)) : Nat → St → Int32 → Int32 → Int32 → Option (Int32 × St)
  | 0, _, _, _, _ => none
  | k + 1, S, x3, x4, x5 => (if (S.1 0) ≤ x5 then (K45 S x3 x4) else (bnd (x4 ||| ((1 : Int32) <<< (x5 &&& 31))) fun y2 => ((rdA 512 (S.2 5) ((64 * p1) + y2)).bind fun v3 => ((rdA 512 (S.2 5) ((64 * p1) + x3)).bind fun v4 => (if v3 ≤ v4 then (bnd (x5 + 1) fun y6 => ((f_X1_greedy_65 p1 p2 K45 k) S x3 x4 y6)) else (bnd (x5 + 1) fun y7 => ((f_X1_greedy_65 p1 p2 K45 k) S y2 x4 y7)))))))
def f_X1_greedy_45 (p1 p2 : Int32) : Nat → St → Int32 → Int32 → Option (Int32 × St)
  | 0, _, _, _ => none
  | k + 1, S, x3, x4 => (if x3 = x4 then some (x3, S) else ((f_X1_many x3).bind fun v2 => (if p2 ≤ v2 then some (x3, S) else (f_X1_greedy_65 p1 p2 (f_X1_greedy_45 p1 p2 k) 70 S x3 x3 0))))
def f_X1_greedy_28 (p1 p2 : Int32) (S : St) (s1 : Int32) : Option (Int32 × St) := (if ((sS S 3 s1).1 3) ≤ 0 then (f_X1_greedy_45 p1 p2 70 (sS S 3 s1) 0 (-1)) else some (0, (sS S 3 s1)))
def f_X1_greedy (S : St) (p1 : Int32) (p2 : Int32) : Option (Int32 × St) := (if (f_X1_isFunction S p1) = 0 then (f_X1_greedy_28 p1 p2 S 1) else (if (f_X1_isIn p2 0 6) = 0 then (f_X1_greedy_28 p1 p2 S 2) else (f_X1_greedy_28 p1 p2 S 0)))
def f_X1_best_36 (p1 p2 : Int32) : Nat → St → Int32 → Int32 → Option (Int32 × St)
  | 0, _, _, _ => none
  | k + 1, S, x3, x4 => (if (f_X1_isSet S x4) = 0 then some (x3, S) else (if (S.1 3) = 0 then ((f_X1_many x4).bind fun v3 => (if p2 < v3 then (bnd (x4 + 1) fun y5 => ((f_X1_best_36 p1 p2 k) S x3 y5)) else ((rdA 512 (S.2 5) ((64 * p1) + x4)).bind fun v6 => (if v6 ≤ x3 then (bnd (x4 + 1) fun y8 => ((f_X1_best_36 p1 p2 k) S x3 y8)) else ((rdA 512 (S.2 5) ((64 * p1) + x4)).bind fun v9 => (bnd (x4 + 1) fun y10 => ((f_X1_best_36 p1 p2 k) S v9 y10))))))) else some (x3, S)))
def f_X1_best_28 (p1 p2 : Int32) (S : St) (s1 : Int32) : Option (Int32 × St) := (f_X1_best_36 p1 p2 70 (sS S 3 s1) 0 0)
def f_X1_best (S : St) (p1 : Int32) (p2 : Int32) : Option (Int32 × St) := (if (f_X1_isFunction S p1) = 0 then (f_X1_best_28 p1 p2 S 1) else (if (f_X1_isIn p2 0 6) = 0 then (f_X1_best_28 p1 p2 S 2) else (f_X1_best_28 p1 p2 S 0)))
def f_X1_common (S : St) : Option (Int32 × St) := ((f_X1_commonSize (sS S 3 0) ).bind fun v1 => some (v1, (sS S 3 0)))
def f_X1_commonAnew (S : St) : Option (Int32 × St) := ((f_X1_commonSize (sS S 3 0) ).bind fun v1 => some (v1, (sS S 3 0)))
def f_X1_shares_220 (p1 p2 : Int32) (K65 : St → Int32 → Int32 → Int32 → Option (Int32 × St)) (K84 : St → Int32 → Int32 → Int32 → Int32 → Int32 → Int32 → Int32 → Option (Int32 × St)) (S : St) (x3 : Int32) (x5 : Int32) (x6 : Int32) (x7 : Int32) (x8 : Int32) (x9 : Int32) (x11 : Int32) (s0 : Int32) (s1 : Int32) : Option (Int32 × St) := (bnd (s0 + s1) fun y1 => (bnd (x7 ||| ((1 : Int32) <<< (x11 &&& 31))) fun y2 => (bnd (x9 + 1) fun y3 => (K84 S x3 y1 x5 x6 y2 x8 y3))))
def f_X1_shares_177 (p1 p2 : Int32) (K65 : St → Int32 → Int32 → Int32 → Option (Int32 × St)) (K84 : St → Int32 → Int32 → Int32 → Int32 → Int32 → Int32 → Int32 → Option (Int32 × St)) (S : St) (x3 : Int32) (x4 : Int32) (x5 : Int32) (x6 : Int32) (x7 : Int32) (x9 : Int32) (x11 : Int32) (s0 : Int32) : Option (Int32 × St) := (if s0 = 0 then (f_X1_shares_220 p1 p2 K65 K84 S x3 x5 x6 x7 s0 x9 x11 x4 0) else ((rdA 512 (S.2 5) ((64 * p1) + (x7 ||| ((1 : Int32) <<< (x11 &&& 31))))).bind fun v2 => ((rdA 512 (S.2 5) ((64 * p1) + x7)).bind fun v3 => (f_X1_shares_220 p1 p2 K65 K84 S x3 x5 x6 x7 s0 x9 x11 x4 (v2 - v3)))))
def f_X1_shares_157 (p1 p2 : Int32) (K65 : St → Int32 → Int32 → Int32 → Option (Int32 × St)) (K84 : St → Int32 → Int32 → Int32 → Int32 → Int32 → Int32 → Int32 → Option (Int32 × St)) (K125 : St → Int32 → Int32 → Int32 → Int32 → Int32 → Int32 → Int32 → Int32 → Option (Int32 × St)) (S : St) (x3 : Int32) (x4 : Int32) (x5 : Int32) (x6 : Int32) (x7 : Int32) (x9 : Int32) (x11 : Int32) (s0 : Int32) (s1 : Int32) : Option (Int32 × St) := (bnd (s0 - s1) fun y1 => (bnd (x11 + 1) fun y2 => (K125 S x3 x4 x5 x6 x7 x9 y1 y2)))
def f_X1_shares_140 (p1 p2 : Int32) (K65 : St → Int32 → Int32 → Int32 → Option (Int32 × St)) (K84 : St → Int32 → Int32 → Int32 → Int32 → Int32 → Int32 → Int32 → Option (Int32 × St)) (K125 : St → Int32 → Int32 → Int32 → Int32 → Int32 → Int32 → Int32 → Int32 → Option (Int32 × St)) (S : St) (x3 : Int32) (x4 : Int32) (x5 : Int32) (x6 : Int32) (x7 : Int32) (x9 : Int32) (x10 : Int32) (x11 : Int32) : Option (Int32 × St) := (if (f_X1_has x7 x11) = 0 then (f_X1_shares_157 p1 p2 K65 K84 K125 S x3 x4 x5 x6 x7 x9 x11 x10 1) else (f_X1_shares_157 p1 p2 K65 K84 K125 S x3 x4 x5 x6 x7 x9 x11 x10 0))
def f_X1_shares_125 (p1 p2 : Int32) (K65 : St → Int32 → Int32 → Int32 → Option (Int32 × St)) (K84 : St → Int32 → Int32 → Int32 → Int32 → Int32 → Int32 → Int32 → Option (Int32 × St)) : Nat → St → Int32 → Int32 → Int32 → Int32 → Int32 → Int32 → Int32 → Int32 → Option (Int32 × St)
  | 0, _, _, _, _, _, _, _, _, _ => none
  | k + 1, S, x3, x4, x5, x6, x7, x9, x10, x11 => (if (f_X1_has x7 x11) = 0 then (if x10 ≤ 0 then (if x11 = p2 then (f_X1_shares_177 p1 p2 K65 K84 S x3 x4 x5 x6 x7 x9 x11 1) else (f_X1_shares_177 p1 p2 K65 K84 S x3 x4 x5 x6 x7 x9 x11 0)) else (f_X1_shares_140 p1 p2 K65 K84 (f_X1_shares_125 p1 p2 K65 K84 k) S x3 x4 x5 x6 x7 x9 x10 x11)) else (f_X1_shares_140 p1 p2 K65 K84 (f_X1_shares_125 p1 p2 K65 K84 k) S x3 x4 x5 x6 x7 x9 x10 x11))
def f_X1_shares_84 (p1 p2 : Int32) (K65 : St → Int32 → Int32 → Int32 → Option (Int32 × St)) : Nat → St → Int32 → Int32 → Int32 → Int32 → Int32 → Int32 → Int32 → Option (Int32 × St)
  | 0, _, _, _, _, _, _, _, _ => none
  | k + 1, S, x3, x4, x5, x6, x7, x8, x9 => (if (S.1 0) ≤ x9 then (bnd (x5 + 1) fun y2 => (K65 S x3 x4 y2)) else (if x8 = 0 then (if ((S.1 0) - x9) = 0 then none else (bnd (x6 - x6 / ((S.1 0) - x9) * ((S.1 0) - x9)) fun y6 => (if ((S.1 0) - x9) = 0 then none else (bnd (x6 / ((S.1 0) - x9)) fun y8 => (f_X1_shares_125 p1 p2 K65 (f_X1_shares_84 p1 p2 K65 k) 800 S x3 x4 x5 y8 x7 x9 y6 0))))) else (bnd (x5 + 1) fun y4 => (K65 S x3 x4 y4))))
def f_X1_shares_65 (p1 p2 : Int32) : Nat → St → Int32 → Int32 → Int32 → Option (Int32 × St)
  | 0, _, _, _, _ => none
  | k + 1, S, x3, x4, x5 => (if x3 ≤ x5 then some (x4, S) else (f_X1_shares_84 p1 p2 (f_X1_shares_65 p1 p2 k) 800 S x3 x4 x5 x5 0 0 0))
def f_X1_shares_39 (p1 p2 : Int32) : Nat → St → Int32 → Int32 → Option (Int32 × St)
  | 0, _, _, _ => none
  | k + 1, S, x3, x4 => (if (S.1 0) < x4 then (f_X1_shares_65 p1 p2 800 S x3 0 0) else (bnd (x3 * x4) fun y2 => (bnd (x4 + 1) fun y3 => ((f_X1_shares_39 p1 p2 k) S y2 y3))))
def f_X1_shares_22 (p1 p2 : Int32) (S : St) (s1 : Int32) : Option (Int32 × St) := (if ((sS S 3 s1).1 3) ≤ 0 then (f_X1_shares_39 p1 p2 800 (sS S 3 s1) 1 2) else some (0, (sS S 3 s1)))
def f_X1_shares (S : St) (p1 : Int32) (p2 : Int32) : Option (Int32 × St) := (if (f_X1_isFunction S p1) = 0 then (f_X1_shares_22 p1 p2 S 1) else (if (f_X1_isElement S p2) = 0 then (f_X1_shares_22 p1 p2 S 1) else (f_X1_shares_22 p1 p2 S 0)))
def f_X1_share (S : St) (p1 : Int32) (p2 : Int32) : Option (Int32 × St) := ((f_X1_shares S p1 p2).bind fun q1 => some (q1.1, q1.2))
def f_X1_shareAnew (S : St) (p1 : Int32) (p2 : Int32) : Option (Int32 × St) := ((f_X1_shares S p1 p2).bind fun q1 => some (q1.1, q1.2))

def f_X1_forgets_61 : Nat → St → Int32 → Option St
  | 0, _, _ => none
  | k + 1, S, x1 => (if 12 ≤ x1 then some S else ((wrA 12 (S.2 2) x1 0).bind fun g2 => ((wrA 12 ((sA S 2 g2).2 3) x1 1).bind fun g3 => (bnd (x1 + 1) fun y4 => ((f_X1_forgets_61 k) (sA (sA S 2 g2) 3 g3) y4)))))
def f_X1_forgets_40 : Nat → St → Int32 → Option St
  | 0, _, _ => none
  | k + 1, S, x1 => (if 36 ≤ x1 then (f_X1_forgets_61 70 S 0) else ((wrA 36 (S.2 1) x1 0).bind fun g2 => (bnd (x1 + 1) fun y3 => ((f_X1_forgets_40 k) (sA S 1 g2) y3))))
def f_X1_forgets_12 : Nat → St → Int32 → Option St
  | 0, _, _ => none
  | k + 1, S, x1 => (if 6 ≤ x1 then (f_X1_forgets_40 70 S 0) else ((wrA 6 (S.2 0) x1 0).bind fun g2 => ((wrA 6 ((sA S 0 g2).2 4) x1 0).bind fun g3 => (bnd (x1 + 1) fun y4 => ((f_X1_forgets_12 k) (sA (sA S 0 g2) 4 g3) y4)))))
def f_X1_forgets (S : St) : Option St := (f_X1_forgets_12 70 (sS (sS S 1 0) 2 0) 0)
def f_X1_elements_16 (p1 : Int32) (S : St) (s1 : Int32) : Option (Int32 × St) := (if ((sS S 3 s1).1 3) ≤ 0 then (bnd ((sS S 3 s1).1 0) fun y2 => ((f_X1_forgets (sS (sS S 3 s1) 0 p1)).bind fun q3 => some (y2, q3))) else some (0, (sS S 3 s1)))
def f_X1_elements (S : St) (p1 : Int32) : Option (Int32 × St) := (if (f_X1_isIn p1 1 6) = 0 then (f_X1_elements_16 p1 S 1) else (f_X1_elements_16 p1 S 0))
def f_X1_cover_82 (p1 p2 p3 : Int32) (S : St) (x4 : Int32) (s1 : Int32) (s2 : Int32) : Option (Int32 × St) := ((wrA 6 (S.2 0) s1 s2).bind fun g1 => (if x4 &&& 1 = x4 then some (x4, (sA S 0 g1)) else none))
def f_X1_cover_24 (p1 p2 p3 : Int32) (S : St) (s1 : Int32) : Option (Int32 × St) := (if ((sS S 3 s1).1 3) ≤ 0 then ((rdA 6 ((sS S 3 s1).2 0) p1).bind fun v2 => (bnd (f_X1_has v2 p2) fun y3 => (if p3 = 0 then ((rdA 6 ((sS S 3 s1).2 0) p1).bind fun v5 => (f_X1_cover_82 p1 p2 p3 (sS S 3 s1) y3 p1 (v5 &&& (((1 : Int32) <<< (p2 &&& 31)) ^^^ (-1))))) else ((rdA 6 ((sS S 3 s1).2 0) p1).bind fun v6 => (f_X1_cover_82 p1 p2 p3 (sS S 3 s1) y3 p1 (v6 ||| ((1 : Int32) <<< (p2 &&& 31)))))))) else some (0, (sS S 3 s1)))
def f_X1_cover (S : St) (p1 : Int32) (p2 : Int32) (p3 : Int32) : Option (Int32 × St) := (if (f_X1_isElement S p1) = 0 then (f_X1_cover_24 p1 p2 p3 S 1) else (if (f_X1_isIn p2 0 9) = 0 then (f_X1_cover_24 p1 p2 p3 S 1) else (f_X1_cover_24 p1 p2 p3 S 0)))
def f_X1_edge_41 (p1 p2 p3 : Int32) (S : St) (s1 : Int32) : Option (Int32 × St) := (if ((sS S 3 s1).1 3) ≤ 0 then ((rdA 36 ((sS S 3 s1).2 1) ((6 * p1) + p2)).bind fun v2 => ((wrA 36 ((sS S 3 s1).2 1) ((6 * p1) + p2) p3).bind fun g3 => ((wrA 36 ((sA (sS S 3 s1) 1 g3).2 1) ((6 * p2) + p1) p3).bind fun g4 => some (v2, (sA (sA (sS S 3 s1) 1 g3) 1 g4))))) else some (0, (sS S 3 s1)))
def f_X1_edge (S : St) (p1 : Int32) (p2 : Int32) (p3 : Int32) : Option (Int32 × St) := (if (f_X1_isElement S p1) = 0 then (f_X1_edge_41 p1 p2 p3 S 1) else (if (f_X1_isElement S p2) = 0 then (f_X1_edge_41 p1 p2 p3 S 1) else (if p1 = p2 then (f_X1_edge_41 p1 p2 p3 S 2) else (if (f_X1_isIn p3 0 20) = 0 then (f_X1_edge_41 p1 p2 p3 S 2) else (f_X1_edge_41 p1 p2 p3 S 0)))))
def f_X1_colour_32 (p1 p2 p3 : Int32) (S : St) (s1 : Int32) : Option (Int32 × St) := (if ((sS S 3 s1).1 3) ≤ 0 then ((rdA 12 ((sS S 3 s1).2 2) ((6 * p1) + p2)).bind fun v2 => ((wrA 12 ((sS S 3 s1).2 2) ((6 * p1) + p2) p3).bind fun g3 => some (v2, (sA (sS S 3 s1) 2 g3)))) else some (0, (sS S 3 s1)))
def f_X1_colour (S : St) (p1 : Int32) (p2 : Int32) (p3 : Int32) : Option (Int32 × St) := (if (f_X1_isIn p1 0 1) = 0 then (f_X1_colour_32 p1 p2 p3 S 1) else (if (f_X1_isElement S p2) = 0 then (f_X1_colour_32 p1 p2 p3 S 1) else (if (f_X1_isIn p3 0 5) = 0 then (f_X1_colour_32 p1 p2 p3 S 1) else (f_X1_colour_32 p1 p2 p3 S 0))))
def f_X1_room_38 (p1 p2 p3 : Int32) (S : St) (s1 : Int32) : Option (Int32 × St) := (if ((sS S 3 s1).1 3) ≤ 0 then ((rdA 12 ((sS S 3 s1).2 3) ((6 * p1) + p2)).bind fun v2 => ((wrA 12 ((sS S 3 s1).2 3) ((6 * p1) + p2) p3).bind fun g3 => some (v2, (sA (sS S 3 s1) 3 g3)))) else some (0, (sS S 3 s1)))
def f_X1_room (S : St) (p1 : Int32) (p2 : Int32) (p3 : Int32) : Option (Int32 × St) := (if (f_X1_isIn p1 0 1) = 0 then (f_X1_room_38 p1 p2 p3 S 1) else (if (f_X1_isIn p2 0 5) = 0 then (f_X1_room_38 p1 p2 p3 S 1) else (if (f_X1_isIn p3 0 6) = 0 then (f_X1_room_38 p1 p2 p3 S 2) else (f_X1_room_38 p1 p2 p3 S 0))))
def f_X1_weigh_29 (p1 p2 : Int32) (S : St) (s1 : Int32) : Option (Int32 × St) := (if ((sS S 3 s1).1 3) ≤ 0 then ((rdA 6 ((sS S 3 s1).2 4) p1).bind fun v2 => ((wrA 6 ((sS S 3 s1).2 4) p1 p2).bind fun g3 => some (v2, (sA (sS S 3 s1) 4 g3)))) else some (0, (sS S 3 s1)))
def f_X1_weigh (S : St) (p1 : Int32) (p2 : Int32) : Option (Int32 × St) := (if (f_X1_isElement S p1) = 0 then (f_X1_weigh_29 p1 p2 S 1) else (if (f_X1_isIn p2 (-20) 20) = 0 then (f_X1_weigh_29 p1 p2 S 2) else (f_X1_weigh_29 p1 p2 S 0)))
def f_X1_make_109 (p1 : Int32) (K42 : St → Int32 → Option (Int32 × St)) (S : St) (x2 : Int32) (s1 : Int32) (s2 : Int32) : Option (Int32 × St) := ((wrA 512 (S.2 5) s1 s2).bind fun g1 => (bnd (x2 + 1) fun y2 => (K42 (sA S 5 g1) y2)))
def f_X1_make_42 (p1 : Int32) : Nat → St → Int32 → Option (Int32 × St)
  | 0, _, _ => none
  | k + 1, S, x2 => (if (f_X1_isSet S x2) = 0 then some ((((sS S 1 ((S.1 1) + 1)).1 1) - 1), (sS S 1 ((S.1 1) + 1))) else (if p1 = 0 then ((f_X1_covered S x2).bind fun v8 => (f_X1_make_109 p1 (f_X1_make_42 p1 k) S x2 ((64 * (S.1 1)) + x2) v8)) else (if p1 = 1 then ((f_X1_cutBy S x2).bind fun v7 => (f_X1_make_109 p1 (f_X1_make_42 p1 k) S x2 ((64 * (S.1 1)) + x2) v7)) else (if p1 = 4 then ((f_X1_weight S x2).bind fun v6 => (f_X1_make_109 p1 (f_X1_make_42 p1 k) S x2 ((64 * (S.1 1)) + x2) v6)) else ((f_X1_rank S (p1 - 2) x2).bind fun v5 => (f_X1_make_109 p1 (f_X1_make_42 p1 k) S x2 ((64 * (S.1 1)) + x2) v5))))))
def f_X1_make_28 (p1 : Int32) (S : St) (s1 : Int32) : Option (Int32 × St) := (if ((sS S 3 s1).1 3) ≤ 0 then (f_X1_make_42 p1 70 (sS S 3 s1) 0) else some (0, (sS S 3 s1)))
def f_X1_make (S : St) (p1 : Int32) : Option (Int32 × St) := (if (f_X1_isIn p1 0 4) = 0 then (f_X1_make_28 p1 S 1) else (if (S.1 1) = 8 then (f_X1_make_28 p1 S 2) else (f_X1_make_28 p1 S 0)))
def f_X1_sum_49 (p1 p2 : Int32) : Nat → St → Int32 → Option (Int32 × St)
  | 0, _, _ => none
  | k + 1, S, x3 => (if (f_X1_isSet S x3) = 0 then some ((((sS S 1 ((S.1 1) + 1)).1 1) - 1), (sS S 1 ((S.1 1) + 1))) else ((rdA 512 (S.2 5) ((64 * p1) + x3)).bind fun v2 => ((rdA 512 (S.2 5) ((64 * p2) + x3)).bind fun v3 => ((wrA 512 (S.2 5) ((64 * (S.1 1)) + x3) (v2 + v3)).bind fun g4 => (bnd (x3 + 1) fun y5 => ((f_X1_sum_49 p1 p2 k) (sA S 5 g4) y5))))))
def f_X1_sum_35 (p1 p2 : Int32) (S : St) (s1 : Int32) : Option (Int32 × St) := (if ((sS S 3 s1).1 3) ≤ 0 then (f_X1_sum_49 p1 p2 70 (sS S 3 s1) 0) else some (0, (sS S 3 s1)))
def f_X1_sum (S : St) (p1 : Int32) (p2 : Int32) : Option (Int32 × St) := (if (f_X1_isFunction S p1) = 0 then (f_X1_sum_35 p1 p2 S 1) else (if (f_X1_isFunction S p2) = 0 then (f_X1_sum_35 p1 p2 S 1) else (if (S.1 1) = 8 then (f_X1_sum_35 p1 p2 S 2) else (f_X1_sum_35 p1 p2 S 0))))
def f_X1_contract_53 (p1 p2 : Int32) : Nat → St → Int32 → Option (Int32 × St)
  | 0, _, _ => none
  | k + 1, S, x3 => (if (f_X1_isSet S x3) = 0 then some ((((sS S 1 ((S.1 1) + 1)).1 1) - 1), (sS S 1 ((S.1 1) + 1))) else ((rdA 512 (S.2 5) ((64 * p1) + (x3 ||| p2))).bind fun v2 => ((rdA 512 (S.2 5) ((64 * p1) + p2)).bind fun v3 => ((wrA 512 (S.2 5) ((64 * (S.1 1)) + x3) (v2 - v3)).bind fun g4 => (bnd (x3 + 1) fun y5 => ((f_X1_contract_53 p1 p2 k) (sA S 5 g4) y5))))))
def f_X1_contract_39 (p1 p2 : Int32) (S : St) (s1 : Int32) : Option (Int32 × St) := (if ((sS S 3 s1).1 3) ≤ 0 then (f_X1_contract_53 p1 p2 70 (sS S 3 s1) 0) else some (0, (sS S 3 s1)))
def f_X1_contract (S : St) (p1 : Int32) (p2 : Int32) : Option (Int32 × St) := (if (f_X1_isFunction S p1) = 0 then (f_X1_contract_39 p1 p2 S 1) else (if (f_X1_isSet S p2) = 0 then (f_X1_contract_39 p1 p2 S 2) else (if (S.1 1) = 8 then (f_X1_contract_39 p1 p2 S 3) else (f_X1_contract_39 p1 p2 S 0))))
def f_X1_cap_101 (p1 p2 : Int32) (K55 : St → Int32 → Option (Int32 × St)) (S : St) (x3 : Int32) (s1 : Int32) (s2 : Int32) : Option (Int32 × St) := ((wrA 512 (S.2 5) s1 s2).bind fun g1 => (bnd (x3 + 1) fun y2 => (K55 (sA S 5 g1) y2)))
def f_X1_cap_55 (p1 p2 : Int32) : Nat → St → Int32 → Option (Int32 × St)
  | 0, _, _ => none
  | k + 1, S, x3 => (if (f_X1_isSet S x3) = 0 then some ((((sS S 1 ((S.1 1) + 1)).1 1) - 1), (sS S 1 ((S.1 1) + 1))) else ((rdA 512 (S.2 5) ((64 * p1) + x3)).bind fun v2 => (if p2 ≤ v2 then (f_X1_cap_101 p1 p2 (f_X1_cap_55 p1 p2 k) S x3 ((64 * (S.1 1)) + x3) p2) else (f_X1_cap_101 p1 p2 (f_X1_cap_55 p1 p2 k) S x3 ((64 * (S.1 1)) + x3) v2))))
def f_X1_cap_41 (p1 p2 : Int32) (S : St) (s1 : Int32) : Option (Int32 × St) := (if ((sS S 3 s1).1 3) ≤ 0 then (f_X1_cap_55 p1 p2 70 (sS S 3 s1) 0) else some (0, (sS S 3 s1)))
def f_X1_cap (S : St) (p1 : Int32) (p2 : Int32) : Option (Int32 × St) := (if (f_X1_isFunction S p1) = 0 then (f_X1_cap_41 p1 p2 S 1) else (if (f_X1_isIn p2 0 100) = 0 then (f_X1_cap_41 p1 p2 S 2) else (if (S.1 1) = 8 then (f_X1_cap_41 p1 p2 S 3) else (f_X1_cap_41 p1 p2 S 0))))
def f_X1_value_26 (p1 p2 : Int32) (S : St) (s1 : Int32) : Option (Int32 × St) := (if ((sS S 3 s1).1 3) ≤ 0 then ((rdA 512 ((sS S 3 s1).2 5) ((64 * p1) + p2)).bind fun v2 => some (v2, (sS S 3 s1))) else some (0, (sS S 3 s1)))
def f_X1_value (S : St) (p1 : Int32) (p2 : Int32) : Option (Int32 × St) := (if (f_X1_isFunction S p1) = 0 then (f_X1_value_26 p1 p2 S 1) else (if (f_X1_isSet S p2) = 0 then (f_X1_value_26 p1 p2 S 2) else (f_X1_value_26 p1 p2 S 0)))
def f_X1_isLawful_14 (p1 : Int32) (S : St) (s1 : Int32) : Option (Int32 × St) := (if ((sS S 3 s1).1 3) = 0 then ((f_X1_hasLaw (sS S 3 s1) p1).bind fun v2 => (if v2 = 0 then some (0, (sS S 3 s1)) else some (1, (sS S 3 s1)))) else some (0, (sS S 3 s1)))
def f_X1_isLawful (S : St) (p1 : Int32) : Option (Int32 × St) := (if (f_X1_isFunction S p1) = 0 then (f_X1_isLawful_14 p1 S 1) else (f_X1_isLawful_14 p1 S 0))
def f_X1_rises_92 (p1 : Int32) (K32 : St → Int32 → Int32 → Option (Int32 × St)) (K47 : St → Int32 → Int32 → Int32 → Option (Int32 × St)) (S : St) (x3 : Int32) (x4 : Int32) (s0 : Int32) (s1 : Int32) : Option (Int32 × St) := (bnd (s0 &&& s1) fun y1 => (bnd (x4 + 1) fun y2 => (K47 S y1 x3 y2)))
def f_X1_rises_47 (p1 : Int32) (K32 : St → Int32 → Int32 → Option (Int32 × St)) : Nat → St → Int32 → Int32 → Int32 → Option (Int32 × St)
  | 0, _, _, _, _ => none
  | k + 1, S, x2, x3, x4 => (if (S.1 0) ≤ x4 then (bnd (x3 + 1) fun y2 => (K32 S x2 y2)) else ((rdA 512 (S.2 5) ((64 * p1) + x3)).bind fun v3 => ((rdA 512 (S.2 5) ((64 * p1) + (x3 ||| ((1 : Int32) <<< (x4 &&& 31))))).bind fun v4 => (if v4 < v3 then (f_X1_rises_92 p1 K32 (f_X1_rises_47 p1 K32 k) S x3 x4 x2 0) else (f_X1_rises_92 p1 K32 (f_X1_rises_47 p1 K32 k) S x3 x4 x2 1)))))
def f_X1_rises_32 (p1 : Int32) : Nat → St → Int32 → Int32 → Option (Int32 × St)
  | 0, _, _, _ => none
  | k + 1, S, x2, x3 => (if (f_X1_isSet S x3) = 0 then (if x2 &&& 1 = x2 then some (x2, S) else none) else (if x2 = 0 then (if x2 &&& 1 = x2 then some (x2, S) else none) else (f_X1_rises_47 p1 (f_X1_rises_32 p1 k) 70 S x2 x3 0)))
def f_X1_rises_14 (p1 : Int32) (S : St) (s1 : Int32) : Option (Int32 × St) := (if ((sS S 3 s1).1 3) = 0 then (f_X1_rises_32 p1 70 (sS S 3 s1) 1 0) else (f_X1_rises_32 p1 70 (sS S 3 s1) 0 0))
def f_X1_rises (S : St) (p1 : Int32) : Option (Int32 × St) := (if (f_X1_isFunction S p1) = 0 then (f_X1_rises_14 p1 S 1) else (f_X1_rises_14 p1 S 0))
def f_X1_least_26 (p1 : Int32) (S : St) (s1 : Int32) : Option (Int32 × St) := (if ((sS S 3 s1).1 3) ≤ 0 then ((f_X1_leastOf (sS S 3 s1) p1).bind fun v2 => some (v2, (sS S 3 s1))) else some (0, (sS S 3 s1)))
def f_X1_least (S : St) (p1 : Int32) : Option (Int32 × St) := (if (f_X1_isFunction S p1) = 0 then (f_X1_least_26 p1 S 1) else ((f_X1_hasLaw S p1).bind fun v2 => (if v2 = 0 then (f_X1_least_26 p1 S 2) else (f_X1_least_26 p1 S 0))))
def f_X1_leastSets_121 (p1 p2 : Int32) (K60 : St → Int32 → Int32 → Int32 → Int32 → Option (Int32 × St)) (S : St) (x3 : Int32) (x4 : Int32) (x6 : Int32) (s0 : Int32) (s1 : Int32) : Option (Int32 × St) := (bnd (s0 ||| s1) fun y1 => (bnd (x6 + 1) fun y2 => (K60 S x3 x4 y1 y2)))
def f_X1_leastSets_94 (p1 p2 : Int32) (K60 : St → Int32 → Int32 → Int32 → Int32 → Option (Int32 × St)) (S : St) (x3 : Int32) (x5 : Int32) (x6 : Int32) (s0 : Int32) (s1 : Int32) : Option (Int32 × St) := (bnd (s0 &&& s1) fun y1 => ((rdA 512 (S.2 5) ((64 * p1) + x6)).bind fun v2 => (if v2 = x3 then (f_X1_leastSets_121 p1 p2 K60 S x3 y1 x6 x5 x6) else (f_X1_leastSets_121 p1 p2 K60 S x3 y1 x6 x5 0))))
def f_X1_leastSets_60 (p1 p2 : Int32) : Nat → St → Int32 → Int32 → Int32 → Int32 → Option (Int32 × St)
  | 0, _, _, _, _, _ => none
  | k + 1, S, x3, x4, x5, x6 => (if (f_X1_isSet S x6) = 0 then (if p2 = 0 then some (x4, S) else some (x5, S)) else ((rdA 512 (S.2 5) ((64 * p1) + x6)).bind fun v3 => (if v3 = x3 then (f_X1_leastSets_94 p1 p2 (f_X1_leastSets_60 p1 p2 k) S x3 x5 x6 x4 x6) else (f_X1_leastSets_94 p1 p2 (f_X1_leastSets_60 p1 p2 k) S x3 x5 x6 x4 x4))))
def f_X1_leastSets_26 (p1 p2 : Int32) (S : St) (s1 : Int32) : Option (Int32 × St) := (if ((sS S 3 s1).1 3) ≤ 0 then ((f_X1_leastOf (sS S 3 s1) p1).bind fun v2 => (bnd (((1 : Int32) <<< (((sS S 3 s1).1 0) &&& 31)) - 1) fun y3 => (f_X1_leastSets_60 p1 p2 70 (sS S 3 s1) v2 y3 0 0))) else some (0, (sS S 3 s1)))
def f_X1_leastSets (S : St) (p1 : Int32) (p2 : Int32) : Option (Int32 × St) := (if (f_X1_isFunction S p1) = 0 then (f_X1_leastSets_26 p1 p2 S 1) else ((f_X1_hasLaw S p1).bind fun v2 => (if v2 = 0 then (f_X1_leastSets_26 p1 p2 S 2) else (f_X1_leastSets_26 p1 p2 S 0))))
def f_X1_leastSet (S : St) (p1 : Int32) (p2 : Int32) : Option (Int32 × St) := ((f_X1_leastSets S p1 p2).bind fun q1 => some (q1.1, q1.2))
def f_X1_leastSetAnew (S : St) (p1 : Int32) (p2 : Int32) : Option (Int32 × St) := ((f_X1_leastSets S p1 p2).bind fun q1 => some (q1.1, q1.2))
def f_X1_order_70 (p1 : Int32) (S : St) (s1 : Int32) : Option (Int32 × St) := ((wrA 6 ((sS S 2 s1).2 6) ((sS S 2 s1).1 2) p1).bind fun g1 => some (((sS (sA (sS S 2 s1) 6 g1) 2 (((sA (sS S 2 s1) 6 g1).1 2) + 1)).1 2), (sS (sA (sS S 2 s1) 6 g1) 2 (((sA (sS S 2 s1) 6 g1).1 2) + 1))))
def f_X1_order_38 (p1 : Int32) (S : St) (s1 : Int32) : Option (Int32 × St) := (if ((sS S 3 s1).1 3) ≤ 0 then (if ((sS S 3 s1).1 2) = ((sS S 3 s1).1 0) then (f_X1_order_70 p1 (sS S 3 s1) 0) else (f_X1_order_70 p1 (sS S 3 s1) ((sS S 3 s1).1 2))) else some (0, (sS S 3 s1)))
def f_X1_order (S : St) (p1 : Int32) : Option (Int32 × St) := (if (f_X1_isElement S p1) = 0 then (f_X1_order_38 p1 S 1) else (if (S.1 0) ≤ (S.1 2) then (f_X1_order_38 p1 S 0) else ((f_X1_placeOf S p1).bind fun v3 => (if v3 = (-1) then (f_X1_order_38 p1 S 0) else (f_X1_order_38 p1 S 2)))))
def f_X1_corner_52 (p1 p2 : Int32) : Nat → St → Int32 → Int32 → Option (Int32 × St)
  | 0, _, _, _ => none
  | k + 1, S, x3, x4 => ((f_X1_placeOf S p2).bind fun v1 => (if v1 ≤ x4 then ((rdA 512 (S.2 5) ((64 * p1) + (x3 ||| ((1 : Int32) <<< (p2 &&& 31))))).bind fun v3 => ((rdA 512 (S.2 5) ((64 * p1) + x3)).bind fun v4 => some ((v3 - v4), S))) else ((rdA 6 (S.2 6) x4).bind fun v5 => (bnd (x3 ||| ((1 : Int32) <<< (v5 &&& 31))) fun y6 => (bnd (x4 + 1) fun y7 => ((f_X1_corner_52 p1 p2 k) S y6 y7))))))
def f_X1_corner_35 (p1 p2 : Int32) (S : St) (s1 : Int32) : Option (Int32 × St) := (if ((sS S 3 s1).1 3) ≤ 0 then (f_X1_corner_52 p1 p2 70 (sS S 3 s1) 0 0) else some (0, (sS S 3 s1)))
def f_X1_corner (S : St) (p1 : Int32) (p2 : Int32) : Option (Int32 × St) := (if (f_X1_isFunction S p1) = 0 then (f_X1_corner_35 p1 p2 S 1) else (if (f_X1_isElement S p2) = 0 then (f_X1_corner_35 p1 p2 S 1) else ((f_X1_placeOf S p2).bind fun v3 => (if v3 = (-1) then (f_X1_corner_35 p1 p2 S 2) else (f_X1_corner_35 p1 p2 S 0)))))
def f_X1_greedy_65 (p1 p2 : Int32) (K45 : St → Int32 → Int32 → Option (Int32 × St)) : Nat → St → Int32 → Int32 → Int32 → Option (Int32 × St)
  | 0, _, _, _, _ => none
  | k + 1, S, x3, x4, x5 => (if (S.1 0) ≤ x5 then (K45 S x3 x4) else (bnd (x4 ||| ((1 : Int32) <<< (x5 &&& 31))) fun y2 => ((rdA 512 (S.2 5) ((64 * p1) + y2)).bind fun v3 => ((rdA 512 (S.2 5) ((64 * p1) + x3)).bind fun v4 => (if v3 ≤ v4 then (bnd (x5 + 1) fun y6 => ((f_X1_greedy_65 p1 p2 K45 k) S x3 x4 y6)) else (bnd (x5 + 1) fun y7 => ((f_X1_greedy_65 p1 p2 K45 k) S y2 x4 y7)))))))
def f_X1_greedy_45 (p1 p2 : Int32) : Nat → St → Int32 → Int32 → Option (Int32 × St)
  | 0, _, _, _ => none
  | k + 1, S, x3, x4 => (if x3 = x4 then some (x3, S) else ((f_X1_many x3).bind fun v2 => (if p2 ≤ v2 then some (x3, S) else (f_X1_greedy_65 p1 p2 (f_X1_greedy_45 p1 p2 k) 70 S x3 x3 0))))
def f_X1_greedy_28 (p1 p2 : Int32) (S : St) (s1 : Int32) : Option (Int32 × St) := (if ((sS S 3 s1).1 3) ≤ 0 then (f_X1_greedy_45 p1 p2 70 (sS S 3 s1) 0 (-1)) else some (0, (sS S 3 s1)))
def f_X1_greedy (S : St) (p1 : Int32) (p2 : Int32) : Option (Int32 × St) := (if (f_X1_isFunction S p1) = 0 then (f_X1_greedy_28 p1 p2 S 1) else (if (f_X1_isIn p2 0 6) = 0 then (f_X1_greedy_28 p1 p2 S 2) else (f_X1_greedy_28 p1 p2 S 0)))
def f_X1_best_36 (p1 p2 : Int32) : Nat → St → Int32 → Int32 → Option (Int32 × St)
  | 0, _, _, _ => none
  | k + 1, S, x3, x4 => (if (f_X1_isSet S x4) = 0 then some (x3, S) else (if (S.1 3) = 0 then ((f_X1_many x4).bind fun v3 => (if p2 < v3 then (bnd (x4 + 1) fun y5 => ((f_X1_best_36 p1 p2 k) S x3 y5)) else ((rdA 512 (S.2 5) ((64 * p1) + x4)).bind fun v6 => (if v6 ≤ x3 then (bnd (x4 + 1) fun y8 => ((f_X1_best_36 p1 p2 k) S x3 y8)) else ((rdA 512 (S.2 5) ((64 * p1) + x4)).bind fun v9 => (bnd (x4 + 1) fun y10 => ((f_X1_best_36 p1 p2 k) S v9 y10))))))) else some (x3, S)))
def f_X1_best_28 (p1 p2 : Int32) (S : St) (s1 : Int32) : Option (Int32 × St) := (f_X1_best_36 p1 p2 70 (sS S 3 s1) 0 0)
def f_X1_best (S : St) (p1 : Int32) (p2 : Int32) : Option (Int32 × St) := (if (f_X1_isFunction S p1) = 0 then (f_X1_best_28 p1 p2 S 1) else (if (f_X1_isIn p2 0 6) = 0 then (f_X1_best_28 p1 p2 S 2) else (f_X1_best_28 p1 p2 S 0)))
def f_X1_common (S : St) : Option (Int32 × St) := ((f_X1_commonSize (sS S 3 0) ).bind fun v1 => some (v1, (sS S 3 0)))
def f_X1_commonAnew (S : St) : Option (Int32 × St) := ((f_X1_commonSize (sS S 3 0) ).bind fun v1 => some (v1, (sS S 3 0)))
def f_X1_shares_220 (p1 p2 : Int32) (K65 : St → Int32 → Int32 → Int32 → Option (Int32 × St)) (K84 : St → Int32 → Int32 → Int32 → Int32 → Int32 → Int32 → Int32 → Option (Int32 × St)) (S : St) (x3 : Int32) (x5 : Int32) (x6 : Int32) (x7 : Int32) (x8 : Int32) (x9 : Int32) (x11 : Int32) (s0 : Int32) (s1 : Int32) : Option (Int32 × St) := (bnd (s0 + s1) fun y1 => (bnd (x7 ||| ((1 : Int32) <<< (x11 &&& 31))) fun y2 => (bnd (x9 + 1) fun y3 => (K84 S x3 y1 x5 x6 y2 x8 y3))))
def f_X1_shares_177 (p1 p2 : Int32) (K65 : St → Int32 → Int32 → Int32 → Option (Int32 × St)) (K84 : St → Int32 → Int32 → Int32 → Int32 → Int32 → Int32 → Int32 → Option (Int32 × St)) (S : St) (x3 : Int32) (x4 : Int32) (x5 : Int32) (x6 : Int32) (x7 : Int32) (x9 : Int32) (x11 : Int32) (s0 : Int32) : Option (Int32 × St) := (if s0 = 0 then (f_X1_shares_220 p1 p2 K65 K84 S x3 x5 x6 x7 s0 x9 x11 x4 0) else ((rdA 512 (S.2 5) ((64 * p1) + (x7 ||| ((1 : Int32) <<< (x11 &&& 31))))).bind fun v2 => ((rdA 512 (S.2 5) ((64 * p1) + x7)).bind fun v3 => (f_X1_shares_220 p1 p2 K65 K84 S x3 x5 x6 x7 s0 x9 x11 x4 (v2 - v3)))))
def f_X1_shares_157 (p1 p2 : Int32) (K65 : St → Int32 → Int32 → Int32 → Option (Int32 × St)) (K84 : St → Int32 → Int32 → Int32 → Int32 → Int32 → Int32 → Int32 → Option (Int32 × St)) (K125 : St → Int32 → Int32 → Int32 → Int32 → Int32 → Int32 → Int32 → Int32 → Option (Int32 × St)) (S : St) (x3 : Int32) (x4 : Int32) (x5 : Int32) (x6 : Int32) (x7 : Int32) (x9 : Int32) (x11 : Int32) (s0 : Int32) (s1 : Int32) : Option (Int32 × St) := (bnd (s0 - s1) fun y1 => (bnd (x11 + 1) fun y2 => (K125 S x3 x4 x5 x6 x7 x9 y1 y2)))
def f_X1_shares_140 (p1 p2 : Int32) (K65 : St → Int32 → Int32 → Int32 → Option (Int32 × St)) (K84 : St → Int32 → Int32 → Int32 → Int32 → Int32 → Int32 → Int32 → Option (Int32 × St)) (K125 : St → Int32 → Int32 → Int32 → Int32 → Int32 → Int32 → Int32 → Int32 → Option (Int32 × St)) (S : St) (x3 : Int32) (x4 : Int32) (x5 : Int32) (x6 : Int32) (x7 : Int32) (x9 : Int32) (x10 : Int32) (x11 : Int32) : Option (Int32 × St) := (if (f_X1_has x7 x11) = 0 then (f_X1_shares_157 p1 p2 K65 K84 K125 S x3 x4 x5 x6 x7 x9 x11 x10 1) else (f_X1_shares_157 p1 p2 K65 K84 K125 S x3 x4 x5 x6 x7 x9 x11 x10 0))
def f_X1_shares_125 (p1 p2 : Int32) (K65 : St → Int32 → Int32 → Int32 → Option (Int32 × St)) (K84 : St → Int32 → Int32 → Int32 → Int32 → Int32 → Int32 → Int32 → Option (Int32 × St)) : Nat → St → Int32 → Int32 → Int32 → Int32 → Int32 → Int32 → Int32 → Int32 → Option (Int32 × St)
  | 0, _, _, _, _, _, _, _, _, _ => none
  | k + 1, S, x3, x4, x5, x6, x7, x9, x10, x11 => (if (f_X1_has x7 x11) = 0 then (if x10 ≤ 0 then (if x11 = p2 then (f_X1_shares_177 p1 p2 K65 K84 S x3 x4 x5 x6 x7 x9 x11 1) else (f_X1_shares_177 p1 p2 K65 K84 S x3 x4 x5 x6 x7 x9 x11 0)) else (f_X1_shares_140 p1 p2 K65 K84 (f_X1_shares_125 p1 p2 K65 K84 k) S x3 x4 x5 x6 x7 x9 x10 x11)) else (f_X1_shares_140 p1 p2 K65 K84 (f_X1_shares_125 p1 p2 K65 K84 k) S x3 x4 x5 x6 x7 x9 x10 x11))
def f_X1_shares_84 (p1 p2 : Int32) (K65 : St → Int32 → Int32 → Int32 → Option (Int32 × St)) : Nat → St → Int32 → Int32 → Int32 → Int32 → Int32 → Int32 → Int32 → Option (Int32 × St)
  | 0, _, _, _, _, _, _, _, _ => none
  | k + 1, S, x3, x4, x5, x6, x7, x8, x9 => (if (S.1 0) ≤ x9 then (bnd (x5 + 1) fun y2 => (K65 S x3 x4 y2)) else (if x8 = 0 then (if ((S.1 0) - x9) = 0 then none else (bnd (x6 - x6 / ((S.1 0) - x9) * ((S.1 0) - x9)) fun y6 => (if ((S.1 0) - x9) = 0 then none else (bnd (x6 / ((S.1 0) - x9)) fun y8 => (f_X1_shares_125 p1 p2 K65 (f_X1_shares_84 p1 p2 K65 k) 800 S x3 x4 x5 y8 x7 x9 y6 0))))) else (bnd (x5 + 1) fun y4 => (K65 S x3 x4 y4))))
def f_X1_shares_65 (p1 p2 : Int32) : Nat → St → Int32 → Int32 → Int32 → Option (Int32 × St)
  | 0, _, _, _, _ => none
  | k + 1, S, x3, x4, x5 => (if x3 ≤ x5 then some (x4, S) else (f_X1_shares_84 p1 p2 (f_X1_shares_65 p1 p2 k) 800 S x3 x4 x5 x5 0 0 0))
def f_X1_shares_39 (p1 p2 : Int32) : Nat → St → Int32 → Int32 → Option (Int32 × St)
  | 0, _, _, _ => none
  | k + 1, S, x3, x4 => (if (S.1 0) < x4 then (f_X1_shares_65 p1 p2 800 S x3 0 0) else (bnd (x3 * x4) fun y2 => (bnd (x4 + 1) fun y3 => ((f_X1_shares_39 p1 p2 k) S y2 y3))))
def f_X1_shares_22 (p1 p2 : Int32) (S : St) (s1 : Int32) : Option (Int32 × St) := (if ((sS S 3 s1).1 3) ≤ 0 then (f_X1_shares_39 p1 p2 800 (sS S 3 s1) 1 2) else some (0, (sS S 3 s1)))
def f_X1_shares (S : St) (p1 : Int32) (p2 : Int32) : Option (Int32 × St) := (if (f_X1_isFunction S p1) = 0 then (f_X1_shares_22 p1 p2 S 1) else (if (f_X1_isElement S p2) = 0 then (f_X1_shares_22 p1 p2 S 1) else (f_X1_shares_22 p1 p2 S 0)))
def f_X1_share (S : St) (p1 : Int32) (p2 : Int32) : Option (Int32 × St) := ((f_X1_shares S p1 p2).bind fun q1 => some (q1.1, q1.2))
def f_X1_shareAnew (S : St) (p1 : Int32) (p2 : Int32) : Option (Int32 × St) := ((f_X1_shares S p1 p2).bind fun q1 => some (q1.1, q1.2))
theorem cd_X1_forgets : yX1_forgets.cls = RX1 ∧ yX1_forgets.cls ≠ "java/lang/invoke/MethodHandle" ∧ yX1_forgets.cls ≠ "java/lang/invoke/VarHandle" ∧ (parseMethodDescriptor yX1_forgets.desc).map (fun d => d.parameters.length) = some 0 := by decide +kernel
set_option maxHeartbeats 4000000 in
set_option maxRecDepth 100000 in
theorem k_X1_forgets (l : Launch) (dC : Nat → ClassId) (dI : Nat → Nat → Nat) (cA : ClassId) (a : Nat → Nat) (S : St) (r : St) (hf : f_X1_forgets S = some r) (hap : apart a 8) : Met l yX1_forgets wsX1_forgets ({ frames := 0, cells := 0, slots := 0, locals := 0 }) (va_Pc [.ref (a 0)] (PMs (dC, dI) cA a S)) (mMv (dC, dI) cA a r) 0 0 (ad a 8) := by
  refine Met.ofW (cc := cX1_forgets) (maxL := 2) (ret := none) (by decide) rfl ?_
  intro p e s m args below meth c s₁ B hml hv
  obtain ⟨rfl, hP, hK⟩ := hv
  have hx := B.exec
  have hb := B.bytes
  have hr := B.returns
  have hts := atoms_spec (ws := wsX1_forgets) B.pre
  have hown : s.vm.findClass RX1 = some m.cls := findClass_of_methodNamed B.named
  have hlocks := B.notSynchronized
  have hin : ∀ w ∈ u_ws RX1 TX1 11, w ∈ wsX1_forgets := by decide +kernel
  have hw0 := hts (.fieldLink RX1 20 "SubmodularyModel" "colours" "[I") (by decide +kernel)
  have hw1 := hts (.fieldLink RX1 23 "SubmodularyModel" "rooms" "[I") (by decide +kernel)
  have hw2 := hts (.fieldLink RX1 17 "SubmodularyModel" "edges" "[I") (by decide +kernel)
  have hw3 := hts (.fieldLink RX1 13 "SubmodularyModel" "points" "[I") (by decide +kernel)
  have hw4 := hts (.fieldLink RX1 26 "SubmodularyModel" "weights" "[I") (by decide +kernel)
  have hw5 := hts (.fieldLink RX1 38 "SubmodularyModel" "functions" "I") (by decide +kernel)
  have hw6 := hts (.fieldLink RX1 41 "SubmodularyModel" "told" "I") (by decide +kernel)
  have hS : va_S (ad a 8) s.heap s.heap [] := va_S.rf
  have hl := lv_entry ([.ref (a 0)]) (n := 2) (Nat.le_of_ble_eq_true rfl)
  rw [lg_entry_eq]
  generalize (lg_sl ([.ref (a 0)]) ++ List.replicate (2 - (lg_sl ([.ref (a 0)])).length) Slot.unset).toArray = ls at hl ⊢
  have hl : lv_has ls 2 [(0, .ref (a 0))] := hl
  have hW61 : ∀ (k61 : Nat) (S : St) (x1 : Int32) (H : Heap) (locs : List Loc) (ls : Array Slot), f_X1_forgets_61 k61 S x1 = some r → va_P (dC, dI) vwCl (wM cA a S) H → va_S (ad a 8) s.heap H locs → lv_has ls 2 [(0, .ref (a 0)), (1, .int x1)] → W p l e (headSpec wsX1_forgets ({ frames := 0, cells := 0, slots := 0, locals := 0 })).room s m ([.ref (a 0)] : List Value).toArray below meth c H locs 0 0 (MQ below (mMv (dC, dI) cA a r) ([.ref (a 0)] : List Value).toArray s 0 0 (ad a 8)) (F0 m 61 ls []) := by
    intro k61
    induction k61 with
    | zero =>
      intro S x1 H locs ls hf hP hS hl
      rw [f_X1_forgets_61] at hf
      cases hf
    | succ k61 ih61 =>
      intro S x1 H locs ls hf hP hS hl
      rw [f_X1_forgets_61] at hf
      refine lv_iload_n hx hb dX1_forgets_61 rfl (lv_at hl 1 rfl) ?_
      refine lv_bipush (v := 12) hx hb dX1_forgets_62 (by decide) ?_
      refine lv_icmp_ge (tgt := 87) hx hb dX1_forgets_64 (by decide) (fun c1 => ?_) (fun c1 => ?_)
      · rw [if_pos c1] at hf
        have hf := Option.some.inj hf; subst hf
        exact W.vret hx hb hr (fun t ht hW => ⟨⟨rfl, by rw [ht]; exact hP⟩, hS.F ht⟩) hS.2.2 dX1_forgets_87
      · rw [if_neg c1] at hf
        refine lv_aload_n hx hb dX1_forgets_67 rfl (lv_at hl 0 rfl) ?_
        refine gfM hx hb hts hin hown hK hP 3 (by decide) hw0 rfl rfl dX1_forgets_68 ?_
        refine lv_iload_n hx hb dX1_forgets_71 rfl (lv_at hl 1 rfl) ?_
        refine lv_iconst (v := 0) hx hb dX1_forgets_72 (by decide) ?_
        obtain ⟨g2, hg2, hf⟩ := ob_some hf
        refine wrM hx hb hK hP hap hS 2 (wM_q2 cA a _) (fun g => wM_s2 cA a _ g) hg2 dX1_forgets_73 (fun H locs hP hS => ?_)
        refine lv_aload_n hx hb dX1_forgets_74 rfl (lv_at hl 0 rfl) ?_
        refine gfM hx hb hts hin hown hK hP 4 (by decide) hw1 rfl rfl dX1_forgets_75 ?_
        refine lv_iload_n hx hb dX1_forgets_78 rfl (lv_at hl 1 rfl) ?_
        refine lv_iconst (v := 1) hx hb dX1_forgets_79 (by decide) ?_
        obtain ⟨g3, hg3, hf⟩ := ob_some hf
        refine wrM hx hb hK hP hap hS 3 (wM_q3 cA a _) (fun g => wM_s3 cA a _ g) hg3 dX1_forgets_80 (fun H locs hP hS => ?_)
        obtain ⟨y4, ey4⟩ : ∃ y : Int32, y = (x1 + 1) := ⟨_, rfl⟩
        have hf := bnd_at hf ey4
        refine lv_iinc (v := y4) (lv' := [(1, .int y4), (0, .ref (a 0))]) hx hb dX1_forgets_81 hl (k := 1) rfl (by rw [ey4]; rfl) (by decide) rfl (fun ls hl => ?_)
        refine lv_goto (tgt := 61) hx hb dX1_forgets_84 (by decide) ?_
        exact ih61 (sA (sA S 2 g2) 3 g3) y4 _ _ ls hf hP hS (lv_sub hl [1, 0] rfl)
  have hW40 : ∀ (k40 : Nat) (S : St) (x1 : Int32) (H : Heap) (locs : List Loc) (ls : Array Slot), f_X1_forgets_40 k40 S x1 = some r → va_P (dC, dI) vwCl (wM cA a S) H → va_S (ad a 8) s.heap H locs → lv_has ls 2 [(0, .ref (a 0)), (1, .int x1)] → W p l e (headSpec wsX1_forgets ({ frames := 0, cells := 0, slots := 0, locals := 0 })).room s m ([.ref (a 0)] : List Value).toArray below meth c H locs 0 0 (MQ below (mMv (dC, dI) cA a r) ([.ref (a 0)] : List Value).toArray s 0 0 (ad a 8)) (F0 m 40 ls []) := by
    intro k40
    induction k40 with
    | zero =>
      intro S x1 H locs ls hf hP hS hl
      rw [f_X1_forgets_40] at hf
      cases hf
    | succ k40 ih40 =>
      intro S x1 H locs ls hf hP hS hl
      rw [f_X1_forgets_40] at hf
      refine lv_iload_n hx hb dX1_forgets_40 rfl (lv_at hl 1 rfl) ?_
      refine lv_bipush (v := 36) hx hb dX1_forgets_41 (by decide) ?_
      refine lv_icmp_ge (tgt := 59) hx hb dX1_forgets_43 (by decide) (fun c5 => ?_) (fun c5 => ?_)
      · rw [if_pos c5] at hf
        refine lv_iconst (v := 0) hx hb dX1_forgets_59 (by decide) ?_
        refine lv_istore_n (lv' := [(1, .int 0), (0, .ref (a 0))]) hx hb dX1_forgets_60 rfl hl (by decide) rfl (fun ls hl => ?_)
        exact hW61 70 S 0 _ _ ls hf hP hS (lv_sub hl [1, 0] rfl)
      · rw [if_neg c5] at hf
        refine lv_aload_n hx hb dX1_forgets_46 rfl (lv_at hl 0 rfl) ?_
        refine gfM hx hb hts hin hown hK hP 2 (by decide) hw2 rfl rfl dX1_forgets_47 ?_
        refine lv_iload_n hx hb dX1_forgets_50 rfl (lv_at hl 1 rfl) ?_
        refine lv_iconst (v := 0) hx hb dX1_forgets_51 (by decide) ?_
        obtain ⟨g6, hg6, hf⟩ := ob_some hf
        refine wrM hx hb hK hP hap hS 1 (wM_q1 cA a _) (fun g => wM_s1 cA a _ g) hg6 dX1_forgets_52 (fun H locs hP hS => ?_)
        obtain ⟨y7, ey7⟩ : ∃ y : Int32, y = (x1 + 1) := ⟨_, rfl⟩
        have hf := bnd_at hf ey7
        refine lv_iinc (v := y7) (lv' := [(1, .int y7), (0, .ref (a 0))]) hx hb dX1_forgets_53 hl (k := 1) rfl (by rw [ey7]; rfl) (by decide) rfl (fun ls hl => ?_)
        refine lv_goto (tgt := 40) hx hb dX1_forgets_56 (by decide) ?_
        exact ih40 (sA S 1 g6) y7 _ _ ls hf hP hS (lv_sub hl [1, 0] rfl)
  have hW12 : ∀ (k12 : Nat) (S : St) (x1 : Int32) (H : Heap) (locs : List Loc) (ls : Array Slot), f_X1_forgets_12 k12 S x1 = some r → va_P (dC, dI) vwCl (wM cA a S) H → va_S (ad a 8) s.heap H locs → lv_has ls 2 [(0, .ref (a 0)), (1, .int x1)] → W p l e (headSpec wsX1_forgets ({ frames := 0, cells := 0, slots := 0, locals := 0 })).room s m ([.ref (a 0)] : List Value).toArray below meth c H locs 0 0 (MQ below (mMv (dC, dI) cA a r) ([.ref (a 0)] : List Value).toArray s 0 0 (ad a 8)) (F0 m 12 ls []) := by
    intro k12
    induction k12 with
    | zero =>
      intro S x1 H locs ls hf hP hS hl
      rw [f_X1_forgets_12] at hf
      cases hf
    | succ k12 ih12 =>
      intro S x1 H locs ls hf hP hS hl
      rw [f_X1_forgets_12] at hf
      refine lv_iload_n hx hb dX1_forgets_12 rfl (lv_at hl 1 rfl) ?_
      refine lv_bipush (v := 6) hx hb dX1_forgets_13 (by decide) ?_
      refine lv_icmp_ge (tgt := 38) hx hb dX1_forgets_15 (by decide) (fun c8 => ?_) (fun c8 => ?_)
      · rw [if_pos c8] at hf
        refine lv_iconst (v := 0) hx hb dX1_forgets_38 (by decide) ?_
        refine lv_istore_n (lv' := [(1, .int 0), (0, .ref (a 0))]) hx hb dX1_forgets_39 rfl hl (by decide) rfl (fun ls hl => ?_)
        exact hW40 70 S 0 _ _ ls hf hP hS (lv_sub hl [1, 0] rfl)
      · rw [if_neg c8] at hf
        refine lv_aload_n hx hb dX1_forgets_18 rfl (lv_at hl 0 rfl) ?_
        refine gfM hx hb hts hin hown hK hP 1 (by decide) hw3 rfl rfl dX1_forgets_19 ?_
        refine lv_iload_n hx hb dX1_forgets_22 rfl (lv_at hl 1 rfl) ?_
        refine lv_iconst (v := 0) hx hb dX1_forgets_23 (by decide) ?_
        obtain ⟨g9, hg9, hf⟩ := ob_some hf
        refine wrM hx hb hK hP hap hS 0 (wM_q0 cA a _) (fun g => wM_s0 cA a _ g) hg9 dX1_forgets_24 (fun H locs hP hS => ?_)
        refine lv_aload_n hx hb dX1_forgets_25 rfl (lv_at hl 0 rfl) ?_
        refine gfM hx hb hts hin hown hK hP 5 (by decide) hw4 rfl rfl dX1_forgets_26 ?_
        refine lv_iload_n hx hb dX1_forgets_29 rfl (lv_at hl 1 rfl) ?_
        refine lv_iconst (v := 0) hx hb dX1_forgets_30 (by decide) ?_
        obtain ⟨g10, hg10, hf⟩ := ob_some hf
        refine wrM hx hb hK hP hap hS 4 (wM_q4 cA a _) (fun g => wM_s4 cA a _ g) hg10 dX1_forgets_31 (fun H locs hP hS => ?_)
        obtain ⟨y11, ey11⟩ : ∃ y : Int32, y = (x1 + 1) := ⟨_, rfl⟩
        have hf := bnd_at hf ey11
        refine lv_iinc (v := y11) (lv' := [(1, .int y11), (0, .ref (a 0))]) hx hb dX1_forgets_32 hl (k := 1) rfl (by rw [ey11]; rfl) (by decide) rfl (fun ls hl => ?_)
        refine lv_goto (tgt := 12) hx hb dX1_forgets_35 (by decide) ?_
        exact ih12 (sA (sA S 0 g9) 4 g10) y11 _ _ ls hf hP hS (lv_sub hl [1, 0] rfl)
  unfold f_X1_forgets at hf
  refine lv_aload_n hx hb dX1_forgets_0 rfl (lv_at hl 0 rfl) ?_
  refine lv_iconst (v := 0) hx hb dX1_forgets_1 (by decide) ?_
  refine pfM hx hb hts hin hown hK hP hap hS 6 (by decide) hw5 rfl rfl (by decide +kernel) (k2 := 1) (fun _ => rfl) dX1_forgets_2 (fun H locs hP hS => ?_)
  refine lv_aload_n hx hb dX1_forgets_5 rfl (lv_at hl 0 rfl) ?_
  refine lv_iconst (v := 0) hx hb dX1_forgets_6 (by decide) ?_
  refine pfM hx hb hts hin hown hK hP hap hS 8 (by decide) hw6 rfl rfl (by decide +kernel) (k2 := 2) (fun _ => rfl) dX1_forgets_7 (fun H locs hP hS => ?_)
  refine lv_iconst (v := 0) hx hb dX1_forgets_10 (by decide) ?_
  refine lv_istore_n (lv' := [(1, .int 0), (0, .ref (a 0))]) hx hb dX1_forgets_11 rfl hl (by decide) rfl (fun ls hl => ?_)
  exact hW12 70 (sS (sS S 1 0) 2 0) 0 _ _ ls hf hP hS (lv_sub hl [1, 0] rfl)
theorem cd_X1_elements : yX1_elements.cls = RX1 ∧ yX1_elements.cls ≠ "java/lang/invoke/MethodHandle" ∧ yX1_elements.cls ≠ "java/lang/invoke/VarHandle" ∧ (parseMethodDescriptor yX1_elements.desc).map (fun d => d.parameters.length) = some 1 := by decide +kernel
set_option maxHeartbeats 4000000 in
set_option maxRecDepth 100000 in
theorem k_X1_elements (l : Launch) (dC : Nat → ClassId) (dI : Nat → Nat → Nat) (cA : ClassId) (a : Nat → Nat) (S : St) (p1 : Int32) (r : Int32 × St) (hf : f_X1_elements S p1 = some r) (hap : apart a 8) : Met l yX1_elements wsX1_elements ({ frames := 1, cells := 0, slots := 0, locals := 22 }) (va_Pc [.ref (a 0), .int p1] (PMs (dC, dI) cA a S)) (mMi (dC, dI) cA a r.1 r.2) 0 0 (ad a 8) := by
  refine Met.ofW (cc := cX1_elements) (maxL := 3) (ret := (some .int)) (by decide) rfl ?_
  intro p e s m args below meth c s₁ B hml hv
  obtain ⟨rfl, hP, hK⟩ := hv
  have hx := B.exec
  have hb := B.bytes
  have hr := B.returns
  have hts := atoms_spec (ws := wsX1_elements) B.pre
  have hown : s.vm.findClass RX1 = some m.cls := findClass_of_methodNamed B.named
  have hlocks := B.notSynchronized
  have hin : ∀ w ∈ u_ws RX1 TX1 11, w ∈ wsX1_elements := by decide +kernel
  have hw0 := hts (.fieldLink RX1 44 "SubmodularyModel" "thrown" "I") (by decide +kernel)
  have hw1 := hts (.fieldLink RX1 7 "SubmodularyModel" "n" "I") (by decide +kernel)
  have hS : va_S (ad a 8) s.heap s.heap [] := va_S.rf
  have hl := lv_entry ([.ref (a 0), .int p1]) (n := 3) (Nat.le_of_ble_eq_true rfl)
  rw [lg_entry_eq]
  generalize (lg_sl ([.ref (a 0), .int p1]) ++ List.replicate (3 - (lg_sl ([.ref (a 0), .int p1])).length) Slot.unset).toArray = ls at hl ⊢
  have hl : lv_has ls 3 [(0, .ref (a 0)), (1, .int p1)] := hl
  have hW16 : ∀ (S : St) (s1 : Int32) (H : Heap) (locs : List Loc) (ls : Array Slot), f_X1_elements_16 p1 S s1 = some r → va_P (dC, dI) vwCl (wM cA a S) H → va_S (ad a 8) s.heap H locs → lv_has ls 3 [(0, .ref (a 0)), (1, .int p1)] → W p l e (headSpec wsX1_elements ({ frames := 1, cells := 0, slots := 0, locals := 22 })).room s m ([.ref (a 0), .int p1] : List Value).toArray below meth c H locs 0 0 (MQ below (mMi (dC, dI) cA a r.1 r.2) ([.ref (a 0), .int p1] : List Value).toArray s 0 0 (ad a 8)) (F0 m 16 ls [.int s1, .ref (a 0)]) := by
    intro S s1 H locs ls hf hP hS hl
    unfold f_X1_elements_16 at hf
    refine pfM hx hb hts hin hown hK hP hap hS 10 (by decide) hw0 rfl rfl (by decide +kernel) (k2 := 3) (fun _ => rfl) dX1_elements_16 (fun H locs hP hS => ?_)
    refine lv_aload_n hx hb dX1_elements_19 rfl (lv_at hl 0 rfl) ?_
    refine gfM hx hb hts hin hown hK hP 10 (by decide) hw0 rfl rfl dX1_elements_20 ?_
    refine lv_if_le (tgt := 28) hx hb dX1_elements_23 (by decide) (fun c1 => ?_) (fun c1 => ?_)
    · rw [if_pos c1] at hf
      refine lv_aload_n hx hb dX1_elements_28 rfl (lv_at hl 0 rfl) ?_
      refine gfM hx hb hts hin hown hK hP 0 (by decide) hw1 rfl rfl dX1_elements_29 ?_
      refine lv_topi (fun y2 ey2 => ?_)
      have hf := bnd_at hf ey2
      refine lv_istore_n (lv' := [(2, .int y2), (0, .ref (a 0)), (1, .int p1)]) hx hb dX1_elements_32 rfl hl (by decide) rfl (fun ls hl => ?_)
      refine lv_aload_n hx hb dX1_elements_33 rfl (lv_at hl 1 rfl) ?_
      refine lv_iload_n hx hb dX1_elements_34 rfl (lv_at hl 2 rfl) ?_
      refine pfM hx hb hts hin hown hK hP hap hS 0 (by decide) hw1 rfl rfl (by decide +kernel) (k2 := 0) (fun _ => rfl) dX1_elements_35 (fun H locs hP hS => ?_)
      refine lv_aload_n hx hb dX1_elements_38 rfl (lv_at hl 1 rfl) ?_
      obtain ⟨q3, hq3, hf⟩ := ob_some hf
      refine mu_Mv (As := []) (rest := []) ⟨hx, hb, hml, hown, hts⟩ (k_X1_forgets l dC dI cA a (sS (sS S 3 s1) 0 p1)  _ hq3 hap) gX1_elements_X1_forgets rfl rfl rfl cd_X1_forgets (Nat.le_of_ble_eq_true rfl) (Nat.le_of_ble_eq_true rfl) (preM hK hP) rfl hl.1 rfl (Nat.le_of_ble_eq_true rfl) (Nat.zero_le _) (Nat.zero_le _) dX1_elements_39 hS (fun H locs hP hS => ?_)
      refine lv_iload_n hx hb dX1_elements_42 rfl (lv_at hl 0 rfl) ?_
      have hf := Option.some.inj hf; subst hf
      exact W.iret hx hb hr (fun t ht hW => ⟨⟨rfl, by rw [ht]; exact hP⟩, hS.F ht⟩) hS.2.2 dX1_elements_43
    · rw [if_neg c1] at hf
      refine lv_iconst (v := 0) hx hb dX1_elements_26 (by decide) ?_
      have hf := Option.some.inj hf; subst hf
      exact W.iret hx hb hr (fun t ht hW => ⟨⟨rfl, by rw [ht]; exact hP⟩, hS.F ht⟩) hS.2.2 dX1_elements_27
  unfold f_X1_elements at hf
  refine lv_aload_n hx hb dX1_elements_0 rfl (lv_at hl 0 rfl) ?_
  refine lv_iload_n hx hb dX1_elements_1 rfl (lv_at hl 1 rfl) ?_
  refine lv_iconst (v := 1) hx hb dX1_elements_2 (by decide) ?_
  refine lv_bipush (v := 6) hx hb dX1_elements_3 (by decide) ?_
  refine pu_S (As := [.int p1, .int 1, .int 6]) (rest := [.ref (a 0)]) ⟨hx, hb, hml, hown, hts⟩ (k_X1_isIn l p1 1 6 _ rfl) gX1_elements_X1_isIn rfl rfl rfl cd_X1_isIn (Nat.le_of_ble_eq_true rfl) (Nat.le_of_ble_eq_true rfl) (preT) rfl hl.1 rfl (Nat.le_of_ble_eq_true rfl) (Nat.zero_le _) (Nat.zero_le _) dX1_elements_5 ?_
  refine lv_if_eq (tgt := 15) hx hb dX1_elements_8 (by decide) (fun c4 => ?_) (fun c4 => ?_)
  · rw [if_pos c4] at hf
    refine lv_iconst (v := 1) hx hb dX1_elements_15 (by decide) ?_
    exact hW16 S 1 _ _ ls hf hP hS (lv_sub hl [0, 1] rfl)
  · rw [if_neg c4] at hf
    refine lv_iconst (v := 0) hx hb dX1_elements_11 (by decide) ?_
    refine lv_goto (tgt := 16) hx hb dX1_elements_12 (by decide) ?_
    exact hW16 S 0 _ _ ls hf hP hS (lv_sub hl [0, 1] rfl)
theorem cd_X1_cover : yX1_cover.cls = RX1 ∧ yX1_cover.cls ≠ "java/lang/invoke/MethodHandle" ∧ yX1_cover.cls ≠ "java/lang/invoke/VarHandle" ∧ (parseMethodDescriptor yX1_cover.desc).map (fun d => d.parameters.length) = some 3 := by decide +kernel
set_option maxHeartbeats 4000000 in
set_option maxRecDepth 100000 in
theorem k_X1_cover (l : Launch) (dC : Nat → ClassId) (dI : Nat → Nat → Nat) (cA : ClassId) (a : Nat → Nat) (S : St) (p1 : Int32) (p2 : Int32) (p3 : Int32) (r : Int32 × St) (hf : f_X1_cover S p1 p2 p3 = some r) (hap : apart a 8) : Met l yX1_cover wsX1_cover ({ frames := 2, cells := 0, slots := 0, locals := 43 }) (va_Pc [.ref (a 0), .int p1, .int p2, .int p3] (PMs (dC, dI) cA a S)) (mMi (dC, dI) cA a r.1 r.2) 0 0 (ad a 8) := by
  refine Met.ofW (cc := cX1_cover) (maxL := 5) (ret := (some .boolean)) (by decide) rfl ?_
  intro p e s m args below meth c s₁ B hml hv
  obtain ⟨rfl, hP, hK⟩ := hv
  have hx := B.exec
  have hb := B.bytes
  have hr := B.returns
  have hts := atoms_spec (ws := wsX1_cover) B.pre
  have hown : s.vm.findClass RX1 = some m.cls := findClass_of_methodNamed B.named
  have hlocks := B.notSynchronized
  have hin : ∀ w ∈ u_ws RX1 TX1 11, w ∈ wsX1_cover := by decide +kernel
  have hw0 := hts (.fieldLink RX1 44 "SubmodularyModel" "thrown" "I") (by decide +kernel)
  have hw1 := hts (.fieldLink RX1 13 "SubmodularyModel" "points" "[I") (by decide +kernel)
  have hS : va_S (ad a 8) s.heap s.heap [] := va_S.rf
  have hl := lv_entry ([.ref (a 0), .int p1, .int p2, .int p3]) (n := 5) (Nat.le_of_ble_eq_true rfl)
  rw [lg_entry_eq]
  generalize (lg_sl ([.ref (a 0), .int p1, .int p2, .int p3]) ++ List.replicate (5 - (lg_sl ([.ref (a 0), .int p1, .int p2, .int p3])).length) Slot.unset).toArray = ls at hl ⊢
  have hl : lv_has ls 5 [(0, .ref (a 0)), (1, .int p1), (2, .int p2), (3, .int p3)] := hl
  have hW82 : ∀ (S : St) (x4 s1 s2 : Int32) (H : Heap) (locs : List Loc) (ls : Array Slot), f_X1_cover_82 p1 p2 p3 S x4 s1 s2 = some r → va_P (dC, dI) vwCl (wM cA a S) H → va_S (ad a 8) s.heap H locs → lv_has ls 5 [(0, .ref (a 0)), (1, .int p1), (2, .int p2), (3, .int p3), (4, .int x4)] → W p l e (headSpec wsX1_cover ({ frames := 2, cells := 0, slots := 0, locals := 43 })).room s m ([.ref (a 0), .int p1, .int p2, .int p3] : List Value).toArray below meth c H locs 0 0 (MQ below (mMi (dC, dI) cA a r.1 r.2) ([.ref (a 0), .int p1, .int p2, .int p3] : List Value).toArray s 0 0 (ad a 8)) (F0 m 82 ls [.int s2, .int s1, .ref (a 1)]) := by
    intro S x4 s1 s2 H locs ls hf hP hS hl
    unfold f_X1_cover_82 at hf
    obtain ⟨g1, hg1, hf⟩ := ob_some hf
    refine wrM hx hb hK hP hap hS 0 (wM_q0 cA a _) (fun g => wM_s0 cA a _ g) hg1 dX1_cover_82 (fun H locs hP hS => ?_)
    refine lv_iload hx hb dX1_cover_83 (lv_at hl 4 rfl) ?_
    by_cases c2 : x4 &&& 1 = x4
    · rw [if_pos c2] at hf
      have hf := Option.some.inj hf; subst hf
      exact W.zret hx hb hr (by show Value.int (x4 &&& 1) = _; rw [c2]) (fun t ht hW => ⟨⟨rfl, by rw [ht]; exact hP⟩, hS.F ht⟩) hS.2.2 dX1_cover_85
    · rw [if_neg c2] at hf; cases hf
  have hW24 : ∀ (S : St) (s1 : Int32) (H : Heap) (locs : List Loc) (ls : Array Slot), f_X1_cover_24 p1 p2 p3 S s1 = some r → va_P (dC, dI) vwCl (wM cA a S) H → va_S (ad a 8) s.heap H locs → lv_has ls 5 [(0, .ref (a 0)), (1, .int p1), (2, .int p2), (3, .int p3)] → W p l e (headSpec wsX1_cover ({ frames := 2, cells := 0, slots := 0, locals := 43 })).room s m ([.ref (a 0), .int p1, .int p2, .int p3] : List Value).toArray below meth c H locs 0 0 (MQ below (mMi (dC, dI) cA a r.1 r.2) ([.ref (a 0), .int p1, .int p2, .int p3] : List Value).toArray s 0 0 (ad a 8)) (F0 m 24 ls [.int s1, .ref (a 0)]) := by
    intro S s1 H locs ls hf hP hS hl
    unfold f_X1_cover_24 at hf
    refine pfM hx hb hts hin hown hK hP hap hS 10 (by decide) hw0 rfl rfl (by decide +kernel) (k2 := 3) (fun _ => rfl) dX1_cover_24 (fun H locs hP hS => ?_)
    refine lv_aload_n hx hb dX1_cover_27 rfl (lv_at hl 0 rfl) ?_
    refine gfM hx hb hts hin hown hK hP 10 (by decide) hw0 rfl rfl dX1_cover_28 ?_
    refine lv_if_le (tgt := 36) hx hb dX1_cover_31 (by decide) (fun c3 => ?_) (fun c3 => ?_)
    · rw [if_pos c3] at hf
      refine lv_aload_n hx hb dX1_cover_36 rfl (lv_at hl 0 rfl) ?_
      refine gfM hx hb hts hin hown hK hP 1 (by decide) hw1 rfl rfl dX1_cover_37 ?_
      refine lv_iload_n hx hb dX1_cover_40 rfl (lv_at hl 1 rfl) ?_
      obtain ⟨v4, hv4, hf⟩ := ob_some hf
      refine rdI hx hb hK hP 1 rfl hv4 dX1_cover_41 ?_
      refine lv_iload_n hx hb dX1_cover_42 rfl (lv_at hl 2 rfl) ?_
      refine pu_S (As := [.int v4, .int p2]) (rest := []) ⟨hx, hb, hml, hown, hts⟩ (k_X1_has l v4 p2 _ rfl) gX1_cover_X1_has rfl rfl rfl cd_X1_has (Nat.le_of_ble_eq_true rfl) (Nat.le_of_ble_eq_true rfl) (preT) rfl hl.1 rfl (Nat.le_of_ble_eq_true rfl) (Nat.zero_le _) (Nat.zero_le _) dX1_cover_43 ?_
      refine lv_topi (fun y5 ey5 => ?_)
      have hf := bnd_at hf ey5
      refine lv_istore (lv' := [(4, .int y5), (0, .ref (a 0)), (1, .int p1), (2, .int p2), (3, .int p3)]) hx hb dX1_cover_46 hl (by decide) rfl (fun ls hl => ?_)
      refine lv_aload_n hx hb dX1_cover_48 rfl (lv_at hl 1 rfl) ?_
      refine gfM hx hb hts hin hown hK hP 1 (by decide) hw1 rfl rfl dX1_cover_49 ?_
      refine lv_iload_n hx hb dX1_cover_52 rfl (lv_at hl 2 rfl) ?_
      refine lv_iload_n hx hb dX1_cover_53 rfl (lv_at hl 4 rfl) ?_
      refine lv_if_eq (tgt := 70) hx hb dX1_cover_54 (by decide) (fun c6 => ?_) (fun c6 => ?_)
      · rw [if_pos c6] at hf
        refine lv_aload_n hx hb dX1_cover_70 rfl (lv_at hl 1 rfl) ?_
        refine gfM hx hb hts hin hown hK hP 1 (by decide) hw1 rfl rfl dX1_cover_71 ?_
        refine lv_iload_n hx hb dX1_cover_74 rfl (lv_at hl 2 rfl) ?_
        obtain ⟨v7, hv7, hf⟩ := ob_some hf
        refine rdI hx hb hK hP 1 rfl hv7 dX1_cover_75 ?_
        refine lv_iconst (v := 1) hx hb dX1_cover_76 (by decide) ?_
        refine lv_iload_n hx hb dX1_cover_77 rfl (lv_at hl 3 rfl) ?_
        refine lv_ishl hx hb dX1_cover_78 ?_
        refine lv_iconst (v := (-1)) hx hb dX1_cover_79 (by decide) ?_
        refine lv_ixor hx hb dX1_cover_80 ?_
        refine lv_iand hx hb dX1_cover_81 ?_
        exact hW82 (sS S 3 s1) y5 p1 (v7 &&& (((1 : Int32) <<< (p2 &&& 31)) ^^^ (-1))) _ _ ls hf hP hS (lv_sub hl [1, 2, 3, 4, 0] rfl)
      · rw [if_neg c6] at hf
        refine lv_aload_n hx hb dX1_cover_57 rfl (lv_at hl 1 rfl) ?_
        refine gfM hx hb hts hin hown hK hP 1 (by decide) hw1 rfl rfl dX1_cover_58 ?_
        refine lv_iload_n hx hb dX1_cover_61 rfl (lv_at hl 2 rfl) ?_
        obtain ⟨v8, hv8, hf⟩ := ob_some hf
        refine rdI hx hb hK hP 1 rfl hv8 dX1_cover_62 ?_
        refine lv_iconst (v := 1) hx hb dX1_cover_63 (by decide) ?_
        refine lv_iload_n hx hb dX1_cover_64 rfl (lv_at hl 3 rfl) ?_
        refine lv_ishl hx hb dX1_cover_65 ?_
        refine lv_ior hx hb dX1_cover_66 ?_
        refine lv_goto (tgt := 82) hx hb dX1_cover_67 (by decide) ?_
        exact hW82 (sS S 3 s1) y5 p1 (v8 ||| ((1 : Int32) <<< (p2 &&& 31))) _ _ ls hf hP hS (lv_sub hl [1, 2, 3, 4, 0] rfl)
    · rw [if_neg c3] at hf
      refine lv_iconst (v := 0) hx hb dX1_cover_34 (by decide) ?_
      have hf := Option.some.inj hf; subst hf
      exact W.zret hx hb hr rfl (fun t ht hW => ⟨⟨rfl, by rw [ht]; exact hP⟩, hS.F ht⟩) hS.2.2 dX1_cover_35
  unfold f_X1_cover at hf
  refine lv_aload_n hx hb dX1_cover_0 rfl (lv_at hl 0 rfl) ?_
  refine lv_aload_n hx hb dX1_cover_1 rfl (lv_at hl 0 rfl) ?_
  refine lv_iload_n hx hb dX1_cover_2 rfl (lv_at hl 1 rfl) ?_
  refine pu_V (As := [.int p1]) (rest := [.ref (a 0)]) ⟨hx, hb, hml, hown, hts⟩ (k_X1_isElement l dC dI cA a S p1 _ rfl) gX1_cover_X1_isElement rfl rfl rfl cd_X1_isElement (Nat.le_of_ble_eq_true rfl) (Nat.le_of_ble_eq_true rfl) (preM hK hP) rfl hl.1 rfl (Nat.le_of_ble_eq_true rfl) (Nat.zero_le _) (Nat.zero_le _) dX1_cover_3 ?_
  refine lv_if_eq (tgt := 23) hx hb dX1_cover_6 (by decide) (fun c9 => ?_) (fun c9 => ?_)
  · rw [if_pos c9] at hf
    refine lv_iconst (v := 1) hx hb dX1_cover_23 (by decide) ?_
    exact hW24 S 1 _ _ ls hf hP hS (lv_sub hl [0, 1, 2, 3] rfl)
  · rw [if_neg c9] at hf
    refine lv_iload_n hx hb dX1_cover_9 rfl (lv_at hl 2 rfl) ?_
    refine lv_iconst (v := 0) hx hb dX1_cover_10 (by decide) ?_
    refine lv_bipush (v := 9) hx hb dX1_cover_11 (by decide) ?_
    refine pu_S (As := [.int p2, .int 0, .int 9]) (rest := [.ref (a 0)]) ⟨hx, hb, hml, hown, hts⟩ (k_X1_isIn l p2 0 9 _ rfl) gX1_cover_X1_isIn rfl rfl rfl cd_X1_isIn (Nat.le_of_ble_eq_true rfl) (Nat.le_of_ble_eq_true rfl) (preT) rfl hl.1 rfl (Nat.le_of_ble_eq_true rfl) (Nat.zero_le _) (Nat.zero_le _) dX1_cover_13 ?_
    refine lv_if_eq (tgt := 23) hx hb dX1_cover_16 (by decide) (fun c10 => ?_) (fun c10 => ?_)
    · rw [if_pos c10] at hf
      refine lv_iconst (v := 1) hx hb dX1_cover_23 (by decide) ?_
      exact hW24 S 1 _ _ ls hf hP hS (lv_sub hl [0, 1, 2, 3] rfl)
    · rw [if_neg c10] at hf
      refine lv_iconst (v := 0) hx hb dX1_cover_19 (by decide) ?_
      refine lv_goto (tgt := 24) hx hb dX1_cover_20 (by decide) ?_
      exact hW24 S 0 _ _ ls hf hP hS (lv_sub hl [0, 1, 2, 3] rfl)
theorem cd_X1_edge : yX1_edge.cls = RX1 ∧ yX1_edge.cls ≠ "java/lang/invoke/MethodHandle" ∧ yX1_edge.cls ≠ "java/lang/invoke/VarHandle" ∧ (parseMethodDescriptor yX1_edge.desc).map (fun d => d.parameters.length) = some 3 := by decide +kernel
set_option maxHeartbeats 4000000 in
set_option maxRecDepth 100000 in
theorem k_X1_edge (l : Launch) (dC : Nat → ClassId) (dI : Nat → Nat → Nat) (cA : ClassId) (a : Nat → Nat) (S : St) (p1 : Int32) (p2 : Int32) (p3 : Int32) (r : Int32 × St) (hf : f_X1_edge S p1 p2 p3 = some r) (hap : apart a 8) : Met l yX1_edge wsX1_edge ({ frames := 2, cells := 0, slots := 0, locals := 43 }) (va_Pc [.ref (a 0), .int p1, .int p2, .int p3] (PMs (dC, dI) cA a S)) (mMi (dC, dI) cA a r.1 r.2) 0 0 (ad a 8) := by
  refine Met.ofW (cc := cX1_edge) (maxL := 5) (ret := (some .int)) (by decide) rfl ?_
  intro p e s m args below meth c s₁ B hml hv
  obtain ⟨rfl, hP, hK⟩ := hv
  have hx := B.exec
  have hb := B.bytes
  have hr := B.returns
  have hts := atoms_spec (ws := wsX1_edge) B.pre
  have hown : s.vm.findClass RX1 = some m.cls := findClass_of_methodNamed B.named
  have hlocks := B.notSynchronized
  have hin : ∀ w ∈ u_ws RX1 TX1 11, w ∈ wsX1_edge := by decide +kernel
  have hw0 := hts (.fieldLink RX1 44 "SubmodularyModel" "thrown" "I") (by decide +kernel)
  have hw1 := hts (.fieldLink RX1 17 "SubmodularyModel" "edges" "[I") (by decide +kernel)
  have hS : va_S (ad a 8) s.heap s.heap [] := va_S.rf
  have hl := lv_entry ([.ref (a 0), .int p1, .int p2, .int p3]) (n := 5) (Nat.le_of_ble_eq_true rfl)
  rw [lg_entry_eq]
  generalize (lg_sl ([.ref (a 0), .int p1, .int p2, .int p3]) ++ List.replicate (5 - (lg_sl ([.ref (a 0), .int p1, .int p2, .int p3])).length) Slot.unset).toArray = ls at hl ⊢
  have hl : lv_has ls 5 [(0, .ref (a 0)), (1, .int p1), (2, .int p2), (3, .int p3)] := hl
  have hW41 : ∀ (S : St) (s1 : Int32) (H : Heap) (locs : List Loc) (ls : Array Slot), f_X1_edge_41 p1 p2 p3 S s1 = some r → va_P (dC, dI) vwCl (wM cA a S) H → va_S (ad a 8) s.heap H locs → lv_has ls 5 [(0, .ref (a 0)), (1, .int p1), (2, .int p2), (3, .int p3)] → W p l e (headSpec wsX1_edge ({ frames := 2, cells := 0, slots := 0, locals := 43 })).room s m ([.ref (a 0), .int p1, .int p2, .int p3] : List Value).toArray below meth c H locs 0 0 (MQ below (mMi (dC, dI) cA a r.1 r.2) ([.ref (a 0), .int p1, .int p2, .int p3] : List Value).toArray s 0 0 (ad a 8)) (F0 m 41 ls [.int s1, .ref (a 0)]) := by
    intro S s1 H locs ls hf hP hS hl
    unfold f_X1_edge_41 at hf
    refine pfM hx hb hts hin hown hK hP hap hS 10 (by decide) hw0 rfl rfl (by decide +kernel) (k2 := 3) (fun _ => rfl) dX1_edge_41 (fun H locs hP hS => ?_)
    refine lv_aload_n hx hb dX1_edge_44 rfl (lv_at hl 0 rfl) ?_
    refine gfM hx hb hts hin hown hK hP 10 (by decide) hw0 rfl rfl dX1_edge_45 ?_
    refine lv_if_le (tgt := 53) hx hb dX1_edge_48 (by decide) (fun c1 => ?_) (fun c1 => ?_)
    · rw [if_pos c1] at hf
      refine lv_aload_n hx hb dX1_edge_53 rfl (lv_at hl 0 rfl) ?_
      refine gfM hx hb hts hin hown hK hP 2 (by decide) hw1 rfl rfl dX1_edge_54 ?_
      refine lv_bipush (v := 6) hx hb dX1_edge_57 (by decide) ?_
      refine lv_iload_n hx hb dX1_edge_59 rfl (lv_at hl 1 rfl) ?_
      refine lv_imul hx hb dX1_edge_60 ?_
      refine lv_iload_n hx hb dX1_edge_61 rfl (lv_at hl 2 rfl) ?_
      refine lv_iadd hx hb dX1_edge_62 ?_
      obtain ⟨v2, hv2, hf⟩ := ob_some hf
      refine rdI hx hb hK hP 2 rfl hv2 dX1_edge_63 ?_
      refine lv_istore (lv' := [(4, .int v2), (0, .ref (a 0)), (1, .int p1), (2, .int p2), (3, .int p3)]) hx hb dX1_edge_64 hl (by decide) rfl (fun ls hl => ?_)
      refine lv_aload_n hx hb dX1_edge_66 rfl (lv_at hl 1 rfl) ?_
      refine gfM hx hb hts hin hown hK hP 2 (by decide) hw1 rfl rfl dX1_edge_67 ?_
      refine lv_bipush (v := 6) hx hb dX1_edge_70 (by decide) ?_
      refine lv_iload_n hx hb dX1_edge_72 rfl (lv_at hl 2 rfl) ?_
      refine lv_imul hx hb dX1_edge_73 ?_
      refine lv_iload_n hx hb dX1_edge_74 rfl (lv_at hl 3 rfl) ?_
      refine lv_iadd hx hb dX1_edge_75 ?_
      refine lv_iload_n hx hb dX1_edge_76 rfl (lv_at hl 4 rfl) ?_
      obtain ⟨g3, hg3, hf⟩ := ob_some hf
      refine wrM hx hb hK hP hap hS 1 (wM_q1 cA a _) (fun g => wM_s1 cA a _ g) hg3 dX1_edge_77 (fun H locs hP hS => ?_)
      refine lv_aload_n hx hb dX1_edge_78 rfl (lv_at hl 1 rfl) ?_
      refine gfM hx hb hts hin hown hK hP 2 (by decide) hw1 rfl rfl dX1_edge_79 ?_
      refine lv_bipush (v := 6) hx hb dX1_edge_82 (by decide) ?_
      refine lv_iload_n hx hb dX1_edge_84 rfl (lv_at hl 3 rfl) ?_
      refine lv_imul hx hb dX1_edge_85 ?_
      refine lv_iload_n hx hb dX1_edge_86 rfl (lv_at hl 2 rfl) ?_
      refine lv_iadd hx hb dX1_edge_87 ?_
      refine lv_iload_n hx hb dX1_edge_88 rfl (lv_at hl 4 rfl) ?_
      obtain ⟨g4, hg4, hf⟩ := ob_some hf
      refine wrM hx hb hK hP hap hS 1 (wM_q1 cA a _) (fun g => wM_s1 cA a _ g) hg4 dX1_edge_89 (fun H locs hP hS => ?_)
      refine lv_iload hx hb dX1_edge_90 (lv_at hl 0 rfl) ?_
      have hf := Option.some.inj hf; subst hf
      exact W.iret hx hb hr (fun t ht hW => ⟨⟨rfl, by rw [ht]; exact hP⟩, hS.F ht⟩) hS.2.2 dX1_edge_92
    · rw [if_neg c1] at hf
      refine lv_iconst (v := 0) hx hb dX1_edge_51 (by decide) ?_
      have hf := Option.some.inj hf; subst hf
      exact W.iret hx hb hr (fun t ht hW => ⟨⟨rfl, by rw [ht]; exact hP⟩, hS.F ht⟩) hS.2.2 dX1_edge_52
  unfold f_X1_edge at hf
  refine lv_aload_n hx hb dX1_edge_0 rfl (lv_at hl 0 rfl) ?_
  refine lv_aload_n hx hb dX1_edge_1 rfl (lv_at hl 0 rfl) ?_
  refine lv_iload_n hx hb dX1_edge_2 rfl (lv_at hl 1 rfl) ?_
  refine pu_V (As := [.int p1]) (rest := [.ref (a 0)]) ⟨hx, hb, hml, hown, hts⟩ (k_X1_isElement l dC dI cA a S p1 _ rfl) gX1_edge_X1_isElement rfl rfl rfl cd_X1_isElement (Nat.le_of_ble_eq_true rfl) (Nat.le_of_ble_eq_true rfl) (preM hK hP) rfl hl.1 rfl (Nat.le_of_ble_eq_true rfl) (Nat.zero_le _) (Nat.zero_le _) dX1_edge_3 ?_
  refine lv_if_eq (tgt := 17) hx hb dX1_edge_6 (by decide) (fun c5 => ?_) (fun c5 => ?_)
  · rw [if_pos c5] at hf
    refine lv_iconst (v := 1) hx hb dX1_edge_17 (by decide) ?_
    refine lv_goto (tgt := 41) hx hb dX1_edge_18 (by decide) ?_
    exact hW41 S 1 _ _ ls hf hP hS (lv_sub hl [0, 1, 2, 3] rfl)
  · rw [if_neg c5] at hf
    refine lv_aload_n hx hb dX1_edge_9 rfl (lv_at hl 0 rfl) ?_
    refine lv_iload_n hx hb dX1_edge_10 rfl (lv_at hl 2 rfl) ?_
    refine pu_V (As := [.int p2]) (rest := [.ref (a 0)]) ⟨hx, hb, hml, hown, hts⟩ (k_X1_isElement l dC dI cA a S p2 _ rfl) gX1_edge_X1_isElement rfl rfl rfl cd_X1_isElement (Nat.le_of_ble_eq_true rfl) (Nat.le_of_ble_eq_true rfl) (preM hK hP) rfl hl.1 rfl (Nat.le_of_ble_eq_true rfl) (Nat.zero_le _) (Nat.zero_le _) dX1_edge_11 ?_
    refine lv_if_ne (tgt := 21) hx hb dX1_edge_14 (by decide) (fun c6 => ?_) (fun c6 => ?_)
    · rw [if_neg c6] at hf
      refine lv_iload_n hx hb dX1_edge_21 rfl (lv_at hl 1 rfl) ?_
      refine lv_iload_n hx hb dX1_edge_22 rfl (lv_at hl 2 rfl) ?_
      refine lv_icmp_eq (tgt := 36) hx hb dX1_edge_23 (by decide) (fun c7 => ?_) (fun c7 => ?_)
      · rw [if_pos c7] at hf
        refine lv_iconst (v := 2) hx hb dX1_edge_36 (by decide) ?_
        refine lv_goto (tgt := 41) hx hb dX1_edge_37 (by decide) ?_
        exact hW41 S 2 _ _ ls hf hP hS (lv_sub hl [0, 1, 2, 3] rfl)
      · rw [if_neg c7] at hf
        refine lv_iload_n hx hb dX1_edge_26 rfl (lv_at hl 3 rfl) ?_
        refine lv_iconst (v := 0) hx hb dX1_edge_27 (by decide) ?_
        refine lv_bipush (v := 20) hx hb dX1_edge_28 (by decide) ?_
        refine pu_S (As := [.int p3, .int 0, .int 20]) (rest := [.ref (a 0)]) ⟨hx, hb, hml, hown, hts⟩ (k_X1_isIn l p3 0 20 _ rfl) gX1_edge_X1_isIn rfl rfl rfl cd_X1_isIn (Nat.le_of_ble_eq_true rfl) (Nat.le_of_ble_eq_true rfl) (preT) rfl hl.1 rfl (Nat.le_of_ble_eq_true rfl) (Nat.zero_le _) (Nat.zero_le _) dX1_edge_30 ?_
        refine lv_if_ne (tgt := 40) hx hb dX1_edge_33 (by decide) (fun c8 => ?_) (fun c8 => ?_)
        · rw [if_neg c8] at hf
          refine lv_iconst (v := 0) hx hb dX1_edge_40 (by decide) ?_
          exact hW41 S 0 _ _ ls hf hP hS (lv_sub hl [0, 1, 2, 3] rfl)
        · rw [if_pos c8] at hf
          refine lv_iconst (v := 2) hx hb dX1_edge_36 (by decide) ?_
          refine lv_goto (tgt := 41) hx hb dX1_edge_37 (by decide) ?_
          exact hW41 S 2 _ _ ls hf hP hS (lv_sub hl [0, 1, 2, 3] rfl)
    · rw [if_pos c6] at hf
      refine lv_iconst (v := 1) hx hb dX1_edge_17 (by decide) ?_
      refine lv_goto (tgt := 41) hx hb dX1_edge_18 (by decide) ?_
      exact hW41 S 1 _ _ ls hf hP hS (lv_sub hl [0, 1, 2, 3] rfl)
theorem cd_X1_colour : yX1_colour.cls = RX1 ∧ yX1_colour.cls ≠ "java/lang/invoke/MethodHandle" ∧ yX1_colour.cls ≠ "java/lang/invoke/VarHandle" ∧ (parseMethodDescriptor yX1_colour.desc).map (fun d => d.parameters.length) = some 3 := by decide +kernel
set_option maxHeartbeats 4000000 in
set_option maxRecDepth 100000 in
theorem k_X1_colour (l : Launch) (dC : Nat → ClassId) (dI : Nat → Nat → Nat) (cA : ClassId) (a : Nat → Nat) (S : St) (p1 : Int32) (p2 : Int32) (p3 : Int32) (r : Int32 × St) (hf : f_X1_colour S p1 p2 p3 = some r) (hap : apart a 8) : Met l yX1_colour wsX1_colour ({ frames := 2, cells := 0, slots := 0, locals := 43 }) (va_Pc [.ref (a 0), .int p1, .int p2, .int p3] (PMs (dC, dI) cA a S)) (mMi (dC, dI) cA a r.1 r.2) 0 0 (ad a 8) := by
  refine Met.ofW (cc := cX1_colour) (maxL := 5) (ret := (some .int)) (by decide) rfl ?_
  intro p e s m args below meth c s₁ B hml hv
  obtain ⟨rfl, hP, hK⟩ := hv
  have hx := B.exec
  have hb := B.bytes
  have hr := B.returns
  have hts := atoms_spec (ws := wsX1_colour) B.pre
  have hown : s.vm.findClass RX1 = some m.cls := findClass_of_methodNamed B.named
  have hlocks := B.notSynchronized
  have hin : ∀ w ∈ u_ws RX1 TX1 11, w ∈ wsX1_colour := by decide +kernel
  have hw0 := hts (.fieldLink RX1 44 "SubmodularyModel" "thrown" "I") (by decide +kernel)
  have hw1 := hts (.fieldLink RX1 20 "SubmodularyModel" "colours" "[I") (by decide +kernel)
  have hS : va_S (ad a 8) s.heap s.heap [] := va_S.rf
  have hl := lv_entry ([.ref (a 0), .int p1, .int p2, .int p3]) (n := 5) (Nat.le_of_ble_eq_true rfl)
  rw [lg_entry_eq]
  generalize (lg_sl ([.ref (a 0), .int p1, .int p2, .int p3]) ++ List.replicate (5 - (lg_sl ([.ref (a 0), .int p1, .int p2, .int p3])).length) Slot.unset).toArray = ls at hl ⊢
  have hl : lv_has ls 5 [(0, .ref (a 0)), (1, .int p1), (2, .int p2), (3, .int p3)] := hl
  have hW32 : ∀ (S : St) (s1 : Int32) (H : Heap) (locs : List Loc) (ls : Array Slot), f_X1_colour_32 p1 p2 p3 S s1 = some r → va_P (dC, dI) vwCl (wM cA a S) H → va_S (ad a 8) s.heap H locs → lv_has ls 5 [(0, .ref (a 0)), (1, .int p1), (2, .int p2), (3, .int p3)] → W p l e (headSpec wsX1_colour ({ frames := 2, cells := 0, slots := 0, locals := 43 })).room s m ([.ref (a 0), .int p1, .int p2, .int p3] : List Value).toArray below meth c H locs 0 0 (MQ below (mMi (dC, dI) cA a r.1 r.2) ([.ref (a 0), .int p1, .int p2, .int p3] : List Value).toArray s 0 0 (ad a 8)) (F0 m 32 ls [.int s1, .ref (a 0)]) := by
    intro S s1 H locs ls hf hP hS hl
    unfold f_X1_colour_32 at hf
    refine pfM hx hb hts hin hown hK hP hap hS 10 (by decide) hw0 rfl rfl (by decide +kernel) (k2 := 3) (fun _ => rfl) dX1_colour_32 (fun H locs hP hS => ?_)
    refine lv_aload_n hx hb dX1_colour_35 rfl (lv_at hl 0 rfl) ?_
    refine gfM hx hb hts hin hown hK hP 10 (by decide) hw0 rfl rfl dX1_colour_36 ?_
    refine lv_if_le (tgt := 44) hx hb dX1_colour_39 (by decide) (fun c1 => ?_) (fun c1 => ?_)
    · rw [if_pos c1] at hf
      refine lv_aload_n hx hb dX1_colour_44 rfl (lv_at hl 0 rfl) ?_
      refine gfM hx hb hts hin hown hK hP 3 (by decide) hw1 rfl rfl dX1_colour_45 ?_
      refine lv_bipush (v := 6) hx hb dX1_colour_48 (by decide) ?_
      refine lv_iload_n hx hb dX1_colour_50 rfl (lv_at hl 1 rfl) ?_
      refine lv_imul hx hb dX1_colour_51 ?_
      refine lv_iload_n hx hb dX1_colour_52 rfl (lv_at hl 2 rfl) ?_
      refine lv_iadd hx hb dX1_colour_53 ?_
      obtain ⟨v2, hv2, hf⟩ := ob_some hf
      refine rdI hx hb hK hP 3 rfl hv2 dX1_colour_54 ?_
      refine lv_istore (lv' := [(4, .int v2), (0, .ref (a 0)), (1, .int p1), (2, .int p2), (3, .int p3)]) hx hb dX1_colour_55 hl (by decide) rfl (fun ls hl => ?_)
      refine lv_aload_n hx hb dX1_colour_57 rfl (lv_at hl 1 rfl) ?_
      refine gfM hx hb hts hin hown hK hP 3 (by decide) hw1 rfl rfl dX1_colour_58 ?_
      refine lv_bipush (v := 6) hx hb dX1_colour_61 (by decide) ?_
      refine lv_iload_n hx hb dX1_colour_63 rfl (lv_at hl 2 rfl) ?_
      refine lv_imul hx hb dX1_colour_64 ?_
      refine lv_iload_n hx hb dX1_colour_65 rfl (lv_at hl 3 rfl) ?_
      refine lv_iadd hx hb dX1_colour_66 ?_
      refine lv_iload_n hx hb dX1_colour_67 rfl (lv_at hl 4 rfl) ?_
      obtain ⟨g3, hg3, hf⟩ := ob_some hf
      refine wrM hx hb hK hP hap hS 2 (wM_q2 cA a _) (fun g => wM_s2 cA a _ g) hg3 dX1_colour_68 (fun H locs hP hS => ?_)
      refine lv_iload hx hb dX1_colour_69 (lv_at hl 0 rfl) ?_
      have hf := Option.some.inj hf; subst hf
      exact W.iret hx hb hr (fun t ht hW => ⟨⟨rfl, by rw [ht]; exact hP⟩, hS.F ht⟩) hS.2.2 dX1_colour_71
    · rw [if_neg c1] at hf
      refine lv_iconst (v := 0) hx hb dX1_colour_42 (by decide) ?_
      have hf := Option.some.inj hf; subst hf
      exact W.iret hx hb hr (fun t ht hW => ⟨⟨rfl, by rw [ht]; exact hP⟩, hS.F ht⟩) hS.2.2 dX1_colour_43
  unfold f_X1_colour at hf
  refine lv_aload_n hx hb dX1_colour_0 rfl (lv_at hl 0 rfl) ?_
  refine lv_iload_n hx hb dX1_colour_1 rfl (lv_at hl 1 rfl) ?_
  refine lv_iconst (v := 0) hx hb dX1_colour_2 (by decide) ?_
  refine lv_iconst (v := 1) hx hb dX1_colour_3 (by decide) ?_
  refine pu_S (As := [.int p1, .int 0, .int 1]) (rest := [.ref (a 0)]) ⟨hx, hb, hml, hown, hts⟩ (k_X1_isIn l p1 0 1 _ rfl) gX1_colour_X1_isIn rfl rfl rfl cd_X1_isIn (Nat.le_of_ble_eq_true rfl) (Nat.le_of_ble_eq_true rfl) (preT) rfl hl.1 rfl (Nat.le_of_ble_eq_true rfl) (Nat.zero_le _) (Nat.zero_le _) dX1_colour_4 ?_
  refine lv_if_eq (tgt := 31) hx hb dX1_colour_7 (by decide) (fun c4 => ?_) (fun c4 => ?_)
  · rw [if_pos c4] at hf
    refine lv_iconst (v := 1) hx hb dX1_colour_31 (by decide) ?_
    exact hW32 S 1 _ _ ls hf hP hS (lv_sub hl [0, 1, 2, 3] rfl)
  · rw [if_neg c4] at hf
    refine lv_aload_n hx hb dX1_colour_10 rfl (lv_at hl 0 rfl) ?_
    refine lv_iload_n hx hb dX1_colour_11 rfl (lv_at hl 2 rfl) ?_
    refine pu_V (As := [.int p2]) (rest := [.ref (a 0)]) ⟨hx, hb, hml, hown, hts⟩ (k_X1_isElement l dC dI cA a S p2 _ rfl) gX1_colour_X1_isElement rfl rfl rfl cd_X1_isElement (Nat.le_of_ble_eq_true rfl) (Nat.le_of_ble_eq_true rfl) (preM hK hP) rfl hl.1 rfl (Nat.le_of_ble_eq_true rfl) (Nat.zero_le _) (Nat.zero_le _) dX1_colour_12 ?_
    refine lv_if_eq (tgt := 31) hx hb dX1_colour_15 (by decide) (fun c5 => ?_) (fun c5 => ?_)
    · rw [if_pos c5] at hf
      refine lv_iconst (v := 1) hx hb dX1_colour_31 (by decide) ?_
      exact hW32 S 1 _ _ ls hf hP hS (lv_sub hl [0, 1, 2, 3] rfl)
    · rw [if_neg c5] at hf
      refine lv_iload_n hx hb dX1_colour_18 rfl (lv_at hl 3 rfl) ?_
      refine lv_iconst (v := 0) hx hb dX1_colour_19 (by decide) ?_
      refine lv_iconst (v := 5) hx hb dX1_colour_20 (by decide) ?_
      refine pu_S (As := [.int p3, .int 0, .int 5]) (rest := [.ref (a 0)]) ⟨hx, hb, hml, hown, hts⟩ (k_X1_isIn l p3 0 5 _ rfl) gX1_colour_X1_isIn rfl rfl rfl cd_X1_isIn (Nat.le_of_ble_eq_true rfl) (Nat.le_of_ble_eq_true rfl) (preT) rfl hl.1 rfl (Nat.le_of_ble_eq_true rfl) (Nat.zero_le _) (Nat.zero_le _) dX1_colour_21 ?_
      refine lv_if_eq (tgt := 31) hx hb dX1_colour_24 (by decide) (fun c6 => ?_) (fun c6 => ?_)
      · rw [if_pos c6] at hf
        refine lv_iconst (v := 1) hx hb dX1_colour_31 (by decide) ?_
        exact hW32 S 1 _ _ ls hf hP hS (lv_sub hl [0, 1, 2, 3] rfl)
      · rw [if_neg c6] at hf
        refine lv_iconst (v := 0) hx hb dX1_colour_27 (by decide) ?_
        refine lv_goto (tgt := 32) hx hb dX1_colour_28 (by decide) ?_
        exact hW32 S 0 _ _ ls hf hP hS (lv_sub hl [0, 1, 2, 3] rfl)
theorem cd_X1_room : yX1_room.cls = RX1 ∧ yX1_room.cls ≠ "java/lang/invoke/MethodHandle" ∧ yX1_room.cls ≠ "java/lang/invoke/VarHandle" ∧ (parseMethodDescriptor yX1_room.desc).map (fun d => d.parameters.length) = some 3 := by decide +kernel
set_option maxHeartbeats 4000000 in
set_option maxRecDepth 100000 in
theorem k_X1_room (l : Launch) (dC : Nat → ClassId) (dI : Nat → Nat → Nat) (cA : ClassId) (a : Nat → Nat) (S : St) (p1 : Int32) (p2 : Int32) (p3 : Int32) (r : Int32 × St) (hf : f_X1_room S p1 p2 p3 = some r) (hap : apart a 8) : Met l yX1_room wsX1_room ({ frames := 1, cells := 0, slots := 0, locals := 22 }) (va_Pc [.ref (a 0), .int p1, .int p2, .int p3] (PMs (dC, dI) cA a S)) (mMi (dC, dI) cA a r.1 r.2) 0 0 (ad a 8) := by
  refine Met.ofW (cc := cX1_room) (maxL := 5) (ret := (some .int)) (by decide) rfl ?_
  intro p e s m args below meth c s₁ B hml hv
  obtain ⟨rfl, hP, hK⟩ := hv
  have hx := B.exec
  have hb := B.bytes
  have hr := B.returns
  have hts := atoms_spec (ws := wsX1_room) B.pre
  have hown : s.vm.findClass RX1 = some m.cls := findClass_of_methodNamed B.named
  have hlocks := B.notSynchronized
  have hin : ∀ w ∈ u_ws RX1 TX1 11, w ∈ wsX1_room := by decide +kernel
  have hw0 := hts (.fieldLink RX1 44 "SubmodularyModel" "thrown" "I") (by decide +kernel)
  have hw1 := hts (.fieldLink RX1 23 "SubmodularyModel" "rooms" "[I") (by decide +kernel)
  have hS : va_S (ad a 8) s.heap s.heap [] := va_S.rf
  have hl := lv_entry ([.ref (a 0), .int p1, .int p2, .int p3]) (n := 5) (Nat.le_of_ble_eq_true rfl)
  rw [lg_entry_eq]
  generalize (lg_sl ([.ref (a 0), .int p1, .int p2, .int p3]) ++ List.replicate (5 - (lg_sl ([.ref (a 0), .int p1, .int p2, .int p3])).length) Slot.unset).toArray = ls at hl ⊢
  have hl : lv_has ls 5 [(0, .ref (a 0)), (1, .int p1), (2, .int p2), (3, .int p3)] := hl
  have hW38 : ∀ (S : St) (s1 : Int32) (H : Heap) (locs : List Loc) (ls : Array Slot), f_X1_room_38 p1 p2 p3 S s1 = some r → va_P (dC, dI) vwCl (wM cA a S) H → va_S (ad a 8) s.heap H locs → lv_has ls 5 [(0, .ref (a 0)), (1, .int p1), (2, .int p2), (3, .int p3)] → W p l e (headSpec wsX1_room ({ frames := 1, cells := 0, slots := 0, locals := 22 })).room s m ([.ref (a 0), .int p1, .int p2, .int p3] : List Value).toArray below meth c H locs 0 0 (MQ below (mMi (dC, dI) cA a r.1 r.2) ([.ref (a 0), .int p1, .int p2, .int p3] : List Value).toArray s 0 0 (ad a 8)) (F0 m 38 ls [.int s1, .ref (a 0)]) := by
    intro S s1 H locs ls hf hP hS hl
    unfold f_X1_room_38 at hf
    refine pfM hx hb hts hin hown hK hP hap hS 10 (by decide) hw0 rfl rfl (by decide +kernel) (k2 := 3) (fun _ => rfl) dX1_room_38 (fun H locs hP hS => ?_)
    refine lv_aload_n hx hb dX1_room_41 rfl (lv_at hl 0 rfl) ?_
    refine gfM hx hb hts hin hown hK hP 10 (by decide) hw0 rfl rfl dX1_room_42 ?_
    refine lv_if_le (tgt := 50) hx hb dX1_room_45 (by decide) (fun c1 => ?_) (fun c1 => ?_)
    · rw [if_pos c1] at hf
      refine lv_aload_n hx hb dX1_room_50 rfl (lv_at hl 0 rfl) ?_
      refine gfM hx hb hts hin hown hK hP 4 (by decide) hw1 rfl rfl dX1_room_51 ?_
      refine lv_bipush (v := 6) hx hb dX1_room_54 (by decide) ?_
      refine lv_iload_n hx hb dX1_room_56 rfl (lv_at hl 1 rfl) ?_
      refine lv_imul hx hb dX1_room_57 ?_
      refine lv_iload_n hx hb dX1_room_58 rfl (lv_at hl 2 rfl) ?_
      refine lv_iadd hx hb dX1_room_59 ?_
      obtain ⟨v2, hv2, hf⟩ := ob_some hf
      refine rdI hx hb hK hP 4 rfl hv2 dX1_room_60 ?_
      refine lv_istore (lv' := [(4, .int v2), (0, .ref (a 0)), (1, .int p1), (2, .int p2), (3, .int p3)]) hx hb dX1_room_61 hl (by decide) rfl (fun ls hl => ?_)
      refine lv_aload_n hx hb dX1_room_63 rfl (lv_at hl 1 rfl) ?_
      refine gfM hx hb hts hin hown hK hP 4 (by decide) hw1 rfl rfl dX1_room_64 ?_
      refine lv_bipush (v := 6) hx hb dX1_room_67 (by decide) ?_
      refine lv_iload_n hx hb dX1_room_69 rfl (lv_at hl 2 rfl) ?_
      refine lv_imul hx hb dX1_room_70 ?_
      refine lv_iload_n hx hb dX1_room_71 rfl (lv_at hl 3 rfl) ?_
      refine lv_iadd hx hb dX1_room_72 ?_
      refine lv_iload_n hx hb dX1_room_73 rfl (lv_at hl 4 rfl) ?_
      obtain ⟨g3, hg3, hf⟩ := ob_some hf
      refine wrM hx hb hK hP hap hS 3 (wM_q3 cA a _) (fun g => wM_s3 cA a _ g) hg3 dX1_room_74 (fun H locs hP hS => ?_)
      refine lv_iload hx hb dX1_room_75 (lv_at hl 0 rfl) ?_
      have hf := Option.some.inj hf; subst hf
      exact W.iret hx hb hr (fun t ht hW => ⟨⟨rfl, by rw [ht]; exact hP⟩, hS.F ht⟩) hS.2.2 dX1_room_77
    · rw [if_neg c1] at hf
      refine lv_iconst (v := 0) hx hb dX1_room_48 (by decide) ?_
      have hf := Option.some.inj hf; subst hf
      exact W.iret hx hb hr (fun t ht hW => ⟨⟨rfl, by rw [ht]; exact hP⟩, hS.F ht⟩) hS.2.2 dX1_room_49
  unfold f_X1_room at hf
  refine lv_aload_n hx hb dX1_room_0 rfl (lv_at hl 0 rfl) ?_
  refine lv_iload_n hx hb dX1_room_1 rfl (lv_at hl 1 rfl) ?_
  refine lv_iconst (v := 0) hx hb dX1_room_2 (by decide) ?_
  refine lv_iconst (v := 1) hx hb dX1_room_3 (by decide) ?_
  refine pu_S (As := [.int p1, .int 0, .int 1]) (rest := [.ref (a 0)]) ⟨hx, hb, hml, hown, hts⟩ (k_X1_isIn l p1 0 1 _ rfl) gX1_room_X1_isIn rfl rfl rfl cd_X1_isIn (Nat.le_of_ble_eq_true rfl) (Nat.le_of_ble_eq_true rfl) (preT) rfl hl.1 rfl (Nat.le_of_ble_eq_true rfl) (Nat.zero_le _) (Nat.zero_le _) dX1_room_4 ?_
  refine lv_if_eq (tgt := 19) hx hb dX1_room_7 (by decide) (fun c4 => ?_) (fun c4 => ?_)
  · rw [if_pos c4] at hf
    refine lv_iconst (v := 1) hx hb dX1_room_19 (by decide) ?_
    refine lv_goto (tgt := 38) hx hb dX1_room_20 (by decide) ?_
    exact hW38 S 1 _ _ ls hf hP hS (lv_sub hl [0, 1, 2, 3] rfl)
  · rw [if_neg c4] at hf
    refine lv_iload_n hx hb dX1_room_10 rfl (lv_at hl 2 rfl) ?_
    refine lv_iconst (v := 0) hx hb dX1_room_11 (by decide) ?_
    refine lv_iconst (v := 5) hx hb dX1_room_12 (by decide) ?_
    refine pu_S (As := [.int p2, .int 0, .int 5]) (rest := [.ref (a 0)]) ⟨hx, hb, hml, hown, hts⟩ (k_X1_isIn l p2 0 5 _ rfl) gX1_room_X1_isIn rfl rfl rfl cd_X1_isIn (Nat.le_of_ble_eq_true rfl) (Nat.le_of_ble_eq_true rfl) (preT) rfl hl.1 rfl (Nat.le_of_ble_eq_true rfl) (Nat.zero_le _) (Nat.zero_le _) dX1_room_13 ?_
    refine lv_if_ne (tgt := 23) hx hb dX1_room_16 (by decide) (fun c5 => ?_) (fun c5 => ?_)
    · rw [if_neg c5] at hf
      refine lv_iload_n hx hb dX1_room_23 rfl (lv_at hl 3 rfl) ?_
      refine lv_iconst (v := 0) hx hb dX1_room_24 (by decide) ?_
      refine lv_bipush (v := 6) hx hb dX1_room_25 (by decide) ?_
      refine pu_S (As := [.int p3, .int 0, .int 6]) (rest := [.ref (a 0)]) ⟨hx, hb, hml, hown, hts⟩ (k_X1_isIn l p3 0 6 _ rfl) gX1_room_X1_isIn rfl rfl rfl cd_X1_isIn (Nat.le_of_ble_eq_true rfl) (Nat.le_of_ble_eq_true rfl) (preT) rfl hl.1 rfl (Nat.le_of_ble_eq_true rfl) (Nat.zero_le _) (Nat.zero_le _) dX1_room_27 ?_
      refine lv_if_ne (tgt := 37) hx hb dX1_room_30 (by decide) (fun c6 => ?_) (fun c6 => ?_)
      · rw [if_neg c6] at hf
        refine lv_iconst (v := 0) hx hb dX1_room_37 (by decide) ?_
        exact hW38 S 0 _ _ ls hf hP hS (lv_sub hl [0, 1, 2, 3] rfl)
      · rw [if_pos c6] at hf
        refine lv_iconst (v := 2) hx hb dX1_room_33 (by decide) ?_
        refine lv_goto (tgt := 38) hx hb dX1_room_34 (by decide) ?_
        exact hW38 S 2 _ _ ls hf hP hS (lv_sub hl [0, 1, 2, 3] rfl)
    · rw [if_pos c5] at hf
      refine lv_iconst (v := 1) hx hb dX1_room_19 (by decide) ?_
      refine lv_goto (tgt := 38) hx hb dX1_room_20 (by decide) ?_
      exact hW38 S 1 _ _ ls hf hP hS (lv_sub hl [0, 1, 2, 3] rfl)
theorem cd_X1_weigh : yX1_weigh.cls = RX1 ∧ yX1_weigh.cls ≠ "java/lang/invoke/MethodHandle" ∧ yX1_weigh.cls ≠ "java/lang/invoke/VarHandle" ∧ (parseMethodDescriptor yX1_weigh.desc).map (fun d => d.parameters.length) = some 2 := by decide +kernel
set_option maxHeartbeats 4000000 in
set_option maxRecDepth 100000 in
theorem k_X1_weigh (l : Launch) (dC : Nat → ClassId) (dI : Nat → Nat → Nat) (cA : ClassId) (a : Nat → Nat) (S : St) (p1 : Int32) (p2 : Int32) (r : Int32 × St) (hf : f_X1_weigh S p1 p2 = some r) (hap : apart a 8) : Met l yX1_weigh wsX1_weigh ({ frames := 2, cells := 0, slots := 0, locals := 43 }) (va_Pc [.ref (a 0), .int p1, .int p2] (PMs (dC, dI) cA a S)) (mMi (dC, dI) cA a r.1 r.2) 0 0 (ad a 8) := by
  refine Met.ofW (cc := cX1_weigh) (maxL := 4) (ret := (some .int)) (by decide) rfl ?_
  intro p e s m args below meth c s₁ B hml hv
  obtain ⟨rfl, hP, hK⟩ := hv
  have hx := B.exec
  have hb := B.bytes
  have hr := B.returns
  have hts := atoms_spec (ws := wsX1_weigh) B.pre
  have hown : s.vm.findClass RX1 = some m.cls := findClass_of_methodNamed B.named
  have hlocks := B.notSynchronized
  have hin : ∀ w ∈ u_ws RX1 TX1 11, w ∈ wsX1_weigh := by decide +kernel
  have hw0 := hts (.fieldLink RX1 44 "SubmodularyModel" "thrown" "I") (by decide +kernel)
  have hw1 := hts (.fieldLink RX1 26 "SubmodularyModel" "weights" "[I") (by decide +kernel)
  have hS : va_S (ad a 8) s.heap s.heap [] := va_S.rf
  have hl := lv_entry ([.ref (a 0), .int p1, .int p2]) (n := 4) (Nat.le_of_ble_eq_true rfl)
  rw [lg_entry_eq]
  generalize (lg_sl ([.ref (a 0), .int p1, .int p2]) ++ List.replicate (4 - (lg_sl ([.ref (a 0), .int p1, .int p2])).length) Slot.unset).toArray = ls at hl ⊢
  have hl : lv_has ls 4 [(0, .ref (a 0)), (1, .int p1), (2, .int p2)] := hl
  have hW29 : ∀ (S : St) (s1 : Int32) (H : Heap) (locs : List Loc) (ls : Array Slot), f_X1_weigh_29 p1 p2 S s1 = some r → va_P (dC, dI) vwCl (wM cA a S) H → va_S (ad a 8) s.heap H locs → lv_has ls 4 [(0, .ref (a 0)), (1, .int p1), (2, .int p2)] → W p l e (headSpec wsX1_weigh ({ frames := 2, cells := 0, slots := 0, locals := 43 })).room s m ([.ref (a 0), .int p1, .int p2] : List Value).toArray below meth c H locs 0 0 (MQ below (mMi (dC, dI) cA a r.1 r.2) ([.ref (a 0), .int p1, .int p2] : List Value).toArray s 0 0 (ad a 8)) (F0 m 29 ls [.int s1, .ref (a 0)]) := by
    intro S s1 H locs ls hf hP hS hl
    unfold f_X1_weigh_29 at hf
    refine pfM hx hb hts hin hown hK hP hap hS 10 (by decide) hw0 rfl rfl (by decide +kernel) (k2 := 3) (fun _ => rfl) dX1_weigh_29 (fun H locs hP hS => ?_)
    refine lv_aload_n hx hb dX1_weigh_32 rfl (lv_at hl 0 rfl) ?_
    refine gfM hx hb hts hin hown hK hP 10 (by decide) hw0 rfl rfl dX1_weigh_33 ?_
    refine lv_if_le (tgt := 41) hx hb dX1_weigh_36 (by decide) (fun c1 => ?_) (fun c1 => ?_)
    · rw [if_pos c1] at hf
      refine lv_aload_n hx hb dX1_weigh_41 rfl (lv_at hl 0 rfl) ?_
      refine gfM hx hb hts hin hown hK hP 5 (by decide) hw1 rfl rfl dX1_weigh_42 ?_
      refine lv_iload_n hx hb dX1_weigh_45 rfl (lv_at hl 1 rfl) ?_
      obtain ⟨v2, hv2, hf⟩ := ob_some hf
      refine rdI hx hb hK hP 5 rfl hv2 dX1_weigh_46 ?_
      refine lv_istore_n (lv' := [(3, .int v2), (0, .ref (a 0)), (1, .int p1), (2, .int p2)]) hx hb dX1_weigh_47 rfl hl (by decide) rfl (fun ls hl => ?_)
      refine lv_aload_n hx hb dX1_weigh_48 rfl (lv_at hl 1 rfl) ?_
      refine gfM hx hb hts hin hown hK hP 5 (by decide) hw1 rfl rfl dX1_weigh_49 ?_
      refine lv_iload_n hx hb dX1_weigh_52 rfl (lv_at hl 2 rfl) ?_
      refine lv_iload_n hx hb dX1_weigh_53 rfl (lv_at hl 3 rfl) ?_
      obtain ⟨g3, hg3, hf⟩ := ob_some hf
      refine wrM hx hb hK hP hap hS 4 (wM_q4 cA a _) (fun g => wM_s4 cA a _ g) hg3 dX1_weigh_54 (fun H locs hP hS => ?_)
      refine lv_iload_n hx hb dX1_weigh_55 rfl (lv_at hl 0 rfl) ?_
      have hf := Option.some.inj hf; subst hf
      exact W.iret hx hb hr (fun t ht hW => ⟨⟨rfl, by rw [ht]; exact hP⟩, hS.F ht⟩) hS.2.2 dX1_weigh_56
    · rw [if_neg c1] at hf
      refine lv_iconst (v := 0) hx hb dX1_weigh_39 (by decide) ?_
      have hf := Option.some.inj hf; subst hf
      exact W.iret hx hb hr (fun t ht hW => ⟨⟨rfl, by rw [ht]; exact hP⟩, hS.F ht⟩) hS.2.2 dX1_weigh_40
  unfold f_X1_weigh at hf
  refine lv_aload_n hx hb dX1_weigh_0 rfl (lv_at hl 0 rfl) ?_
  refine lv_aload_n hx hb dX1_weigh_1 rfl (lv_at hl 0 rfl) ?_
  refine lv_iload_n hx hb dX1_weigh_2 rfl (lv_at hl 1 rfl) ?_
  refine pu_V (As := [.int p1]) (rest := [.ref (a 0)]) ⟨hx, hb, hml, hown, hts⟩ (k_X1_isElement l dC dI cA a S p1 _ rfl) gX1_weigh_X1_isElement rfl rfl rfl cd_X1_isElement (Nat.le_of_ble_eq_true rfl) (Nat.le_of_ble_eq_true rfl) (preM hK hP) rfl hl.1 rfl (Nat.le_of_ble_eq_true rfl) (Nat.zero_le _) (Nat.zero_le _) dX1_weigh_3 ?_
  refine lv_if_ne (tgt := 13) hx hb dX1_weigh_6 (by decide) (fun c4 => ?_) (fun c4 => ?_)
  · rw [if_neg c4] at hf
    refine lv_iload_n hx hb dX1_weigh_13 rfl (lv_at hl 2 rfl) ?_
    refine lv_bipush (v := (-20)) hx hb dX1_weigh_14 (by decide) ?_
    refine lv_bipush (v := 20) hx hb dX1_weigh_16 (by decide) ?_
    refine pu_S (As := [.int p2, .int (-20), .int 20]) (rest := [.ref (a 0)]) ⟨hx, hb, hml, hown, hts⟩ (k_X1_isIn l p2 (-20) 20 _ rfl) gX1_weigh_X1_isIn rfl rfl rfl cd_X1_isIn (Nat.le_of_ble_eq_true rfl) (Nat.le_of_ble_eq_true rfl) (preT) rfl hl.1 rfl (Nat.le_of_ble_eq_true rfl) (Nat.zero_le _) (Nat.zero_le _) dX1_weigh_18 ?_
    refine lv_if_ne (tgt := 28) hx hb dX1_weigh_21 (by decide) (fun c5 => ?_) (fun c5 => ?_)
    · rw [if_neg c5] at hf
      refine lv_iconst (v := 0) hx hb dX1_weigh_28 (by decide) ?_
      exact hW29 S 0 _ _ ls hf hP hS (lv_sub hl [0, 1, 2] rfl)
    · rw [if_pos c5] at hf
      refine lv_iconst (v := 2) hx hb dX1_weigh_24 (by decide) ?_
      refine lv_goto (tgt := 29) hx hb dX1_weigh_25 (by decide) ?_
      exact hW29 S 2 _ _ ls hf hP hS (lv_sub hl [0, 1, 2] rfl)
  · rw [if_pos c4] at hf
    refine lv_iconst (v := 1) hx hb dX1_weigh_9 (by decide) ?_
    refine lv_goto (tgt := 29) hx hb dX1_weigh_10 (by decide) ?_
    exact hW29 S 1 _ _ ls hf hP hS (lv_sub hl [0, 1, 2] rfl)
theorem cd_X1_make : yX1_make.cls = RX1 ∧ yX1_make.cls ≠ "java/lang/invoke/MethodHandle" ∧ yX1_make.cls ≠ "java/lang/invoke/VarHandle" ∧ (parseMethodDescriptor yX1_make.desc).map (fun d => d.parameters.length) = some 1 := by decide +kernel
set_option maxHeartbeats 4000000 in
set_option maxRecDepth 100000 in
theorem k_X1_make (l : Launch) (dC : Nat → ClassId) (dI : Nat → Nat → Nat) (cA : ClassId) (a : Nat → Nat) (S : St) (p1 : Int32) (r : Int32 × St) (hf : f_X1_make S p1 = some r) (hap : apart a 8) : Met l yX1_make wsX1_make ({ frames := 3, cells := 0, slots := 0, locals := 71 }) (va_Pc [.ref (a 0), .int p1] (PMs (dC, dI) cA a S)) (mMi (dC, dI) cA a r.1 r.2) 0 0 (ad a 8) := by
  refine Met.ofW (cc := cX1_make) (maxL := 3) (ret := (some .int)) (by decide) rfl ?_
  intro p e s m args below meth c s₁ B hml hv
  obtain ⟨rfl, hP, hK⟩ := hv
  have hx := B.exec
  have hb := B.bytes
  have hr := B.returns
  have hts := atoms_spec (ws := wsX1_make) B.pre
  have hown : s.vm.findClass RX1 = some m.cls := findClass_of_methodNamed B.named
  have hlocks := B.notSynchronized
  have hin : ∀ w ∈ u_ws RX1 TX1 11, w ∈ wsX1_make := by decide +kernel
  have hw0 := hts (.fieldLink RX1 38 "SubmodularyModel" "functions" "I") (by decide +kernel)
  have hw1 := hts (.fieldLink RX1 29 "SubmodularyModel" "values" "[I") (by decide +kernel)
  have hw2 := hts (.fieldLink RX1 44 "SubmodularyModel" "thrown" "I") (by decide +kernel)
  have hS : va_S (ad a 8) s.heap s.heap [] := va_S.rf
  have hl := lv_entry ([.ref (a 0), .int p1]) (n := 3) (Nat.le_of_ble_eq_true rfl)
  rw [lg_entry_eq]
  generalize (lg_sl ([.ref (a 0), .int p1]) ++ List.replicate (3 - (lg_sl ([.ref (a 0), .int p1])).length) Slot.unset).toArray = ls at hl ⊢
  have hl : lv_has ls 3 [(0, .ref (a 0)), (1, .int p1)] := hl
  have hW42 : ∀ (k42 : Nat) (S : St) (x2 : Int32) (H : Heap) (locs : List Loc) (ls : Array Slot), f_X1_make_42 p1 k42 S x2 = some r → va_P (dC, dI) vwCl (wM cA a S) H → va_S (ad a 8) s.heap H locs → lv_has ls 3 [(0, .ref (a 0)), (1, .int p1), (2, .int x2)] → W p l e (headSpec wsX1_make ({ frames := 3, cells := 0, slots := 0, locals := 71 })).room s m ([.ref (a 0), .int p1] : List Value).toArray below meth c H locs 0 0 (MQ below (mMi (dC, dI) cA a r.1 r.2) ([.ref (a 0), .int p1] : List Value).toArray s 0 0 (ad a 8)) (F0 m 42 ls []) := by
    intro k42
    induction k42 with
    | zero =>
      intro S x2 H locs ls hf hP hS hl
      rw [f_X1_make_42] at hf
      cases hf
    | succ k42 ih42 =>
      have hW109 : ∀ (S : St) (x2 s1 s2 : Int32) (H : Heap) (locs : List Loc) (ls : Array Slot), f_X1_make_109 p1 (f_X1_make_42 p1 k42) S x2 s1 s2 = some r → va_P (dC, dI) vwCl (wM cA a S) H → va_S (ad a 8) s.heap H locs → lv_has ls 3 [(0, .ref (a 0)), (1, .int p1), (2, .int x2)] → W p l e (headSpec wsX1_make ({ frames := 3, cells := 0, slots := 0, locals := 71 })).room s m ([.ref (a 0), .int p1] : List Value).toArray below meth c H locs 0 0 (MQ below (mMi (dC, dI) cA a r.1 r.2) ([.ref (a 0), .int p1] : List Value).toArray s 0 0 (ad a 8)) (F0 m 109 ls [.int s2, .int s1, .ref (a 6)]) := by
        intro S x2 s1 s2 H locs ls hf hP hS hl
        unfold f_X1_make_109 at hf
        obtain ⟨g1, hg1, hf⟩ := ob_some hf
        refine wrM hx hb hK hP hap hS 5 (wM_q5 cA a _) (fun g => wM_s5 cA a _ g) hg1 dX1_make_109 (fun H locs hP hS => ?_)
        obtain ⟨y2, ey2⟩ : ∃ y : Int32, y = (x2 + 1) := ⟨_, rfl⟩
        have hf := bnd_at hf ey2
        refine lv_iinc (v := y2) (lv' := [(2, .int y2), (0, .ref (a 0)), (1, .int p1)]) hx hb dX1_make_110 hl (k := 2) rfl (by rw [ey2]; rfl) (by decide) rfl (fun ls hl => ?_)
        refine lv_goto (tgt := 42) hx hb dX1_make_113 (by decide) ?_
        exact ih42 (sA S 5 g1) y2 _ _ ls hf hP hS (lv_sub hl [1, 2, 0] rfl)
      intro S x2 H locs ls hf hP hS hl
      rw [f_X1_make_42] at hf
      refine lv_aload_n hx hb dX1_make_42 rfl (lv_at hl 0 rfl) ?_
      refine lv_iload_n hx hb dX1_make_43 rfl (lv_at hl 2 rfl) ?_
      refine pu_V (As := [.int x2]) (rest := []) ⟨hx, hb, hml, hown, hts⟩ (k_X1_isSet l dC dI cA a S x2 _ rfl) gX1_make_X1_isSet rfl rfl rfl cd_X1_isSet (Nat.le_of_ble_eq_true rfl) (Nat.le_of_ble_eq_true rfl) (preM hK hP) rfl hl.1 rfl (Nat.le_of_ble_eq_true rfl) (Nat.zero_le _) (Nat.zero_le _) dX1_make_44 ?_
      refine lv_if_eq (tgt := 116) hx hb dX1_make_47 (by decide) (fun c3 => ?_) (fun c3 => ?_)
      · rw [if_pos c3] at hf
        refine lv_aload_n hx hb dX1_make_116 rfl (lv_at hl 0 rfl) ?_
        refine lv_dup hx hb dX1_make_117 rfl ?_
        refine gfM hx hb hts hin hown hK hP 6 (by decide) hw0 rfl rfl dX1_make_118 ?_
        refine lv_iconst (v := 1) hx hb dX1_make_121 (by decide) ?_
        refine lv_iadd hx hb dX1_make_122 ?_
        refine pfM hx hb hts hin hown hK hP hap hS 6 (by decide) hw0 rfl rfl (by decide +kernel) (k2 := 1) (fun _ => rfl) dX1_make_123 (fun H locs hP hS => ?_)
        refine lv_aload_n hx hb dX1_make_126 rfl (lv_at hl 0 rfl) ?_
        refine gfM hx hb hts hin hown hK hP 6 (by decide) hw0 rfl rfl dX1_make_127 ?_
        refine lv_iconst (v := 1) hx hb dX1_make_130 (by decide) ?_
        refine lv_isub hx hb dX1_make_131 ?_
        have hf := Option.some.inj hf; subst hf
        exact W.iret hx hb hr (fun t ht hW => ⟨⟨rfl, by rw [ht]; exact hP⟩, hS.F ht⟩) hS.2.2 dX1_make_132
      · rw [if_neg c3] at hf
        refine lv_aload_n hx hb dX1_make_50 rfl (lv_at hl 0 rfl) ?_
        refine gfM hx hb hts hin hown hK hP 7 (by decide) hw1 rfl rfl dX1_make_51 ?_
        refine lv_bipush (v := 64) hx hb dX1_make_54 (by decide) ?_
        refine lv_aload_n hx hb dX1_make_56 rfl (lv_at hl 0 rfl) ?_
        refine gfM hx hb hts hin hown hK hP 6 (by decide) hw0 rfl rfl dX1_make_57 ?_
        refine lv_imul hx hb dX1_make_60 ?_
        refine lv_iload_n hx hb dX1_make_61 rfl (lv_at hl 2 rfl) ?_
        refine lv_iadd hx hb dX1_make_62 ?_
        refine lv_iload_n hx hb dX1_make_63 rfl (lv_at hl 1 rfl) ?_
        refine lv_if_ne (tgt := 75) hx hb dX1_make_64 (by decide) (fun c4 => ?_) (fun c4 => ?_)
        · rw [if_neg c4] at hf
          refine lv_iload_n hx hb dX1_make_75 rfl (lv_at hl 1 rfl) ?_
          refine lv_iconst (v := 1) hx hb dX1_make_76 (by decide) ?_
          refine lv_icmp_ne (tgt := 88) hx hb dX1_make_77 (by decide) (fun c5 => ?_) (fun c5 => ?_)
          · rw [if_neg c5] at hf
            refine lv_iload_n hx hb dX1_make_88 rfl (lv_at hl 1 rfl) ?_
            refine lv_iconst (v := 4) hx hb dX1_make_89 (by decide) ?_
            refine lv_icmp_ne (tgt := 101) hx hb dX1_make_90 (by decide) (fun c6 => ?_) (fun c6 => ?_)
            · rw [if_neg c6] at hf
              refine lv_aload_n hx hb dX1_make_101 rfl (lv_at hl 0 rfl) ?_
              refine lv_iload_n hx hb dX1_make_102 rfl (lv_at hl 1 rfl) ?_
              refine lv_iconst (v := 2) hx hb dX1_make_103 (by decide) ?_
              refine lv_isub hx hb dX1_make_104 ?_
              refine lv_iload_n hx hb dX1_make_105 rfl (lv_at hl 2 rfl) ?_
              obtain ⟨v7, hv7, hf⟩ := ob_some hf
              refine pu_V (As := [.int (p1 - 2), .int x2]) (rest := [.int ((64 * (S.1 1)) + x2), .ref (a 6)]) ⟨hx, hb, hml, hown, hts⟩ (k_X1_rank l dC dI cA a S (p1 - 2) x2 _ hv7) gX1_make_X1_rank rfl rfl rfl cd_X1_rank (Nat.le_of_ble_eq_true rfl) (Nat.le_of_ble_eq_true rfl) (preM hK hP) rfl hl.1 rfl (Nat.le_of_ble_eq_true rfl) (Nat.zero_le _) (Nat.zero_le _) dX1_make_106 ?_
              exact hW109 S x2 ((64 * (S.1 1)) + x2) v7 _ _ ls hf hP hS (lv_sub hl [0, 1, 2] rfl)
            · rw [if_pos c6] at hf
              refine lv_aload_n hx hb dX1_make_93 rfl (lv_at hl 0 rfl) ?_
              refine lv_iload_n hx hb dX1_make_94 rfl (lv_at hl 2 rfl) ?_
              obtain ⟨v8, hv8, hf⟩ := ob_some hf
              refine pu_V (As := [.int x2]) (rest := [.int ((64 * (S.1 1)) + x2), .ref (a 6)]) ⟨hx, hb, hml, hown, hts⟩ (k_X1_weight l dC dI cA a S x2 _ hv8) gX1_make_X1_weight rfl rfl rfl cd_X1_weight (Nat.le_of_ble_eq_true rfl) (Nat.le_of_ble_eq_true rfl) (preM hK hP) rfl hl.1 rfl (Nat.le_of_ble_eq_true rfl) (Nat.zero_le _) (Nat.zero_le _) dX1_make_95 ?_
              refine lv_goto (tgt := 109) hx hb dX1_make_98 (by decide) ?_
              exact hW109 S x2 ((64 * (S.1 1)) + x2) v8 _ _ ls hf hP hS (lv_sub hl [0, 1, 2] rfl)
          · rw [if_pos c5] at hf
            refine lv_aload_n hx hb dX1_make_80 rfl (lv_at hl 0 rfl) ?_
            refine lv_iload_n hx hb dX1_make_81 rfl (lv_at hl 2 rfl) ?_
            obtain ⟨v9, hv9, hf⟩ := ob_some hf
            refine pu_V (As := [.int x2]) (rest := [.int ((64 * (S.1 1)) + x2), .ref (a 6)]) ⟨hx, hb, hml, hown, hts⟩ (k_X1_cutBy l dC dI cA a S x2 _ hv9) gX1_make_X1_cutBy rfl rfl rfl cd_X1_cutBy (Nat.le_of_ble_eq_true rfl) (Nat.le_of_ble_eq_true rfl) (preM hK hP) rfl hl.1 rfl (Nat.le_of_ble_eq_true rfl) (Nat.zero_le _) (Nat.zero_le _) dX1_make_82 ?_
            refine lv_goto (tgt := 109) hx hb dX1_make_85 (by decide) ?_
            exact hW109 S x2 ((64 * (S.1 1)) + x2) v9 _ _ ls hf hP hS (lv_sub hl [0, 1, 2] rfl)
        · rw [if_pos c4] at hf
          refine lv_aload_n hx hb dX1_make_67 rfl (lv_at hl 0 rfl) ?_
          refine lv_iload_n hx hb dX1_make_68 rfl (lv_at hl 2 rfl) ?_
          obtain ⟨v10, hv10, hf⟩ := ob_some hf
          refine pu_V (As := [.int x2]) (rest := [.int ((64 * (S.1 1)) + x2), .ref (a 6)]) ⟨hx, hb, hml, hown, hts⟩ (k_X1_covered l dC dI cA a S x2 _ hv10) gX1_make_X1_covered rfl rfl rfl cd_X1_covered (Nat.le_of_ble_eq_true rfl) (Nat.le_of_ble_eq_true rfl) (preM hK hP) rfl hl.1 rfl (Nat.le_of_ble_eq_true rfl) (Nat.zero_le _) (Nat.zero_le _) dX1_make_69 ?_
          refine lv_goto (tgt := 109) hx hb dX1_make_72 (by decide) ?_
          exact hW109 S x2 ((64 * (S.1 1)) + x2) v10 _ _ ls hf hP hS (lv_sub hl [0, 1, 2] rfl)
  have hW28 : ∀ (S : St) (s1 : Int32) (H : Heap) (locs : List Loc) (ls : Array Slot), f_X1_make_28 p1 S s1 = some r → va_P (dC, dI) vwCl (wM cA a S) H → va_S (ad a 8) s.heap H locs → lv_has ls 3 [(0, .ref (a 0)), (1, .int p1)] → W p l e (headSpec wsX1_make ({ frames := 3, cells := 0, slots := 0, locals := 71 })).room s m ([.ref (a 0), .int p1] : List Value).toArray below meth c H locs 0 0 (MQ below (mMi (dC, dI) cA a r.1 r.2) ([.ref (a 0), .int p1] : List Value).toArray s 0 0 (ad a 8)) (F0 m 28 ls [.int s1, .ref (a 0)]) := by
    intro S s1 H locs ls hf hP hS hl
    unfold f_X1_make_28 at hf
    refine pfM hx hb hts hin hown hK hP hap hS 10 (by decide) hw2 rfl rfl (by decide +kernel) (k2 := 3) (fun _ => rfl) dX1_make_28 (fun H locs hP hS => ?_)
    refine lv_aload_n hx hb dX1_make_31 rfl (lv_at hl 0 rfl) ?_
    refine gfM hx hb hts hin hown hK hP 10 (by decide) hw2 rfl rfl dX1_make_32 ?_
    refine lv_if_le (tgt := 40) hx hb dX1_make_35 (by decide) (fun c11 => ?_) (fun c11 => ?_)
    · rw [if_pos c11] at hf
      refine lv_iconst (v := 0) hx hb dX1_make_40 (by decide) ?_
      refine lv_istore_n (lv' := [(2, .int 0), (0, .ref (a 0)), (1, .int p1)]) hx hb dX1_make_41 rfl hl (by decide) rfl (fun ls hl => ?_)
      exact hW42 70 (sS S 3 s1) 0 _ _ ls hf hP hS (lv_sub hl [1, 2, 0] rfl)
    · rw [if_neg c11] at hf
      refine lv_iconst (v := 0) hx hb dX1_make_38 (by decide) ?_
      have hf := Option.some.inj hf; subst hf
      exact W.iret hx hb hr (fun t ht hW => ⟨⟨rfl, by rw [ht]; exact hP⟩, hS.F ht⟩) hS.2.2 dX1_make_39
  unfold f_X1_make at hf
  refine lv_aload_n hx hb dX1_make_0 rfl (lv_at hl 0 rfl) ?_
  refine lv_iload_n hx hb dX1_make_1 rfl (lv_at hl 1 rfl) ?_
  refine lv_iconst (v := 0) hx hb dX1_make_2 (by decide) ?_
  refine lv_iconst (v := 4) hx hb dX1_make_3 (by decide) ?_
  refine pu_S (As := [.int p1, .int 0, .int 4]) (rest := [.ref (a 0)]) ⟨hx, hb, hml, hown, hts⟩ (k_X1_isIn l p1 0 4 _ rfl) gX1_make_X1_isIn rfl rfl rfl cd_X1_isIn (Nat.le_of_ble_eq_true rfl) (Nat.le_of_ble_eq_true rfl) (preT) rfl hl.1 rfl (Nat.le_of_ble_eq_true rfl) (Nat.zero_le _) (Nat.zero_le _) dX1_make_4 ?_
  refine lv_if_ne (tgt := 14) hx hb dX1_make_7 (by decide) (fun c12 => ?_) (fun c12 => ?_)
  · rw [if_neg c12] at hf
    refine lv_aload_n hx hb dX1_make_14 rfl (lv_at hl 0 rfl) ?_
    refine gfM hx hb hts hin hown hK hP 6 (by decide) hw0 rfl rfl dX1_make_15 ?_
    refine lv_bipush (v := 8) hx hb dX1_make_18 (by decide) ?_
    refine lv_icmp_ne (tgt := 27) hx hb dX1_make_20 (by decide) (fun c13 => ?_) (fun c13 => ?_)
    · rw [if_neg c13] at hf
      refine lv_iconst (v := 0) hx hb dX1_make_27 (by decide) ?_
      exact hW28 S 0 _ _ ls hf hP hS (lv_sub hl [0, 1] rfl)
    · rw [if_pos c13] at hf
      refine lv_iconst (v := 2) hx hb dX1_make_23 (by decide) ?_
      refine lv_goto (tgt := 28) hx hb dX1_make_24 (by decide) ?_
      exact hW28 S 2 _ _ ls hf hP hS (lv_sub hl [0, 1] rfl)
  · rw [if_pos c12] at hf
    refine lv_iconst (v := 1) hx hb dX1_make_10 (by decide) ?_
    refine lv_goto (tgt := 28) hx hb dX1_make_11 (by decide) ?_
    exact hW28 S 1 _ _ ls hf hP hS (lv_sub hl [0, 1] rfl)
theorem cd_X1_sum : yX1_sum.cls = RX1 ∧ yX1_sum.cls ≠ "java/lang/invoke/MethodHandle" ∧ yX1_sum.cls ≠ "java/lang/invoke/VarHandle" ∧ (parseMethodDescriptor yX1_sum.desc).map (fun d => d.parameters.length) = some 2 := by decide +kernel
set_option maxHeartbeats 4000000 in
set_option maxRecDepth 100000 in
theorem k_X1_sum (l : Launch) (dC : Nat → ClassId) (dI : Nat → Nat → Nat) (cA : ClassId) (a : Nat → Nat) (S : St) (p1 : Int32) (p2 : Int32) (r : Int32 × St) (hf : f_X1_sum S p1 p2 = some r) (hap : apart a 8) : Met l yX1_sum wsX1_sum ({ frames := 2, cells := 0, slots := 0, locals := 43 }) (va_Pc [.ref (a 0), .int p1, .int p2] (PMs (dC, dI) cA a S)) (mMi (dC, dI) cA a r.1 r.2) 0 0 (ad a 8) := by
  refine Met.ofW (cc := cX1_sum) (maxL := 4) (ret := (some .int)) (by decide) rfl ?_
  intro p e s m args below meth c s₁ B hml hv
  obtain ⟨rfl, hP, hK⟩ := hv
  have hx := B.exec
  have hb := B.bytes
  have hr := B.returns
  have hts := atoms_spec (ws := wsX1_sum) B.pre
  have hown : s.vm.findClass RX1 = some m.cls := findClass_of_methodNamed B.named
  have hlocks := B.notSynchronized
  have hin : ∀ w ∈ u_ws RX1 TX1 11, w ∈ wsX1_sum := by decide +kernel
  have hw0 := hts (.fieldLink RX1 38 "SubmodularyModel" "functions" "I") (by decide +kernel)
  have hw1 := hts (.fieldLink RX1 29 "SubmodularyModel" "values" "[I") (by decide +kernel)
  have hw2 := hts (.fieldLink RX1 44 "SubmodularyModel" "thrown" "I") (by decide +kernel)
  have hS : va_S (ad a 8) s.heap s.heap [] := va_S.rf
  have hl := lv_entry ([.ref (a 0), .int p1, .int p2]) (n := 4) (Nat.le_of_ble_eq_true rfl)
  rw [lg_entry_eq]
  generalize (lg_sl ([.ref (a 0), .int p1, .int p2]) ++ List.replicate (4 - (lg_sl ([.ref (a 0), .int p1, .int p2])).length) Slot.unset).toArray = ls at hl ⊢
  have hl : lv_has ls 4 [(0, .ref (a 0)), (1, .int p1), (2, .int p2)] := hl
  have hW49 : ∀ (k49 : Nat) (S : St) (x3 : Int32) (H : Heap) (locs : List Loc) (ls : Array Slot), f_X1_sum_49 p1 p2 k49 S x3 = some r → va_P (dC, dI) vwCl (wM cA a S) H → va_S (ad a 8) s.heap H locs → lv_has ls 4 [(0, .ref (a 0)), (1, .int p1), (2, .int p2), (3, .int x3)] → W p l e (headSpec wsX1_sum ({ frames := 2, cells := 0, slots := 0, locals := 43 })).room s m ([.ref (a 0), .int p1, .int p2] : List Value).toArray below meth c H locs 0 0 (MQ below (mMi (dC, dI) cA a r.1 r.2) ([.ref (a 0), .int p1, .int p2] : List Value).toArray s 0 0 (ad a 8)) (F0 m 49 ls []) := by
    intro k49
    induction k49 with
    | zero =>
      intro S x3 H locs ls hf hP hS hl
      rw [f_X1_sum_49] at hf
      cases hf
    | succ k49 ih49 =>
      intro S x3 H locs ls hf hP hS hl
      rw [f_X1_sum_49] at hf
      refine lv_aload_n hx hb dX1_sum_49 rfl (lv_at hl 0 rfl) ?_
      refine lv_iload_n hx hb dX1_sum_50 rfl (lv_at hl 3 rfl) ?_
      refine pu_V (As := [.int x3]) (rest := []) ⟨hx, hb, hml, hown, hts⟩ (k_X1_isSet l dC dI cA a S x3 _ rfl) gX1_sum_X1_isSet rfl rfl rfl cd_X1_isSet (Nat.le_of_ble_eq_true rfl) (Nat.le_of_ble_eq_true rfl) (preM hK hP) rfl hl.1 rfl (Nat.le_of_ble_eq_true rfl) (Nat.zero_le _) (Nat.zero_le _) dX1_sum_51 ?_
      refine lv_if_eq (tgt := 100) hx hb dX1_sum_54 (by decide) (fun c1 => ?_) (fun c1 => ?_)
      · rw [if_pos c1] at hf
        refine lv_aload_n hx hb dX1_sum_100 rfl (lv_at hl 0 rfl) ?_
        refine lv_dup hx hb dX1_sum_101 rfl ?_
        refine gfM hx hb hts hin hown hK hP 6 (by decide) hw0 rfl rfl dX1_sum_102 ?_
        refine lv_iconst (v := 1) hx hb dX1_sum_105 (by decide) ?_
        refine lv_iadd hx hb dX1_sum_106 ?_
        refine pfM hx hb hts hin hown hK hP hap hS 6 (by decide) hw0 rfl rfl (by decide +kernel) (k2 := 1) (fun _ => rfl) dX1_sum_107 (fun H locs hP hS => ?_)
        refine lv_aload_n hx hb dX1_sum_110 rfl (lv_at hl 0 rfl) ?_
        refine gfM hx hb hts hin hown hK hP 6 (by decide) hw0 rfl rfl dX1_sum_111 ?_
        refine lv_iconst (v := 1) hx hb dX1_sum_114 (by decide) ?_
        refine lv_isub hx hb dX1_sum_115 ?_
        have hf := Option.some.inj hf; subst hf
        exact W.iret hx hb hr (fun t ht hW => ⟨⟨rfl, by rw [ht]; exact hP⟩, hS.F ht⟩) hS.2.2 dX1_sum_116
      · rw [if_neg c1] at hf
        refine lv_aload_n hx hb dX1_sum_57 rfl (lv_at hl 0 rfl) ?_
        refine gfM hx hb hts hin hown hK hP 7 (by decide) hw1 rfl rfl dX1_sum_58 ?_
        refine lv_bipush (v := 64) hx hb dX1_sum_61 (by decide) ?_
        refine lv_aload_n hx hb dX1_sum_63 rfl (lv_at hl 0 rfl) ?_
        refine gfM hx hb hts hin hown hK hP 6 (by decide) hw0 rfl rfl dX1_sum_64 ?_
        refine lv_imul hx hb dX1_sum_67 ?_
        refine lv_iload_n hx hb dX1_sum_68 rfl (lv_at hl 3 rfl) ?_
        refine lv_iadd hx hb dX1_sum_69 ?_
        refine lv_aload_n hx hb dX1_sum_70 rfl (lv_at hl 0 rfl) ?_
        refine gfM hx hb hts hin hown hK hP 7 (by decide) hw1 rfl rfl dX1_sum_71 ?_
        refine lv_bipush (v := 64) hx hb dX1_sum_74 (by decide) ?_
        refine lv_iload_n hx hb dX1_sum_76 rfl (lv_at hl 1 rfl) ?_
        refine lv_imul hx hb dX1_sum_77 ?_
        refine lv_iload_n hx hb dX1_sum_78 rfl (lv_at hl 3 rfl) ?_
        refine lv_iadd hx hb dX1_sum_79 ?_
        obtain ⟨v2, hv2, hf⟩ := ob_some hf
        refine rdI hx hb hK hP 6 rfl hv2 dX1_sum_80 ?_
        refine lv_aload_n hx hb dX1_sum_81 rfl (lv_at hl 0 rfl) ?_
        refine gfM hx hb hts hin hown hK hP 7 (by decide) hw1 rfl rfl dX1_sum_82 ?_
        refine lv_bipush (v := 64) hx hb dX1_sum_85 (by decide) ?_
        refine lv_iload_n hx hb dX1_sum_87 rfl (lv_at hl 2 rfl) ?_
        refine lv_imul hx hb dX1_sum_88 ?_
        refine lv_iload_n hx hb dX1_sum_89 rfl (lv_at hl 3 rfl) ?_
        refine lv_iadd hx hb dX1_sum_90 ?_
        obtain ⟨v3, hv3, hf⟩ := ob_some hf
        refine rdI hx hb hK hP 6 rfl hv3 dX1_sum_91 ?_
        refine lv_iadd hx hb dX1_sum_92 ?_
        obtain ⟨g4, hg4, hf⟩ := ob_some hf
        refine wrM hx hb hK hP hap hS 5 (wM_q5 cA a _) (fun g => wM_s5 cA a _ g) hg4 dX1_sum_93 (fun H locs hP hS => ?_)
        obtain ⟨y5, ey5⟩ : ∃ y : Int32, y = (x3 + 1) := ⟨_, rfl⟩
        have hf := bnd_at hf ey5
        refine lv_iinc (v := y5) (lv' := [(3, .int y5), (0, .ref (a 0)), (1, .int p1), (2, .int p2)]) hx hb dX1_sum_94 hl (k := 3) rfl (by rw [ey5]; rfl) (by decide) rfl (fun ls hl => ?_)
        refine lv_goto (tgt := 49) hx hb dX1_sum_97 (by decide) ?_
        exact ih49 (sA S 5 g4) y5 _ _ ls hf hP hS (lv_sub hl [1, 2, 3, 0] rfl)
  have hW35 : ∀ (S : St) (s1 : Int32) (H : Heap) (locs : List Loc) (ls : Array Slot), f_X1_sum_35 p1 p2 S s1 = some r → va_P (dC, dI) vwCl (wM cA a S) H → va_S (ad a 8) s.heap H locs → lv_has ls 4 [(0, .ref (a 0)), (1, .int p1), (2, .int p2)] → W p l e (headSpec wsX1_sum ({ frames := 2, cells := 0, slots := 0, locals := 43 })).room s m ([.ref (a 0), .int p1, .int p2] : List Value).toArray below meth c H locs 0 0 (MQ below (mMi (dC, dI) cA a r.1 r.2) ([.ref (a 0), .int p1, .int p2] : List Value).toArray s 0 0 (ad a 8)) (F0 m 35 ls [.int s1, .ref (a 0)]) := by
    intro S s1 H locs ls hf hP hS hl
    unfold f_X1_sum_35 at hf
    refine pfM hx hb hts hin hown hK hP hap hS 10 (by decide) hw2 rfl rfl (by decide +kernel) (k2 := 3) (fun _ => rfl) dX1_sum_35 (fun H locs hP hS => ?_)
    refine lv_aload_n hx hb dX1_sum_38 rfl (lv_at hl 0 rfl) ?_
    refine gfM hx hb hts hin hown hK hP 10 (by decide) hw2 rfl rfl dX1_sum_39 ?_
    refine lv_if_le (tgt := 47) hx hb dX1_sum_42 (by decide) (fun c6 => ?_) (fun c6 => ?_)
    · rw [if_pos c6] at hf
      refine lv_iconst (v := 0) hx hb dX1_sum_47 (by decide) ?_
      refine lv_istore_n (lv' := [(3, .int 0), (0, .ref (a 0)), (1, .int p1), (2, .int p2)]) hx hb dX1_sum_48 rfl hl (by decide) rfl (fun ls hl => ?_)
      exact hW49 70 (sS S 3 s1) 0 _ _ ls hf hP hS (lv_sub hl [1, 2, 3, 0] rfl)
    · rw [if_neg c6] at hf
      refine lv_iconst (v := 0) hx hb dX1_sum_45 (by decide) ?_
      have hf := Option.some.inj hf; subst hf
      exact W.iret hx hb hr (fun t ht hW => ⟨⟨rfl, by rw [ht]; exact hP⟩, hS.F ht⟩) hS.2.2 dX1_sum_46
  unfold f_X1_sum at hf
  refine lv_aload_n hx hb dX1_sum_0 rfl (lv_at hl 0 rfl) ?_
  refine lv_aload_n hx hb dX1_sum_1 rfl (lv_at hl 0 rfl) ?_
  refine lv_iload_n hx hb dX1_sum_2 rfl (lv_at hl 1 rfl) ?_
  refine pu_V (As := [.int p1]) (rest := [.ref (a 0)]) ⟨hx, hb, hml, hown, hts⟩ (k_X1_isFunction l dC dI cA a S p1 _ rfl) gX1_sum_X1_isFunction rfl rfl rfl cd_X1_isFunction (Nat.le_of_ble_eq_true rfl) (Nat.le_of_ble_eq_true rfl) (preM hK hP) rfl hl.1 rfl (Nat.le_of_ble_eq_true rfl) (Nat.zero_le _) (Nat.zero_le _) dX1_sum_3 ?_
  refine lv_if_eq (tgt := 17) hx hb dX1_sum_6 (by decide) (fun c7 => ?_) (fun c7 => ?_)
  · rw [if_pos c7] at hf
    refine lv_iconst (v := 1) hx hb dX1_sum_17 (by decide) ?_
    refine lv_goto (tgt := 35) hx hb dX1_sum_18 (by decide) ?_
    exact hW35 S 1 _ _ ls hf hP hS (lv_sub hl [0, 1, 2] rfl)
  · rw [if_neg c7] at hf
    refine lv_aload_n hx hb dX1_sum_9 rfl (lv_at hl 0 rfl) ?_
    refine lv_iload_n hx hb dX1_sum_10 rfl (lv_at hl 2 rfl) ?_
    refine pu_V (As := [.int p2]) (rest := [.ref (a 0)]) ⟨hx, hb, hml, hown, hts⟩ (k_X1_isFunction l dC dI cA a S p2 _ rfl) gX1_sum_X1_isFunction rfl rfl rfl cd_X1_isFunction (Nat.le_of_ble_eq_true rfl) (Nat.le_of_ble_eq_true rfl) (preM hK hP) rfl hl.1 rfl (Nat.le_of_ble_eq_true rfl) (Nat.zero_le _) (Nat.zero_le _) dX1_sum_11 ?_
    refine lv_if_ne (tgt := 21) hx hb dX1_sum_14 (by decide) (fun c8 => ?_) (fun c8 => ?_)
    · rw [if_neg c8] at hf
      refine lv_aload_n hx hb dX1_sum_21 rfl (lv_at hl 0 rfl) ?_
      refine gfM hx hb hts hin hown hK hP 6 (by decide) hw0 rfl rfl dX1_sum_22 ?_
      refine lv_bipush (v := 8) hx hb dX1_sum_25 (by decide) ?_
      refine lv_icmp_ne (tgt := 34) hx hb dX1_sum_27 (by decide) (fun c9 => ?_) (fun c9 => ?_)
      · rw [if_neg c9] at hf
        refine lv_iconst (v := 0) hx hb dX1_sum_34 (by decide) ?_
        exact hW35 S 0 _ _ ls hf hP hS (lv_sub hl [0, 1, 2] rfl)
      · rw [if_pos c9] at hf
        refine lv_iconst (v := 2) hx hb dX1_sum_30 (by decide) ?_
        refine lv_goto (tgt := 35) hx hb dX1_sum_31 (by decide) ?_
        exact hW35 S 2 _ _ ls hf hP hS (lv_sub hl [0, 1, 2] rfl)
    · rw [if_pos c8] at hf
      refine lv_iconst (v := 1) hx hb dX1_sum_17 (by decide) ?_
      refine lv_goto (tgt := 35) hx hb dX1_sum_18 (by decide) ?_
      exact hW35 S 1 _ _ ls hf hP hS (lv_sub hl [0, 1, 2] rfl)
theorem cd_X1_contract : yX1_contract.cls = RX1 ∧ yX1_contract.cls ≠ "java/lang/invoke/MethodHandle" ∧ yX1_contract.cls ≠ "java/lang/invoke/VarHandle" ∧ (parseMethodDescriptor yX1_contract.desc).map (fun d => d.parameters.length) = some 2 := by decide +kernel
set_option maxHeartbeats 4000000 in
set_option maxRecDepth 100000 in
theorem k_X1_contract (l : Launch) (dC : Nat → ClassId) (dI : Nat → Nat → Nat) (cA : ClassId) (a : Nat → Nat) (S : St) (p1 : Int32) (p2 : Int32) (r : Int32 × St) (hf : f_X1_contract S p1 p2 = some r) (hap : apart a 8) : Met l yX1_contract wsX1_contract ({ frames := 2, cells := 0, slots := 0, locals := 43 }) (va_Pc [.ref (a 0), .int p1, .int p2] (PMs (dC, dI) cA a S)) (mMi (dC, dI) cA a r.1 r.2) 0 0 (ad a 8) := by
  refine Met.ofW (cc := cX1_contract) (maxL := 4) (ret := (some .int)) (by decide) rfl ?_
  intro p e s m args below meth c s₁ B hml hv
  obtain ⟨rfl, hP, hK⟩ := hv
  have hx := B.exec
  have hb := B.bytes
  have hr := B.returns
  have hts := atoms_spec (ws := wsX1_contract) B.pre
  have hown : s.vm.findClass RX1 = some m.cls := findClass_of_methodNamed B.named
  have hlocks := B.notSynchronized
  have hin : ∀ w ∈ u_ws RX1 TX1 11, w ∈ wsX1_contract := by decide +kernel
  have hw0 := hts (.fieldLink RX1 38 "SubmodularyModel" "functions" "I") (by decide +kernel)
  have hw1 := hts (.fieldLink RX1 29 "SubmodularyModel" "values" "[I") (by decide +kernel)
  have hw2 := hts (.fieldLink RX1 44 "SubmodularyModel" "thrown" "I") (by decide +kernel)
  have hS : va_S (ad a 8) s.heap s.heap [] := va_S.rf
  have hl := lv_entry ([.ref (a 0), .int p1, .int p2]) (n := 4) (Nat.le_of_ble_eq_true rfl)
  rw [lg_entry_eq]
  generalize (lg_sl ([.ref (a 0), .int p1, .int p2]) ++ List.replicate (4 - (lg_sl ([.ref (a 0), .int p1, .int p2])).length) Slot.unset).toArray = ls at hl ⊢
  have hl : lv_has ls 4 [(0, .ref (a 0)), (1, .int p1), (2, .int p2)] := hl
  have hW53 : ∀ (k53 : Nat) (S : St) (x3 : Int32) (H : Heap) (locs : List Loc) (ls : Array Slot), f_X1_contract_53 p1 p2 k53 S x3 = some r → va_P (dC, dI) vwCl (wM cA a S) H → va_S (ad a 8) s.heap H locs → lv_has ls 4 [(0, .ref (a 0)), (1, .int p1), (2, .int p2), (3, .int x3)] → W p l e (headSpec wsX1_contract ({ frames := 2, cells := 0, slots := 0, locals := 43 })).room s m ([.ref (a 0), .int p1, .int p2] : List Value).toArray below meth c H locs 0 0 (MQ below (mMi (dC, dI) cA a r.1 r.2) ([.ref (a 0), .int p1, .int p2] : List Value).toArray s 0 0 (ad a 8)) (F0 m 53 ls []) := by
    intro k53
    induction k53 with
    | zero =>
      intro S x3 H locs ls hf hP hS hl
      rw [f_X1_contract_53] at hf
      cases hf
    | succ k53 ih53 =>
      intro S x3 H locs ls hf hP hS hl
      rw [f_X1_contract_53] at hf
      refine lv_aload_n hx hb dX1_contract_53 rfl (lv_at hl 0 rfl) ?_
      refine lv_iload_n hx hb dX1_contract_54 rfl (lv_at hl 3 rfl) ?_
      refine pu_V (As := [.int x3]) (rest := []) ⟨hx, hb, hml, hown, hts⟩ (k_X1_isSet l dC dI cA a S x3 _ rfl) gX1_contract_X1_isSet rfl rfl rfl cd_X1_isSet (Nat.le_of_ble_eq_true rfl) (Nat.le_of_ble_eq_true rfl) (preM hK hP) rfl hl.1 rfl (Nat.le_of_ble_eq_true rfl) (Nat.zero_le _) (Nat.zero_le _) dX1_contract_55 ?_
      refine lv_if_eq (tgt := 106) hx hb dX1_contract_58 (by decide) (fun c1 => ?_) (fun c1 => ?_)
      · rw [if_pos c1] at hf
        refine lv_aload_n hx hb dX1_contract_106 rfl (lv_at hl 0 rfl) ?_
        refine lv_dup hx hb dX1_contract_107 rfl ?_
        refine gfM hx hb hts hin hown hK hP 6 (by decide) hw0 rfl rfl dX1_contract_108 ?_
        refine lv_iconst (v := 1) hx hb dX1_contract_111 (by decide) ?_
        refine lv_iadd hx hb dX1_contract_112 ?_
        refine pfM hx hb hts hin hown hK hP hap hS 6 (by decide) hw0 rfl rfl (by decide +kernel) (k2 := 1) (fun _ => rfl) dX1_contract_113 (fun H locs hP hS => ?_)
        refine lv_aload_n hx hb dX1_contract_116 rfl (lv_at hl 0 rfl) ?_
        refine gfM hx hb hts hin hown hK hP 6 (by decide) hw0 rfl rfl dX1_contract_117 ?_
        refine lv_iconst (v := 1) hx hb dX1_contract_120 (by decide) ?_
        refine lv_isub hx hb dX1_contract_121 ?_
        have hf := Option.some.inj hf; subst hf
        exact W.iret hx hb hr (fun t ht hW => ⟨⟨rfl, by rw [ht]; exact hP⟩, hS.F ht⟩) hS.2.2 dX1_contract_122
      · rw [if_neg c1] at hf
        refine lv_aload_n hx hb dX1_contract_61 rfl (lv_at hl 0 rfl) ?_
        refine gfM hx hb hts hin hown hK hP 7 (by decide) hw1 rfl rfl dX1_contract_62 ?_
        refine lv_bipush (v := 64) hx hb dX1_contract_65 (by decide) ?_
        refine lv_aload_n hx hb dX1_contract_67 rfl (lv_at hl 0 rfl) ?_
        refine gfM hx hb hts hin hown hK hP 6 (by decide) hw0 rfl rfl dX1_contract_68 ?_
        refine lv_imul hx hb dX1_contract_71 ?_
        refine lv_iload_n hx hb dX1_contract_72 rfl (lv_at hl 3 rfl) ?_
        refine lv_iadd hx hb dX1_contract_73 ?_
        refine lv_aload_n hx hb dX1_contract_74 rfl (lv_at hl 0 rfl) ?_
        refine gfM hx hb hts hin hown hK hP 7 (by decide) hw1 rfl rfl dX1_contract_75 ?_
        refine lv_bipush (v := 64) hx hb dX1_contract_78 (by decide) ?_
        refine lv_iload_n hx hb dX1_contract_80 rfl (lv_at hl 1 rfl) ?_
        refine lv_imul hx hb dX1_contract_81 ?_
        refine lv_iload_n hx hb dX1_contract_82 rfl (lv_at hl 3 rfl) ?_
        refine lv_iload_n hx hb dX1_contract_83 rfl (lv_at hl 2 rfl) ?_
        refine lv_ior hx hb dX1_contract_84 ?_
        refine lv_iadd hx hb dX1_contract_85 ?_
        obtain ⟨v2, hv2, hf⟩ := ob_some hf
        refine rdI hx hb hK hP 6 rfl hv2 dX1_contract_86 ?_
        refine lv_aload_n hx hb dX1_contract_87 rfl (lv_at hl 0 rfl) ?_
        refine gfM hx hb hts hin hown hK hP 7 (by decide) hw1 rfl rfl dX1_contract_88 ?_
        refine lv_bipush (v := 64) hx hb dX1_contract_91 (by decide) ?_
        refine lv_iload_n hx hb dX1_contract_93 rfl (lv_at hl 1 rfl) ?_
        refine lv_imul hx hb dX1_contract_94 ?_
        refine lv_iload_n hx hb dX1_contract_95 rfl (lv_at hl 2 rfl) ?_
        refine lv_iadd hx hb dX1_contract_96 ?_
        obtain ⟨v3, hv3, hf⟩ := ob_some hf
        refine rdI hx hb hK hP 6 rfl hv3 dX1_contract_97 ?_
        refine lv_isub hx hb dX1_contract_98 ?_
        obtain ⟨g4, hg4, hf⟩ := ob_some hf
        refine wrM hx hb hK hP hap hS 5 (wM_q5 cA a _) (fun g => wM_s5 cA a _ g) hg4 dX1_contract_99 (fun H locs hP hS => ?_)
        obtain ⟨y5, ey5⟩ : ∃ y : Int32, y = (x3 + 1) := ⟨_, rfl⟩
        have hf := bnd_at hf ey5
        refine lv_iinc (v := y5) (lv' := [(3, .int y5), (0, .ref (a 0)), (1, .int p1), (2, .int p2)]) hx hb dX1_contract_100 hl (k := 3) rfl (by rw [ey5]; rfl) (by decide) rfl (fun ls hl => ?_)
        refine lv_goto (tgt := 53) hx hb dX1_contract_103 (by decide) ?_
        exact ih53 (sA S 5 g4) y5 _ _ ls hf hP hS (lv_sub hl [1, 2, 3, 0] rfl)
  have hW39 : ∀ (S : St) (s1 : Int32) (H : Heap) (locs : List Loc) (ls : Array Slot), f_X1_contract_39 p1 p2 S s1 = some r → va_P (dC, dI) vwCl (wM cA a S) H → va_S (ad a 8) s.heap H locs → lv_has ls 4 [(0, .ref (a 0)), (1, .int p1), (2, .int p2)] → W p l e (headSpec wsX1_contract ({ frames := 2, cells := 0, slots := 0, locals := 43 })).room s m ([.ref (a 0), .int p1, .int p2] : List Value).toArray below meth c H locs 0 0 (MQ below (mMi (dC, dI) cA a r.1 r.2) ([.ref (a 0), .int p1, .int p2] : List Value).toArray s 0 0 (ad a 8)) (F0 m 39 ls [.int s1, .ref (a 0)]) := by
    intro S s1 H locs ls hf hP hS hl
    unfold f_X1_contract_39 at hf
    refine pfM hx hb hts hin hown hK hP hap hS 10 (by decide) hw2 rfl rfl (by decide +kernel) (k2 := 3) (fun _ => rfl) dX1_contract_39 (fun H locs hP hS => ?_)
    refine lv_aload_n hx hb dX1_contract_42 rfl (lv_at hl 0 rfl) ?_
    refine gfM hx hb hts hin hown hK hP 10 (by decide) hw2 rfl rfl dX1_contract_43 ?_
    refine lv_if_le (tgt := 51) hx hb dX1_contract_46 (by decide) (fun c6 => ?_) (fun c6 => ?_)
    · rw [if_pos c6] at hf
      refine lv_iconst (v := 0) hx hb dX1_contract_51 (by decide) ?_
      refine lv_istore_n (lv' := [(3, .int 0), (0, .ref (a 0)), (1, .int p1), (2, .int p2)]) hx hb dX1_contract_52 rfl hl (by decide) rfl (fun ls hl => ?_)
      exact hW53 70 (sS S 3 s1) 0 _ _ ls hf hP hS (lv_sub hl [1, 2, 3, 0] rfl)
    · rw [if_neg c6] at hf
      refine lv_iconst (v := 0) hx hb dX1_contract_49 (by decide) ?_
      have hf := Option.some.inj hf; subst hf
      exact W.iret hx hb hr (fun t ht hW => ⟨⟨rfl, by rw [ht]; exact hP⟩, hS.F ht⟩) hS.2.2 dX1_contract_50
  unfold f_X1_contract at hf
  refine lv_aload_n hx hb dX1_contract_0 rfl (lv_at hl 0 rfl) ?_
  refine lv_aload_n hx hb dX1_contract_1 rfl (lv_at hl 0 rfl) ?_
  refine lv_iload_n hx hb dX1_contract_2 rfl (lv_at hl 1 rfl) ?_
  refine pu_V (As := [.int p1]) (rest := [.ref (a 0)]) ⟨hx, hb, hml, hown, hts⟩ (k_X1_isFunction l dC dI cA a S p1 _ rfl) gX1_contract_X1_isFunction rfl rfl rfl cd_X1_isFunction (Nat.le_of_ble_eq_true rfl) (Nat.le_of_ble_eq_true rfl) (preM hK hP) rfl hl.1 rfl (Nat.le_of_ble_eq_true rfl) (Nat.zero_le _) (Nat.zero_le _) dX1_contract_3 ?_
  refine lv_if_ne (tgt := 13) hx hb dX1_contract_6 (by decide) (fun c7 => ?_) (fun c7 => ?_)
  · rw [if_neg c7] at hf
    refine lv_aload_n hx hb dX1_contract_13 rfl (lv_at hl 0 rfl) ?_
    refine lv_iload_n hx hb dX1_contract_14 rfl (lv_at hl 2 rfl) ?_
    refine pu_V (As := [.int p2]) (rest := [.ref (a 0)]) ⟨hx, hb, hml, hown, hts⟩ (k_X1_isSet l dC dI cA a S p2 _ rfl) gX1_contract_X1_isSet rfl rfl rfl cd_X1_isSet (Nat.le_of_ble_eq_true rfl) (Nat.le_of_ble_eq_true rfl) (preM hK hP) rfl hl.1 rfl (Nat.le_of_ble_eq_true rfl) (Nat.zero_le _) (Nat.zero_le _) dX1_contract_15 ?_
    refine lv_if_ne (tgt := 25) hx hb dX1_contract_18 (by decide) (fun c8 => ?_) (fun c8 => ?_)
    · rw [if_neg c8] at hf
      refine lv_aload_n hx hb dX1_contract_25 rfl (lv_at hl 0 rfl) ?_
      refine gfM hx hb hts hin hown hK hP 6 (by decide) hw0 rfl rfl dX1_contract_26 ?_
      refine lv_bipush (v := 8) hx hb dX1_contract_29 (by decide) ?_
      refine lv_icmp_ne (tgt := 38) hx hb dX1_contract_31 (by decide) (fun c9 => ?_) (fun c9 => ?_)
      · rw [if_neg c9] at hf
        refine lv_iconst (v := 0) hx hb dX1_contract_38 (by decide) ?_
        exact hW39 S 0 _ _ ls hf hP hS (lv_sub hl [0, 1, 2] rfl)
      · rw [if_pos c9] at hf
        refine lv_iconst (v := 3) hx hb dX1_contract_34 (by decide) ?_
        refine lv_goto (tgt := 39) hx hb dX1_contract_35 (by decide) ?_
        exact hW39 S 3 _ _ ls hf hP hS (lv_sub hl [0, 1, 2] rfl)
    · rw [if_pos c8] at hf
      refine lv_iconst (v := 2) hx hb dX1_contract_21 (by decide) ?_
      refine lv_goto (tgt := 39) hx hb dX1_contract_22 (by decide) ?_
      exact hW39 S 2 _ _ ls hf hP hS (lv_sub hl [0, 1, 2] rfl)
  · rw [if_pos c7] at hf
    refine lv_iconst (v := 1) hx hb dX1_contract_9 (by decide) ?_
    refine lv_goto (tgt := 39) hx hb dX1_contract_10 (by decide) ?_
    exact hW39 S 1 _ _ ls hf hP hS (lv_sub hl [0, 1, 2] rfl)
theorem cd_X1_cap : yX1_cap.cls = RX1 ∧ yX1_cap.cls ≠ "java/lang/invoke/MethodHandle" ∧ yX1_cap.cls ≠ "java/lang/invoke/VarHandle" ∧ (parseMethodDescriptor yX1_cap.desc).map (fun d => d.parameters.length) = some 2 := by decide +kernel
set_option maxHeartbeats 4000000 in
set_option maxRecDepth 100000 in
theorem k_X1_cap (l : Launch) (dC : Nat → ClassId) (dI : Nat → Nat → Nat) (cA : ClassId) (a : Nat → Nat) (S : St) (p1 : Int32) (p2 : Int32) (r : Int32 × St) (hf : f_X1_cap S p1 p2 = some r) (hap : apart a 8) : Met l yX1_cap wsX1_cap ({ frames := 2, cells := 0, slots := 0, locals := 43 }) (va_Pc [.ref (a 0), .int p1, .int p2] (PMs (dC, dI) cA a S)) (mMi (dC, dI) cA a r.1 r.2) 0 0 (ad a 8) := by
  refine Met.ofW (cc := cX1_cap) (maxL := 5) (ret := (some .int)) (by decide) rfl ?_
  intro p e s m args below meth c s₁ B hml hv
  obtain ⟨rfl, hP, hK⟩ := hv
  have hx := B.exec
  have hb := B.bytes
  have hr := B.returns
  have hts := atoms_spec (ws := wsX1_cap) B.pre
  have hown : s.vm.findClass RX1 = some m.cls := findClass_of_methodNamed B.named
  have hlocks := B.notSynchronized
  have hin : ∀ w ∈ u_ws RX1 TX1 11, w ∈ wsX1_cap := by decide +kernel
  have hw0 := hts (.fieldLink RX1 38 "SubmodularyModel" "functions" "I") (by decide +kernel)
  have hw1 := hts (.fieldLink RX1 29 "SubmodularyModel" "values" "[I") (by decide +kernel)
  have hw2 := hts (.fieldLink RX1 44 "SubmodularyModel" "thrown" "I") (by decide +kernel)
  have hS : va_S (ad a 8) s.heap s.heap [] := va_S.rf
  have hl := lv_entry ([.ref (a 0), .int p1, .int p2]) (n := 5) (Nat.le_of_ble_eq_true rfl)
  rw [lg_entry_eq]
  generalize (lg_sl ([.ref (a 0), .int p1, .int p2]) ++ List.replicate (5 - (lg_sl ([.ref (a 0), .int p1, .int p2])).length) Slot.unset).toArray = ls at hl ⊢
  have hl : lv_has ls 5 [(0, .ref (a 0)), (1, .int p1), (2, .int p2)] := hl
  have hW55 : ∀ (k55 : Nat) (S : St) (x3 : Int32) (H : Heap) (locs : List Loc) (ls : Array Slot), f_X1_cap_55 p1 p2 k55 S x3 = some r → va_P (dC, dI) vwCl (wM cA a S) H → va_S (ad a 8) s.heap H locs → lv_has ls 5 [(0, .ref (a 0)), (1, .int p1), (2, .int p2), (3, .int x3)] → W p l e (headSpec wsX1_cap ({ frames := 2, cells := 0, slots := 0, locals := 43 })).room s m ([.ref (a 0), .int p1, .int p2] : List Value).toArray below meth c H locs 0 0 (MQ below (mMi (dC, dI) cA a r.1 r.2) ([.ref (a 0), .int p1, .int p2] : List Value).toArray s 0 0 (ad a 8)) (F0 m 55 ls []) := by
    intro k55
    induction k55 with
    | zero =>
      intro S x3 H locs ls hf hP hS hl
      rw [f_X1_cap_55] at hf
      cases hf
    | succ k55 ih55 =>
      have hW101 : ∀ (S : St) (x3 s1 s2 : Int32) (H : Heap) (locs : List Loc) (ls : Array Slot), f_X1_cap_101 p1 p2 (f_X1_cap_55 p1 p2 k55) S x3 s1 s2 = some r → va_P (dC, dI) vwCl (wM cA a S) H → va_S (ad a 8) s.heap H locs → lv_has ls 5 [(0, .ref (a 0)), (1, .int p1), (2, .int p2), (3, .int x3)] → W p l e (headSpec wsX1_cap ({ frames := 2, cells := 0, slots := 0, locals := 43 })).room s m ([.ref (a 0), .int p1, .int p2] : List Value).toArray below meth c H locs 0 0 (MQ below (mMi (dC, dI) cA a r.1 r.2) ([.ref (a 0), .int p1, .int p2] : List Value).toArray s 0 0 (ad a 8)) (F0 m 101 ls [.int s2, .int s1, .ref (a 6)]) := by
        intro S x3 s1 s2 H locs ls hf hP hS hl
        unfold f_X1_cap_101 at hf
        obtain ⟨g1, hg1, hf⟩ := ob_some hf
        refine wrM hx hb hK hP hap hS 5 (wM_q5 cA a _) (fun g => wM_s5 cA a _ g) hg1 dX1_cap_101 (fun H locs hP hS => ?_)
        obtain ⟨y2, ey2⟩ : ∃ y : Int32, y = (x3 + 1) := ⟨_, rfl⟩
        have hf := bnd_at hf ey2
        refine lv_iinc (v := y2) (lv' := [(3, .int y2), (0, .ref (a 0)), (1, .int p1), (2, .int p2)]) hx hb dX1_cap_102 hl (k := 3) rfl (by rw [ey2]; rfl) (by decide) rfl (fun ls hl => ?_)
        refine lv_goto (tgt := 55) hx hb dX1_cap_105 (by decide) ?_
        exact ih55 (sA S 5 g1) y2 _ _ ls hf hP hS (lv_sub hl [1, 2, 3, 0] rfl)
      intro S x3 H locs ls hf hP hS hl
      rw [f_X1_cap_55] at hf
      refine lv_aload_n hx hb dX1_cap_55 rfl (lv_at hl 0 rfl) ?_
      refine lv_iload_n hx hb dX1_cap_56 rfl (lv_at hl 3 rfl) ?_
      refine pu_V (As := [.int x3]) (rest := []) ⟨hx, hb, hml, hown, hts⟩ (k_X1_isSet l dC dI cA a S x3 _ rfl) gX1_cap_X1_isSet rfl rfl rfl cd_X1_isSet (Nat.le_of_ble_eq_true rfl) (Nat.le_of_ble_eq_true rfl) (preM hK hP) rfl hl.1 rfl (Nat.le_of_ble_eq_true rfl) (Nat.zero_le _) (Nat.zero_le _) dX1_cap_57 ?_
      refine lv_if_eq (tgt := 108) hx hb dX1_cap_60 (by decide) (fun c3 => ?_) (fun c3 => ?_)
      · rw [if_pos c3] at hf
        refine lv_aload_n hx hb dX1_cap_108 rfl (lv_at hl 0 rfl) ?_
        refine lv_dup hx hb dX1_cap_109 rfl ?_
        refine gfM hx hb hts hin hown hK hP 6 (by decide) hw0 rfl rfl dX1_cap_110 ?_
        refine lv_iconst (v := 1) hx hb dX1_cap_113 (by decide) ?_
        refine lv_iadd hx hb dX1_cap_114 ?_
        refine pfM hx hb hts hin hown hK hP hap hS 6 (by decide) hw0 rfl rfl (by decide +kernel) (k2 := 1) (fun _ => rfl) dX1_cap_115 (fun H locs hP hS => ?_)
        refine lv_aload_n hx hb dX1_cap_118 rfl (lv_at hl 0 rfl) ?_
        refine gfM hx hb hts hin hown hK hP 6 (by decide) hw0 rfl rfl dX1_cap_119 ?_
        refine lv_iconst (v := 1) hx hb dX1_cap_122 (by decide) ?_
        refine lv_isub hx hb dX1_cap_123 ?_
        have hf := Option.some.inj hf; subst hf
        exact W.iret hx hb hr (fun t ht hW => ⟨⟨rfl, by rw [ht]; exact hP⟩, hS.F ht⟩) hS.2.2 dX1_cap_124
      · rw [if_neg c3] at hf
        refine lv_aload_n hx hb dX1_cap_63 rfl (lv_at hl 0 rfl) ?_
        refine gfM hx hb hts hin hown hK hP 7 (by decide) hw1 rfl rfl dX1_cap_64 ?_
        refine lv_bipush (v := 64) hx hb dX1_cap_67 (by decide) ?_
        refine lv_iload_n hx hb dX1_cap_69 rfl (lv_at hl 1 rfl) ?_
        refine lv_imul hx hb dX1_cap_70 ?_
        refine lv_iload_n hx hb dX1_cap_71 rfl (lv_at hl 3 rfl) ?_
        refine lv_iadd hx hb dX1_cap_72 ?_
        obtain ⟨v4, hv4, hf⟩ := ob_some hf
        refine rdI hx hb hK hP 6 rfl hv4 dX1_cap_73 ?_
        refine lv_istore (lv' := [(4, .int v4), (0, .ref (a 0)), (1, .int p1), (2, .int p2), (3, .int x3)]) hx hb dX1_cap_74 hl (by decide) rfl (fun ls hl => ?_)
        refine lv_aload_n hx hb dX1_cap_76 rfl (lv_at hl 1 rfl) ?_
        refine gfM hx hb hts hin hown hK hP 7 (by decide) hw1 rfl rfl dX1_cap_77 ?_
        refine lv_bipush (v := 64) hx hb dX1_cap_80 (by decide) ?_
        refine lv_aload_n hx hb dX1_cap_82 rfl (lv_at hl 1 rfl) ?_
        refine gfM hx hb hts hin hown hK hP 6 (by decide) hw0 rfl rfl dX1_cap_83 ?_
        refine lv_imul hx hb dX1_cap_86 ?_
        refine lv_iload_n hx hb dX1_cap_87 rfl (lv_at hl 4 rfl) ?_
        refine lv_iadd hx hb dX1_cap_88 ?_
        refine lv_iload hx hb dX1_cap_89 (lv_at hl 0 rfl) ?_
        refine lv_iload_n hx hb dX1_cap_91 rfl (lv_at hl 3 rfl) ?_
        refine lv_icmp_ge (tgt := 100) hx hb dX1_cap_92 (by decide) (fun c5 => ?_) (fun c5 => ?_)
        · rw [if_pos c5] at hf
          refine lv_iload_n hx hb dX1_cap_100 rfl (lv_at hl 3 rfl) ?_
          exact hW101 S x3 ((64 * (S.1 1)) + x3) p2 _ _ ls hf hP hS (lv_sub hl [1, 2, 3, 4] rfl)
        · rw [if_neg c5] at hf
          refine lv_iload hx hb dX1_cap_95 (lv_at hl 0 rfl) ?_
          refine lv_goto (tgt := 101) hx hb dX1_cap_97 (by decide) ?_
          exact hW101 S x3 ((64 * (S.1 1)) + x3) v4 _ _ ls hf hP hS (lv_sub hl [1, 2, 3, 4] rfl)
  have hW41 : ∀ (S : St) (s1 : Int32) (H : Heap) (locs : List Loc) (ls : Array Slot), f_X1_cap_41 p1 p2 S s1 = some r → va_P (dC, dI) vwCl (wM cA a S) H → va_S (ad a 8) s.heap H locs → lv_has ls 5 [(0, .ref (a 0)), (1, .int p1), (2, .int p2)] → W p l e (headSpec wsX1_cap ({ frames := 2, cells := 0, slots := 0, locals := 43 })).room s m ([.ref (a 0), .int p1, .int p2] : List Value).toArray below meth c H locs 0 0 (MQ below (mMi (dC, dI) cA a r.1 r.2) ([.ref (a 0), .int p1, .int p2] : List Value).toArray s 0 0 (ad a 8)) (F0 m 41 ls [.int s1, .ref (a 0)]) := by
    intro S s1 H locs ls hf hP hS hl
    unfold f_X1_cap_41 at hf
    refine pfM hx hb hts hin hown hK hP hap hS 10 (by decide) hw2 rfl rfl (by decide +kernel) (k2 := 3) (fun _ => rfl) dX1_cap_41 (fun H locs hP hS => ?_)
    refine lv_aload_n hx hb dX1_cap_44 rfl (lv_at hl 0 rfl) ?_
    refine gfM hx hb hts hin hown hK hP 10 (by decide) hw2 rfl rfl dX1_cap_45 ?_
    refine lv_if_le (tgt := 53) hx hb dX1_cap_48 (by decide) (fun c6 => ?_) (fun c6 => ?_)
    · rw [if_pos c6] at hf
      refine lv_iconst (v := 0) hx hb dX1_cap_53 (by decide) ?_
      refine lv_istore_n (lv' := [(3, .int 0), (0, .ref (a 0)), (1, .int p1), (2, .int p2)]) hx hb dX1_cap_54 rfl hl (by decide) rfl (fun ls hl => ?_)
      exact hW55 70 (sS S 3 s1) 0 _ _ ls hf hP hS (lv_sub hl [1, 2, 3, 0] rfl)
    · rw [if_neg c6] at hf
      refine lv_iconst (v := 0) hx hb dX1_cap_51 (by decide) ?_
      have hf := Option.some.inj hf; subst hf
      exact W.iret hx hb hr (fun t ht hW => ⟨⟨rfl, by rw [ht]; exact hP⟩, hS.F ht⟩) hS.2.2 dX1_cap_52
  unfold f_X1_cap at hf
  refine lv_aload_n hx hb dX1_cap_0 rfl (lv_at hl 0 rfl) ?_
  refine lv_aload_n hx hb dX1_cap_1 rfl (lv_at hl 0 rfl) ?_
  refine lv_iload_n hx hb dX1_cap_2 rfl (lv_at hl 1 rfl) ?_
  refine pu_V (As := [.int p1]) (rest := [.ref (a 0)]) ⟨hx, hb, hml, hown, hts⟩ (k_X1_isFunction l dC dI cA a S p1 _ rfl) gX1_cap_X1_isFunction rfl rfl rfl cd_X1_isFunction (Nat.le_of_ble_eq_true rfl) (Nat.le_of_ble_eq_true rfl) (preM hK hP) rfl hl.1 rfl (Nat.le_of_ble_eq_true rfl) (Nat.zero_le _) (Nat.zero_le _) dX1_cap_3 ?_
  refine lv_if_ne (tgt := 13) hx hb dX1_cap_6 (by decide) (fun c7 => ?_) (fun c7 => ?_)
  · rw [if_neg c7] at hf
    refine lv_iload_n hx hb dX1_cap_13 rfl (lv_at hl 2 rfl) ?_
    refine lv_iconst (v := 0) hx hb dX1_cap_14 (by decide) ?_
    refine lv_bipush (v := 100) hx hb dX1_cap_15 (by decide) ?_
    refine pu_S (As := [.int p2, .int 0, .int 100]) (rest := [.ref (a 0)]) ⟨hx, hb, hml, hown, hts⟩ (k_X1_isIn l p2 0 100 _ rfl) gX1_cap_X1_isIn rfl rfl rfl cd_X1_isIn (Nat.le_of_ble_eq_true rfl) (Nat.le_of_ble_eq_true rfl) (preT) rfl hl.1 rfl (Nat.le_of_ble_eq_true rfl) (Nat.zero_le _) (Nat.zero_le _) dX1_cap_17 ?_
    refine lv_if_ne (tgt := 27) hx hb dX1_cap_20 (by decide) (fun c8 => ?_) (fun c8 => ?_)
    · rw [if_neg c8] at hf
      refine lv_aload_n hx hb dX1_cap_27 rfl (lv_at hl 0 rfl) ?_
      refine gfM hx hb hts hin hown hK hP 6 (by decide) hw0 rfl rfl dX1_cap_28 ?_
      refine lv_bipush (v := 8) hx hb dX1_cap_31 (by decide) ?_
      refine lv_icmp_ne (tgt := 40) hx hb dX1_cap_33 (by decide) (fun c9 => ?_) (fun c9 => ?_)
      · rw [if_neg c9] at hf
        refine lv_iconst (v := 0) hx hb dX1_cap_40 (by decide) ?_
        exact hW41 S 0 _ _ ls hf hP hS (lv_sub hl [0, 1, 2] rfl)
      · rw [if_pos c9] at hf
        refine lv_iconst (v := 3) hx hb dX1_cap_36 (by decide) ?_
        refine lv_goto (tgt := 41) hx hb dX1_cap_37 (by decide) ?_
        exact hW41 S 3 _ _ ls hf hP hS (lv_sub hl [0, 1, 2] rfl)
    · rw [if_pos c8] at hf
      refine lv_iconst (v := 2) hx hb dX1_cap_23 (by decide) ?_
      refine lv_goto (tgt := 41) hx hb dX1_cap_24 (by decide) ?_
      exact hW41 S 2 _ _ ls hf hP hS (lv_sub hl [0, 1, 2] rfl)
  · rw [if_pos c7] at hf
    refine lv_iconst (v := 1) hx hb dX1_cap_9 (by decide) ?_
    refine lv_goto (tgt := 41) hx hb dX1_cap_10 (by decide) ?_
    exact hW41 S 1 _ _ ls hf hP hS (lv_sub hl [0, 1, 2] rfl)
theorem cd_X1_value : yX1_value.cls = RX1 ∧ yX1_value.cls ≠ "java/lang/invoke/MethodHandle" ∧ yX1_value.cls ≠ "java/lang/invoke/VarHandle" ∧ (parseMethodDescriptor yX1_value.desc).map (fun d => d.parameters.length) = some 2 := by decide +kernel
set_option maxHeartbeats 4000000 in
set_option maxRecDepth 100000 in
theorem k_X1_value (l : Launch) (dC : Nat → ClassId) (dI : Nat → Nat → Nat) (cA : ClassId) (a : Nat → Nat) (S : St) (p1 : Int32) (p2 : Int32) (r : Int32 × St) (hf : f_X1_value S p1 p2 = some r) (hap : apart a 8) : Met l yX1_value wsX1_value ({ frames := 2, cells := 0, slots := 0, locals := 43 }) (va_Pc [.ref (a 0), .int p1, .int p2] (PMs (dC, dI) cA a S)) (mMi (dC, dI) cA a r.1 r.2) 0 0 (ad a 8) := by
  refine Met.ofW (cc := cX1_value) (maxL := 3) (ret := (some .int)) (by decide) rfl ?_
  intro p e s m args below meth c s₁ B hml hv
  obtain ⟨rfl, hP, hK⟩ := hv
  have hx := B.exec
  have hb := B.bytes
  have hr := B.returns
  have hts := atoms_spec (ws := wsX1_value) B.pre
  have hown : s.vm.findClass RX1 = some m.cls := findClass_of_methodNamed B.named
  have hlocks := B.notSynchronized
  have hin : ∀ w ∈ u_ws RX1 TX1 11, w ∈ wsX1_value := by decide +kernel
  have hw0 := hts (.fieldLink RX1 44 "SubmodularyModel" "thrown" "I") (by decide +kernel)
  have hw1 := hts (.fieldLink RX1 29 "SubmodularyModel" "values" "[I") (by decide +kernel)
  have hS : va_S (ad a 8) s.heap s.heap [] := va_S.rf
  have hl := lv_entry ([.ref (a 0), .int p1, .int p2]) (n := 3) (Nat.le_of_ble_eq_true rfl)
  rw [lg_entry_eq]
  generalize (lg_sl ([.ref (a 0), .int p1, .int p2]) ++ List.replicate (3 - (lg_sl ([.ref (a 0), .int p1, .int p2])).length) Slot.unset).toArray = ls at hl ⊢
  have hl : lv_has ls 3 [(0, .ref (a 0)), (1, .int p1), (2, .int p2)] := hl
  have hW26 : ∀ (S : St) (s1 : Int32) (H : Heap) (locs : List Loc) (ls : Array Slot), f_X1_value_26 p1 p2 S s1 = some r → va_P (dC, dI) vwCl (wM cA a S) H → va_S (ad a 8) s.heap H locs → lv_has ls 3 [(0, .ref (a 0)), (1, .int p1), (2, .int p2)] → W p l e (headSpec wsX1_value ({ frames := 2, cells := 0, slots := 0, locals := 43 })).room s m ([.ref (a 0), .int p1, .int p2] : List Value).toArray below meth c H locs 0 0 (MQ below (mMi (dC, dI) cA a r.1 r.2) ([.ref (a 0), .int p1, .int p2] : List Value).toArray s 0 0 (ad a 8)) (F0 m 26 ls [.int s1, .ref (a 0)]) := by
    intro S s1 H locs ls hf hP hS hl
    unfold f_X1_value_26 at hf
    refine pfM hx hb hts hin hown hK hP hap hS 10 (by decide) hw0 rfl rfl (by decide +kernel) (k2 := 3) (fun _ => rfl) dX1_value_26 (fun H locs hP hS => ?_)
    refine lv_aload_n hx hb dX1_value_29 rfl (lv_at hl 0 rfl) ?_
    refine gfM hx hb hts hin hown hK hP 10 (by decide) hw0 rfl rfl dX1_value_30 ?_
    refine lv_if_le (tgt := 40) hx hb dX1_value_33 (by decide) (fun c1 => ?_) (fun c1 => ?_)
    · rw [if_pos c1] at hf
      refine lv_aload_n hx hb dX1_value_40 rfl (lv_at hl 0 rfl) ?_
      refine gfM hx hb hts hin hown hK hP 7 (by decide) hw1 rfl rfl dX1_value_41 ?_
      refine lv_bipush (v := 64) hx hb dX1_value_44 (by decide) ?_
      refine lv_iload_n hx hb dX1_value_46 rfl (lv_at hl 1 rfl) ?_
      refine lv_imul hx hb dX1_value_47 ?_
      refine lv_iload_n hx hb dX1_value_48 rfl (lv_at hl 2 rfl) ?_
      refine lv_iadd hx hb dX1_value_49 ?_
      obtain ⟨v2, hv2, hf⟩ := ob_some hf
      refine rdI hx hb hK hP 6 rfl hv2 dX1_value_50 ?_
      have hf := Option.some.inj hf; subst hf
      exact W.iret hx hb hr (fun t ht hW => ⟨⟨rfl, by rw [ht]; exact hP⟩, hS.F ht⟩) hS.2.2 dX1_value_51
    · rw [if_neg c1] at hf
      refine lv_iconst (v := 0) hx hb dX1_value_36 (by decide) ?_
      refine lv_goto (tgt := 51) hx hb dX1_value_37 (by decide) ?_
      have hf := Option.some.inj hf; subst hf
      exact W.iret hx hb hr (fun t ht hW => ⟨⟨rfl, by rw [ht]; exact hP⟩, hS.F ht⟩) hS.2.2 dX1_value_51
  unfold f_X1_value at hf
  refine lv_aload_n hx hb dX1_value_0 rfl (lv_at hl 0 rfl) ?_
  refine lv_aload_n hx hb dX1_value_1 rfl (lv_at hl 0 rfl) ?_
  refine lv_iload_n hx hb dX1_value_2 rfl (lv_at hl 1 rfl) ?_
  refine pu_V (As := [.int p1]) (rest := [.ref (a 0)]) ⟨hx, hb, hml, hown, hts⟩ (k_X1_isFunction l dC dI cA a S p1 _ rfl) gX1_value_X1_isFunction rfl rfl rfl cd_X1_isFunction (Nat.le_of_ble_eq_true rfl) (Nat.le_of_ble_eq_true rfl) (preM hK hP) rfl hl.1 rfl (Nat.le_of_ble_eq_true rfl) (Nat.zero_le _) (Nat.zero_le _) dX1_value_3 ?_
  refine lv_if_ne (tgt := 13) hx hb dX1_value_6 (by decide) (fun c3 => ?_) (fun c3 => ?_)
  · rw [if_neg c3] at hf
    refine lv_aload_n hx hb dX1_value_13 rfl (lv_at hl 0 rfl) ?_
    refine lv_iload_n hx hb dX1_value_14 rfl (lv_at hl 2 rfl) ?_
    refine pu_V (As := [.int p2]) (rest := [.ref (a 0)]) ⟨hx, hb, hml, hown, hts⟩ (k_X1_isSet l dC dI cA a S p2 _ rfl) gX1_value_X1_isSet rfl rfl rfl cd_X1_isSet (Nat.le_of_ble_eq_true rfl) (Nat.le_of_ble_eq_true rfl) (preM hK hP) rfl hl.1 rfl (Nat.le_of_ble_eq_true rfl) (Nat.zero_le _) (Nat.zero_le _) dX1_value_15 ?_
    refine lv_if_ne (tgt := 25) hx hb dX1_value_18 (by decide) (fun c4 => ?_) (fun c4 => ?_)
    · rw [if_neg c4] at hf
      refine lv_iconst (v := 0) hx hb dX1_value_25 (by decide) ?_
      exact hW26 S 0 _ _ ls hf hP hS (lv_sub hl [0, 1, 2] rfl)
    · rw [if_pos c4] at hf
      refine lv_iconst (v := 2) hx hb dX1_value_21 (by decide) ?_
      refine lv_goto (tgt := 26) hx hb dX1_value_22 (by decide) ?_
      exact hW26 S 2 _ _ ls hf hP hS (lv_sub hl [0, 1, 2] rfl)
  · rw [if_pos c3] at hf
    refine lv_iconst (v := 1) hx hb dX1_value_9 (by decide) ?_
    refine lv_goto (tgt := 26) hx hb dX1_value_10 (by decide) ?_
    exact hW26 S 1 _ _ ls hf hP hS (lv_sub hl [0, 1, 2] rfl)
theorem cd_X1_isLawful : yX1_isLawful.cls = RX1 ∧ yX1_isLawful.cls ≠ "java/lang/invoke/MethodHandle" ∧ yX1_isLawful.cls ≠ "java/lang/invoke/VarHandle" ∧ (parseMethodDescriptor yX1_isLawful.desc).map (fun d => d.parameters.length) = some 1 := by decide +kernel
set_option maxHeartbeats 4000000 in
set_option maxRecDepth 100000 in
theorem k_X1_isLawful (l : Launch) (dC : Nat → ClassId) (dI : Nat → Nat → Nat) (cA : ClassId) (a : Nat → Nat) (S : St) (p1 : Int32) (r : Int32 × St) (hf : f_X1_isLawful S p1 = some r) (hap : apart a 8) : Met l yX1_isLawful wsX1_isLawful ({ frames := 3, cells := 0, slots := 0, locals := 70 }) (va_Pc [.ref (a 0), .int p1] (PMs (dC, dI) cA a S)) (mMi (dC, dI) cA a r.1 r.2) 0 0 (ad a 8) := by
  refine Met.ofW (cc := cX1_isLawful) (maxL := 2) (ret := (some .boolean)) (by decide) rfl ?_
  intro p e s m args below meth c s₁ B hml hv
  obtain ⟨rfl, hP, hK⟩ := hv
  have hx := B.exec
  have hb := B.bytes
  have hr := B.returns
  have hts := atoms_spec (ws := wsX1_isLawful) B.pre
  have hown : s.vm.findClass RX1 = some m.cls := findClass_of_methodNamed B.named
  have hlocks := B.notSynchronized
  have hin : ∀ w ∈ u_ws RX1 TX1 11, w ∈ wsX1_isLawful := by decide +kernel
  have hw0 := hts (.fieldLink RX1 44 "SubmodularyModel" "thrown" "I") (by decide +kernel)
  have hS : va_S (ad a 8) s.heap s.heap [] := va_S.rf
  have hl := lv_entry ([.ref (a 0), .int p1]) (n := 2) (Nat.le_of_ble_eq_true rfl)
  rw [lg_entry_eq]
  generalize (lg_sl ([.ref (a 0), .int p1]) ++ List.replicate (2 - (lg_sl ([.ref (a 0), .int p1])).length) Slot.unset).toArray = ls at hl ⊢
  have hl : lv_has ls 2 [(0, .ref (a 0)), (1, .int p1)] := hl
  have hW14 : ∀ (S : St) (s1 : Int32) (H : Heap) (locs : List Loc) (ls : Array Slot), f_X1_isLawful_14 p1 S s1 = some r → va_P (dC, dI) vwCl (wM cA a S) H → va_S (ad a 8) s.heap H locs → lv_has ls 2 [(0, .ref (a 0)), (1, .int p1)] → W p l e (headSpec wsX1_isLawful ({ frames := 3, cells := 0, slots := 0, locals := 70 })).room s m ([.ref (a 0), .int p1] : List Value).toArray below meth c H locs 0 0 (MQ below (mMi (dC, dI) cA a r.1 r.2) ([.ref (a 0), .int p1] : List Value).toArray s 0 0 (ad a 8)) (F0 m 14 ls [.int s1, .ref (a 0)]) := by
    intro S s1 H locs ls hf hP hS hl
    unfold f_X1_isLawful_14 at hf
    refine pfM hx hb hts hin hown hK hP hap hS 10 (by decide) hw0 rfl rfl (by decide +kernel) (k2 := 3) (fun _ => rfl) dX1_isLawful_14 (fun H locs hP hS => ?_)
    refine lv_aload_n hx hb dX1_isLawful_17 rfl (lv_at hl 0 rfl) ?_
    refine gfM hx hb hts hin hown hK hP 10 (by decide) hw0 rfl rfl dX1_isLawful_18 ?_
    refine lv_if_ne (tgt := 36) hx hb dX1_isLawful_21 (by decide) (fun c1 => ?_) (fun c1 => ?_)
    · rw [if_neg c1] at hf
      refine lv_iconst (v := 0) hx hb dX1_isLawful_36 (by decide) ?_
      have hf := Option.some.inj hf; subst hf
      exact W.zret hx hb hr rfl (fun t ht hW => ⟨⟨rfl, by rw [ht]; exact hP⟩, hS.F ht⟩) hS.2.2 dX1_isLawful_37
    · rw [if_pos c1] at hf
      refine lv_aload_n hx hb dX1_isLawful_24 rfl (lv_at hl 0 rfl) ?_
      refine lv_iload_n hx hb dX1_isLawful_25 rfl (lv_at hl 1 rfl) ?_
      obtain ⟨v2, hv2, hf⟩ := ob_some hf
      refine pu_V (As := [.int p1]) (rest := []) ⟨hx, hb, hml, hown, hts⟩ (k_X1_hasLaw l dC dI cA a (sS S 3 s1) p1 _ hv2) gX1_isLawful_X1_hasLaw rfl rfl rfl cd_X1_hasLaw (Nat.le_of_ble_eq_true rfl) (Nat.le_of_ble_eq_true rfl) (preM hK hP) rfl hl.1 rfl (Nat.le_of_ble_eq_true rfl) (Nat.zero_le _) (Nat.zero_le _) dX1_isLawful_26 ?_
      refine lv_if_eq (tgt := 36) hx hb dX1_isLawful_29 (by decide) (fun c3 => ?_) (fun c3 => ?_)
      · rw [if_pos c3] at hf
        refine lv_iconst (v := 0) hx hb dX1_isLawful_36 (by decide) ?_
        have hf := Option.some.inj hf; subst hf
        exact W.zret hx hb hr rfl (fun t ht hW => ⟨⟨rfl, by rw [ht]; exact hP⟩, hS.F ht⟩) hS.2.2 dX1_isLawful_37
      · rw [if_neg c3] at hf
        refine lv_iconst (v := 1) hx hb dX1_isLawful_32 (by decide) ?_
        refine lv_goto (tgt := 37) hx hb dX1_isLawful_33 (by decide) ?_
        have hf := Option.some.inj hf; subst hf
        exact W.zret hx hb hr rfl (fun t ht hW => ⟨⟨rfl, by rw [ht]; exact hP⟩, hS.F ht⟩) hS.2.2 dX1_isLawful_37
  unfold f_X1_isLawful at hf
  refine lv_aload_n hx hb dX1_isLawful_0 rfl (lv_at hl 0 rfl) ?_
  refine lv_aload_n hx hb dX1_isLawful_1 rfl (lv_at hl 0 rfl) ?_
  refine lv_iload_n hx hb dX1_isLawful_2 rfl (lv_at hl 1 rfl) ?_
  refine pu_V (As := [.int p1]) (rest := [.ref (a 0)]) ⟨hx, hb, hml, hown, hts⟩ (k_X1_isFunction l dC dI cA a S p1 _ rfl) gX1_isLawful_X1_isFunction rfl rfl rfl cd_X1_isFunction (Nat.le_of_ble_eq_true rfl) (Nat.le_of_ble_eq_true rfl) (preM hK hP) rfl hl.1 rfl (Nat.le_of_ble_eq_true rfl) (Nat.zero_le _) (Nat.zero_le _) dX1_isLawful_3 ?_
  refine lv_if_eq (tgt := 13) hx hb dX1_isLawful_6 (by decide) (fun c4 => ?_) (fun c4 => ?_)
  · rw [if_pos c4] at hf
    refine lv_iconst (v := 1) hx hb dX1_isLawful_13 (by decide) ?_
    exact hW14 S 1 _ _ ls hf hP hS (lv_sub hl [0, 1] rfl)
  · rw [if_neg c4] at hf
    refine lv_iconst (v := 0) hx hb dX1_isLawful_9 (by decide) ?_
    refine lv_goto (tgt := 14) hx hb dX1_isLawful_10 (by decide) ?_
    exact hW14 S 0 _ _ ls hf hP hS (lv_sub hl [0, 1] rfl)
theorem cd_X1_rises : yX1_rises.cls = RX1 ∧ yX1_rises.cls ≠ "java/lang/invoke/MethodHandle" ∧ yX1_rises.cls ≠ "java/lang/invoke/VarHandle" ∧ (parseMethodDescriptor yX1_rises.desc).map (fun d => d.parameters.length) = some 1 := by decide +kernel
set_option maxHeartbeats 4000000 in
set_option maxRecDepth 100000 in
theorem k_X1_rises (l : Launch) (dC : Nat → ClassId) (dI : Nat → Nat → Nat) (cA : ClassId) (a : Nat → Nat) (S : St) (p1 : Int32) (r : Int32 × St) (hf : f_X1_rises S p1 = some r) (hap : apart a 8) : Met l yX1_rises wsX1_rises ({ frames := 2, cells := 0, slots := 0, locals := 43 }) (va_Pc [.ref (a 0), .int p1] (PMs (dC, dI) cA a S)) (mMi (dC, dI) cA a r.1 r.2) 0 0 (ad a 8) := by
  refine Met.ofW (cc := cX1_rises) (maxL := 5) (ret := (some .boolean)) (by decide) rfl ?_
  intro p e s m args below meth c s₁ B hml hv
  obtain ⟨rfl, hP, hK⟩ := hv
  have hx := B.exec
  have hb := B.bytes
  have hr := B.returns
  have hts := atoms_spec (ws := wsX1_rises) B.pre
  have hown : s.vm.findClass RX1 = some m.cls := findClass_of_methodNamed B.named
  have hlocks := B.notSynchronized
  have hin : ∀ w ∈ u_ws RX1 TX1 11, w ∈ wsX1_rises := by decide +kernel
  have hw0 := hts (.fieldLink RX1 7 "SubmodularyModel" "n" "I") (by decide +kernel)
  have hw1 := hts (.fieldLink RX1 29 "SubmodularyModel" "values" "[I") (by decide +kernel)
  have hw2 := hts (.fieldLink RX1 44 "SubmodularyModel" "thrown" "I") (by decide +kernel)
  have hS : va_S (ad a 8) s.heap s.heap [] := va_S.rf
  have hl := lv_entry ([.ref (a 0), .int p1]) (n := 5) (Nat.le_of_ble_eq_true rfl)
  rw [lg_entry_eq]
  generalize (lg_sl ([.ref (a 0), .int p1]) ++ List.replicate (5 - (lg_sl ([.ref (a 0), .int p1])).length) Slot.unset).toArray = ls at hl ⊢
  have hl : lv_has ls 5 [(0, .ref (a 0)), (1, .int p1)] := hl
  have hW32 : ∀ (k32 : Nat) (S : St) (x2 x3 : Int32) (H : Heap) (locs : List Loc) (ls : Array Slot), f_X1_rises_32 p1 k32 S x2 x3 = some r → va_P (dC, dI) vwCl (wM cA a S) H → va_S (ad a 8) s.heap H locs → lv_has ls 5 [(0, .ref (a 0)), (1, .int p1), (2, .int x2), (3, .int x3)] → W p l e (headSpec wsX1_rises ({ frames := 2, cells := 0, slots := 0, locals := 43 })).room s m ([.ref (a 0), .int p1] : List Value).toArray below meth c H locs 0 0 (MQ below (mMi (dC, dI) cA a r.1 r.2) ([.ref (a 0), .int p1] : List Value).toArray s 0 0 (ad a 8)) (F0 m 32 ls []) := by
    intro k32
    induction k32 with
    | zero =>
      intro S x2 x3 H locs ls hf hP hS hl
      rw [f_X1_rises_32] at hf
      cases hf
    | succ k32 ih32 =>
      have hW47 : ∀ (k47 : Nat) (S : St) (x2 x3 x4 : Int32) (H : Heap) (locs : List Loc) (ls : Array Slot), f_X1_rises_47 p1 (f_X1_rises_32 p1 k32) k47 S x2 x3 x4 = some r → va_P (dC, dI) vwCl (wM cA a S) H → va_S (ad a 8) s.heap H locs → lv_has ls 5 [(0, .ref (a 0)), (1, .int p1), (2, .int x2), (3, .int x3), (4, .int x4)] → W p l e (headSpec wsX1_rises ({ frames := 2, cells := 0, slots := 0, locals := 43 })).room s m ([.ref (a 0), .int p1] : List Value).toArray below meth c H locs 0 0 (MQ below (mMi (dC, dI) cA a r.1 r.2) ([.ref (a 0), .int p1] : List Value).toArray s 0 0 (ad a 8)) (F0 m 47 ls []) := by
        intro k47
        induction k47 with
        | zero =>
          intro S x2 x3 x4 H locs ls hf hP hS hl
          rw [f_X1_rises_47] at hf
          cases hf
        | succ k47 ih47 =>
          have hW92 : ∀ (S : St) (x3 x4 s0 s1 : Int32) (H : Heap) (locs : List Loc) (ls : Array Slot), f_X1_rises_92 p1 (f_X1_rises_32 p1 k32) (f_X1_rises_47 p1 (f_X1_rises_32 p1 k32) k47) S x3 x4 s0 s1 = some r → va_P (dC, dI) vwCl (wM cA a S) H → va_S (ad a 8) s.heap H locs → lv_has ls 5 [(0, .ref (a 0)), (1, .int p1), (3, .int x3), (4, .int x4)] → W p l e (headSpec wsX1_rises ({ frames := 2, cells := 0, slots := 0, locals := 43 })).room s m ([.ref (a 0), .int p1] : List Value).toArray below meth c H locs 0 0 (MQ below (mMi (dC, dI) cA a r.1 r.2) ([.ref (a 0), .int p1] : List Value).toArray s 0 0 (ad a 8)) (F0 m 92 ls [.int s1, .int s0]) := by
            intro S x3 x4 s0 s1 H locs ls hf hP hS hl
            unfold f_X1_rises_92 at hf
            refine lv_iand hx hb dX1_rises_92 ?_
            refine lv_topi (fun y1 ey1 => ?_)
            have hf := bnd_at hf ey1
            refine lv_istore_n (lv' := [(2, .int y1), (0, .ref (a 0)), (1, .int p1), (3, .int x3), (4, .int x4)]) hx hb dX1_rises_93 rfl hl (by decide) rfl (fun ls hl => ?_)
            obtain ⟨y2, ey2⟩ : ∃ y : Int32, y = (x4 + 1) := ⟨_, rfl⟩
            have hf := bnd_at hf ey2
            refine lv_iinc (v := y2) (lv' := [(4, .int y2), (2, .int y1), (0, .ref (a 0)), (1, .int p1), (3, .int x3)]) hx hb dX1_rises_94 hl (k := 4) rfl (by rw [ey2]; rfl) (by decide) rfl (fun ls hl => ?_)
            refine lv_goto (tgt := 47) hx hb dX1_rises_97 (by decide) ?_
            exact ih47 S y1 x3 y2 _ _ ls hf hP hS (lv_sub hl [2, 3, 1, 4, 0] rfl)
          intro S x2 x3 x4 H locs ls hf hP hS hl
          rw [f_X1_rises_47] at hf
          refine lv_iload hx hb dX1_rises_47 (lv_at hl 4 rfl) ?_
          refine lv_aload_n hx hb dX1_rises_49 rfl (lv_at hl 0 rfl) ?_
          refine gfM hx hb hts hin hown hK hP 0 (by decide) hw0 rfl rfl dX1_rises_50 ?_
          refine lv_icmp_ge (tgt := 100) hx hb dX1_rises_53 (by decide) (fun c3 => ?_) (fun c3 => ?_)
          · rw [if_pos c3] at hf
            obtain ⟨y4, ey4⟩ : ∃ y : Int32, y = (x3 + 1) := ⟨_, rfl⟩
            have hf := bnd_at hf ey4
            refine lv_iinc (v := y4) (lv' := [(3, .int y4), (0, .ref (a 0)), (1, .int p1), (2, .int x2), (4, .int x4)]) hx hb dX1_rises_100 hl (k := 3) rfl (by rw [ey4]; rfl) (by decide) rfl (fun ls hl => ?_)
            refine lv_goto (tgt := 32) hx hb dX1_rises_103 (by decide) ?_
            exact ih32 S x2 y4 _ _ ls hf hP hS (lv_sub hl [1, 2, 3, 0] rfl)
          · rw [if_neg c3] at hf
            refine lv_iload_n hx hb dX1_rises_56 rfl (lv_at hl 2 rfl) ?_
            refine lv_aload_n hx hb dX1_rises_57 rfl (lv_at hl 0 rfl) ?_
            refine gfM hx hb hts hin hown hK hP 7 (by decide) hw1 rfl rfl dX1_rises_58 ?_
            refine lv_bipush (v := 64) hx hb dX1_rises_61 (by decide) ?_
            refine lv_iload_n hx hb dX1_rises_63 rfl (lv_at hl 1 rfl) ?_
            refine lv_imul hx hb dX1_rises_64 ?_
            refine lv_iload_n hx hb dX1_rises_65 rfl (lv_at hl 3 rfl) ?_
            refine lv_iadd hx hb dX1_rises_66 ?_
            obtain ⟨v5, hv5, hf⟩ := ob_some hf
            refine rdI hx hb hK hP 6 rfl hv5 dX1_rises_67 ?_
            refine lv_aload_n hx hb dX1_rises_68 rfl (lv_at hl 0 rfl) ?_
            refine gfM hx hb hts hin hown hK hP 7 (by decide) hw1 rfl rfl dX1_rises_69 ?_
            refine lv_bipush (v := 64) hx hb dX1_rises_72 (by decide) ?_
            refine lv_iload_n hx hb dX1_rises_74 rfl (lv_at hl 1 rfl) ?_
            refine lv_imul hx hb dX1_rises_75 ?_
            refine lv_iload_n hx hb dX1_rises_76 rfl (lv_at hl 3 rfl) ?_
            refine lv_iconst (v := 1) hx hb dX1_rises_77 (by decide) ?_
            refine lv_iload hx hb dX1_rises_78 (lv_at hl 4 rfl) ?_
            refine lv_ishl hx hb dX1_rises_80 ?_
            refine lv_ior hx hb dX1_rises_81 ?_
            refine lv_iadd hx hb dX1_rises_82 ?_
            obtain ⟨v6, hv6, hf⟩ := ob_some hf
            refine rdI hx hb hK hP 6 rfl hv6 dX1_rises_83 ?_
            refine lv_icmp_gt (tgt := 91) hx hb dX1_rises_84 (by decide) (fun c7 => ?_) (fun c7 => ?_)
            · rw [if_pos c7] at hf
              refine lv_iconst (v := 0) hx hb dX1_rises_91 (by decide) ?_
              exact hW92 S x3 x4 x2 0 _ _ ls hf hP hS (lv_sub hl [0, 1, 3, 4] rfl)
            · rw [if_neg c7] at hf
              refine lv_iconst (v := 1) hx hb dX1_rises_87 (by decide) ?_
              refine lv_goto (tgt := 92) hx hb dX1_rises_88 (by decide) ?_
              exact hW92 S x3 x4 x2 1 _ _ ls hf hP hS (lv_sub hl [0, 1, 3, 4] rfl)
      intro S x2 x3 H locs ls hf hP hS hl
      rw [f_X1_rises_32] at hf
      refine lv_aload_n hx hb dX1_rises_32 rfl (lv_at hl 0 rfl) ?_
      refine lv_iload_n hx hb dX1_rises_33 rfl (lv_at hl 3 rfl) ?_
      refine pu_V (As := [.int x3]) (rest := []) ⟨hx, hb, hml, hown, hts⟩ (k_X1_isSet l dC dI cA a S x3 _ rfl) gX1_rises_X1_isSet rfl rfl rfl cd_X1_isSet (Nat.le_of_ble_eq_true rfl) (Nat.le_of_ble_eq_true rfl) (preM hK hP) rfl hl.1 rfl (Nat.le_of_ble_eq_true rfl) (Nat.zero_le _) (Nat.zero_le _) dX1_rises_34 ?_
      refine lv_if_eq (tgt := 106) hx hb dX1_rises_37 (by decide) (fun c8 => ?_) (fun c8 => ?_)
      · rw [if_pos c8] at hf
        refine lv_iload_n hx hb dX1_rises_106 rfl (lv_at hl 2 rfl) ?_
        by_cases c9 : x2 &&& 1 = x2
        · rw [if_pos c9] at hf
          have hf := Option.some.inj hf; subst hf
          exact W.zret hx hb hr (by show Value.int (x2 &&& 1) = _; rw [c9]) (fun t ht hW => ⟨⟨rfl, by rw [ht]; exact hP⟩, hS.F ht⟩) hS.2.2 dX1_rises_107
        · rw [if_neg c9] at hf; cases hf
      · rw [if_neg c8] at hf
        refine lv_iload_n hx hb dX1_rises_40 rfl (lv_at hl 2 rfl) ?_
        refine lv_if_eq (tgt := 106) hx hb dX1_rises_41 (by decide) (fun c10 => ?_) (fun c10 => ?_)
        · rw [if_pos c10] at hf
          refine lv_iload_n hx hb dX1_rises_106 rfl (lv_at hl 2 rfl) ?_
          by_cases c11 : x2 &&& 1 = x2
          · rw [if_pos c11] at hf
            have hf := Option.some.inj hf; subst hf
            exact W.zret hx hb hr (by show Value.int (x2 &&& 1) = _; rw [c11]) (fun t ht hW => ⟨⟨rfl, by rw [ht]; exact hP⟩, hS.F ht⟩) hS.2.2 dX1_rises_107
          · rw [if_neg c11] at hf; cases hf
        · rw [if_neg c10] at hf
          refine lv_iconst (v := 0) hx hb dX1_rises_44 (by decide) ?_
          refine lv_istore (lv' := [(4, .int 0), (0, .ref (a 0)), (1, .int p1), (2, .int x2), (3, .int x3)]) hx hb dX1_rises_45 hl (by decide) rfl (fun ls hl => ?_)
          exact hW47 70 S x2 x3 0 _ _ ls hf hP hS (lv_sub hl [1, 2, 3, 4, 0] rfl)
  have hW14 : ∀ (S : St) (s1 : Int32) (H : Heap) (locs : List Loc) (ls : Array Slot), f_X1_rises_14 p1 S s1 = some r → va_P (dC, dI) vwCl (wM cA a S) H → va_S (ad a 8) s.heap H locs → lv_has ls 5 [(0, .ref (a 0)), (1, .int p1)] → W p l e (headSpec wsX1_rises ({ frames := 2, cells := 0, slots := 0, locals := 43 })).room s m ([.ref (a 0), .int p1] : List Value).toArray below meth c H locs 0 0 (MQ below (mMi (dC, dI) cA a r.1 r.2) ([.ref (a 0), .int p1] : List Value).toArray s 0 0 (ad a 8)) (F0 m 14 ls [.int s1, .ref (a 0)]) := by
    intro S s1 H locs ls hf hP hS hl
    unfold f_X1_rises_14 at hf
    refine pfM hx hb hts hin hown hK hP hap hS 10 (by decide) hw2 rfl rfl (by decide +kernel) (k2 := 3) (fun _ => rfl) dX1_rises_14 (fun H locs hP hS => ?_)
    refine lv_aload_n hx hb dX1_rises_17 rfl (lv_at hl 0 rfl) ?_
    refine gfM hx hb hts hin hown hK hP 10 (by decide) hw2 rfl rfl dX1_rises_18 ?_
    refine lv_if_ne (tgt := 28) hx hb dX1_rises_21 (by decide) (fun c12 => ?_) (fun c12 => ?_)
    · rw [if_neg c12] at hf
      refine lv_iconst (v := 0) hx hb dX1_rises_28 (by decide) ?_
      refine lv_istore_n (lv' := [(2, .int 0), (0, .ref (a 0)), (1, .int p1)]) hx hb dX1_rises_29 rfl hl (by decide) rfl (fun ls hl => ?_)
      refine lv_iconst (v := 0) hx hb dX1_rises_30 (by decide) ?_
      refine lv_istore_n (lv' := [(3, .int 0), (2, .int 0), (0, .ref (a 0)), (1, .int p1)]) hx hb dX1_rises_31 rfl hl (by decide) rfl (fun ls hl => ?_)
      exact hW32 70 (sS S 3 s1) 0 0 _ _ ls hf hP hS (lv_sub hl [2, 3, 1, 0] rfl)
    · rw [if_pos c12] at hf
      refine lv_iconst (v := 1) hx hb dX1_rises_24 (by decide) ?_
      refine lv_goto (tgt := 29) hx hb dX1_rises_25 (by decide) ?_
      refine lv_istore_n (lv' := [(2, .int 1), (0, .ref (a 0)), (1, .int p1)]) hx hb dX1_rises_29 rfl hl (by decide) rfl (fun ls hl => ?_)
      refine lv_iconst (v := 0) hx hb dX1_rises_30 (by decide) ?_
      refine lv_istore_n (lv' := [(3, .int 0), (2, .int 1), (0, .ref (a 0)), (1, .int p1)]) hx hb dX1_rises_31 rfl hl (by decide) rfl (fun ls hl => ?_)
      exact hW32 70 (sS S 3 s1) 1 0 _ _ ls hf hP hS (lv_sub hl [2, 3, 1, 0] rfl)
  unfold f_X1_rises at hf
  refine lv_aload_n hx hb dX1_rises_0 rfl (lv_at hl 0 rfl) ?_
  refine lv_aload_n hx hb dX1_rises_1 rfl (lv_at hl 0 rfl) ?_
  refine lv_iload_n hx hb dX1_rises_2 rfl (lv_at hl 1 rfl) ?_
  refine pu_V (As := [.int p1]) (rest := [.ref (a 0)]) ⟨hx, hb, hml, hown, hts⟩ (k_X1_isFunction l dC dI cA a S p1 _ rfl) gX1_rises_X1_isFunction rfl rfl rfl cd_X1_isFunction (Nat.le_of_ble_eq_true rfl) (Nat.le_of_ble_eq_true rfl) (preM hK hP) rfl hl.1 rfl (Nat.le_of_ble_eq_true rfl) (Nat.zero_le _) (Nat.zero_le _) dX1_rises_3 ?_
  refine lv_if_eq (tgt := 13) hx hb dX1_rises_6 (by decide) (fun c13 => ?_) (fun c13 => ?_)
  · rw [if_pos c13] at hf
    refine lv_iconst (v := 1) hx hb dX1_rises_13 (by decide) ?_
    exact hW14 S 1 _ _ ls hf hP hS (lv_sub hl [0, 1] rfl)
  · rw [if_neg c13] at hf
    refine lv_iconst (v := 0) hx hb dX1_rises_9 (by decide) ?_
    refine lv_goto (tgt := 14) hx hb dX1_rises_10 (by decide) ?_
    exact hW14 S 0 _ _ ls hf hP hS (lv_sub hl [0, 1] rfl)
theorem cd_X1_least : yX1_least.cls = RX1 ∧ yX1_least.cls ≠ "java/lang/invoke/MethodHandle" ∧ yX1_least.cls ≠ "java/lang/invoke/VarHandle" ∧ (parseMethodDescriptor yX1_least.desc).map (fun d => d.parameters.length) = some 1 := by decide +kernel
set_option maxHeartbeats 4000000 in
set_option maxRecDepth 100000 in
theorem k_X1_least (l : Launch) (dC : Nat → ClassId) (dI : Nat → Nat → Nat) (cA : ClassId) (a : Nat → Nat) (S : St) (p1 : Int32) (r : Int32 × St) (hf : f_X1_least S p1 = some r) (hap : apart a 8) : Met l yX1_least wsX1_least ({ frames := 3, cells := 0, slots := 0, locals := 70 }) (va_Pc [.ref (a 0), .int p1] (PMs (dC, dI) cA a S)) (mMi (dC, dI) cA a r.1 r.2) 0 0 (ad a 8) := by
  refine Met.ofW (cc := cX1_least) (maxL := 2) (ret := (some .int)) (by decide) rfl ?_
  intro p e s m args below meth c s₁ B hml hv
  obtain ⟨rfl, hP, hK⟩ := hv
  have hx := B.exec
  have hb := B.bytes
  have hr := B.returns
  have hts := atoms_spec (ws := wsX1_least) B.pre
  have hown : s.vm.findClass RX1 = some m.cls := findClass_of_methodNamed B.named
  have hlocks := B.notSynchronized
  have hin : ∀ w ∈ u_ws RX1 TX1 11, w ∈ wsX1_least := by decide +kernel
  have hw0 := hts (.fieldLink RX1 44 "SubmodularyModel" "thrown" "I") (by decide +kernel)
  have hS : va_S (ad a 8) s.heap s.heap [] := va_S.rf
  have hl := lv_entry ([.ref (a 0), .int p1]) (n := 2) (Nat.le_of_ble_eq_true rfl)
  rw [lg_entry_eq]
  generalize (lg_sl ([.ref (a 0), .int p1]) ++ List.replicate (2 - (lg_sl ([.ref (a 0), .int p1])).length) Slot.unset).toArray = ls at hl ⊢
  have hl : lv_has ls 2 [(0, .ref (a 0)), (1, .int p1)] := hl
  have hW26 : ∀ (S : St) (s1 : Int32) (H : Heap) (locs : List Loc) (ls : Array Slot), f_X1_least_26 p1 S s1 = some r → va_P (dC, dI) vwCl (wM cA a S) H → va_S (ad a 8) s.heap H locs → lv_has ls 2 [(0, .ref (a 0)), (1, .int p1)] → W p l e (headSpec wsX1_least ({ frames := 3, cells := 0, slots := 0, locals := 70 })).room s m ([.ref (a 0), .int p1] : List Value).toArray below meth c H locs 0 0 (MQ below (mMi (dC, dI) cA a r.1 r.2) ([.ref (a 0), .int p1] : List Value).toArray s 0 0 (ad a 8)) (F0 m 26 ls [.int s1, .ref (a 0)]) := by
    intro S s1 H locs ls hf hP hS hl
    unfold f_X1_least_26 at hf
    refine pfM hx hb hts hin hown hK hP hap hS 10 (by decide) hw0 rfl rfl (by decide +kernel) (k2 := 3) (fun _ => rfl) dX1_least_26 (fun H locs hP hS => ?_)
    refine lv_aload_n hx hb dX1_least_29 rfl (lv_at hl 0 rfl) ?_
    refine gfM hx hb hts hin hown hK hP 10 (by decide) hw0 rfl rfl dX1_least_30 ?_
    refine lv_if_le (tgt := 40) hx hb dX1_least_33 (by decide) (fun c1 => ?_) (fun c1 => ?_)
    · rw [if_pos c1] at hf
      refine lv_aload_n hx hb dX1_least_40 rfl (lv_at hl 0 rfl) ?_
      refine lv_iload_n hx hb dX1_least_41 rfl (lv_at hl 1 rfl) ?_
      obtain ⟨v2, hv2, hf⟩ := ob_some hf
      refine pu_V (As := [.int p1]) (rest := []) ⟨hx, hb, hml, hown, hts⟩ (k_X1_leastOf l dC dI cA a (sS S 3 s1) p1 _ hv2) gX1_least_X1_leastOf rfl rfl rfl cd_X1_leastOf (Nat.le_of_ble_eq_true rfl) (Nat.le_of_ble_eq_true rfl) (preM hK hP) rfl hl.1 rfl (Nat.le_of_ble_eq_true rfl) (Nat.zero_le _) (Nat.zero_le _) dX1_least_42 ?_
      have hf := Option.some.inj hf; subst hf
      exact W.iret hx hb hr (fun t ht hW => ⟨⟨rfl, by rw [ht]; exact hP⟩, hS.F ht⟩) hS.2.2 dX1_least_45
    · rw [if_neg c1] at hf
      refine lv_iconst (v := 0) hx hb dX1_least_36 (by decide) ?_
      refine lv_goto (tgt := 45) hx hb dX1_least_37 (by decide) ?_
      have hf := Option.some.inj hf; subst hf
      exact W.iret hx hb hr (fun t ht hW => ⟨⟨rfl, by rw [ht]; exact hP⟩, hS.F ht⟩) hS.2.2 dX1_least_45
  unfold f_X1_least at hf
  refine lv_aload_n hx hb dX1_least_0 rfl (lv_at hl 0 rfl) ?_
  refine lv_aload_n hx hb dX1_least_1 rfl (lv_at hl 0 rfl) ?_
  refine lv_iload_n hx hb dX1_least_2 rfl (lv_at hl 1 rfl) ?_
  refine pu_V (As := [.int p1]) (rest := [.ref (a 0)]) ⟨hx, hb, hml, hown, hts⟩ (k_X1_isFunction l dC dI cA a S p1 _ rfl) gX1_least_X1_isFunction rfl rfl rfl cd_X1_isFunction (Nat.le_of_ble_eq_true rfl) (Nat.le_of_ble_eq_true rfl) (preM hK hP) rfl hl.1 rfl (Nat.le_of_ble_eq_true rfl) (Nat.zero_le _) (Nat.zero_le _) dX1_least_3 ?_
  refine lv_if_ne (tgt := 13) hx hb dX1_least_6 (by decide) (fun c3 => ?_) (fun c3 => ?_)
  · rw [if_neg c3] at hf
    refine lv_aload_n hx hb dX1_least_13 rfl (lv_at hl 0 rfl) ?_
    refine lv_iload_n hx hb dX1_least_14 rfl (lv_at hl 1 rfl) ?_
    obtain ⟨v4, hv4, hf⟩ := ob_some hf
    refine pu_V (As := [.int p1]) (rest := [.ref (a 0)]) ⟨hx, hb, hml, hown, hts⟩ (k_X1_hasLaw l dC dI cA a S p1 _ hv4) gX1_least_X1_hasLaw rfl rfl rfl cd_X1_hasLaw (Nat.le_of_ble_eq_true rfl) (Nat.le_of_ble_eq_true rfl) (preM hK hP) rfl hl.1 rfl (Nat.le_of_ble_eq_true rfl) (Nat.zero_le _) (Nat.zero_le _) dX1_least_15 ?_
    refine lv_if_ne (tgt := 25) hx hb dX1_least_18 (by decide) (fun c5 => ?_) (fun c5 => ?_)
    · rw [if_neg c5] at hf
      refine lv_iconst (v := 0) hx hb dX1_least_25 (by decide) ?_
      exact hW26 S 0 _ _ ls hf hP hS (lv_sub hl [0, 1] rfl)
    · rw [if_pos c5] at hf
      refine lv_iconst (v := 2) hx hb dX1_least_21 (by decide) ?_
      refine lv_goto (tgt := 26) hx hb dX1_least_22 (by decide) ?_
      exact hW26 S 2 _ _ ls hf hP hS (lv_sub hl [0, 1] rfl)
  · rw [if_pos c3] at hf
    refine lv_iconst (v := 1) hx hb dX1_least_9 (by decide) ?_
    refine lv_goto (tgt := 26) hx hb dX1_least_10 (by decide) ?_
    exact hW26 S 1 _ _ ls hf hP hS (lv_sub hl [0, 1] rfl)
theorem cd_X1_leastSets : yX1_leastSets.cls = RX1 ∧ yX1_leastSets.cls ≠ "java/lang/invoke/MethodHandle" ∧ yX1_leastSets.cls ≠ "java/lang/invoke/VarHandle" ∧ (parseMethodDescriptor yX1_leastSets.desc).map (fun d => d.parameters.length) = some 2 := by decide +kernel
set_option maxHeartbeats 4000000 in
set_option maxRecDepth 100000 in
theorem k_X1_leastSets (l : Launch) (dC : Nat → ClassId) (dI : Nat → Nat → Nat) (cA : ClassId) (a : Nat → Nat) (S : St) (p1 : Int32) (p2 : Int32) (r : Int32 × St) (hf : f_X1_leastSets S p1 p2 = some r) (hap : apart a 8) : Met l yX1_leastSets wsX1_leastSets ({ frames := 3, cells := 0, slots := 0, locals := 70 }) (va_Pc [.ref (a 0), .int p1, .int p2] (PMs (dC, dI) cA a S)) (mMi (dC, dI) cA a r.1 r.2) 0 0 (ad a 8) := by
  refine Met.ofW (cc := cX1_leastSets) (maxL := 7) (ret := (some .int)) (by decide) rfl ?_
  intro p e s m args below meth c s₁ B hml hv
  obtain ⟨rfl, hP, hK⟩ := hv
  have hx := B.exec
  have hb := B.bytes
  have hr := B.returns
  have hts := atoms_spec (ws := wsX1_leastSets) B.pre
  have hown : s.vm.findClass RX1 = some m.cls := findClass_of_methodNamed B.named
  have hlocks := B.notSynchronized
  have hin : ∀ w ∈ u_ws RX1 TX1 11, w ∈ wsX1_leastSets := by decide +kernel
  have hw0 := hts (.fieldLink RX1 29 "SubmodularyModel" "values" "[I") (by decide +kernel)
  have hw1 := hts (.fieldLink RX1 44 "SubmodularyModel" "thrown" "I") (by decide +kernel)
  have hw2 := hts (.fieldLink RX1 7 "SubmodularyModel" "n" "I") (by decide +kernel)
  have hS : va_S (ad a 8) s.heap s.heap [] := va_S.rf
  have hl := lv_entry ([.ref (a 0), .int p1, .int p2]) (n := 7) (Nat.le_of_ble_eq_true rfl)
  rw [lg_entry_eq]
  generalize (lg_sl ([.ref (a 0), .int p1, .int p2]) ++ List.replicate (7 - (lg_sl ([.ref (a 0), .int p1, .int p2])).length) Slot.unset).toArray = ls at hl ⊢
  have hl : lv_has ls 7 [(0, .ref (a 0)), (1, .int p1), (2, .int p2)] := hl
  have hW60 : ∀ (k60 : Nat) (S : St) (x3 x4 x5 x6 : Int32) (H : Heap) (locs : List Loc) (ls : Array Slot), f_X1_leastSets_60 p1 p2 k60 S x3 x4 x5 x6 = some r → va_P (dC, dI) vwCl (wM cA a S) H → va_S (ad a 8) s.heap H locs → lv_has ls 7 [(0, .ref (a 0)), (1, .int p1), (2, .int p2), (3, .int x3), (4, .int x4), (5, .int x5), (6, .int x6)] → W p l e (headSpec wsX1_leastSets ({ frames := 3, cells := 0, slots := 0, locals := 70 })).room s m ([.ref (a 0), .int p1, .int p2] : List Value).toArray below meth c H locs 0 0 (MQ below (mMi (dC, dI) cA a r.1 r.2) ([.ref (a 0), .int p1, .int p2] : List Value).toArray s 0 0 (ad a 8)) (F0 m 60 ls []) := by
    intro k60
    induction k60 with
    | zero =>
      intro S x3 x4 x5 x6 H locs ls hf hP hS hl
      rw [f_X1_leastSets_60] at hf
      cases hf
    | succ k60 ih60 =>
      have hW121 : ∀ (S : St) (x3 x4 x6 s0 s1 : Int32) (H : Heap) (locs : List Loc) (ls : Array Slot), f_X1_leastSets_121 p1 p2 (f_X1_leastSets_60 p1 p2 k60) S x3 x4 x6 s0 s1 = some r → va_P (dC, dI) vwCl (wM cA a S) H → va_S (ad a 8) s.heap H locs → lv_has ls 7 [(0, .ref (a 0)), (1, .int p1), (2, .int p2), (3, .int x3), (4, .int x4), (6, .int x6)] → W p l e (headSpec wsX1_leastSets ({ frames := 3, cells := 0, slots := 0, locals := 70 })).room s m ([.ref (a 0), .int p1, .int p2] : List Value).toArray below meth c H locs 0 0 (MQ below (mMi (dC, dI) cA a r.1 r.2) ([.ref (a 0), .int p1, .int p2] : List Value).toArray s 0 0 (ad a 8)) (F0 m 121 ls [.int s1, .int s0]) := by
        intro S x3 x4 x6 s0 s1 H locs ls hf hP hS hl
        unfold f_X1_leastSets_121 at hf
        refine lv_ior hx hb dX1_leastSets_121 ?_
        refine lv_topi (fun y1 ey1 => ?_)
        have hf := bnd_at hf ey1
        refine lv_istore (lv' := [(5, .int y1), (0, .ref (a 0)), (1, .int p1), (2, .int p2), (3, .int x3), (4, .int x4), (6, .int x6)]) hx hb dX1_leastSets_122 hl (by decide) rfl (fun ls hl => ?_)
        obtain ⟨y2, ey2⟩ : ∃ y : Int32, y = (x6 + 1) := ⟨_, rfl⟩
        have hf := bnd_at hf ey2
        refine lv_iinc (v := y2) (lv' := [(6, .int y2), (5, .int y1), (0, .ref (a 0)), (1, .int p1), (2, .int p2), (3, .int x3), (4, .int x4)]) hx hb dX1_leastSets_124 hl (k := 6) rfl (by rw [ey2]; rfl) (by decide) rfl (fun ls hl => ?_)
        refine lv_goto (tgt := 60) hx hb dX1_leastSets_127 (by decide) ?_
        exact ih60 S x3 x4 y1 y2 _ _ ls hf hP hS (lv_sub hl [2, 3, 4, 5, 6, 1, 0] rfl)
      have hW94 : ∀ (S : St) (x3 x5 x6 s0 s1 : Int32) (H : Heap) (locs : List Loc) (ls : Array Slot), f_X1_leastSets_94 p1 p2 (f_X1_leastSets_60 p1 p2 k60) S x3 x5 x6 s0 s1 = some r → va_P (dC, dI) vwCl (wM cA a S) H → va_S (ad a 8) s.heap H locs → lv_has ls 7 [(0, .ref (a 0)), (1, .int p1), (2, .int p2), (3, .int x3), (5, .int x5), (6, .int x6)] → W p l e (headSpec wsX1_leastSets ({ frames := 3, cells := 0, slots := 0, locals := 70 })).room s m ([.ref (a 0), .int p1, .int p2] : List Value).toArray below meth c H locs 0 0 (MQ below (mMi (dC, dI) cA a r.1 r.2) ([.ref (a 0), .int p1, .int p2] : List Value).toArray s 0 0 (ad a 8)) (F0 m 94 ls [.int s1, .int s0]) := by
        intro S x3 x5 x6 s0 s1 H locs ls hf hP hS hl
        unfold f_X1_leastSets_94 at hf
        refine lv_iand hx hb dX1_leastSets_94 ?_
        refine lv_topi (fun y3 ey3 => ?_)
        have hf := bnd_at hf ey3
        refine lv_istore (lv' := [(4, .int y3), (0, .ref (a 0)), (1, .int p1), (2, .int p2), (3, .int x3), (5, .int x5), (6, .int x6)]) hx hb dX1_leastSets_95 hl (by decide) rfl (fun ls hl => ?_)
        refine lv_iload hx hb dX1_leastSets_97 (lv_at hl 5 rfl) ?_
        refine lv_aload_n hx hb dX1_leastSets_99 rfl (lv_at hl 1 rfl) ?_
        refine gfM hx hb hts hin hown hK hP 7 (by decide) hw0 rfl rfl dX1_leastSets_100 ?_
        refine lv_bipush (v := 64) hx hb dX1_leastSets_103 (by decide) ?_
        refine lv_iload_n hx hb dX1_leastSets_105 rfl (lv_at hl 2 rfl) ?_
        refine lv_imul hx hb dX1_leastSets_106 ?_
        refine lv_iload hx hb dX1_leastSets_107 (lv_at hl 6 rfl) ?_
        refine lv_iadd hx hb dX1_leastSets_109 ?_
        obtain ⟨v4, hv4, hf⟩ := ob_some hf
        refine rdI hx hb hK hP 6 rfl hv4 dX1_leastSets_110 ?_
        refine lv_iload_n hx hb dX1_leastSets_111 rfl (lv_at hl 4 rfl) ?_
        refine lv_icmp_ne (tgt := 120) hx hb dX1_leastSets_112 (by decide) (fun c5 => ?_) (fun c5 => ?_)
        · rw [if_neg c5] at hf
          refine lv_iconst (v := 0) hx hb dX1_leastSets_120 (by decide) ?_
          exact hW121 S x3 y3 x6 x5 0 _ _ ls hf hP hS (lv_sub hl [1, 2, 3, 4, 0, 6] rfl)
        · rw [if_pos c5] at hf
          refine lv_iload hx hb dX1_leastSets_115 (lv_at hl 6 rfl) ?_
          refine lv_goto (tgt := 121) hx hb dX1_leastSets_117 (by decide) ?_
          exact hW121 S x3 y3 x6 x5 x6 _ _ ls hf hP hS (lv_sub hl [1, 2, 3, 4, 0, 6] rfl)
      intro S x3 x4 x5 x6 H locs ls hf hP hS hl
      rw [f_X1_leastSets_60] at hf
      refine lv_aload_n hx hb dX1_leastSets_60 rfl (lv_at hl 0 rfl) ?_
      refine lv_iload hx hb dX1_leastSets_61 (lv_at hl 6 rfl) ?_
      refine pu_V (As := [.int x6]) (rest := []) ⟨hx, hb, hml, hown, hts⟩ (k_X1_isSet l dC dI cA a S x6 _ rfl) gX1_leastSets_X1_isSet rfl rfl rfl cd_X1_isSet (Nat.le_of_ble_eq_true rfl) (Nat.le_of_ble_eq_true rfl) (preM hK hP) rfl hl.1 rfl (Nat.le_of_ble_eq_true rfl) (Nat.zero_le _) (Nat.zero_le _) dX1_leastSets_63 ?_
      refine lv_if_eq (tgt := 130) hx hb dX1_leastSets_66 (by decide) (fun c6 => ?_) (fun c6 => ?_)
      · rw [if_pos c6] at hf
        refine lv_iload_n hx hb dX1_leastSets_130 rfl (lv_at hl 2 rfl) ?_
        refine lv_if_eq (tgt := 139) hx hb dX1_leastSets_131 (by decide) (fun c7 => ?_) (fun c7 => ?_)
        · rw [if_pos c7] at hf
          refine lv_iload hx hb dX1_leastSets_139 (lv_at hl 4 rfl) ?_
          have hf := Option.some.inj hf; subst hf
          exact W.iret hx hb hr (fun t ht hW => ⟨⟨rfl, by rw [ht]; exact hP⟩, hS.F ht⟩) hS.2.2 dX1_leastSets_141
        · rw [if_neg c7] at hf
          refine lv_iload hx hb dX1_leastSets_134 (lv_at hl 5 rfl) ?_
          refine lv_goto (tgt := 141) hx hb dX1_leastSets_136 (by decide) ?_
          have hf := Option.some.inj hf; subst hf
          exact W.iret hx hb hr (fun t ht hW => ⟨⟨rfl, by rw [ht]; exact hP⟩, hS.F ht⟩) hS.2.2 dX1_leastSets_141
      · rw [if_neg c6] at hf
        refine lv_iload hx hb dX1_leastSets_69 (lv_at hl 4 rfl) ?_
        refine lv_aload_n hx hb dX1_leastSets_71 rfl (lv_at hl 0 rfl) ?_
        refine gfM hx hb hts hin hown hK hP 7 (by decide) hw0 rfl rfl dX1_leastSets_72 ?_
        refine lv_bipush (v := 64) hx hb dX1_leastSets_75 (by decide) ?_
        refine lv_iload_n hx hb dX1_leastSets_77 rfl (lv_at hl 1 rfl) ?_
        refine lv_imul hx hb dX1_leastSets_78 ?_
        refine lv_iload hx hb dX1_leastSets_79 (lv_at hl 6 rfl) ?_
        refine lv_iadd hx hb dX1_leastSets_81 ?_
        obtain ⟨v8, hv8, hf⟩ := ob_some hf
        refine rdI hx hb hK hP 6 rfl hv8 dX1_leastSets_82 ?_
        refine lv_iload_n hx hb dX1_leastSets_83 rfl (lv_at hl 3 rfl) ?_
        refine lv_icmp_ne (tgt := 92) hx hb dX1_leastSets_84 (by decide) (fun c9 => ?_) (fun c9 => ?_)
        · rw [if_neg c9] at hf
          refine lv_iload hx hb dX1_leastSets_92 (lv_at hl 4 rfl) ?_
          exact hW94 S x3 x5 x6 x4 x4 _ _ ls hf hP hS (lv_sub hl [0, 1, 2, 3, 5, 6] rfl)
        · rw [if_pos c9] at hf
          refine lv_iload hx hb dX1_leastSets_87 (lv_at hl 6 rfl) ?_
          refine lv_goto (tgt := 94) hx hb dX1_leastSets_89 (by decide) ?_
          exact hW94 S x3 x5 x6 x4 x6 _ _ ls hf hP hS (lv_sub hl [0, 1, 2, 3, 5, 6] rfl)
  have hW26 : ∀ (S : St) (s1 : Int32) (H : Heap) (locs : List Loc) (ls : Array Slot), f_X1_leastSets_26 p1 p2 S s1 = some r → va_P (dC, dI) vwCl (wM cA a S) H → va_S (ad a 8) s.heap H locs → lv_has ls 7 [(0, .ref (a 0)), (1, .int p1), (2, .int p2)] → W p l e (headSpec wsX1_leastSets ({ frames := 3, cells := 0, slots := 0, locals := 70 })).room s m ([.ref (a 0), .int p1, .int p2] : List Value).toArray below meth c H locs 0 0 (MQ below (mMi (dC, dI) cA a r.1 r.2) ([.ref (a 0), .int p1, .int p2] : List Value).toArray s 0 0 (ad a 8)) (F0 m 26 ls [.int s1, .ref (a 0)]) := by
    intro S s1 H locs ls hf hP hS hl
    unfold f_X1_leastSets_26 at hf
    refine pfM hx hb hts hin hown hK hP hap hS 10 (by decide) hw1 rfl rfl (by decide +kernel) (k2 := 3) (fun _ => rfl) dX1_leastSets_26 (fun H locs hP hS => ?_)
    refine lv_aload_n hx hb dX1_leastSets_29 rfl (lv_at hl 0 rfl) ?_
    refine gfM hx hb hts hin hown hK hP 10 (by decide) hw1 rfl rfl dX1_leastSets_30 ?_
    refine lv_if_le (tgt := 38) hx hb dX1_leastSets_33 (by decide) (fun c10 => ?_) (fun c10 => ?_)
    · rw [if_pos c10] at hf
      refine lv_aload_n hx hb dX1_leastSets_38 rfl (lv_at hl 0 rfl) ?_
      refine lv_iload_n hx hb dX1_leastSets_39 rfl (lv_at hl 1 rfl) ?_
      obtain ⟨v11, hv11, hf⟩ := ob_some hf
      refine pu_V (As := [.int p1]) (rest := []) ⟨hx, hb, hml, hown, hts⟩ (k_X1_leastOf l dC dI cA a (sS S 3 s1) p1 _ hv11) gX1_leastSets_X1_leastOf rfl rfl rfl cd_X1_leastOf (Nat.le_of_ble_eq_true rfl) (Nat.le_of_ble_eq_true rfl) (preM hK hP) rfl hl.1 rfl (Nat.le_of_ble_eq_true rfl) (Nat.zero_le _) (Nat.zero_le _) dX1_leastSets_40 ?_
      refine lv_istore_n (lv' := [(3, .int v11), (0, .ref (a 0)), (1, .int p1), (2, .int p2)]) hx hb dX1_leastSets_43 rfl hl (by decide) rfl (fun ls hl => ?_)
      refine lv_iconst (v := 1) hx hb dX1_leastSets_44 (by decide) ?_
      refine lv_aload_n hx hb dX1_leastSets_45 rfl (lv_at hl 1 rfl) ?_
      refine gfM hx hb hts hin hown hK hP 0 (by decide) hw2 rfl rfl dX1_leastSets_46 ?_
      refine lv_ishl hx hb dX1_leastSets_49 ?_
      refine lv_iconst (v := 1) hx hb dX1_leastSets_50 (by decide) ?_
      refine lv_isub hx hb dX1_leastSets_51 ?_
      refine lv_topi (fun y12 ey12 => ?_)
      have hf := bnd_at hf ey12
      refine lv_istore (lv' := [(4, .int y12), (3, .int v11), (0, .ref (a 0)), (1, .int p1), (2, .int p2)]) hx hb dX1_leastSets_52 hl (by decide) rfl (fun ls hl => ?_)
      refine lv_iconst (v := 0) hx hb dX1_leastSets_54 (by decide) ?_
      refine lv_istore (lv' := [(5, .int 0), (4, .int y12), (3, .int v11), (0, .ref (a 0)), (1, .int p1), (2, .int p2)]) hx hb dX1_leastSets_55 hl (by decide) rfl (fun ls hl => ?_)
      refine lv_iconst (v := 0) hx hb dX1_leastSets_57 (by decide) ?_
      refine lv_istore (lv' := [(6, .int 0), (5, .int 0), (4, .int y12), (3, .int v11), (0, .ref (a 0)), (1, .int p1), (2, .int p2)]) hx hb dX1_leastSets_58 hl (by decide) rfl (fun ls hl => ?_)
      exact hW60 70 (sS S 3 s1) v11 y12 0 0 _ _ ls hf hP hS (lv_sub hl [4, 5, 6, 3, 2, 1, 0] rfl)
    · rw [if_neg c10] at hf
      refine lv_iconst (v := 0) hx hb dX1_leastSets_36 (by decide) ?_
      have hf := Option.some.inj hf; subst hf
      exact W.iret hx hb hr (fun t ht hW => ⟨⟨rfl, by rw [ht]; exact hP⟩, hS.F ht⟩) hS.2.2 dX1_leastSets_37
  unfold f_X1_leastSets at hf
  refine lv_aload_n hx hb dX1_leastSets_0 rfl (lv_at hl 0 rfl) ?_
  refine lv_aload_n hx hb dX1_leastSets_1 rfl (lv_at hl 0 rfl) ?_
  refine lv_iload_n hx hb dX1_leastSets_2 rfl (lv_at hl 1 rfl) ?_
  refine pu_V (As := [.int p1]) (rest := [.ref (a 0)]) ⟨hx, hb, hml, hown, hts⟩ (k_X1_isFunction l dC dI cA a S p1 _ rfl) gX1_leastSets_X1_isFunction rfl rfl rfl cd_X1_isFunction (Nat.le_of_ble_eq_true rfl) (Nat.le_of_ble_eq_true rfl) (preM hK hP) rfl hl.1 rfl (Nat.le_of_ble_eq_true rfl) (Nat.zero_le _) (Nat.zero_le _) dX1_leastSets_3 ?_
  refine lv_if_ne (tgt := 13) hx hb dX1_leastSets_6 (by decide) (fun c13 => ?_) (fun c13 => ?_)
  · rw [if_neg c13] at hf
    refine lv_aload_n hx hb dX1_leastSets_13 rfl (lv_at hl 0 rfl) ?_
    refine lv_iload_n hx hb dX1_leastSets_14 rfl (lv_at hl 1 rfl) ?_
    obtain ⟨v14, hv14, hf⟩ := ob_some hf
    refine pu_V (As := [.int p1]) (rest := [.ref (a 0)]) ⟨hx, hb, hml, hown, hts⟩ (k_X1_hasLaw l dC dI cA a S p1 _ hv14) gX1_leastSets_X1_hasLaw rfl rfl rfl cd_X1_hasLaw (Nat.le_of_ble_eq_true rfl) (Nat.le_of_ble_eq_true rfl) (preM hK hP) rfl hl.1 rfl (Nat.le_of_ble_eq_true rfl) (Nat.zero_le _) (Nat.zero_le _) dX1_leastSets_15 ?_
    refine lv_if_ne (tgt := 25) hx hb dX1_leastSets_18 (by decide) (fun c15 => ?_) (fun c15 => ?_)
    · rw [if_neg c15] at hf
      refine lv_iconst (v := 0) hx hb dX1_leastSets_25 (by decide) ?_
      exact hW26 S 0 _ _ ls hf hP hS (lv_sub hl [0, 1, 2] rfl)
    · rw [if_pos c15] at hf
      refine lv_iconst (v := 2) hx hb dX1_leastSets_21 (by decide) ?_
      refine lv_goto (tgt := 26) hx hb dX1_leastSets_22 (by decide) ?_
      exact hW26 S 2 _ _ ls hf hP hS (lv_sub hl [0, 1, 2] rfl)
  · rw [if_pos c13] at hf
    refine lv_iconst (v := 1) hx hb dX1_leastSets_9 (by decide) ?_
    refine lv_goto (tgt := 26) hx hb dX1_leastSets_10 (by decide) ?_
    exact hW26 S 1 _ _ ls hf hP hS (lv_sub hl [0, 1, 2] rfl)
theorem cd_X1_leastSet : yX1_leastSet.cls = RX1 ∧ yX1_leastSet.cls ≠ "java/lang/invoke/MethodHandle" ∧ yX1_leastSet.cls ≠ "java/lang/invoke/VarHandle" ∧ (parseMethodDescriptor yX1_leastSet.desc).map (fun d => d.parameters.length) = some 2 := by decide +kernel
set_option maxHeartbeats 4000000 in
set_option maxRecDepth 100000 in
theorem k_X1_leastSet (l : Launch) (dC : Nat → ClassId) (dI : Nat → Nat → Nat) (cA : ClassId) (a : Nat → Nat) (S : St) (p1 : Int32) (p2 : Int32) (r : Int32 × St) (hf : f_X1_leastSet S p1 p2 = some r) (hap : apart a 8) : Met l yX1_leastSet wsX1_leastSet ({ frames := 4, cells := 0, slots := 0, locals := 96 }) (va_Pc [.ref (a 0), .int p1, .int p2] (PMs (dC, dI) cA a S)) (mMi (dC, dI) cA a r.1 r.2) 0 0 (ad a 8) := by
  refine Met.ofW (cc := cX1_leastSet) (maxL := 3) (ret := (some .int)) (by decide) rfl ?_
  intro p e s m args below meth c s₁ B hml hv
  obtain ⟨rfl, hP, hK⟩ := hv
  have hx := B.exec
  have hb := B.bytes
  have hr := B.returns
  have hts := atoms_spec (ws := wsX1_leastSet) B.pre
  have hown : s.vm.findClass RX1 = some m.cls := findClass_of_methodNamed B.named
  have hlocks := B.notSynchronized
  have hS : va_S (ad a 8) s.heap s.heap [] := va_S.rf
  have hl := lv_entry ([.ref (a 0), .int p1, .int p2]) (n := 3) (Nat.le_of_ble_eq_true rfl)
  rw [lg_entry_eq]
  generalize (lg_sl ([.ref (a 0), .int p1, .int p2]) ++ List.replicate (3 - (lg_sl ([.ref (a 0), .int p1, .int p2])).length) Slot.unset).toArray = ls at hl ⊢
  have hl : lv_has ls 3 [(0, .ref (a 0)), (1, .int p1), (2, .int p2)] := hl
  unfold f_X1_leastSet at hf
  refine lv_aload_n hx hb dX1_leastSet_0 rfl (lv_at hl 0 rfl) ?_
  refine lv_iload_n hx hb dX1_leastSet_1 rfl (lv_at hl 1 rfl) ?_
  refine lv_iload_n hx hb dX1_leastSet_2 rfl (lv_at hl 2 rfl) ?_
  obtain ⟨q1, hq1, hf⟩ := ob_some hf
  refine mu_Mi (As := [.int p1, .int p2]) (rest := []) ⟨hx, hb, hml, hown, hts⟩ (k_X1_leastSets l dC dI cA a S p1 p2 _ hq1 hap) gX1_leastSet_X1_leastSets rfl rfl rfl cd_X1_leastSets (Nat.le_of_ble_eq_true rfl) (Nat.le_of_ble_eq_true rfl) (preM hK hP) rfl hl.1 rfl (Nat.le_of_ble_eq_true rfl) (Nat.zero_le _) (Nat.zero_le _) dX1_leastSet_3 hS (fun H locs hP hS => ?_)
  have hf := Option.some.inj hf; subst hf
  exact W.iret hx hb hr (fun t ht hW => ⟨⟨rfl, by rw [ht]; exact hP⟩, hS.F ht⟩) hS.2.2 dX1_leastSet_6
theorem cd_X1_leastSetAnew : yX1_leastSetAnew.cls = RX1 ∧ yX1_leastSetAnew.cls ≠ "java/lang/invoke/MethodHandle" ∧ yX1_leastSetAnew.cls ≠ "java/lang/invoke/VarHandle" ∧ (parseMethodDescriptor yX1_leastSetAnew.desc).map (fun d => d.parameters.length) = some 2 := by decide +kernel
set_option maxHeartbeats 4000000 in
set_option maxRecDepth 100000 in
theorem k_X1_leastSetAnew (l : Launch) (dC : Nat → ClassId) (dI : Nat → Nat → Nat) (cA : ClassId) (a : Nat → Nat) (S : St) (p1 : Int32) (p2 : Int32) (r : Int32 × St) (hf : f_X1_leastSetAnew S p1 p2 = some r) (hap : apart a 8) : Met l yX1_leastSetAnew wsX1_leastSetAnew ({ frames := 4, cells := 0, slots := 0, locals := 96 }) (va_Pc [.ref (a 0), .int p1, .int p2] (PMs (dC, dI) cA a S)) (mMi (dC, dI) cA a r.1 r.2) 0 0 (ad a 8) := by
  refine Met.ofW (cc := cX1_leastSetAnew) (maxL := 3) (ret := (some .int)) (by decide) rfl ?_
  intro p e s m args below meth c s₁ B hml hv
  obtain ⟨rfl, hP, hK⟩ := hv
  have hx := B.exec
  have hb := B.bytes
  have hr := B.returns
  have hts := atoms_spec (ws := wsX1_leastSetAnew) B.pre
  have hown : s.vm.findClass RX1 = some m.cls := findClass_of_methodNamed B.named
  have hlocks := B.notSynchronized
  have hS : va_S (ad a 8) s.heap s.heap [] := va_S.rf
  have hl := lv_entry ([.ref (a 0), .int p1, .int p2]) (n := 3) (Nat.le_of_ble_eq_true rfl)
  rw [lg_entry_eq]
  generalize (lg_sl ([.ref (a 0), .int p1, .int p2]) ++ List.replicate (3 - (lg_sl ([.ref (a 0), .int p1, .int p2])).length) Slot.unset).toArray = ls at hl ⊢
  have hl : lv_has ls 3 [(0, .ref (a 0)), (1, .int p1), (2, .int p2)] := hl
  unfold f_X1_leastSetAnew at hf
  refine lv_aload_n hx hb dX1_leastSetAnew_0 rfl (lv_at hl 0 rfl) ?_
  refine lv_iload_n hx hb dX1_leastSetAnew_1 rfl (lv_at hl 1 rfl) ?_
  refine lv_iload_n hx hb dX1_leastSetAnew_2 rfl (lv_at hl 2 rfl) ?_
  obtain ⟨q1, hq1, hf⟩ := ob_some hf
  refine mu_Mi (As := [.int p1, .int p2]) (rest := []) ⟨hx, hb, hml, hown, hts⟩ (k_X1_leastSets l dC dI cA a S p1 p2 _ hq1 hap) gX1_leastSetAnew_X1_leastSets rfl rfl rfl cd_X1_leastSets (Nat.le_of_ble_eq_true rfl) (Nat.le_of_ble_eq_true rfl) (preM hK hP) rfl hl.1 rfl (Nat.le_of_ble_eq_true rfl) (Nat.zero_le _) (Nat.zero_le _) dX1_leastSetAnew_3 hS (fun H locs hP hS => ?_)
  have hf := Option.some.inj hf; subst hf
  exact W.iret hx hb hr (fun t ht hW => ⟨⟨rfl, by rw [ht]; exact hP⟩, hS.F ht⟩) hS.2.2 dX1_leastSetAnew_6
theorem cd_X1_order : yX1_order.cls = RX1 ∧ yX1_order.cls ≠ "java/lang/invoke/MethodHandle" ∧ yX1_order.cls ≠ "java/lang/invoke/VarHandle" ∧ (parseMethodDescriptor yX1_order.desc).map (fun d => d.parameters.length) = some 1 := by decide +kernel
set_option maxHeartbeats 4000000 in
set_option maxRecDepth 100000 in
theorem k_X1_order (l : Launch) (dC : Nat → ClassId) (dI : Nat → Nat → Nat) (cA : ClassId) (a : Nat → Nat) (S : St) (p1 : Int32) (r : Int32 × St) (hf : f_X1_order S p1 = some r) (hap : apart a 8) : Met l yX1_order wsX1_order ({ frames := 2, cells := 0, slots := 0, locals := 43 }) (va_Pc [.ref (a 0), .int p1] (PMs (dC, dI) cA a S)) (mMi (dC, dI) cA a r.1 r.2) 0 0 (ad a 8) := by
  refine Met.ofW (cc := cX1_order) (maxL := 2) (ret := (some .int)) (by decide) rfl ?_
  intro p e s m args below meth c s₁ B hml hv
  obtain ⟨rfl, hP, hK⟩ := hv
  have hx := B.exec
  have hb := B.bytes
  have hr := B.returns
  have hts := atoms_spec (ws := wsX1_order) B.pre
  have hown : s.vm.findClass RX1 = some m.cls := findClass_of_methodNamed B.named
  have hlocks := B.notSynchronized
  have hin : ∀ w ∈ u_ws RX1 TX1 11, w ∈ wsX1_order := by decide +kernel
  have hw0 := hts (.fieldLink RX1 41 "SubmodularyModel" "told" "I") (by decide +kernel)
  have hw1 := hts (.fieldLink RX1 32 "SubmodularyModel" "order" "[I") (by decide +kernel)
  have hw2 := hts (.fieldLink RX1 44 "SubmodularyModel" "thrown" "I") (by decide +kernel)
  have hw3 := hts (.fieldLink RX1 7 "SubmodularyModel" "n" "I") (by decide +kernel)
  have hS : va_S (ad a 8) s.heap s.heap [] := va_S.rf
  have hl := lv_entry ([.ref (a 0), .int p1]) (n := 2) (Nat.le_of_ble_eq_true rfl)
  rw [lg_entry_eq]
  generalize (lg_sl ([.ref (a 0), .int p1]) ++ List.replicate (2 - (lg_sl ([.ref (a 0), .int p1])).length) Slot.unset).toArray = ls at hl ⊢
  have hl : lv_has ls 2 [(0, .ref (a 0)), (1, .int p1)] := hl
  have hW70 : ∀ (S : St) (s1 : Int32) (H : Heap) (locs : List Loc) (ls : Array Slot), f_X1_order_70 p1 S s1 = some r → va_P (dC, dI) vwCl (wM cA a S) H → va_S (ad a 8) s.heap H locs → lv_has ls 2 [(0, .ref (a 0)), (1, .int p1)] → W p l e (headSpec wsX1_order ({ frames := 2, cells := 0, slots := 0, locals := 43 })).room s m ([.ref (a 0), .int p1] : List Value).toArray below meth c H locs 0 0 (MQ below (mMi (dC, dI) cA a r.1 r.2) ([.ref (a 0), .int p1] : List Value).toArray s 0 0 (ad a 8)) (F0 m 70 ls [.int s1, .ref (a 0)]) := by
    intro S s1 H locs ls hf hP hS hl
    unfold f_X1_order_70 at hf
    refine pfM hx hb hts hin hown hK hP hap hS 8 (by decide) hw0 rfl rfl (by decide +kernel) (k2 := 2) (fun _ => rfl) dX1_order_70 (fun H locs hP hS => ?_)
    refine lv_aload_n hx hb dX1_order_73 rfl (lv_at hl 0 rfl) ?_
    refine gfM hx hb hts hin hown hK hP 9 (by decide) hw1 rfl rfl dX1_order_74 ?_
    refine lv_aload_n hx hb dX1_order_77 rfl (lv_at hl 0 rfl) ?_
    refine gfM hx hb hts hin hown hK hP 8 (by decide) hw0 rfl rfl dX1_order_78 ?_
    refine lv_iload_n hx hb dX1_order_81 rfl (lv_at hl 1 rfl) ?_
    obtain ⟨g1, hg1, hf⟩ := ob_some hf
    refine wrM hx hb hK hP hap hS 6 (wM_q6 cA a _) (fun g => wM_s6 cA a _ g) hg1 dX1_order_82 (fun H locs hP hS => ?_)
    refine lv_aload_n hx hb dX1_order_83 rfl (lv_at hl 0 rfl) ?_
    refine lv_dup hx hb dX1_order_84 rfl ?_
    refine gfM hx hb hts hin hown hK hP 8 (by decide) hw0 rfl rfl dX1_order_85 ?_
    refine lv_iconst (v := 1) hx hb dX1_order_88 (by decide) ?_
    refine lv_iadd hx hb dX1_order_89 ?_
    refine pfM hx hb hts hin hown hK hP hap hS 8 (by decide) hw0 rfl rfl (by decide +kernel) (k2 := 2) (fun _ => rfl) dX1_order_90 (fun H locs hP hS => ?_)
    refine lv_aload_n hx hb dX1_order_93 rfl (lv_at hl 0 rfl) ?_
    refine gfM hx hb hts hin hown hK hP 8 (by decide) hw0 rfl rfl dX1_order_94 ?_
    have hf := Option.some.inj hf; subst hf
    exact W.iret hx hb hr (fun t ht hW => ⟨⟨rfl, by rw [ht]; exact hP⟩, hS.F ht⟩) hS.2.2 dX1_order_97
  have hW38 : ∀ (S : St) (s1 : Int32) (H : Heap) (locs : List Loc) (ls : Array Slot), f_X1_order_38 p1 S s1 = some r → va_P (dC, dI) vwCl (wM cA a S) H → va_S (ad a 8) s.heap H locs → lv_has ls 2 [(0, .ref (a 0)), (1, .int p1)] → W p l e (headSpec wsX1_order ({ frames := 2, cells := 0, slots := 0, locals := 43 })).room s m ([.ref (a 0), .int p1] : List Value).toArray below meth c H locs 0 0 (MQ below (mMi (dC, dI) cA a r.1 r.2) ([.ref (a 0), .int p1] : List Value).toArray s 0 0 (ad a 8)) (F0 m 38 ls [.int s1, .ref (a 0)]) := by
    intro S s1 H locs ls hf hP hS hl
    unfold f_X1_order_38 at hf
    refine pfM hx hb hts hin hown hK hP hap hS 10 (by decide) hw2 rfl rfl (by decide +kernel) (k2 := 3) (fun _ => rfl) dX1_order_38 (fun H locs hP hS => ?_)
    refine lv_aload_n hx hb dX1_order_41 rfl (lv_at hl 0 rfl) ?_
    refine gfM hx hb hts hin hown hK hP 10 (by decide) hw2 rfl rfl dX1_order_42 ?_
    refine lv_if_le (tgt := 50) hx hb dX1_order_45 (by decide) (fun c2 => ?_) (fun c2 => ?_)
    · rw [if_pos c2] at hf
      refine lv_aload_n hx hb dX1_order_50 rfl (lv_at hl 0 rfl) ?_
      refine lv_aload_n hx hb dX1_order_51 rfl (lv_at hl 0 rfl) ?_
      refine gfM hx hb hts hin hown hK hP 8 (by decide) hw0 rfl rfl dX1_order_52 ?_
      refine lv_aload_n hx hb dX1_order_55 rfl (lv_at hl 0 rfl) ?_
      refine gfM hx hb hts hin hown hK hP 0 (by decide) hw3 rfl rfl dX1_order_56 ?_
      refine lv_icmp_ne (tgt := 66) hx hb dX1_order_59 (by decide) (fun c3 => ?_) (fun c3 => ?_)
      · rw [if_neg c3] at hf
        refine lv_aload_n hx hb dX1_order_66 rfl (lv_at hl 0 rfl) ?_
        refine gfM hx hb hts hin hown hK hP 8 (by decide) hw0 rfl rfl dX1_order_67 ?_
        exact hW70 (sS S 3 s1) ((sS S 3 s1).1 2) _ _ ls hf hP hS (lv_sub hl [0, 1] rfl)
      · rw [if_pos c3] at hf
        refine lv_iconst (v := 0) hx hb dX1_order_62 (by decide) ?_
        refine lv_goto (tgt := 70) hx hb dX1_order_63 (by decide) ?_
        exact hW70 (sS S 3 s1) 0 _ _ ls hf hP hS (lv_sub hl [0, 1] rfl)
    · rw [if_neg c2] at hf
      refine lv_iconst (v := 0) hx hb dX1_order_48 (by decide) ?_
      have hf := Option.some.inj hf; subst hf
      exact W.iret hx hb hr (fun t ht hW => ⟨⟨rfl, by rw [ht]; exact hP⟩, hS.F ht⟩) hS.2.2 dX1_order_49
  unfold f_X1_order at hf
  refine lv_aload_n hx hb dX1_order_0 rfl (lv_at hl 0 rfl) ?_
  refine lv_aload_n hx hb dX1_order_1 rfl (lv_at hl 0 rfl) ?_
  refine lv_iload_n hx hb dX1_order_2 rfl (lv_at hl 1 rfl) ?_
  refine pu_V (As := [.int p1]) (rest := [.ref (a 0)]) ⟨hx, hb, hml, hown, hts⟩ (k_X1_isElement l dC dI cA a S p1 _ rfl) gX1_order_X1_isElement rfl rfl rfl cd_X1_isElement (Nat.le_of_ble_eq_true rfl) (Nat.le_of_ble_eq_true rfl) (preM hK hP) rfl hl.1 rfl (Nat.le_of_ble_eq_true rfl) (Nat.zero_le _) (Nat.zero_le _) dX1_order_3 ?_
  refine lv_if_ne (tgt := 13) hx hb dX1_order_6 (by decide) (fun c4 => ?_) (fun c4 => ?_)
  · rw [if_neg c4] at hf
    refine lv_aload_n hx hb dX1_order_13 rfl (lv_at hl 0 rfl) ?_
    refine gfM hx hb hts hin hown hK hP 8 (by decide) hw0 rfl rfl dX1_order_14 ?_
    refine lv_aload_n hx hb dX1_order_17 rfl (lv_at hl 0 rfl) ?_
    refine gfM hx hb hts hin hown hK hP 0 (by decide) hw3 rfl rfl dX1_order_18 ?_
    refine lv_icmp_ge (tgt := 37) hx hb dX1_order_21 (by decide) (fun c5 => ?_) (fun c5 => ?_)
    · rw [if_pos c5] at hf
      refine lv_iconst (v := 0) hx hb dX1_order_37 (by decide) ?_
      exact hW38 S 0 _ _ ls hf hP hS (lv_sub hl [0, 1] rfl)
    · rw [if_neg c5] at hf
      refine lv_aload_n hx hb dX1_order_24 rfl (lv_at hl 0 rfl) ?_
      refine lv_iload_n hx hb dX1_order_25 rfl (lv_at hl 1 rfl) ?_
      obtain ⟨v6, hv6, hf⟩ := ob_some hf
      refine pu_V (As := [.int p1]) (rest := [.ref (a 0)]) ⟨hx, hb, hml, hown, hts⟩ (k_X1_placeOf l dC dI cA a S p1 _ hv6) gX1_order_X1_placeOf rfl rfl rfl cd_X1_placeOf (Nat.le_of_ble_eq_true rfl) (Nat.le_of_ble_eq_true rfl) (preM hK hP) rfl hl.1 rfl (Nat.le_of_ble_eq_true rfl) (Nat.zero_le _) (Nat.zero_le _) dX1_order_26 ?_
      refine lv_iconst (v := (-1)) hx hb dX1_order_29 (by decide) ?_
      refine lv_icmp_eq (tgt := 37) hx hb dX1_order_30 (by decide) (fun c7 => ?_) (fun c7 => ?_)
      · rw [if_pos c7] at hf
        refine lv_iconst (v := 0) hx hb dX1_order_37 (by decide) ?_
        exact hW38 S 0 _ _ ls hf hP hS (lv_sub hl [0, 1] rfl)
      · rw [if_neg c7] at hf
        refine lv_iconst (v := 2) hx hb dX1_order_33 (by decide) ?_
        refine lv_goto (tgt := 38) hx hb dX1_order_34 (by decide) ?_
        exact hW38 S 2 _ _ ls hf hP hS (lv_sub hl [0, 1] rfl)
  · rw [if_pos c4] at hf
    refine lv_iconst (v := 1) hx hb dX1_order_9 (by decide) ?_
    refine lv_goto (tgt := 38) hx hb dX1_order_10 (by decide) ?_
    exact hW38 S 1 _ _ ls hf hP hS (lv_sub hl [0, 1] rfl)
theorem cd_X1_corner : yX1_corner.cls = RX1 ∧ yX1_corner.cls ≠ "java/lang/invoke/MethodHandle" ∧ yX1_corner.cls ≠ "java/lang/invoke/VarHandle" ∧ (parseMethodDescriptor yX1_corner.desc).map (fun d => d.parameters.length) = some 2 := by decide +kernel
set_option maxHeartbeats 4000000 in
set_option maxRecDepth 100000 in
theorem k_X1_corner (l : Launch) (dC : Nat → ClassId) (dI : Nat → Nat → Nat) (cA : ClassId) (a : Nat → Nat) (S : St) (p1 : Int32) (p2 : Int32) (r : Int32 × St) (hf : f_X1_corner S p1 p2 = some r) (hap : apart a 8) : Met l yX1_corner wsX1_corner ({ frames := 2, cells := 0, slots := 0, locals := 43 }) (va_Pc [.ref (a 0), .int p1, .int p2] (PMs (dC, dI) cA a S)) (mMi (dC, dI) cA a r.1 r.2) 0 0 (ad a 8) := by
  refine Met.ofW (cc := cX1_corner) (maxL := 5) (ret := (some .int)) (by decide) rfl ?_
  intro p e s m args below meth c s₁ B hml hv
  obtain ⟨rfl, hP, hK⟩ := hv
  have hx := B.exec
  have hb := B.bytes
  have hr := B.returns
  have hts := atoms_spec (ws := wsX1_corner) B.pre
  have hown : s.vm.findClass RX1 = some m.cls := findClass_of_methodNamed B.named
  have hlocks := B.notSynchronized
  have hin : ∀ w ∈ u_ws RX1 TX1 11, w ∈ wsX1_corner := by decide +kernel
  have hw0 := hts (.fieldLink RX1 29 "SubmodularyModel" "values" "[I") (by decide +kernel)
  have hw1 := hts (.fieldLink RX1 32 "SubmodularyModel" "order" "[I") (by decide +kernel)
  have hw2 := hts (.fieldLink RX1 44 "SubmodularyModel" "thrown" "I") (by decide +kernel)
  have hS : va_S (ad a 8) s.heap s.heap [] := va_S.rf
  have hl := lv_entry ([.ref (a 0), .int p1, .int p2]) (n := 5) (Nat.le_of_ble_eq_true rfl)
  rw [lg_entry_eq]
  generalize (lg_sl ([.ref (a 0), .int p1, .int p2]) ++ List.replicate (5 - (lg_sl ([.ref (a 0), .int p1, .int p2])).length) Slot.unset).toArray = ls at hl ⊢
  have hl : lv_has ls 5 [(0, .ref (a 0)), (1, .int p1), (2, .int p2)] := hl
  have hW52 : ∀ (k52 : Nat) (S : St) (x3 x4 : Int32) (H : Heap) (locs : List Loc) (ls : Array Slot), f_X1_corner_52 p1 p2 k52 S x3 x4 = some r → va_P (dC, dI) vwCl (wM cA a S) H → va_S (ad a 8) s.heap H locs → lv_has ls 5 [(0, .ref (a 0)), (1, .int p1), (2, .int p2), (3, .int x3), (4, .int x4)] → W p l e (headSpec wsX1_corner ({ frames := 2, cells := 0, slots := 0, locals := 43 })).room s m ([.ref (a 0), .int p1, .int p2] : List Value).toArray below meth c H locs 0 0 (MQ below (mMi (dC, dI) cA a r.1 r.2) ([.ref (a 0), .int p1, .int p2] : List Value).toArray s 0 0 (ad a 8)) (F0 m 52 ls []) := by
    intro k52
    induction k52 with
    | zero =>
      intro S x3 x4 H locs ls hf hP hS hl
      rw [f_X1_corner_52] at hf
      cases hf
    | succ k52 ih52 =>
      intro S x3 x4 H locs ls hf hP hS hl
      rw [f_X1_corner_52] at hf
      refine lv_iload hx hb dX1_corner_52 (lv_at hl 4 rfl) ?_
      refine lv_aload_n hx hb dX1_corner_54 rfl (lv_at hl 0 rfl) ?_
      refine lv_iload_n hx hb dX1_corner_55 rfl (lv_at hl 2 rfl) ?_
      obtain ⟨v1, hv1, hf⟩ := ob_some hf
      refine pu_V (As := [.int p2]) (rest := [.int x4]) ⟨hx, hb, hml, hown, hts⟩ (k_X1_placeOf l dC dI cA a S p2 _ hv1) gX1_corner_X1_placeOf rfl rfl rfl cd_X1_placeOf (Nat.le_of_ble_eq_true rfl) (Nat.le_of_ble_eq_true rfl) (preM hK hP) rfl hl.1 rfl (Nat.le_of_ble_eq_true rfl) (Nat.zero_le _) (Nat.zero_le _) dX1_corner_56 ?_
      refine lv_icmp_ge (tgt := 80) hx hb dX1_corner_59 (by decide) (fun c2 => ?_) (fun c2 => ?_)
      · rw [if_pos c2] at hf
        refine lv_aload_n hx hb dX1_corner_80 rfl (lv_at hl 0 rfl) ?_
        refine gfM hx hb hts hin hown hK hP 7 (by decide) hw0 rfl rfl dX1_corner_81 ?_
        refine lv_bipush (v := 64) hx hb dX1_corner_84 (by decide) ?_
        refine lv_iload_n hx hb dX1_corner_86 rfl (lv_at hl 1 rfl) ?_
        refine lv_imul hx hb dX1_corner_87 ?_
        refine lv_iload_n hx hb dX1_corner_88 rfl (lv_at hl 3 rfl) ?_
        refine lv_iconst (v := 1) hx hb dX1_corner_89 (by decide) ?_
        refine lv_iload_n hx hb dX1_corner_90 rfl (lv_at hl 2 rfl) ?_
        refine lv_ishl hx hb dX1_corner_91 ?_
        refine lv_ior hx hb dX1_corner_92 ?_
        refine lv_iadd hx hb dX1_corner_93 ?_
        obtain ⟨v3, hv3, hf⟩ := ob_some hf
        refine rdI hx hb hK hP 6 rfl hv3 dX1_corner_94 ?_
        refine lv_aload_n hx hb dX1_corner_95 rfl (lv_at hl 0 rfl) ?_
        refine gfM hx hb hts hin hown hK hP 7 (by decide) hw0 rfl rfl dX1_corner_96 ?_
        refine lv_bipush (v := 64) hx hb dX1_corner_99 (by decide) ?_
        refine lv_iload_n hx hb dX1_corner_101 rfl (lv_at hl 1 rfl) ?_
        refine lv_imul hx hb dX1_corner_102 ?_
        refine lv_iload_n hx hb dX1_corner_103 rfl (lv_at hl 3 rfl) ?_
        refine lv_iadd hx hb dX1_corner_104 ?_
        obtain ⟨v4, hv4, hf⟩ := ob_some hf
        refine rdI hx hb hK hP 6 rfl hv4 dX1_corner_105 ?_
        refine lv_isub hx hb dX1_corner_106 ?_
        have hf := Option.some.inj hf; subst hf
        exact W.iret hx hb hr (fun t ht hW => ⟨⟨rfl, by rw [ht]; exact hP⟩, hS.F ht⟩) hS.2.2 dX1_corner_107
      · rw [if_neg c2] at hf
        refine lv_iload_n hx hb dX1_corner_62 rfl (lv_at hl 3 rfl) ?_
        refine lv_iconst (v := 1) hx hb dX1_corner_63 (by decide) ?_
        refine lv_aload_n hx hb dX1_corner_64 rfl (lv_at hl 0 rfl) ?_
        refine gfM hx hb hts hin hown hK hP 9 (by decide) hw1 rfl rfl dX1_corner_65 ?_
        refine lv_iload hx hb dX1_corner_68 (lv_at hl 4 rfl) ?_
        obtain ⟨v5, hv5, hf⟩ := ob_some hf
        refine rdI hx hb hK hP 7 rfl hv5 dX1_corner_70 ?_
        refine lv_ishl hx hb dX1_corner_71 ?_
        refine lv_ior hx hb dX1_corner_72 ?_
        refine lv_topi (fun y6 ey6 => ?_)
        have hf := bnd_at hf ey6
        refine lv_istore_n (lv' := [(3, .int y6), (0, .ref (a 0)), (1, .int p1), (2, .int p2), (4, .int x4)]) hx hb dX1_corner_73 rfl hl (by decide) rfl (fun ls hl => ?_)
        obtain ⟨y7, ey7⟩ : ∃ y : Int32, y = (x4 + 1) := ⟨_, rfl⟩
        have hf := bnd_at hf ey7
        refine lv_iinc (v := y7) (lv' := [(4, .int y7), (3, .int y6), (0, .ref (a 0)), (1, .int p1), (2, .int p2)]) hx hb dX1_corner_74 hl (k := 4) rfl (by rw [ey7]; rfl) (by decide) rfl (fun ls hl => ?_)
        refine lv_goto (tgt := 52) hx hb dX1_corner_77 (by decide) ?_
        exact ih52 S y6 y7 _ _ ls hf hP hS (lv_sub hl [2, 3, 4, 1, 0] rfl)
  have hW35 : ∀ (S : St) (s1 : Int32) (H : Heap) (locs : List Loc) (ls : Array Slot), f_X1_corner_35 p1 p2 S s1 = some r → va_P (dC, dI) vwCl (wM cA a S) H → va_S (ad a 8) s.heap H locs → lv_has ls 5 [(0, .ref (a 0)), (1, .int p1), (2, .int p2)] → W p l e (headSpec wsX1_corner ({ frames := 2, cells := 0, slots := 0, locals := 43 })).room s m ([.ref (a 0), .int p1, .int p2] : List Value).toArray below meth c H locs 0 0 (MQ below (mMi (dC, dI) cA a r.1 r.2) ([.ref (a 0), .int p1, .int p2] : List Value).toArray s 0 0 (ad a 8)) (F0 m 35 ls [.int s1, .ref (a 0)]) := by
    intro S s1 H locs ls hf hP hS hl
    unfold f_X1_corner_35 at hf
    refine pfM hx hb hts hin hown hK hP hap hS 10 (by decide) hw2 rfl rfl (by decide +kernel) (k2 := 3) (fun _ => rfl) dX1_corner_35 (fun H locs hP hS => ?_)
    refine lv_aload_n hx hb dX1_corner_38 rfl (lv_at hl 0 rfl) ?_
    refine gfM hx hb hts hin hown hK hP 10 (by decide) hw2 rfl rfl dX1_corner_39 ?_
    refine lv_if_le (tgt := 47) hx hb dX1_corner_42 (by decide) (fun c8 => ?_) (fun c8 => ?_)
    · rw [if_pos c8] at hf
      refine lv_iconst (v := 0) hx hb dX1_corner_47 (by decide) ?_
      refine lv_istore_n (lv' := [(3, .int 0), (0, .ref (a 0)), (1, .int p1), (2, .int p2)]) hx hb dX1_corner_48 rfl hl (by decide) rfl (fun ls hl => ?_)
      refine lv_iconst (v := 0) hx hb dX1_corner_49 (by decide) ?_
      refine lv_istore (lv' := [(4, .int 0), (3, .int 0), (0, .ref (a 0)), (1, .int p1), (2, .int p2)]) hx hb dX1_corner_50 hl (by decide) rfl (fun ls hl => ?_)
      exact hW52 70 (sS S 3 s1) 0 0 _ _ ls hf hP hS (lv_sub hl [2, 3, 4, 1, 0] rfl)
    · rw [if_neg c8] at hf
      refine lv_iconst (v := 0) hx hb dX1_corner_45 (by decide) ?_
      have hf := Option.some.inj hf; subst hf
      exact W.iret hx hb hr (fun t ht hW => ⟨⟨rfl, by rw [ht]; exact hP⟩, hS.F ht⟩) hS.2.2 dX1_corner_46
  unfold f_X1_corner at hf
  refine lv_aload_n hx hb dX1_corner_0 rfl (lv_at hl 0 rfl) ?_
  refine lv_aload_n hx hb dX1_corner_1 rfl (lv_at hl 0 rfl) ?_
  refine lv_iload_n hx hb dX1_corner_2 rfl (lv_at hl 1 rfl) ?_
  refine pu_V (As := [.int p1]) (rest := [.ref (a 0)]) ⟨hx, hb, hml, hown, hts⟩ (k_X1_isFunction l dC dI cA a S p1 _ rfl) gX1_corner_X1_isFunction rfl rfl rfl cd_X1_isFunction (Nat.le_of_ble_eq_true rfl) (Nat.le_of_ble_eq_true rfl) (preM hK hP) rfl hl.1 rfl (Nat.le_of_ble_eq_true rfl) (Nat.zero_le _) (Nat.zero_le _) dX1_corner_3 ?_
  refine lv_if_eq (tgt := 17) hx hb dX1_corner_6 (by decide) (fun c9 => ?_) (fun c9 => ?_)
  · rw [if_pos c9] at hf
    refine lv_iconst (v := 1) hx hb dX1_corner_17 (by decide) ?_
    refine lv_goto (tgt := 35) hx hb dX1_corner_18 (by decide) ?_
    exact hW35 S 1 _ _ ls hf hP hS (lv_sub hl [0, 1, 2] rfl)
  · rw [if_neg c9] at hf
    refine lv_aload_n hx hb dX1_corner_9 rfl (lv_at hl 0 rfl) ?_
    refine lv_iload_n hx hb dX1_corner_10 rfl (lv_at hl 2 rfl) ?_
    refine pu_V (As := [.int p2]) (rest := [.ref (a 0)]) ⟨hx, hb, hml, hown, hts⟩ (k_X1_isElement l dC dI cA a S p2 _ rfl) gX1_corner_X1_isElement rfl rfl rfl cd_X1_isElement (Nat.le_of_ble_eq_true rfl) (Nat.le_of_ble_eq_true rfl) (preM hK hP) rfl hl.1 rfl (Nat.le_of_ble_eq_true rfl) (Nat.zero_le _) (Nat.zero_le _) dX1_corner_11 ?_
    refine lv_if_ne (tgt := 21) hx hb dX1_corner_14 (by decide) (fun c10 => ?_) (fun c10 => ?_)
    · rw [if_neg c10] at hf
      refine lv_aload_n hx hb dX1_corner_21 rfl (lv_at hl 0 rfl) ?_
      refine lv_iload_n hx hb dX1_corner_22 rfl (lv_at hl 2 rfl) ?_
      obtain ⟨v11, hv11, hf⟩ := ob_some hf
      refine pu_V (As := [.int p2]) (rest := [.ref (a 0)]) ⟨hx, hb, hml, hown, hts⟩ (k_X1_placeOf l dC dI cA a S p2 _ hv11) gX1_corner_X1_placeOf rfl rfl rfl cd_X1_placeOf (Nat.le_of_ble_eq_true rfl) (Nat.le_of_ble_eq_true rfl) (preM hK hP) rfl hl.1 rfl (Nat.le_of_ble_eq_true rfl) (Nat.zero_le _) (Nat.zero_le _) dX1_corner_23 ?_
      refine lv_iconst (v := (-1)) hx hb dX1_corner_26 (by decide) ?_
      refine lv_icmp_ne (tgt := 34) hx hb dX1_corner_27 (by decide) (fun c12 => ?_) (fun c12 => ?_)
      · rw [if_neg c12] at hf
        refine lv_iconst (v := 0) hx hb dX1_corner_34 (by decide) ?_
        exact hW35 S 0 _ _ ls hf hP hS (lv_sub hl [0, 1, 2] rfl)
      · rw [if_pos c12] at hf
        refine lv_iconst (v := 2) hx hb dX1_corner_30 (by decide) ?_
        refine lv_goto (tgt := 35) hx hb dX1_corner_31 (by decide) ?_
        exact hW35 S 2 _ _ ls hf hP hS (lv_sub hl [0, 1, 2] rfl)
    · rw [if_pos c10] at hf
      refine lv_iconst (v := 1) hx hb dX1_corner_17 (by decide) ?_
      refine lv_goto (tgt := 35) hx hb dX1_corner_18 (by decide) ?_
      exact hW35 S 1 _ _ ls hf hP hS (lv_sub hl [0, 1, 2] rfl)
theorem cd_X1_greedy : yX1_greedy.cls = RX1 ∧ yX1_greedy.cls ≠ "java/lang/invoke/MethodHandle" ∧ yX1_greedy.cls ≠ "java/lang/invoke/VarHandle" ∧ (parseMethodDescriptor yX1_greedy.desc).map (fun d => d.parameters.length) = some 2 := by decide +kernel
set_option maxHeartbeats 4000000 in
set_option maxRecDepth 100000 in
theorem k_X1_greedy (l : Launch) (dC : Nat → ClassId) (dI : Nat → Nat → Nat) (cA : ClassId) (a : Nat → Nat) (S : St) (p1 : Int32) (p2 : Int32) (r : Int32 × St) (hf : f_X1_greedy S p1 p2 = some r) (hap : apart a 8) : Met l yX1_greedy wsX1_greedy ({ frames := 2, cells := 0, slots := 0, locals := 43 }) (va_Pc [.ref (a 0), .int p1, .int p2] (PMs (dC, dI) cA a S)) (mMi (dC, dI) cA a r.1 r.2) 0 0 (ad a 8) := by
  refine Met.ofW (cc := cX1_greedy) (maxL := 7) (ret := (some .int)) (by decide) rfl ?_
  intro p e s m args below meth c s₁ B hml hv
  obtain ⟨rfl, hP, hK⟩ := hv
  have hx := B.exec
  have hb := B.bytes
  have hr := B.returns
  have hts := atoms_spec (ws := wsX1_greedy) B.pre
  have hown : s.vm.findClass RX1 = some m.cls := findClass_of_methodNamed B.named
  have hlocks := B.notSynchronized
  have hin : ∀ w ∈ u_ws RX1 TX1 11, w ∈ wsX1_greedy := by decide +kernel
  have hw0 := hts (.fieldLink RX1 7 "SubmodularyModel" "n" "I") (by decide +kernel)
  have hw1 := hts (.fieldLink RX1 29 "SubmodularyModel" "values" "[I") (by decide +kernel)
  have hw2 := hts (.fieldLink RX1 44 "SubmodularyModel" "thrown" "I") (by decide +kernel)
  have hS : va_S (ad a 8) s.heap s.heap [] := va_S.rf
  have hl := lv_entry ([.ref (a 0), .int p1, .int p2]) (n := 7) (Nat.le_of_ble_eq_true rfl)
  rw [lg_entry_eq]
  generalize (lg_sl ([.ref (a 0), .int p1, .int p2]) ++ List.replicate (7 - (lg_sl ([.ref (a 0), .int p1, .int p2])).length) Slot.unset).toArray = ls at hl ⊢
  have hl : lv_has ls 7 [(0, .ref (a 0)), (1, .int p1), (2, .int p2)] := hl
  have hW45 : ∀ (k45 : Nat) (S : St) (x3 x4 : Int32) (H : Heap) (locs : List Loc) (ls : Array Slot), f_X1_greedy_45 p1 p2 k45 S x3 x4 = some r → va_P (dC, dI) vwCl (wM cA a S) H → va_S (ad a 8) s.heap H locs → lv_has ls 7 [(0, .ref (a 0)), (1, .int p1), (2, .int p2), (3, .int x3), (4, .int x4)] → W p l e (headSpec wsX1_greedy ({ frames := 2, cells := 0, slots := 0, locals := 43 })).room s m ([.ref (a 0), .int p1, .int p2] : List Value).toArray below meth c H locs 0 0 (MQ below (mMi (dC, dI) cA a r.1 r.2) ([.ref (a 0), .int p1, .int p2] : List Value).toArray s 0 0 (ad a 8)) (F0 m 45 ls []) := by
    intro k45
    induction k45 with
    | zero =>
      intro S x3 x4 H locs ls hf hP hS hl
      rw [f_X1_greedy_45] at hf
      cases hf
    | succ k45 ih45 =>
      have hW65 : ∀ (k65 : Nat) (S : St) (x3 x4 x5 : Int32) (H : Heap) (locs : List Loc) (ls : Array Slot), f_X1_greedy_65 p1 p2 (f_X1_greedy_45 p1 p2 k45) k65 S x3 x4 x5 = some r → va_P (dC, dI) vwCl (wM cA a S) H → va_S (ad a 8) s.heap H locs → lv_has ls 7 [(0, .ref (a 0)), (1, .int p1), (2, .int p2), (3, .int x3), (4, .int x4), (5, .int x5)] → W p l e (headSpec wsX1_greedy ({ frames := 2, cells := 0, slots := 0, locals := 43 })).room s m ([.ref (a 0), .int p1, .int p2] : List Value).toArray below meth c H locs 0 0 (MQ below (mMi (dC, dI) cA a r.1 r.2) ([.ref (a 0), .int p1, .int p2] : List Value).toArray s 0 0 (ad a 8)) (F0 m 65 ls []) := by
        intro k65
        induction k65 with
        | zero =>
          intro S x3 x4 x5 H locs ls hf hP hS hl
          rw [f_X1_greedy_65] at hf
          cases hf
        | succ k65 ih65 =>
          intro S x3 x4 x5 H locs ls hf hP hS hl
          rw [f_X1_greedy_65] at hf
          refine lv_iload hx hb dX1_greedy_65 (lv_at hl 5 rfl) ?_
          refine lv_aload_n hx hb dX1_greedy_67 rfl (lv_at hl 0 rfl) ?_
          refine gfM hx hb hts hin hown hK hP 0 (by decide) hw0 rfl rfl dX1_greedy_68 ?_
          refine lv_icmp_ge (tgt := 122) hx hb dX1_greedy_71 (by decide) (fun c1 => ?_) (fun c1 => ?_)
          · rw [if_pos c1] at hf
            refine lv_goto (tgt := 45) hx hb dX1_greedy_122 (by decide) ?_
            exact ih45 S x3 x4 _ _ ls hf hP hS (lv_sub hl [0, 1, 2, 3, 4] rfl)
          · rw [if_neg c1] at hf
            refine lv_iload hx hb dX1_greedy_74 (lv_at hl 4 rfl) ?_
            refine lv_iconst (v := 1) hx hb dX1_greedy_76 (by decide) ?_
            refine lv_iload hx hb dX1_greedy_77 (lv_at hl 5 rfl) ?_
            refine lv_ishl hx hb dX1_greedy_79 ?_
            refine lv_ior hx hb dX1_greedy_80 ?_
            refine lv_topi (fun y2 ey2 => ?_)
            have hf := bnd_at hf ey2
            refine lv_istore (lv' := [(6, .int y2), (0, .ref (a 0)), (1, .int p1), (2, .int p2), (3, .int x3), (4, .int x4), (5, .int x5)]) hx hb dX1_greedy_81 hl (by decide) rfl (fun ls hl => ?_)
            refine lv_aload_n hx hb dX1_greedy_83 rfl (lv_at hl 1 rfl) ?_
            refine gfM hx hb hts hin hown hK hP 7 (by decide) hw1 rfl rfl dX1_greedy_84 ?_
            refine lv_bipush (v := 64) hx hb dX1_greedy_87 (by decide) ?_
            refine lv_iload_n hx hb dX1_greedy_89 rfl (lv_at hl 2 rfl) ?_
            refine lv_imul hx hb dX1_greedy_90 ?_
            refine lv_iload hx hb dX1_greedy_91 (lv_at hl 0 rfl) ?_
            refine lv_iadd hx hb dX1_greedy_93 ?_
            obtain ⟨v3, hv3, hf⟩ := ob_some hf
            refine rdI hx hb hK hP 6 rfl hv3 dX1_greedy_94 ?_
            refine lv_aload_n hx hb dX1_greedy_95 rfl (lv_at hl 1 rfl) ?_
            refine gfM hx hb hts hin hown hK hP 7 (by decide) hw1 rfl rfl dX1_greedy_96 ?_
            refine lv_bipush (v := 64) hx hb dX1_greedy_99 (by decide) ?_
            refine lv_iload_n hx hb dX1_greedy_101 rfl (lv_at hl 2 rfl) ?_
            refine lv_imul hx hb dX1_greedy_102 ?_
            refine lv_iload_n hx hb dX1_greedy_103 rfl (lv_at hl 4 rfl) ?_
            refine lv_iadd hx hb dX1_greedy_104 ?_
            obtain ⟨v4, hv4, hf⟩ := ob_some hf
            refine rdI hx hb hK hP 6 rfl hv4 dX1_greedy_105 ?_
            refine lv_icmp_le (tgt := 114) hx hb dX1_greedy_106 (by decide) (fun c5 => ?_) (fun c5 => ?_)
            · rw [if_pos c5] at hf
              refine lv_iload_n hx hb dX1_greedy_114 rfl (lv_at hl 4 rfl) ?_
              refine lv_istore_n (lv' := [(3, .int x3), (6, .int y2), (0, .ref (a 0)), (1, .int p1), (2, .int p2), (4, .int x4), (5, .int x5)]) hx hb dX1_greedy_115 rfl hl (by decide) rfl (fun ls hl => ?_)
              obtain ⟨y6, ey6⟩ : ∃ y : Int32, y = (x5 + 1) := ⟨_, rfl⟩
              have hf := bnd_at hf ey6
              refine lv_iinc (v := y6) (lv' := [(5, .int y6), (3, .int x3), (6, .int y2), (0, .ref (a 0)), (1, .int p1), (2, .int p2), (4, .int x4)]) hx hb dX1_greedy_116 hl (k := 6) rfl (by rw [ey6]; rfl) (by decide) rfl (fun ls hl => ?_)
              refine lv_goto (tgt := 65) hx hb dX1_greedy_119 (by decide) ?_
              exact ih65 S x3 x4 y6 _ _ ls hf hP hS (lv_sub hl [3, 4, 5, 1, 6, 0] rfl)
            · rw [if_neg c5] at hf
              refine lv_iload hx hb dX1_greedy_109 (lv_at hl 0 rfl) ?_
              refine lv_goto (tgt := 115) hx hb dX1_greedy_111 (by decide) ?_
              refine lv_istore_n (lv' := [(3, .int y2), (6, .int y2), (0, .ref (a 0)), (1, .int p1), (2, .int p2), (4, .int x4), (5, .int x5)]) hx hb dX1_greedy_115 rfl hl (by decide) rfl (fun ls hl => ?_)
              obtain ⟨y7, ey7⟩ : ∃ y : Int32, y = (x5 + 1) := ⟨_, rfl⟩
              have hf := bnd_at hf ey7
              refine lv_iinc (v := y7) (lv' := [(5, .int y7), (3, .int y2), (6, .int y2), (0, .ref (a 0)), (1, .int p1), (2, .int p2), (4, .int x4)]) hx hb dX1_greedy_116 hl (k := 6) rfl (by rw [ey7]; rfl) (by decide) rfl (fun ls hl => ?_)
              refine lv_goto (tgt := 65) hx hb dX1_greedy_119 (by decide) ?_
              exact ih65 S y2 x4 y7 _ _ ls hf hP hS (lv_sub hl [3, 4, 5, 1, 6, 0] rfl)
      intro S x3 x4 H locs ls hf hP hS hl
      rw [f_X1_greedy_45] at hf
      refine lv_iload_n hx hb dX1_greedy_45 rfl (lv_at hl 3 rfl) ?_
      refine lv_iload hx hb dX1_greedy_46 (lv_at hl 4 rfl) ?_
      refine lv_icmp_eq (tgt := 125) hx hb dX1_greedy_48 (by decide) (fun c8 => ?_) (fun c8 => ?_)
      · rw [if_pos c8] at hf
        refine lv_iload_n hx hb dX1_greedy_125 rfl (lv_at hl 3 rfl) ?_
        have hf := Option.some.inj hf; subst hf
        exact W.iret hx hb hr (fun t ht hW => ⟨⟨rfl, by rw [ht]; exact hP⟩, hS.F ht⟩) hS.2.2 dX1_greedy_126
      · rw [if_neg c8] at hf
        refine lv_iload_n hx hb dX1_greedy_51 rfl (lv_at hl 3 rfl) ?_
        obtain ⟨v9, hv9, hf⟩ := ob_some hf
        refine pu_S (As := [.int x3]) (rest := []) ⟨hx, hb, hml, hown, hts⟩ (k_X1_many l x3 _ hv9) gX1_greedy_X1_many rfl rfl rfl cd_X1_many (Nat.le_of_ble_eq_true rfl) (Nat.le_of_ble_eq_true rfl) (preT) rfl hl.1 rfl (Nat.le_of_ble_eq_true rfl) (Nat.zero_le _) (Nat.zero_le _) dX1_greedy_52 ?_
        refine lv_iload_n hx hb dX1_greedy_55 rfl (lv_at hl 2 rfl) ?_
        refine lv_icmp_ge (tgt := 125) hx hb dX1_greedy_56 (by decide) (fun c10 => ?_) (fun c10 => ?_)
        · rw [if_pos c10] at hf
          refine lv_iload_n hx hb dX1_greedy_125 rfl (lv_at hl 3 rfl) ?_
          have hf := Option.some.inj hf; subst hf
          exact W.iret hx hb hr (fun t ht hW => ⟨⟨rfl, by rw [ht]; exact hP⟩, hS.F ht⟩) hS.2.2 dX1_greedy_126
        · rw [if_neg c10] at hf
          refine lv_iload_n hx hb dX1_greedy_59 rfl (lv_at hl 3 rfl) ?_
          refine lv_istore (lv' := [(4, .int x3), (0, .ref (a 0)), (1, .int p1), (2, .int p2), (3, .int x3)]) hx hb dX1_greedy_60 hl (by decide) rfl (fun ls hl => ?_)
          refine lv_iconst (v := 0) hx hb dX1_greedy_62 (by decide) ?_
          refine lv_istore (lv' := [(5, .int 0), (4, .int x3), (0, .ref (a 0)), (1, .int p1), (2, .int p2), (3, .int x3)]) hx hb dX1_greedy_63 hl (by decide) rfl (fun ls hl => ?_)
          exact hW65 70 S x3 x3 0 _ _ ls hf hP hS (lv_sub hl [2, 3, 4, 5, 1, 0] rfl)
  have hW28 : ∀ (S : St) (s1 : Int32) (H : Heap) (locs : List Loc) (ls : Array Slot), f_X1_greedy_28 p1 p2 S s1 = some r → va_P (dC, dI) vwCl (wM cA a S) H → va_S (ad a 8) s.heap H locs → lv_has ls 7 [(0, .ref (a 0)), (1, .int p1), (2, .int p2)] → W p l e (headSpec wsX1_greedy ({ frames := 2, cells := 0, slots := 0, locals := 43 })).room s m ([.ref (a 0), .int p1, .int p2] : List Value).toArray below meth c H locs 0 0 (MQ below (mMi (dC, dI) cA a r.1 r.2) ([.ref (a 0), .int p1, .int p2] : List Value).toArray s 0 0 (ad a 8)) (F0 m 28 ls [.int s1, .ref (a 0)]) := by
    intro S s1 H locs ls hf hP hS hl
    unfold f_X1_greedy_28 at hf
    refine pfM hx hb hts hin hown hK hP hap hS 10 (by decide) hw2 rfl rfl (by decide +kernel) (k2 := 3) (fun _ => rfl) dX1_greedy_28 (fun H locs hP hS => ?_)
    refine lv_aload_n hx hb dX1_greedy_31 rfl (lv_at hl 0 rfl) ?_
    refine gfM hx hb hts hin hown hK hP 10 (by decide) hw2 rfl rfl dX1_greedy_32 ?_
    refine lv_if_le (tgt := 40) hx hb dX1_greedy_35 (by decide) (fun c11 => ?_) (fun c11 => ?_)
    · rw [if_pos c11] at hf
      refine lv_iconst (v := 0) hx hb dX1_greedy_40 (by decide) ?_
      refine lv_istore_n (lv' := [(3, .int 0), (0, .ref (a 0)), (1, .int p1), (2, .int p2)]) hx hb dX1_greedy_41 rfl hl (by decide) rfl (fun ls hl => ?_)
      refine lv_iconst (v := (-1)) hx hb dX1_greedy_42 (by decide) ?_
      refine lv_istore (lv' := [(4, .int (-1)), (3, .int 0), (0, .ref (a 0)), (1, .int p1), (2, .int p2)]) hx hb dX1_greedy_43 hl (by decide) rfl (fun ls hl => ?_)
      exact hW45 70 (sS S 3 s1) 0 (-1) _ _ ls hf hP hS (lv_sub hl [2, 3, 4, 1, 0] rfl)
    · rw [if_neg c11] at hf
      refine lv_iconst (v := 0) hx hb dX1_greedy_38 (by decide) ?_
      have hf := Option.some.inj hf; subst hf
      exact W.iret hx hb hr (fun t ht hW => ⟨⟨rfl, by rw [ht]; exact hP⟩, hS.F ht⟩) hS.2.2 dX1_greedy_39
  unfold f_X1_greedy at hf
  refine lv_aload_n hx hb dX1_greedy_0 rfl (lv_at hl 0 rfl) ?_
  refine lv_aload_n hx hb dX1_greedy_1 rfl (lv_at hl 0 rfl) ?_
  refine lv_iload_n hx hb dX1_greedy_2 rfl (lv_at hl 1 rfl) ?_
  refine pu_V (As := [.int p1]) (rest := [.ref (a 0)]) ⟨hx, hb, hml, hown, hts⟩ (k_X1_isFunction l dC dI cA a S p1 _ rfl) gX1_greedy_X1_isFunction rfl rfl rfl cd_X1_isFunction (Nat.le_of_ble_eq_true rfl) (Nat.le_of_ble_eq_true rfl) (preM hK hP) rfl hl.1 rfl (Nat.le_of_ble_eq_true rfl) (Nat.zero_le _) (Nat.zero_le _) dX1_greedy_3 ?_
  refine lv_if_ne (tgt := 13) hx hb dX1_greedy_6 (by decide) (fun c12 => ?_) (fun c12 => ?_)
  · rw [if_neg c12] at hf
    refine lv_iload_n hx hb dX1_greedy_13 rfl (lv_at hl 2 rfl) ?_
    refine lv_iconst (v := 0) hx hb dX1_greedy_14 (by decide) ?_
    refine lv_bipush (v := 6) hx hb dX1_greedy_15 (by decide) ?_
    refine pu_S (As := [.int p2, .int 0, .int 6]) (rest := [.ref (a 0)]) ⟨hx, hb, hml, hown, hts⟩ (k_X1_isIn l p2 0 6 _ rfl) gX1_greedy_X1_isIn rfl rfl rfl cd_X1_isIn (Nat.le_of_ble_eq_true rfl) (Nat.le_of_ble_eq_true rfl) (preT) rfl hl.1 rfl (Nat.le_of_ble_eq_true rfl) (Nat.zero_le _) (Nat.zero_le _) dX1_greedy_17 ?_
    refine lv_if_ne (tgt := 27) hx hb dX1_greedy_20 (by decide) (fun c13 => ?_) (fun c13 => ?_)
    · rw [if_neg c13] at hf
      refine lv_iconst (v := 0) hx hb dX1_greedy_27 (by decide) ?_
      exact hW28 S 0 _ _ ls hf hP hS (lv_sub hl [0, 1, 2] rfl)
    · rw [if_pos c13] at hf
      refine lv_iconst (v := 2) hx hb dX1_greedy_23 (by decide) ?_
      refine lv_goto (tgt := 28) hx hb dX1_greedy_24 (by decide) ?_
      exact hW28 S 2 _ _ ls hf hP hS (lv_sub hl [0, 1, 2] rfl)
  · rw [if_pos c12] at hf
    refine lv_iconst (v := 1) hx hb dX1_greedy_9 (by decide) ?_
    refine lv_goto (tgt := 28) hx hb dX1_greedy_10 (by decide) ?_
    exact hW28 S 1 _ _ ls hf hP hS (lv_sub hl [0, 1, 2] rfl)
theorem cd_X1_best : yX1_best.cls = RX1 ∧ yX1_best.cls ≠ "java/lang/invoke/MethodHandle" ∧ yX1_best.cls ≠ "java/lang/invoke/VarHandle" ∧ (parseMethodDescriptor yX1_best.desc).map (fun d => d.parameters.length) = some 2 := by decide +kernel
set_option maxHeartbeats 4000000 in
set_option maxRecDepth 100000 in
theorem k_X1_best (l : Launch) (dC : Nat → ClassId) (dI : Nat → Nat → Nat) (cA : ClassId) (a : Nat → Nat) (S : St) (p1 : Int32) (p2 : Int32) (r : Int32 × St) (hf : f_X1_best S p1 p2 = some r) (hap : apart a 8) : Met l yX1_best wsX1_best ({ frames := 2, cells := 0, slots := 0, locals := 43 }) (va_Pc [.ref (a 0), .int p1, .int p2] (PMs (dC, dI) cA a S)) (mMi (dC, dI) cA a r.1 r.2) 0 0 (ad a 8) := by
  refine Met.ofW (cc := cX1_best) (maxL := 5) (ret := (some .int)) (by decide) rfl ?_
  intro p e s m args below meth c s₁ B hml hv
  obtain ⟨rfl, hP, hK⟩ := hv
  have hx := B.exec
  have hb := B.bytes
  have hr := B.returns
  have hts := atoms_spec (ws := wsX1_best) B.pre
  have hown : s.vm.findClass RX1 = some m.cls := findClass_of_methodNamed B.named
  have hlocks := B.notSynchronized
  have hin : ∀ w ∈ u_ws RX1 TX1 11, w ∈ wsX1_best := by decide +kernel
  have hw0 := hts (.fieldLink RX1 44 "SubmodularyModel" "thrown" "I") (by decide +kernel)
  have hw1 := hts (.fieldLink RX1 29 "SubmodularyModel" "values" "[I") (by decide +kernel)
  have hS : va_S (ad a 8) s.heap s.heap [] := va_S.rf
  have hl := lv_entry ([.ref (a 0), .int p1, .int p2]) (n := 5) (Nat.le_of_ble_eq_true rfl)
  rw [lg_entry_eq]
  generalize (lg_sl ([.ref (a 0), .int p1, .int p2]) ++ List.replicate (5 - (lg_sl ([.ref (a 0), .int p1, .int p2])).length) Slot.unset).toArray = ls at hl ⊢
  have hl : lv_has ls 5 [(0, .ref (a 0)), (1, .int p1), (2, .int p2)] := hl
  have hW36 : ∀ (k36 : Nat) (S : St) (x3 x4 : Int32) (H : Heap) (locs : List Loc) (ls : Array Slot), f_X1_best_36 p1 p2 k36 S x3 x4 = some r → va_P (dC, dI) vwCl (wM cA a S) H → va_S (ad a 8) s.heap H locs → lv_has ls 5 [(0, .ref (a 0)), (1, .int p1), (2, .int p2), (3, .int x3), (4, .int x4)] → W p l e (headSpec wsX1_best ({ frames := 2, cells := 0, slots := 0, locals := 43 })).room s m ([.ref (a 0), .int p1, .int p2] : List Value).toArray below meth c H locs 0 0 (MQ below (mMi (dC, dI) cA a r.1 r.2) ([.ref (a 0), .int p1, .int p2] : List Value).toArray s 0 0 (ad a 8)) (F0 m 36 ls []) := by
    intro k36
    induction k36 with
    | zero =>
      intro S x3 x4 H locs ls hf hP hS hl
      rw [f_X1_best_36] at hf
      cases hf
    | succ k36 ih36 =>
      intro S x3 x4 H locs ls hf hP hS hl
      rw [f_X1_best_36] at hf
      refine lv_aload_n hx hb dX1_best_36 rfl (lv_at hl 0 rfl) ?_
      refine lv_iload hx hb dX1_best_37 (lv_at hl 4 rfl) ?_
      refine pu_V (As := [.int x4]) (rest := []) ⟨hx, hb, hml, hown, hts⟩ (k_X1_isSet l dC dI cA a S x4 _ rfl) gX1_best_X1_isSet rfl rfl rfl cd_X1_isSet (Nat.le_of_ble_eq_true rfl) (Nat.le_of_ble_eq_true rfl) (preM hK hP) rfl hl.1 rfl (Nat.le_of_ble_eq_true rfl) (Nat.zero_le _) (Nat.zero_le _) dX1_best_39 ?_
      refine lv_if_eq (tgt := 100) hx hb dX1_best_42 (by decide) (fun c1 => ?_) (fun c1 => ?_)
      · rw [if_pos c1] at hf
        refine lv_iload_n hx hb dX1_best_100 rfl (lv_at hl 3 rfl) ?_
        have hf := Option.some.inj hf; subst hf
        exact W.iret hx hb hr (fun t ht hW => ⟨⟨rfl, by rw [ht]; exact hP⟩, hS.F ht⟩) hS.2.2 dX1_best_101
      · rw [if_neg c1] at hf
        refine lv_aload_n hx hb dX1_best_45 rfl (lv_at hl 0 rfl) ?_
        refine gfM hx hb hts hin hown hK hP 10 (by decide) hw0 rfl rfl dX1_best_46 ?_
        refine lv_if_ne (tgt := 100) hx hb dX1_best_49 (by decide) (fun c2 => ?_) (fun c2 => ?_)
        · rw [if_neg c2] at hf
          refine lv_iload_n hx hb dX1_best_100 rfl (lv_at hl 3 rfl) ?_
          have hf := Option.some.inj hf; subst hf
          exact W.iret hx hb hr (fun t ht hW => ⟨⟨rfl, by rw [ht]; exact hP⟩, hS.F ht⟩) hS.2.2 dX1_best_101
        · rw [if_pos c2] at hf
          refine lv_iload hx hb dX1_best_52 (lv_at hl 4 rfl) ?_
          obtain ⟨v3, hv3, hf⟩ := ob_some hf
          refine pu_S (As := [.int x4]) (rest := []) ⟨hx, hb, hml, hown, hts⟩ (k_X1_many l x4 _ hv3) gX1_best_X1_many rfl rfl rfl cd_X1_many (Nat.le_of_ble_eq_true rfl) (Nat.le_of_ble_eq_true rfl) (preT) rfl hl.1 rfl (Nat.le_of_ble_eq_true rfl) (Nat.zero_le _) (Nat.zero_le _) dX1_best_54 ?_
          refine lv_iload_n hx hb dX1_best_57 rfl (lv_at hl 2 rfl) ?_
          refine lv_icmp_gt (tgt := 92) hx hb dX1_best_58 (by decide) (fun c4 => ?_) (fun c4 => ?_)
          · rw [if_pos c4] at hf
            refine lv_iload_n hx hb dX1_best_92 rfl (lv_at hl 3 rfl) ?_
            refine lv_istore_n (lv' := [(3, .int x3), (0, .ref (a 0)), (1, .int p1), (2, .int p2), (4, .int x4)]) hx hb dX1_best_93 rfl hl (by decide) rfl (fun ls hl => ?_)
            obtain ⟨y5, ey5⟩ : ∃ y : Int32, y = (x4 + 1) := ⟨_, rfl⟩
            have hf := bnd_at hf ey5
            refine lv_iinc (v := y5) (lv' := [(4, .int y5), (3, .int x3), (0, .ref (a 0)), (1, .int p1), (2, .int p2)]) hx hb dX1_best_94 hl (k := 4) rfl (by rw [ey5]; rfl) (by decide) rfl (fun ls hl => ?_)
            refine lv_goto (tgt := 36) hx hb dX1_best_97 (by decide) ?_
            exact ih36 S x3 y5 _ _ ls hf hP hS (lv_sub hl [2, 3, 4, 1, 0] rfl)
          · rw [if_neg c4] at hf
            refine lv_aload_n hx hb dX1_best_61 rfl (lv_at hl 0 rfl) ?_
            refine gfM hx hb hts hin hown hK hP 7 (by decide) hw1 rfl rfl dX1_best_62 ?_
            refine lv_bipush (v := 64) hx hb dX1_best_65 (by decide) ?_
            refine lv_iload_n hx hb dX1_best_67 rfl (lv_at hl 1 rfl) ?_
            refine lv_imul hx hb dX1_best_68 ?_
            refine lv_iload hx hb dX1_best_69 (lv_at hl 4 rfl) ?_
            refine lv_iadd hx hb dX1_best_71 ?_
            obtain ⟨v6, hv6, hf⟩ := ob_some hf
            refine rdI hx hb hK hP 6 rfl hv6 dX1_best_72 ?_
            refine lv_iload_n hx hb dX1_best_73 rfl (lv_at hl 3 rfl) ?_
            refine lv_icmp_le (tgt := 92) hx hb dX1_best_74 (by decide) (fun c7 => ?_) (fun c7 => ?_)
            · rw [if_pos c7] at hf
              refine lv_iload_n hx hb dX1_best_92 rfl (lv_at hl 3 rfl) ?_
              refine lv_istore_n (lv' := [(3, .int x3), (0, .ref (a 0)), (1, .int p1), (2, .int p2), (4, .int x4)]) hx hb dX1_best_93 rfl hl (by decide) rfl (fun ls hl => ?_)
              obtain ⟨y8, ey8⟩ : ∃ y : Int32, y = (x4 + 1) := ⟨_, rfl⟩
              have hf := bnd_at hf ey8
              refine lv_iinc (v := y8) (lv' := [(4, .int y8), (3, .int x3), (0, .ref (a 0)), (1, .int p1), (2, .int p2)]) hx hb dX1_best_94 hl (k := 4) rfl (by rw [ey8]; rfl) (by decide) rfl (fun ls hl => ?_)
              refine lv_goto (tgt := 36) hx hb dX1_best_97 (by decide) ?_
              exact ih36 S x3 y8 _ _ ls hf hP hS (lv_sub hl [2, 3, 4, 1, 0] rfl)
            · rw [if_neg c7] at hf
              refine lv_aload_n hx hb dX1_best_77 rfl (lv_at hl 0 rfl) ?_
              refine gfM hx hb hts hin hown hK hP 7 (by decide) hw1 rfl rfl dX1_best_78 ?_
              refine lv_bipush (v := 64) hx hb dX1_best_81 (by decide) ?_
              refine lv_iload_n hx hb dX1_best_83 rfl (lv_at hl 1 rfl) ?_
              refine lv_imul hx hb dX1_best_84 ?_
              refine lv_iload hx hb dX1_best_85 (lv_at hl 4 rfl) ?_
              refine lv_iadd hx hb dX1_best_87 ?_
              obtain ⟨v9, hv9, hf⟩ := ob_some hf
              refine rdI hx hb hK hP 6 rfl hv9 dX1_best_88 ?_
              refine lv_goto (tgt := 93) hx hb dX1_best_89 (by decide) ?_
              refine lv_istore_n (lv' := [(3, .int v9), (0, .ref (a 0)), (1, .int p1), (2, .int p2), (4, .int x4)]) hx hb dX1_best_93 rfl hl (by decide) rfl (fun ls hl => ?_)
              obtain ⟨y10, ey10⟩ : ∃ y : Int32, y = (x4 + 1) := ⟨_, rfl⟩
              have hf := bnd_at hf ey10
              refine lv_iinc (v := y10) (lv' := [(4, .int y10), (3, .int v9), (0, .ref (a 0)), (1, .int p1), (2, .int p2)]) hx hb dX1_best_94 hl (k := 4) rfl (by rw [ey10]; rfl) (by decide) rfl (fun ls hl => ?_)
              refine lv_goto (tgt := 36) hx hb dX1_best_97 (by decide) ?_
              exact ih36 S v9 y10 _ _ ls hf hP hS (lv_sub hl [2, 3, 4, 1, 0] rfl)
  have hW28 : ∀ (S : St) (s1 : Int32) (H : Heap) (locs : List Loc) (ls : Array Slot), f_X1_best_28 p1 p2 S s1 = some r → va_P (dC, dI) vwCl (wM cA a S) H → va_S (ad a 8) s.heap H locs → lv_has ls 5 [(0, .ref (a 0)), (1, .int p1), (2, .int p2)] → W p l e (headSpec wsX1_best ({ frames := 2, cells := 0, slots := 0, locals := 43 })).room s m ([.ref (a 0), .int p1, .int p2] : List Value).toArray below meth c H locs 0 0 (MQ below (mMi (dC, dI) cA a r.1 r.2) ([.ref (a 0), .int p1, .int p2] : List Value).toArray s 0 0 (ad a 8)) (F0 m 28 ls [.int s1, .ref (a 0)]) := by
    intro S s1 H locs ls hf hP hS hl
    unfold f_X1_best_28 at hf
    refine pfM hx hb hts hin hown hK hP hap hS 10 (by decide) hw0 rfl rfl (by decide +kernel) (k2 := 3) (fun _ => rfl) dX1_best_28 (fun H locs hP hS => ?_)
    refine lv_iconst (v := 0) hx hb dX1_best_31 (by decide) ?_
    refine lv_istore_n (lv' := [(3, .int 0), (0, .ref (a 0)), (1, .int p1), (2, .int p2)]) hx hb dX1_best_32 rfl hl (by decide) rfl (fun ls hl => ?_)
    refine lv_iconst (v := 0) hx hb dX1_best_33 (by decide) ?_
    refine lv_istore (lv' := [(4, .int 0), (3, .int 0), (0, .ref (a 0)), (1, .int p1), (2, .int p2)]) hx hb dX1_best_34 hl (by decide) rfl (fun ls hl => ?_)
    exact hW36 70 (sS S 3 s1) 0 0 _ _ ls hf hP hS (lv_sub hl [2, 3, 4, 1, 0] rfl)
  unfold f_X1_best at hf
  refine lv_aload_n hx hb dX1_best_0 rfl (lv_at hl 0 rfl) ?_
  refine lv_aload_n hx hb dX1_best_1 rfl (lv_at hl 0 rfl) ?_
  refine lv_iload_n hx hb dX1_best_2 rfl (lv_at hl 1 rfl) ?_
  refine pu_V (As := [.int p1]) (rest := [.ref (a 0)]) ⟨hx, hb, hml, hown, hts⟩ (k_X1_isFunction l dC dI cA a S p1 _ rfl) gX1_best_X1_isFunction rfl rfl rfl cd_X1_isFunction (Nat.le_of_ble_eq_true rfl) (Nat.le_of_ble_eq_true rfl) (preM hK hP) rfl hl.1 rfl (Nat.le_of_ble_eq_true rfl) (Nat.zero_le _) (Nat.zero_le _) dX1_best_3 ?_
  refine lv_if_ne (tgt := 13) hx hb dX1_best_6 (by decide) (fun c11 => ?_) (fun c11 => ?_)
  · rw [if_neg c11] at hf
    refine lv_iload_n hx hb dX1_best_13 rfl (lv_at hl 2 rfl) ?_
    refine lv_iconst (v := 0) hx hb dX1_best_14 (by decide) ?_
    refine lv_bipush (v := 6) hx hb dX1_best_15 (by decide) ?_
    refine pu_S (As := [.int p2, .int 0, .int 6]) (rest := [.ref (a 0)]) ⟨hx, hb, hml, hown, hts⟩ (k_X1_isIn l p2 0 6 _ rfl) gX1_best_X1_isIn rfl rfl rfl cd_X1_isIn (Nat.le_of_ble_eq_true rfl) (Nat.le_of_ble_eq_true rfl) (preT) rfl hl.1 rfl (Nat.le_of_ble_eq_true rfl) (Nat.zero_le _) (Nat.zero_le _) dX1_best_17 ?_
    refine lv_if_ne (tgt := 27) hx hb dX1_best_20 (by decide) (fun c12 => ?_) (fun c12 => ?_)
    · rw [if_neg c12] at hf
      refine lv_iconst (v := 0) hx hb dX1_best_27 (by decide) ?_
      exact hW28 S 0 _ _ ls hf hP hS (lv_sub hl [0, 1, 2] rfl)
    · rw [if_pos c12] at hf
      refine lv_iconst (v := 2) hx hb dX1_best_23 (by decide) ?_
      refine lv_goto (tgt := 28) hx hb dX1_best_24 (by decide) ?_
      exact hW28 S 2 _ _ ls hf hP hS (lv_sub hl [0, 1, 2] rfl)
  · rw [if_pos c11] at hf
    refine lv_iconst (v := 1) hx hb dX1_best_9 (by decide) ?_
    refine lv_goto (tgt := 28) hx hb dX1_best_10 (by decide) ?_
    exact hW28 S 1 _ _ ls hf hP hS (lv_sub hl [0, 1, 2] rfl)
theorem cd_X1_common : yX1_common.cls = RX1 ∧ yX1_common.cls ≠ "java/lang/invoke/MethodHandle" ∧ yX1_common.cls ≠ "java/lang/invoke/VarHandle" ∧ (parseMethodDescriptor yX1_common.desc).map (fun d => d.parameters.length) = some 0 := by decide +kernel
set_option maxHeartbeats 4000000 in
set_option maxRecDepth 100000 in
theorem k_X1_common (l : Launch) (dC : Nat → ClassId) (dI : Nat → Nat → Nat) (cA : ClassId) (a : Nat → Nat) (S : St) (r : Int32 × St) (hf : f_X1_common S = some r) (hap : apart a 8) : Met l yX1_common wsX1_common ({ frames := 5, cells := 0, slots := 0, locals := 115 }) (va_Pc [.ref (a 0)] (PMs (dC, dI) cA a S)) (mMi (dC, dI) cA a r.1 r.2) 0 0 (ad a 8) := by
  refine Met.ofW (cc := cX1_common) (maxL := 1) (ret := (some .int)) (by decide) rfl ?_
  intro p e s m args below meth c s₁ B hml hv
  obtain ⟨rfl, hP, hK⟩ := hv
  have hx := B.exec
  have hb := B.bytes
  have hr := B.returns
  have hts := atoms_spec (ws := wsX1_common) B.pre
  have hown : s.vm.findClass RX1 = some m.cls := findClass_of_methodNamed B.named
  have hlocks := B.notSynchronized
  have hin : ∀ w ∈ u_ws RX1 TX1 11, w ∈ wsX1_common := by decide +kernel
  have hw0 := hts (.fieldLink RX1 44 "SubmodularyModel" "thrown" "I") (by decide +kernel)
  have hS : va_S (ad a 8) s.heap s.heap [] := va_S.rf
  have hl := lv_entry ([.ref (a 0)]) (n := 1) (Nat.le_of_ble_eq_true rfl)
  rw [lg_entry_eq]
  generalize (lg_sl ([.ref (a 0)]) ++ List.replicate (1 - (lg_sl ([.ref (a 0)])).length) Slot.unset).toArray = ls at hl ⊢
  have hl : lv_has ls 1 [(0, .ref (a 0))] := hl
  unfold f_X1_common at hf
  refine lv_aload_n hx hb dX1_common_0 rfl (lv_at hl 0 rfl) ?_
  refine lv_iconst (v := 0) hx hb dX1_common_1 (by decide) ?_
  refine pfM hx hb hts hin hown hK hP hap hS 10 (by decide) hw0 rfl rfl (by decide +kernel) (k2 := 3) (fun _ => rfl) dX1_common_2 (fun H locs hP hS => ?_)
  refine lv_aload_n hx hb dX1_common_5 rfl (lv_at hl 0 rfl) ?_
  obtain ⟨v1, hv1, hf⟩ := ob_some hf
  refine pu_V (As := []) (rest := []) ⟨hx, hb, hml, hown, hts⟩ (k_X1_commonSize l dC dI cA a (sS S 3 0)  _ hv1) gX1_common_X1_commonSize rfl rfl rfl cd_X1_commonSize (Nat.le_of_ble_eq_true rfl) (Nat.le_of_ble_eq_true rfl) (preM hK hP) rfl hl.1 rfl (Nat.le_of_ble_eq_true rfl) (Nat.zero_le _) (Nat.zero_le _) dX1_common_6 ?_
  have hf := Option.some.inj hf; subst hf
  exact W.iret hx hb hr (fun t ht hW => ⟨⟨rfl, by rw [ht]; exact hP⟩, hS.F ht⟩) hS.2.2 dX1_common_9
theorem cd_X1_commonAnew : yX1_commonAnew.cls = RX1 ∧ yX1_commonAnew.cls ≠ "java/lang/invoke/MethodHandle" ∧ yX1_commonAnew.cls ≠ "java/lang/invoke/VarHandle" ∧ (parseMethodDescriptor yX1_commonAnew.desc).map (fun d => d.parameters.length) = some 0 := by decide +kernel
set_option maxHeartbeats 4000000 in
set_option maxRecDepth 100000 in
theorem k_X1_commonAnew (l : Launch) (dC : Nat → ClassId) (dI : Nat → Nat → Nat) (cA : ClassId) (a : Nat → Nat) (S : St) (r : Int32 × St) (hf : f_X1_commonAnew S = some r) (hap : apart a 8) : Met l yX1_commonAnew wsX1_commonAnew ({ frames := 5, cells := 0, slots := 0, locals := 115 }) (va_Pc [.ref (a 0)] (PMs (dC, dI) cA a S)) (mMi (dC, dI) cA a r.1 r.2) 0 0 (ad a 8) := by
  refine Met.ofW (cc := cX1_commonAnew) (maxL := 1) (ret := (some .int)) (by decide) rfl ?_
  intro p e s m args below meth c s₁ B hml hv
  obtain ⟨rfl, hP, hK⟩ := hv
  have hx := B.exec
  have hb := B.bytes
  have hr := B.returns
  have hts := atoms_spec (ws := wsX1_commonAnew) B.pre
  have hown : s.vm.findClass RX1 = some m.cls := findClass_of_methodNamed B.named
  have hlocks := B.notSynchronized
  have hin : ∀ w ∈ u_ws RX1 TX1 11, w ∈ wsX1_commonAnew := by decide +kernel
  have hw0 := hts (.fieldLink RX1 44 "SubmodularyModel" "thrown" "I") (by decide +kernel)
  have hS : va_S (ad a 8) s.heap s.heap [] := va_S.rf
  have hl := lv_entry ([.ref (a 0)]) (n := 1) (Nat.le_of_ble_eq_true rfl)
  rw [lg_entry_eq]
  generalize (lg_sl ([.ref (a 0)]) ++ List.replicate (1 - (lg_sl ([.ref (a 0)])).length) Slot.unset).toArray = ls at hl ⊢
  have hl : lv_has ls 1 [(0, .ref (a 0))] := hl
  unfold f_X1_commonAnew at hf
  refine lv_aload_n hx hb dX1_commonAnew_0 rfl (lv_at hl 0 rfl) ?_
  refine lv_iconst (v := 0) hx hb dX1_commonAnew_1 (by decide) ?_
  refine pfM hx hb hts hin hown hK hP hap hS 10 (by decide) hw0 rfl rfl (by decide +kernel) (k2 := 3) (fun _ => rfl) dX1_commonAnew_2 (fun H locs hP hS => ?_)
  refine lv_aload_n hx hb dX1_commonAnew_5 rfl (lv_at hl 0 rfl) ?_
  obtain ⟨v1, hv1, hf⟩ := ob_some hf
  refine pu_V (As := []) (rest := []) ⟨hx, hb, hml, hown, hts⟩ (k_X1_commonSize l dC dI cA a (sS S 3 0)  _ hv1) gX1_commonAnew_X1_commonSize rfl rfl rfl cd_X1_commonSize (Nat.le_of_ble_eq_true rfl) (Nat.le_of_ble_eq_true rfl) (preM hK hP) rfl hl.1 rfl (Nat.le_of_ble_eq_true rfl) (Nat.zero_le _) (Nat.zero_le _) dX1_commonAnew_6 ?_
  have hf := Option.some.inj hf; subst hf
  exact W.iret hx hb hr (fun t ht hW => ⟨⟨rfl, by rw [ht]; exact hP⟩, hS.F ht⟩) hS.2.2 dX1_commonAnew_9
theorem cd_X1_shares : yX1_shares.cls = RX1 ∧ yX1_shares.cls ≠ "java/lang/invoke/MethodHandle" ∧ yX1_shares.cls ≠ "java/lang/invoke/VarHandle" ∧ (parseMethodDescriptor yX1_shares.desc).map (fun d => d.parameters.length) = some 2 := by decide +kernel
set_option maxHeartbeats 4000000 in
set_option maxRecDepth 100000 in
theorem k_X1_shares (l : Launch) (dC : Nat → ClassId) (dI : Nat → Nat → Nat) (cA : ClassId) (a : Nat → Nat) (S : St) (p1 : Int32) (p2 : Int32) (r : Int32 × St) (hf : f_X1_shares S p1 p2 = some r) (hap : apart a 8) : Met l yX1_shares wsX1_shares ({ frames := 2, cells := 0, slots := 0, locals := 43 }) (va_Pc [.ref (a 0), .int p1, .int p2] (PMs (dC, dI) cA a S)) (mMi (dC, dI) cA a r.1 r.2) 0 0 (ad a 8) := by
  refine Met.ofW (cc := cX1_shares) (maxL := 12) (ret := (some .int)) (by decide) rfl ?_
  intro p e s m args below meth c s₁ B hml hv
  obtain ⟨rfl, hP, hK⟩ := hv
  have hx := B.exec
  have hb := B.bytes
  have hr := B.returns
  have hts := atoms_spec (ws := wsX1_shares) B.pre
  have hown : s.vm.findClass RX1 = some m.cls := findClass_of_methodNamed B.named
  have hlocks := B.notSynchronized
  have hin : ∀ w ∈ u_ws RX1 TX1 11, w ∈ wsX1_shares := by decide +kernel
  have hw0 := hts (.fieldLink RX1 29 "SubmodularyModel" "values" "[I") (by decide +kernel)
  have hw1 := hts (.fieldLink RX1 7 "SubmodularyModel" "n" "I") (by decide +kernel)
  have hw2 := hts (.fieldLink RX1 44 "SubmodularyModel" "thrown" "I") (by decide +kernel)
  have hS : va_S (ad a 8) s.heap s.heap [] := va_S.rf
  have hl := lv_entry ([.ref (a 0), .int p1, .int p2]) (n := 12) (Nat.le_of_ble_eq_true rfl)
  rw [lg_entry_eq]
  generalize (lg_sl ([.ref (a 0), .int p1, .int p2]) ++ List.replicate (12 - (lg_sl ([.ref (a 0), .int p1, .int p2])).length) Slot.unset).toArray = ls at hl ⊢
  have hl : lv_has ls 12 [(0, .ref (a 0)), (1, .int p1), (2, .int p2)] := hl
  have hW65 : ∀ (k65 : Nat) (S : St) (x3 x4 x5 : Int32) (H : Heap) (locs : List Loc) (ls : Array Slot), f_X1_shares_65 p1 p2 k65 S x3 x4 x5 = some r → va_P (dC, dI) vwCl (wM cA a S) H → va_S (ad a 8) s.heap H locs → lv_has ls 12 [(0, .ref (a 0)), (1, .int p1), (2, .int p2), (3, .int x3), (4, .int x4), (5, .int x5)] → W p l e (headSpec wsX1_shares ({ frames := 2, cells := 0, slots := 0, locals := 43 })).room s m ([.ref (a 0), .int p1, .int p2] : List Value).toArray below meth c H locs 0 0 (MQ below (mMi (dC, dI) cA a r.1 r.2) ([.ref (a 0), .int p1, .int p2] : List Value).toArray s 0 0 (ad a 8)) (F0 m 65 ls []) := by
    intro k65
    induction k65 with
    | zero =>
      intro S x3 x4 x5 H locs ls hf hP hS hl
      rw [f_X1_shares_65] at hf
      cases hf
    | succ k65 ih65 =>
      have hW84 : ∀ (k84 : Nat) (S : St) (x3 x4 x5 x6 x7 x8 x9 : Int32) (H : Heap) (locs : List Loc) (ls : Array Slot), f_X1_shares_84 p1 p2 (f_X1_shares_65 p1 p2 k65) k84 S x3 x4 x5 x6 x7 x8 x9 = some r → va_P (dC, dI) vwCl (wM cA a S) H → va_S (ad a 8) s.heap H locs → lv_has ls 12 [(0, .ref (a 0)), (1, .int p1), (2, .int p2), (3, .int x3), (4, .int x4), (5, .int x5), (6, .int x6), (7, .int x7), (8, .int x8), (9, .int x9)] → W p l e (headSpec wsX1_shares ({ frames := 2, cells := 0, slots := 0, locals := 43 })).room s m ([.ref (a 0), .int p1, .int p2] : List Value).toArray below meth c H locs 0 0 (MQ below (mMi (dC, dI) cA a r.1 r.2) ([.ref (a 0), .int p1, .int p2] : List Value).toArray s 0 0 (ad a 8)) (F0 m 84 ls []) := by
        intro k84
        induction k84 with
        | zero =>
          intro S x3 x4 x5 x6 x7 x8 x9 H locs ls hf hP hS hl
          rw [f_X1_shares_84] at hf
          cases hf
        | succ k84 ih84 =>
          have hW220 : ∀ (S : St) (x3 x5 x6 x7 x8 x9 x11 s0 s1 : Int32) (H : Heap) (locs : List Loc) (ls : Array Slot), f_X1_shares_220 p1 p2 (f_X1_shares_65 p1 p2 k65) (f_X1_shares_84 p1 p2 (f_X1_shares_65 p1 p2 k65) k84) S x3 x5 x6 x7 x8 x9 x11 s0 s1 = some r → va_P (dC, dI) vwCl (wM cA a S) H → va_S (ad a 8) s.heap H locs → lv_has ls 12 [(0, .ref (a 0)), (1, .int p1), (2, .int p2), (3, .int x3), (5, .int x5), (6, .int x6), (7, .int x7), (8, .int x8), (9, .int x9), (11, .int x11)] → W p l e (headSpec wsX1_shares ({ frames := 2, cells := 0, slots := 0, locals := 43 })).room s m ([.ref (a 0), .int p1, .int p2] : List Value).toArray below meth c H locs 0 0 (MQ below (mMi (dC, dI) cA a r.1 r.2) ([.ref (a 0), .int p1, .int p2] : List Value).toArray s 0 0 (ad a 8)) (F0 m 220 ls [.int s1, .int s0]) := by
            intro S x3 x5 x6 x7 x8 x9 x11 s0 s1 H locs ls hf hP hS hl
            unfold f_X1_shares_220 at hf
            refine lv_iadd hx hb dX1_shares_220 ?_
            refine lv_topi (fun y1 ey1 => ?_)
            have hf := bnd_at hf ey1
            refine lv_istore (lv' := [(4, .int y1), (0, .ref (a 0)), (1, .int p1), (2, .int p2), (3, .int x3), (5, .int x5), (6, .int x6), (7, .int x7), (8, .int x8), (9, .int x9), (11, .int x11)]) hx hb dX1_shares_221 hl (by decide) rfl (fun ls hl => ?_)
            refine lv_iload hx hb dX1_shares_223 (lv_at hl 7 rfl) ?_
            refine lv_iconst (v := 1) hx hb dX1_shares_225 (by decide) ?_
            refine lv_iload hx hb dX1_shares_226 (lv_at hl 10 rfl) ?_
            refine lv_ishl hx hb dX1_shares_228 ?_
            refine lv_ior hx hb dX1_shares_229 ?_
            refine lv_topi (fun y2 ey2 => ?_)
            have hf := bnd_at hf ey2
            refine lv_istore (lv' := [(7, .int y2), (4, .int y1), (0, .ref (a 0)), (1, .int p1), (2, .int p2), (3, .int x3), (5, .int x5), (6, .int x6), (8, .int x8), (9, .int x9), (11, .int x11)]) hx hb dX1_shares_230 hl (by decide) rfl (fun ls hl => ?_)
            obtain ⟨y3, ey3⟩ : ∃ y : Int32, y = (x9 + 1) := ⟨_, rfl⟩
            have hf := bnd_at hf ey3
            refine lv_iinc (v := y3) (lv' := [(9, .int y3), (7, .int y2), (4, .int y1), (0, .ref (a 0)), (1, .int p1), (2, .int p2), (3, .int x3), (5, .int x5), (6, .int x6), (8, .int x8), (11, .int x11)]) hx hb dX1_shares_232 hl (k := 9) rfl (by rw [ey3]; rfl) (by decide) rfl (fun ls hl => ?_)
            refine lv_goto (tgt := 84) hx hb dX1_shares_235 (by decide) ?_
            exact ih84 S x3 y1 x5 x6 y2 x8 y3 _ _ ls hf hP hS (lv_sub hl [3, 4, 5, 6, 2, 7, 8, 1, 9, 0] rfl)
          have hW177 : ∀ (S : St) (x3 x4 x5 x6 x7 x9 x11 s0 : Int32) (H : Heap) (locs : List Loc) (ls : Array Slot), f_X1_shares_177 p1 p2 (f_X1_shares_65 p1 p2 k65) (f_X1_shares_84 p1 p2 (f_X1_shares_65 p1 p2 k65) k84) S x3 x4 x5 x6 x7 x9 x11 s0 = some r → va_P (dC, dI) vwCl (wM cA a S) H → va_S (ad a 8) s.heap H locs → lv_has ls 12 [(0, .ref (a 0)), (1, .int p1), (2, .int p2), (3, .int x3), (4, .int x4), (5, .int x5), (6, .int x6), (7, .int x7), (9, .int x9), (11, .int x11)] → W p l e (headSpec wsX1_shares ({ frames := 2, cells := 0, slots := 0, locals := 43 })).room s m ([.ref (a 0), .int p1, .int p2] : List Value).toArray below meth c H locs 0 0 (MQ below (mMi (dC, dI) cA a r.1 r.2) ([.ref (a 0), .int p1, .int p2] : List Value).toArray s 0 0 (ad a 8)) (F0 m 177 ls [.int s0]) := by
            intro S x3 x4 x5 x6 x7 x9 x11 s0 H locs ls hf hP hS hl
            unfold f_X1_shares_177 at hf
            refine lv_istore (lv' := [(8, .int s0), (0, .ref (a 0)), (1, .int p1), (2, .int p2), (3, .int x3), (4, .int x4), (5, .int x5), (6, .int x6), (7, .int x7), (9, .int x9), (11, .int x11)]) hx hb dX1_shares_177 hl (by decide) rfl (fun ls hl => ?_)
            refine lv_iload hx hb dX1_shares_179 (lv_at hl 5 rfl) ?_
            refine lv_iload hx hb dX1_shares_181 (lv_at hl 0 rfl) ?_
            refine lv_if_eq (tgt := 219) hx hb dX1_shares_183 (by decide) (fun c4 => ?_) (fun c4 => ?_)
            · rw [if_pos c4] at hf
              refine lv_iconst (v := 0) hx hb dX1_shares_219 (by decide) ?_
              exact hW220 S x3 x5 x6 x7 s0 x9 x11 x4 0 _ _ ls hf hP hS (lv_sub hl [1, 2, 3, 4, 6, 7, 8, 0, 9, 10] rfl)
            · rw [if_neg c4] at hf
              refine lv_aload_n hx hb dX1_shares_186 rfl (lv_at hl 1 rfl) ?_
              refine gfM hx hb hts hin hown hK hP 7 (by decide) hw0 rfl rfl dX1_shares_187 ?_
              refine lv_bipush (v := 64) hx hb dX1_shares_190 (by decide) ?_
              refine lv_iload_n hx hb dX1_shares_192 rfl (lv_at hl 2 rfl) ?_
              refine lv_imul hx hb dX1_shares_193 ?_
              refine lv_iload hx hb dX1_shares_194 (lv_at hl 8 rfl) ?_
              refine lv_iconst (v := 1) hx hb dX1_shares_196 (by decide) ?_
              refine lv_iload hx hb dX1_shares_197 (lv_at hl 10 rfl) ?_
              refine lv_ishl hx hb dX1_shares_199 ?_
              refine lv_ior hx hb dX1_shares_200 ?_
              refine lv_iadd hx hb dX1_shares_201 ?_
              obtain ⟨v5, hv5, hf⟩ := ob_some hf
              refine rdI hx hb hK hP 6 rfl hv5 dX1_shares_202 ?_
              refine lv_aload_n hx hb dX1_shares_203 rfl (lv_at hl 1 rfl) ?_
              refine gfM hx hb hts hin hown hK hP 7 (by decide) hw0 rfl rfl dX1_shares_204 ?_
              refine lv_bipush (v := 64) hx hb dX1_shares_207 (by decide) ?_
              refine lv_iload_n hx hb dX1_shares_209 rfl (lv_at hl 2 rfl) ?_
              refine lv_imul hx hb dX1_shares_210 ?_
              refine lv_iload hx hb dX1_shares_211 (lv_at hl 8 rfl) ?_
              refine lv_iadd hx hb dX1_shares_213 ?_
              obtain ⟨v6, hv6, hf⟩ := ob_some hf
              refine rdI hx hb hK hP 6 rfl hv6 dX1_shares_214 ?_
              refine lv_isub hx hb dX1_shares_215 ?_
              refine lv_goto (tgt := 220) hx hb dX1_shares_216 (by decide) ?_
              exact hW220 S x3 x5 x6 x7 s0 x9 x11 x4 (v5 - v6) _ _ ls hf hP hS (lv_sub hl [1, 2, 3, 4, 6, 7, 8, 0, 9, 10] rfl)
          have hW125 : ∀ (k125 : Nat) (S : St) (x3 x4 x5 x6 x7 x9 x10 x11 : Int32) (H : Heap) (locs : List Loc) (ls : Array Slot), f_X1_shares_125 p1 p2 (f_X1_shares_65 p1 p2 k65) (f_X1_shares_84 p1 p2 (f_X1_shares_65 p1 p2 k65) k84) k125 S x3 x4 x5 x6 x7 x9 x10 x11 = some r → va_P (dC, dI) vwCl (wM cA a S) H → va_S (ad a 8) s.heap H locs → lv_has ls 12 [(0, .ref (a 0)), (1, .int p1), (2, .int p2), (3, .int x3), (4, .int x4), (5, .int x5), (6, .int x6), (7, .int x7), (9, .int x9), (10, .int x10), (11, .int x11)] → W p l e (headSpec wsX1_shares ({ frames := 2, cells := 0, slots := 0, locals := 43 })).room s m ([.ref (a 0), .int p1, .int p2] : List Value).toArray below meth c H locs 0 0 (MQ below (mMi (dC, dI) cA a r.1 r.2) ([.ref (a 0), .int p1, .int p2] : List Value).toArray s 0 0 (ad a 8)) (F0 m 125 ls []) := by
            intro k125
            induction k125 with
            | zero =>
              intro S x3 x4 x5 x6 x7 x9 x10 x11 H locs ls hf hP hS hl
              rw [f_X1_shares_125] at hf
              cases hf
            | succ k125 ih125 =>
              have hW157 : ∀ (S : St) (x3 x4 x5 x6 x7 x9 x11 s0 s1 : Int32) (H : Heap) (locs : List Loc) (ls : Array Slot), f_X1_shares_157 p1 p2 (f_X1_shares_65 p1 p2 k65) (f_X1_shares_84 p1 p2 (f_X1_shares_65 p1 p2 k65) k84) (f_X1_shares_125 p1 p2 (f_X1_shares_65 p1 p2 k65) (f_X1_shares_84 p1 p2 (f_X1_shares_65 p1 p2 k65) k84) k125) S x3 x4 x5 x6 x7 x9 x11 s0 s1 = some r → va_P (dC, dI) vwCl (wM cA a S) H → va_S (ad a 8) s.heap H locs → lv_has ls 12 [(0, .ref (a 0)), (1, .int p1), (2, .int p2), (3, .int x3), (4, .int x4), (5, .int x5), (6, .int x6), (7, .int x7), (9, .int x9), (11, .int x11)] → W p l e (headSpec wsX1_shares ({ frames := 2, cells := 0, slots := 0, locals := 43 })).room s m ([.ref (a 0), .int p1, .int p2] : List Value).toArray below meth c H locs 0 0 (MQ below (mMi (dC, dI) cA a r.1 r.2) ([.ref (a 0), .int p1, .int p2] : List Value).toArray s 0 0 (ad a 8)) (F0 m 157 ls [.int s1, .int s0]) := by
                intro S x3 x4 x5 x6 x7 x9 x11 s0 s1 H locs ls hf hP hS hl
                unfold f_X1_shares_157 at hf
                refine lv_isub hx hb dX1_shares_157 ?_
                refine lv_topi (fun y7 ey7 => ?_)
                have hf := bnd_at hf ey7
                refine lv_istore (lv' := [(10, .int y7), (0, .ref (a 0)), (1, .int p1), (2, .int p2), (3, .int x3), (4, .int x4), (5, .int x5), (6, .int x6), (7, .int x7), (9, .int x9), (11, .int x11)]) hx hb dX1_shares_158 hl (by decide) rfl (fun ls hl => ?_)
                obtain ⟨y8, ey8⟩ : ∃ y : Int32, y = (x11 + 1) := ⟨_, rfl⟩
                have hf := bnd_at hf ey8
                refine lv_iinc (v := y8) (lv' := [(11, .int y8), (10, .int y7), (0, .ref (a 0)), (1, .int p1), (2, .int p2), (3, .int x3), (4, .int x4), (5, .int x5), (6, .int x6), (7, .int x7), (9, .int x9)]) hx hb dX1_shares_160 hl (k := 10) rfl (by rw [ey8]; rfl) (by decide) rfl (fun ls hl => ?_)
                refine lv_goto (tgt := 125) hx hb dX1_shares_163 (by decide) ?_
                exact ih125 S x3 x4 x5 x6 x7 x9 y7 y8 _ _ ls hf hP hS (lv_sub hl [2, 3, 4, 5, 6, 7, 8, 9, 10, 1, 0] rfl)
              have hW140 : ∀ (S : St) (x3 x4 x5 x6 x7 x9 x10 x11 : Int32) (H : Heap) (locs : List Loc) (ls : Array Slot), f_X1_shares_140 p1 p2 (f_X1_shares_65 p1 p2 k65) (f_X1_shares_84 p1 p2 (f_X1_shares_65 p1 p2 k65) k84) (f_X1_shares_125 p1 p2 (f_X1_shares_65 p1 p2 k65) (f_X1_shares_84 p1 p2 (f_X1_shares_65 p1 p2 k65) k84) k125) S x3 x4 x5 x6 x7 x9 x10 x11 = some r → va_P (dC, dI) vwCl (wM cA a S) H → va_S (ad a 8) s.heap H locs → lv_has ls 12 [(0, .ref (a 0)), (1, .int p1), (2, .int p2), (3, .int x3), (4, .int x4), (5, .int x5), (6, .int x6), (7, .int x7), (9, .int x9), (10, .int x10), (11, .int x11)] → W p l e (headSpec wsX1_shares ({ frames := 2, cells := 0, slots := 0, locals := 43 })).room s m ([.ref (a 0), .int p1, .int p2] : List Value).toArray below meth c H locs 0 0 (MQ below (mMi (dC, dI) cA a r.1 r.2) ([.ref (a 0), .int p1, .int p2] : List Value).toArray s 0 0 (ad a 8)) (F0 m 140 ls []) := by
                intro S x3 x4 x5 x6 x7 x9 x10 x11 H locs ls hf hP hS hl
                unfold f_X1_shares_140 at hf
                refine lv_iload hx hb dX1_shares_140 (lv_at hl 9 rfl) ?_
                refine lv_iload hx hb dX1_shares_142 (lv_at hl 7 rfl) ?_
                refine lv_iload hx hb dX1_shares_144 (lv_at hl 10 rfl) ?_
                refine pu_S (As := [.int x7, .int x11]) (rest := [.int x10]) ⟨hx, hb, hml, hown, hts⟩ (k_X1_has l x7 x11 _ rfl) gX1_shares_X1_has rfl rfl rfl cd_X1_has (Nat.le_of_ble_eq_true rfl) (Nat.le_of_ble_eq_true rfl) (preT) rfl hl.1 rfl (Nat.le_of_ble_eq_true rfl) (Nat.zero_le _) (Nat.zero_le _) dX1_shares_146 ?_
                refine lv_if_eq (tgt := 156) hx hb dX1_shares_149 (by decide) (fun c9 => ?_) (fun c9 => ?_)
                · rw [if_pos c9] at hf
                  refine lv_iconst (v := 1) hx hb dX1_shares_156 (by decide) ?_
                  exact hW157 S x3 x4 x5 x6 x7 x9 x11 x10 1 _ _ ls hf hP hS (lv_sub hl [0, 1, 2, 3, 4, 5, 6, 7, 8, 10] rfl)
                · rw [if_neg c9] at hf
                  refine lv_iconst (v := 0) hx hb dX1_shares_152 (by decide) ?_
                  refine lv_goto (tgt := 157) hx hb dX1_shares_153 (by decide) ?_
                  exact hW157 S x3 x4 x5 x6 x7 x9 x11 x10 0 _ _ ls hf hP hS (lv_sub hl [0, 1, 2, 3, 4, 5, 6, 7, 8, 10] rfl)
              intro S x3 x4 x5 x6 x7 x9 x10 x11 H locs ls hf hP hS hl
              rw [f_X1_shares_125] at hf
              refine lv_iload hx hb dX1_shares_125 (lv_at hl 7 rfl) ?_
              refine lv_iload hx hb dX1_shares_127 (lv_at hl 10 rfl) ?_
              refine pu_S (As := [.int x7, .int x11]) (rest := []) ⟨hx, hb, hml, hown, hts⟩ (k_X1_has l x7 x11 _ rfl) gX1_shares_X1_has rfl rfl rfl cd_X1_has (Nat.le_of_ble_eq_true rfl) (Nat.le_of_ble_eq_true rfl) (preT) rfl hl.1 rfl (Nat.le_of_ble_eq_true rfl) (Nat.zero_le _) (Nat.zero_le _) dX1_shares_129 ?_
              refine lv_if_ne (tgt := 140) hx hb dX1_shares_132 (by decide) (fun c10 => ?_) (fun c10 => ?_)
              · rw [if_neg c10] at hf
                exact hW140 S x3 x4 x5 x6 x7 x9 x10 x11 _ _ ls hf hP hS (lv_sub hl [0, 1, 2, 3, 4, 5, 6, 7, 8, 9, 10] rfl)
              · rw [if_pos c10] at hf
                refine lv_iload hx hb dX1_shares_135 (lv_at hl 9 rfl) ?_
                refine lv_if_le (tgt := 166) hx hb dX1_shares_137 (by decide) (fun c11 => ?_) (fun c11 => ?_)
                · rw [if_pos c11] at hf
                  refine lv_iload hx hb dX1_shares_166 (lv_at hl 10 rfl) ?_
                  refine lv_iload_n hx hb dX1_shares_168 rfl (lv_at hl 2 rfl) ?_
                  refine lv_icmp_ne (tgt := 176) hx hb dX1_shares_169 (by decide) (fun c12 => ?_) (fun c12 => ?_)
                  · rw [if_neg c12] at hf
                    refine lv_iconst (v := 0) hx hb dX1_shares_176 (by decide) ?_
                    exact hW177 S x3 x4 x5 x6 x7 x9 x11 0 _ _ ls hf hP hS (lv_sub hl [0, 1, 2, 3, 4, 5, 6, 7, 8, 10] rfl)
                  · rw [if_pos c12] at hf
                    refine lv_iconst (v := 1) hx hb dX1_shares_172 (by decide) ?_
                    refine lv_goto (tgt := 177) hx hb dX1_shares_173 (by decide) ?_
                    exact hW177 S x3 x4 x5 x6 x7 x9 x11 1 _ _ ls hf hP hS (lv_sub hl [0, 1, 2, 3, 4, 5, 6, 7, 8, 10] rfl)
                · rw [if_neg c11] at hf
                  exact hW140 S x3 x4 x5 x6 x7 x9 x10 x11 _ _ ls hf hP hS (lv_sub hl [0, 1, 2, 3, 4, 5, 6, 7, 8, 9, 10] rfl)
          intro S x3 x4 x5 x6 x7 x8 x9 H locs ls hf hP hS hl
          rw [f_X1_shares_84] at hf
          refine lv_iload hx hb dX1_shares_84 (lv_at hl 9 rfl) ?_
          refine lv_aload_n hx hb dX1_shares_86 rfl (lv_at hl 0 rfl) ?_
          refine gfM hx hb hts hin hown hK hP 0 (by decide) hw1 rfl rfl dX1_shares_87 ?_
          refine lv_icmp_ge (tgt := 238) hx hb dX1_shares_90 (by decide) (fun c13 => ?_) (fun c13 => ?_)
          · rw [if_pos c13] at hf
            obtain ⟨y14, ey14⟩ : ∃ y : Int32, y = (x5 + 1) := ⟨_, rfl⟩
            have hf := bnd_at hf ey14
            refine lv_iinc (v := y14) (lv' := [(5, .int y14), (0, .ref (a 0)), (1, .int p1), (2, .int p2), (3, .int x3), (4, .int x4), (6, .int x6), (7, .int x7), (8, .int x8), (9, .int x9)]) hx hb dX1_shares_238 hl (k := 5) rfl (by rw [ey14]; rfl) (by decide) rfl (fun ls hl => ?_)
            refine lv_goto (tgt := 65) hx hb dX1_shares_241 (by decide) ?_
            exact ih65 S x3 x4 y14 _ _ ls hf hP hS (lv_sub hl [1, 2, 3, 4, 5, 0] rfl)
          · rw [if_neg c13] at hf
            refine lv_iload hx hb dX1_shares_93 (lv_at hl 8 rfl) ?_
            refine lv_if_ne (tgt := 238) hx hb dX1_shares_95 (by decide) (fun c15 => ?_) (fun c15 => ?_)
            · rw [if_neg c15] at hf
              obtain ⟨y16, ey16⟩ : ∃ y : Int32, y = (x5 + 1) := ⟨_, rfl⟩
              have hf := bnd_at hf ey16
              refine lv_iinc (v := y16) (lv' := [(5, .int y16), (0, .ref (a 0)), (1, .int p1), (2, .int p2), (3, .int x3), (4, .int x4), (6, .int x6), (7, .int x7), (8, .int x8), (9, .int x9)]) hx hb dX1_shares_238 hl (k := 5) rfl (by rw [ey16]; rfl) (by decide) rfl (fun ls hl => ?_)
              refine lv_goto (tgt := 65) hx hb dX1_shares_241 (by decide) ?_
              exact ih65 S x3 x4 y16 _ _ ls hf hP hS (lv_sub hl [1, 2, 3, 4, 5, 0] rfl)
            · rw [if_pos c15] at hf
              refine lv_iload hx hb dX1_shares_98 (lv_at hl 6 rfl) ?_
              refine lv_aload_n hx hb dX1_shares_100 rfl (lv_at hl 0 rfl) ?_
              refine gfM hx hb hts hin hown hK hP 0 (by decide) hw1 rfl rfl dX1_shares_101 ?_
              refine lv_iload hx hb dX1_shares_104 (lv_at hl 9 rfl) ?_
              refine lv_isub hx hb dX1_shares_106 ?_
              by_cases c17 : ((S.1 0) - x9) = 0
              · rw [if_pos c17] at hf; cases hf
              rw [if_neg c17] at hf
              refine lv_irem hx hb dX1_shares_107 c17 ?_
              refine lv_topi (fun y18 ey18 => ?_)
              have hf := bnd_at hf ey18
              refine lv_istore (lv' := [(10, .int y18), (0, .ref (a 0)), (1, .int p1), (2, .int p2), (3, .int x3), (4, .int x4), (5, .int x5), (6, .int x6), (7, .int x7), (8, .int x8), (9, .int x9)]) hx hb dX1_shares_108 hl (by decide) rfl (fun ls hl => ?_)
              refine lv_iload hx hb dX1_shares_110 (lv_at hl 7 rfl) ?_
              refine lv_aload_n hx hb dX1_shares_112 rfl (lv_at hl 1 rfl) ?_
              refine gfM hx hb hts hin hown hK hP 0 (by decide) hw1 rfl rfl dX1_shares_113 ?_
              refine lv_iload hx hb dX1_shares_116 (lv_at hl 10 rfl) ?_
              refine lv_isub hx hb dX1_shares_118 ?_
              by_cases c19 : ((S.1 0) - x9) = 0
              · rw [if_pos c19] at hf; cases hf
              rw [if_neg c19] at hf
              refine lv_idiv hx hb dX1_shares_119 c19 ?_
              refine lv_topi (fun y20 ey20 => ?_)
              have hf := bnd_at hf ey20
              refine lv_istore (lv' := [(6, .int y20), (10, .int y18), (0, .ref (a 0)), (1, .int p1), (2, .int p2), (3, .int x3), (4, .int x4), (5, .int x5), (7, .int x7), (8, .int x8), (9, .int x9)]) hx hb dX1_shares_120 hl (by decide) rfl (fun ls hl => ?_)
              refine lv_iconst (v := 0) hx hb dX1_shares_122 (by decide) ?_
              refine lv_istore (lv' := [(11, .int 0), (6, .int y20), (10, .int y18), (0, .ref (a 0)), (1, .int p1), (2, .int p2), (3, .int x3), (4, .int x4), (5, .int x5), (7, .int x7), (8, .int x8), (9, .int x9)]) hx hb dX1_shares_123 hl (by decide) rfl (fun ls hl => ?_)
              exact hW125 800 S x3 x4 x5 y20 x7 x9 y18 0 _ _ ls hf hP hS (lv_sub hl [3, 4, 5, 6, 7, 8, 1, 9, 11, 2, 0] rfl)
      intro S x3 x4 x5 H locs ls hf hP hS hl
      rw [f_X1_shares_65] at hf
      refine lv_iload hx hb dX1_shares_65 (lv_at hl 5 rfl) ?_
      refine lv_iload_n hx hb dX1_shares_67 rfl (lv_at hl 3 rfl) ?_
      refine lv_icmp_ge (tgt := 244) hx hb dX1_shares_68 (by decide) (fun c21 => ?_) (fun c21 => ?_)
      · rw [if_pos c21] at hf
        refine lv_iload hx hb dX1_shares_244 (lv_at hl 4 rfl) ?_
        have hf := Option.some.inj hf; subst hf
        exact W.iret hx hb hr (fun t ht hW => ⟨⟨rfl, by rw [ht]; exact hP⟩, hS.F ht⟩) hS.2.2 dX1_shares_246
      · rw [if_neg c21] at hf
        refine lv_iload hx hb dX1_shares_71 (lv_at hl 5 rfl) ?_
        refine lv_istore (lv' := [(6, .int x5), (0, .ref (a 0)), (1, .int p1), (2, .int p2), (3, .int x3), (4, .int x4), (5, .int x5)]) hx hb dX1_shares_73 hl (by decide) rfl (fun ls hl => ?_)
        refine lv_iconst (v := 0) hx hb dX1_shares_75 (by decide) ?_
        refine lv_istore (lv' := [(7, .int 0), (6, .int x5), (0, .ref (a 0)), (1, .int p1), (2, .int p2), (3, .int x3), (4, .int x4), (5, .int x5)]) hx hb dX1_shares_76 hl (by decide) rfl (fun ls hl => ?_)
        refine lv_iconst (v := 0) hx hb dX1_shares_78 (by decide) ?_
        refine lv_istore (lv' := [(8, .int 0), (7, .int 0), (6, .int x5), (0, .ref (a 0)), (1, .int p1), (2, .int p2), (3, .int x3), (4, .int x4), (5, .int x5)]) hx hb dX1_shares_79 hl (by decide) rfl (fun ls hl => ?_)
        refine lv_iconst (v := 0) hx hb dX1_shares_81 (by decide) ?_
        refine lv_istore (lv' := [(9, .int 0), (8, .int 0), (7, .int 0), (6, .int x5), (0, .ref (a 0)), (1, .int p1), (2, .int p2), (3, .int x3), (4, .int x4), (5, .int x5)]) hx hb dX1_shares_82 hl (by decide) rfl (fun ls hl => ?_)
        exact hW84 800 S x3 x4 x5 x5 0 0 0 _ _ ls hf hP hS (lv_sub hl [4, 5, 6, 7, 8, 9, 3, 2, 1, 0] rfl)
  have hW39 : ∀ (k39 : Nat) (S : St) (x3 x4 : Int32) (H : Heap) (locs : List Loc) (ls : Array Slot), f_X1_shares_39 p1 p2 k39 S x3 x4 = some r → va_P (dC, dI) vwCl (wM cA a S) H → va_S (ad a 8) s.heap H locs → lv_has ls 12 [(0, .ref (a 0)), (1, .int p1), (2, .int p2), (3, .int x3), (4, .int x4)] → W p l e (headSpec wsX1_shares ({ frames := 2, cells := 0, slots := 0, locals := 43 })).room s m ([.ref (a 0), .int p1, .int p2] : List Value).toArray below meth c H locs 0 0 (MQ below (mMi (dC, dI) cA a r.1 r.2) ([.ref (a 0), .int p1, .int p2] : List Value).toArray s 0 0 (ad a 8)) (F0 m 39 ls []) := by
    intro k39
    induction k39 with
    | zero =>
      intro S x3 x4 H locs ls hf hP hS hl
      rw [f_X1_shares_39] at hf
      cases hf
    | succ k39 ih39 =>
      intro S x3 x4 H locs ls hf hP hS hl
      rw [f_X1_shares_39] at hf
      refine lv_iload hx hb dX1_shares_39 (lv_at hl 4 rfl) ?_
      refine lv_aload_n hx hb dX1_shares_41 rfl (lv_at hl 0 rfl) ?_
      refine gfM hx hb hts hin hown hK hP 0 (by decide) hw1 rfl rfl dX1_shares_42 ?_
      refine lv_icmp_gt (tgt := 59) hx hb dX1_shares_45 (by decide) (fun c22 => ?_) (fun c22 => ?_)
      · rw [if_pos c22] at hf
        refine lv_iconst (v := 0) hx hb dX1_shares_59 (by decide) ?_
        refine lv_istore (lv' := [(4, .int 0), (0, .ref (a 0)), (1, .int p1), (2, .int p2), (3, .int x3)]) hx hb dX1_shares_60 hl (by decide) rfl (fun ls hl => ?_)
        refine lv_iconst (v := 0) hx hb dX1_shares_62 (by decide) ?_
        refine lv_istore (lv' := [(5, .int 0), (4, .int 0), (0, .ref (a 0)), (1, .int p1), (2, .int p2), (3, .int x3)]) hx hb dX1_shares_63 hl (by decide) rfl (fun ls hl => ?_)
        exact hW65 800 S x3 0 0 _ _ ls hf hP hS (lv_sub hl [2, 3, 4, 5, 1, 0] rfl)
      · rw [if_neg c22] at hf
        refine lv_iload_n hx hb dX1_shares_48 rfl (lv_at hl 3 rfl) ?_
        refine lv_iload hx hb dX1_shares_49 (lv_at hl 4 rfl) ?_
        refine lv_imul hx hb dX1_shares_51 ?_
        refine lv_topi (fun y23 ey23 => ?_)
        have hf := bnd_at hf ey23
        refine lv_istore_n (lv' := [(3, .int y23), (0, .ref (a 0)), (1, .int p1), (2, .int p2), (4, .int x4)]) hx hb dX1_shares_52 rfl hl (by decide) rfl (fun ls hl => ?_)
        obtain ⟨y24, ey24⟩ : ∃ y : Int32, y = (x4 + 1) := ⟨_, rfl⟩
        have hf := bnd_at hf ey24
        refine lv_iinc (v := y24) (lv' := [(4, .int y24), (3, .int y23), (0, .ref (a 0)), (1, .int p1), (2, .int p2)]) hx hb dX1_shares_53 hl (k := 4) rfl (by rw [ey24]; rfl) (by decide) rfl (fun ls hl => ?_)
        refine lv_goto (tgt := 39) hx hb dX1_shares_56 (by decide) ?_
        exact ih39 S y23 y24 _ _ ls hf hP hS (lv_sub hl [2, 3, 4, 1, 0] rfl)
  have hW22 : ∀ (S : St) (s1 : Int32) (H : Heap) (locs : List Loc) (ls : Array Slot), f_X1_shares_22 p1 p2 S s1 = some r → va_P (dC, dI) vwCl (wM cA a S) H → va_S (ad a 8) s.heap H locs → lv_has ls 12 [(0, .ref (a 0)), (1, .int p1), (2, .int p2)] → W p l e (headSpec wsX1_shares ({ frames := 2, cells := 0, slots := 0, locals := 43 })).room s m ([.ref (a 0), .int p1, .int p2] : List Value).toArray below meth c H locs 0 0 (MQ below (mMi (dC, dI) cA a r.1 r.2) ([.ref (a 0), .int p1, .int p2] : List Value).toArray s 0 0 (ad a 8)) (F0 m 22 ls [.int s1, .ref (a 0)]) := by
    intro S s1 H locs ls hf hP hS hl
    unfold f_X1_shares_22 at hf
    refine pfM hx hb hts hin hown hK hP hap hS 10 (by decide) hw2 rfl rfl (by decide +kernel) (k2 := 3) (fun _ => rfl) dX1_shares_22 (fun H locs hP hS => ?_)
    refine lv_aload_n hx hb dX1_shares_25 rfl (lv_at hl 0 rfl) ?_
    refine gfM hx hb hts hin hown hK hP 10 (by decide) hw2 rfl rfl dX1_shares_26 ?_
    refine lv_if_le (tgt := 34) hx hb dX1_shares_29 (by decide) (fun c25 => ?_) (fun c25 => ?_)
    · rw [if_pos c25] at hf
      refine lv_iconst (v := 1) hx hb dX1_shares_34 (by decide) ?_
      refine lv_istore_n (lv' := [(3, .int 1), (0, .ref (a 0)), (1, .int p1), (2, .int p2)]) hx hb dX1_shares_35 rfl hl (by decide) rfl (fun ls hl => ?_)
      refine lv_iconst (v := 2) hx hb dX1_shares_36 (by decide) ?_
      refine lv_istore (lv' := [(4, .int 2), (3, .int 1), (0, .ref (a 0)), (1, .int p1), (2, .int p2)]) hx hb dX1_shares_37 hl (by decide) rfl (fun ls hl => ?_)
      exact hW39 800 (sS S 3 s1) 1 2 _ _ ls hf hP hS (lv_sub hl [2, 3, 4, 1, 0] rfl)
    · rw [if_neg c25] at hf
      refine lv_iconst (v := 0) hx hb dX1_shares_32 (by decide) ?_
      have hf := Option.some.inj hf; subst hf
      exact W.iret hx hb hr (fun t ht hW => ⟨⟨rfl, by rw [ht]; exact hP⟩, hS.F ht⟩) hS.2.2 dX1_shares_33
  unfold f_X1_shares at hf
  refine lv_aload_n hx hb dX1_shares_0 rfl (lv_at hl 0 rfl) ?_
  refine lv_aload_n hx hb dX1_shares_1 rfl (lv_at hl 0 rfl) ?_
  refine lv_iload_n hx hb dX1_shares_2 rfl (lv_at hl 1 rfl) ?_
  refine pu_V (As := [.int p1]) (rest := [.ref (a 0)]) ⟨hx, hb, hml, hown, hts⟩ (k_X1_isFunction l dC dI cA a S p1 _ rfl) gX1_shares_X1_isFunction rfl rfl rfl cd_X1_isFunction (Nat.le_of_ble_eq_true rfl) (Nat.le_of_ble_eq_true rfl) (preM hK hP) rfl hl.1 rfl (Nat.le_of_ble_eq_true rfl) (Nat.zero_le _) (Nat.zero_le _) dX1_shares_3 ?_
  refine lv_if_eq (tgt := 21) hx hb dX1_shares_6 (by decide) (fun c26 => ?_) (fun c26 => ?_)
  · rw [if_pos c26] at hf
    refine lv_iconst (v := 1) hx hb dX1_shares_21 (by decide) ?_
    exact hW22 S 1 _ _ ls hf hP hS (lv_sub hl [0, 1, 2] rfl)
  · rw [if_neg c26] at hf
    refine lv_aload_n hx hb dX1_shares_9 rfl (lv_at hl 0 rfl) ?_
    refine lv_iload_n hx hb dX1_shares_10 rfl (lv_at hl 2 rfl) ?_
    refine pu_V (As := [.int p2]) (rest := [.ref (a 0)]) ⟨hx, hb, hml, hown, hts⟩ (k_X1_isElement l dC dI cA a S p2 _ rfl) gX1_shares_X1_isElement rfl rfl rfl cd_X1_isElement (Nat.le_of_ble_eq_true rfl) (Nat.le_of_ble_eq_true rfl) (preM hK hP) rfl hl.1 rfl (Nat.le_of_ble_eq_true rfl) (Nat.zero_le _) (Nat.zero_le _) dX1_shares_11 ?_
    refine lv_if_eq (tgt := 21) hx hb dX1_shares_14 (by decide) (fun c27 => ?_) (fun c27 => ?_)
    · rw [if_pos c27] at hf
      refine lv_iconst (v := 1) hx hb dX1_shares_21 (by decide) ?_
      exact hW22 S 1 _ _ ls hf hP hS (lv_sub hl [0, 1, 2] rfl)
    · rw [if_neg c27] at hf
      refine lv_iconst (v := 0) hx hb dX1_shares_17 (by decide) ?_
      refine lv_goto (tgt := 22) hx hb dX1_shares_18 (by decide) ?_
      exact hW22 S 0 _ _ ls hf hP hS (lv_sub hl [0, 1, 2] rfl)
theorem cd_X1_share : yX1_share.cls = RX1 ∧ yX1_share.cls ≠ "java/lang/invoke/MethodHandle" ∧ yX1_share.cls ≠ "java/lang/invoke/VarHandle" ∧ (parseMethodDescriptor yX1_share.desc).map (fun d => d.parameters.length) = some 2 := by decide +kernel
set_option maxHeartbeats 4000000 in
set_option maxRecDepth 100000 in
theorem k_X1_share (l : Launch) (dC : Nat → ClassId) (dI : Nat → Nat → Nat) (cA : ClassId) (a : Nat → Nat) (S : St) (p1 : Int32) (p2 : Int32) (r : Int32 × St) (hf : f_X1_share S p1 p2 = some r) (hap : apart a 8) : Met l yX1_share wsX1_share ({ frames := 3, cells := 0, slots := 0, locals := 74 }) (va_Pc [.ref (a 0), .int p1, .int p2] (PMs (dC, dI) cA a S)) (mMi (dC, dI) cA a r.1 r.2) 0 0 (ad a 8) := by
  refine Met.ofW (cc := cX1_share) (maxL := 3) (ret := (some .int)) (by decide) rfl ?_
  intro p e s m args below meth c s₁ B hml hv
  obtain ⟨rfl, hP, hK⟩ := hv
  have hx := B.exec
  have hb := B.bytes
  have hr := B.returns
  have hts := atoms_spec (ws := wsX1_share) B.pre
  have hown : s.vm.findClass RX1 = some m.cls := findClass_of_methodNamed B.named
  have hlocks := B.notSynchronized
  have hS : va_S (ad a 8) s.heap s.heap [] := va_S.rf
  have hl := lv_entry ([.ref (a 0), .int p1, .int p2]) (n := 3) (Nat.le_of_ble_eq_true rfl)
  rw [lg_entry_eq]
  generalize (lg_sl ([.ref (a 0), .int p1, .int p2]) ++ List.replicate (3 - (lg_sl ([.ref (a 0), .int p1, .int p2])).length) Slot.unset).toArray = ls at hl ⊢
  have hl : lv_has ls 3 [(0, .ref (a 0)), (1, .int p1), (2, .int p2)] := hl
  unfold f_X1_share at hf
  refine lv_aload_n hx hb dX1_share_0 rfl (lv_at hl 0 rfl) ?_
  refine lv_iload_n hx hb dX1_share_1 rfl (lv_at hl 1 rfl) ?_
  refine lv_iload_n hx hb dX1_share_2 rfl (lv_at hl 2 rfl) ?_
  obtain ⟨q1, hq1, hf⟩ := ob_some hf
  refine mu_Mi (As := [.int p1, .int p2]) (rest := []) ⟨hx, hb, hml, hown, hts⟩ (k_X1_shares l dC dI cA a S p1 p2 _ hq1 hap) gX1_share_X1_shares rfl rfl rfl cd_X1_shares (Nat.le_of_ble_eq_true rfl) (Nat.le_of_ble_eq_true rfl) (preM hK hP) rfl hl.1 rfl (Nat.le_of_ble_eq_true rfl) (Nat.zero_le _) (Nat.zero_le _) dX1_share_3 hS (fun H locs hP hS => ?_)
  have hf := Option.some.inj hf; subst hf
  exact W.iret hx hb hr (fun t ht hW => ⟨⟨rfl, by rw [ht]; exact hP⟩, hS.F ht⟩) hS.2.2 dX1_share_6
theorem cd_X1_shareAnew : yX1_shareAnew.cls = RX1 ∧ yX1_shareAnew.cls ≠ "java/lang/invoke/MethodHandle" ∧ yX1_shareAnew.cls ≠ "java/lang/invoke/VarHandle" ∧ (parseMethodDescriptor yX1_shareAnew.desc).map (fun d => d.parameters.length) = some 2 := by decide +kernel
set_option maxHeartbeats 4000000 in
set_option maxRecDepth 100000 in
theorem k_X1_shareAnew (l : Launch) (dC : Nat → ClassId) (dI : Nat → Nat → Nat) (cA : ClassId) (a : Nat → Nat) (S : St) (p1 : Int32) (p2 : Int32) (r : Int32 × St) (hf : f_X1_shareAnew S p1 p2 = some r) (hap : apart a 8) : Met l yX1_shareAnew wsX1_shareAnew ({ frames := 3, cells := 0, slots := 0, locals := 74 }) (va_Pc [.ref (a 0), .int p1, .int p2] (PMs (dC, dI) cA a S)) (mMi (dC, dI) cA a r.1 r.2) 0 0 (ad a 8) := by
  refine Met.ofW (cc := cX1_shareAnew) (maxL := 3) (ret := (some .int)) (by decide) rfl ?_
  intro p e s m args below meth c s₁ B hml hv
  obtain ⟨rfl, hP, hK⟩ := hv
  have hx := B.exec
  have hb := B.bytes
  have hr := B.returns
  have hts := atoms_spec (ws := wsX1_shareAnew) B.pre
  have hown : s.vm.findClass RX1 = some m.cls := findClass_of_methodNamed B.named
  have hlocks := B.notSynchronized
  have hS : va_S (ad a 8) s.heap s.heap [] := va_S.rf
  have hl := lv_entry ([.ref (a 0), .int p1, .int p2]) (n := 3) (Nat.le_of_ble_eq_true rfl)
  rw [lg_entry_eq]
  generalize (lg_sl ([.ref (a 0), .int p1, .int p2]) ++ List.replicate (3 - (lg_sl ([.ref (a 0), .int p1, .int p2])).length) Slot.unset).toArray = ls at hl ⊢
  have hl : lv_has ls 3 [(0, .ref (a 0)), (1, .int p1), (2, .int p2)] := hl
  unfold f_X1_shareAnew at hf
  refine lv_aload_n hx hb dX1_shareAnew_0 rfl (lv_at hl 0 rfl) ?_
  refine lv_iload_n hx hb dX1_shareAnew_1 rfl (lv_at hl 1 rfl) ?_
  refine lv_iload_n hx hb dX1_shareAnew_2 rfl (lv_at hl 2 rfl) ?_
  obtain ⟨q1, hq1, hf⟩ := ob_some hf
  refine mu_Mi (As := [.int p1, .int p2]) (rest := []) ⟨hx, hb, hml, hown, hts⟩ (k_X1_shares l dC dI cA a S p1 p2 _ hq1 hap) gX1_shareAnew_X1_shares rfl rfl rfl cd_X1_shares (Nat.le_of_ble_eq_true rfl) (Nat.le_of_ble_eq_true rfl) (preM hK hP) rfl hl.1 rfl (Nat.le_of_ble_eq_true rfl) (Nat.zero_le _) (Nat.zero_le _) dX1_shareAnew_3 hS (fun H locs hP hS => ?_)
  have hf := Option.some.inj hf; subst hf
  exact W.iret hx hb hr (fun t ht hW => ⟨⟨rfl, by rw [ht]; exact hP⟩, hS.F ht⟩) hS.2.2 dX1_shareAnew_6

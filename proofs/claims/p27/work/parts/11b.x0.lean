def f_X0_cutValue_17 (S : St) (p1 : Int32) (K4 : Int32 → Int32 → Option Int32) : Nat → Int32 → Int32 → Int32 → Option Int32
  | 0, _, _, _ => none
  | k + 1, x2, x3, x4 => (if (S.1 0) ≤ x4 then (bnd (x3 + 1) fun y2 => (K4 x2 y2)) else (if (f_X0_has p1 x3) = (f_X0_has p1 x4) then (bnd (x4 + 1) fun y4 => ((f_X0_cutValue_17 S p1 K4 k) x2 x3 y4)) else (bnd (x2 + (f_X0_edgeWeight S x3 x4)) fun y5 => (bnd (x4 + 1) fun y6 => ((f_X0_cutValue_17 S p1 K4 k) y5 x3 y6)))))
def f_X0_cutValue_4 (S : St) (p1 : Int32) : Nat → Int32 → Int32 → Option Int32
  | 0, _, _ => none
  | k + 1, x2, x3 => (if (S.1 0) ≤ x3 then some x2 else (bnd (x3 + 1) fun y2 => (f_X0_cutValue_17 S p1 (f_X0_cutValue_4 S p1 k) 70 x2 x3 y2)))
def f_X0_cutValue (S : St) (p1 : Int32) : Option Int32 := (f_X0_cutValue_4 S p1 70 0 0)

def f_X0_rankValue_5 (S : St) (p1 p2 : Int32) : Nat → Int32 → Int32 → Option Int32
  | 0, _, _ => none
  | k + 1, x3, x4 => (if 6 ≤ x4 then some x3 else ((f_X0_countOf S p1 x4 p2).bind fun v2 => (bnd (x3 + (if (f_X0_roomOf S p1 x4) < v2 then (f_X0_roomOf S p1 x4) else v2)) fun y3 => (bnd (x4 + 1) fun y4 => ((f_X0_rankValue_5 S p1 p2 k) y3 y4)))))
def f_X0_rankValue (S : St) (p1 : Int32) (p2 : Int32) : Option Int32 := (f_X0_rankValue_5 S p1 p2 70 0 0)

def f_X0_weightsValue_4 (S : St) (p1 : Int32) : Nat → Int32 → Int32 → Option Int32
  | 0, _, _ => none
  | k + 1, x2, x3 => (if (S.1 0) ≤ x3 then some x2 else (if (f_X0_has p1 x3) = 0 then (bnd (x3 + 1) fun y3 => ((f_X0_weightsValue_4 S p1 k) x2 y3)) else (bnd (x2 + (atv 6 (S.2 4) x3)) fun y4 => (bnd (x3 + 1) fun y5 => ((f_X0_weightsValue_4 S p1 k) y4 y5)))))
def f_X0_weightsValue (S : St) (p1 : Int32) : Option Int32 := (f_X0_weightsValue_4 S p1 70 0 0)

def f_X0_toldValue (S : St) (p1 : Int32) (p2 : Int32) : Option Int32 := (if p1 = 0 then ((f_X0_coverValue S p2).bind fun v2 => some v2) else (if p1 = 1 then ((f_X0_cutValue S p2).bind fun v4 => some v4) else (if p1 = 2 then ((f_X0_rankValue S 0 p2).bind fun v6 => some v6) else (if p1 = 3 then ((f_X0_rankValue S 1 p2).bind fun v8 => some v8) else ((f_X0_weightsValue S p2).bind fun v9 => some v9)))))

def f_X0_gain (S : St) (p1 : Int32) (p2 : Int32) (p3 : Int32) : Int32 := ((f_X0_valueOf S p1 (f_X0_with p2 p3)) - (f_X0_valueOf S p1 p2))

def f_X0_hasLawAbove_46 (S : St) (p1 p2 : Int32) (K2 : Int32 → Option Int32) (K15 : Int32 → Int32 → Option Int32) (x3 : Int32) (x4 : Int32) (s0 : Int32) : Option Int32 := (if s0 = 0 then (bnd (x4 + 1) fun y2 => (K15 x3 y2)) else (if (f_X0_gain S p1 (f_X0_with p2 x4) x3) ≤ (f_X0_gain S p1 p2 x3) then (bnd (x4 + 1) fun y4 => (K15 x3 y4)) else some 0))
def f_X0_hasLawAbove_15 (S : St) (p1 p2 : Int32) (K2 : Int32 → Option Int32) : Nat → Int32 → Int32 → Option Int32
  | 0, _, _ => none
  | k + 1, x3, x4 => (if (S.1 0) ≤ x4 then (bnd (x3 + 1) fun y2 => (K2 y2)) else (if (f_X0_has p2 x3) = 0 then (if (f_X0_has p2 x4) = 0 then (f_X0_hasLawAbove_46 S p1 p2 K2 (f_X0_hasLawAbove_15 S p1 p2 K2 k) x3 x4 1) else (f_X0_hasLawAbove_46 S p1 p2 K2 (f_X0_hasLawAbove_15 S p1 p2 K2 k) x3 x4 0)) else (f_X0_hasLawAbove_46 S p1 p2 K2 (f_X0_hasLawAbove_15 S p1 p2 K2 k) x3 x4 0)))
def f_X0_hasLawAbove_2 (S : St) (p1 p2 : Int32) : Nat → Int32 → Option Int32
  | 0, _ => none
  | k + 1, x3 => (if (S.1 0) ≤ x3 then some 1 else (bnd (x3 + 1) fun y2 => (f_X0_hasLawAbove_15 S p1 p2 (f_X0_hasLawAbove_2 S p1 p2 k) 70 x3 y2)))
def f_X0_hasLawAbove (S : St) (p1 : Int32) (p2 : Int32) : Option Int32 := (f_X0_hasLawAbove_2 S p1 p2 70 0)

def f_X0_hasLaw_2 (S : St) (p1 : Int32) : Nat → Int32 → Option Int32
  | 0, _ => none
  | k + 1, x2 => (if (f_X0_sets S ) ≤ x2 then some 1 else ((f_X0_hasLawAbove S p1 x2).bind fun v2 => (if v2 = 0 then some 0 else (bnd (x2 + 1) fun y4 => ((f_X0_hasLaw_2 S p1 k) y4)))))
def f_X0_hasLaw (S : St) (p1 : Int32) : Option Int32 := (f_X0_hasLaw_2 S p1 70 0)

def f_X0_takenIn_60 (S : St) (p1 p2 p3 p4 : Int32) (K6 : Int32 → Int32 → Option Int32) (x5 : Int32) (x6 : Int32) : Option Int32 := (bnd (f_X0_with x5 x6) fun y1 => (bnd (x6 + 1) fun y2 => (K6 y1 y2)))
def f_X0_takenIn_6 (S : St) (p1 p2 p3 p4 : Int32) : Nat → Int32 → Int32 → Option Int32
  | 0, _, _ => none
  | k + 1, x5, x6 => (if (S.1 0) ≤ x6 then some x5 else (if (f_X0_has p3 x6) = 0 then (bnd (x6 + 1) fun y3 => ((f_X0_takenIn_6 S p1 p2 p3 p4 k) x5 y3)) else (if (f_X0_has x5 x6) = 0 then (bnd (f_X0_gain S p1 x5 x6) fun y6 => (if y6 < 0 then (f_X0_takenIn_60 S p1 p2 p3 p4 (f_X0_takenIn_6 S p1 p2 p3 p4 k) x5 x6) else (if y6 = 0 then (if p4 = 0 then (bnd (x6 + 1) fun y11 => ((f_X0_takenIn_6 S p1 p2 p3 p4 k) x5 y11)) else (f_X0_takenIn_60 S p1 p2 p3 p4 (f_X0_takenIn_6 S p1 p2 p3 p4 k) x5 x6)) else (bnd (x6 + 1) fun y9 => ((f_X0_takenIn_6 S p1 p2 p3 p4 k) x5 y9))))) else (bnd (x6 + 1) fun y5 => ((f_X0_takenIn_6 S p1 p2 p3 p4 k) x5 y5)))))
def f_X0_takenIn (S : St) (p1 : Int32) (p2 : Int32) (p3 : Int32) (p4 : Int32) : Option Int32 := (f_X0_takenIn_6 S p1 p2 p3 p4 70 p2 0)

def f_X0_takenOut_65 (S : St) (p1 p2 p3 p4 : Int32) (K6 : Int32 → Int32 → Option Int32) (x5 : Int32) (x6 : Int32) : Option Int32 := (bnd (f_X0_without x5 x6) fun y1 => (bnd (x6 + 1) fun y2 => (K6 y1 y2)))
def f_X0_takenOut_6 (S : St) (p1 p2 p3 p4 : Int32) : Nat → Int32 → Int32 → Option Int32
  | 0, _, _ => none
  | k + 1, x5, x6 => (if (S.1 0) ≤ x6 then some x5 else (if (f_X0_has x5 x6) = 0 then (bnd (x6 + 1) fun y3 => ((f_X0_takenOut_6 S p1 p2 p3 p4 k) x5 y3)) else (if (f_X0_has p2 x6) = 0 then (bnd (f_X0_gain S p1 (f_X0_without x5 x6) x6) fun y6 => (if 0 < y6 then (f_X0_takenOut_65 S p1 p2 p3 p4 (f_X0_takenOut_6 S p1 p2 p3 p4 k) x5 x6) else (if y6 = 0 then (if p4 = 0 then (f_X0_takenOut_65 S p1 p2 p3 p4 (f_X0_takenOut_6 S p1 p2 p3 p4 k) x5 x6) else (bnd (x6 + 1) fun y11 => ((f_X0_takenOut_6 S p1 p2 p3 p4 k) x5 y11))) else (bnd (x6 + 1) fun y9 => ((f_X0_takenOut_6 S p1 p2 p3 p4 k) x5 y9))))) else (bnd (x6 + 1) fun y5 => ((f_X0_takenOut_6 S p1 p2 p3 p4 k) x5 y5)))))
def f_X0_takenOut (S : St) (p1 : Int32) (p2 : Int32) (p3 : Int32) (p4 : Int32) : Option Int32 := (f_X0_takenOut_6 S p1 p2 p3 p4 70 p3 0)

def f_X0_lowest_2 (S : St) (p1 : Int32) : Nat → Int32 → Option Int32
  | 0, _ => none
  | k + 1, x2 => (if (S.1 0) ≤ x2 then some (-1) else (if (f_X0_has p1 x2) = 0 then (bnd (x2 + 1) fun y3 => ((f_X0_lowest_2 S p1 k) y3)) else some x2))
def f_X0_lowest (S : St) (p1 : Int32) : Option Int32 := (f_X0_lowest_2 S p1 70 0)

def f_X0_leastBetween_75 (S : St) (p1 p2 p3 p4 p5 : Int32) (rec : Int32 → Int32 → Int32 → Int32 → Int32 → Option Int32) (x6 : Int32) (x7 : Int32) : Option Int32 := ((f_X0_lowest S (x7 &&& (x6 ^^^ (-1)))).bind fun v1 => (if v1 = (-1) then some x6 else (if p5 < 6 then ((rec p1 (f_X0_with x6 v1) x7 p4 (p5 + 1)).bind fun v4 => ((rec p1 x6 (f_X0_without x7 v1) p4 (p5 + 1)).bind fun v5 => (bnd ((f_X0_valueOf S p1 v4) - (f_X0_valueOf S p1 v5)) fun y6 => (if y6 < 0 then some v4 else (if y6 = 0 then (if p4 = 0 then some v5 else some v4) else some v5))))) else some x6)))
def f_X0_leastBetween_61 (S : St) (p1 p2 p3 p4 p5 : Int32) (rec : Int32 → Int32 → Int32 → Int32 → Int32 → Option Int32) (K9 : Int32 → Int32 → Int32 → Option Int32) (x8 : Int32) (x9 : Int32) (x10 : Int32) : Option Int32 := (bnd (x8 + 1) fun y1 => (K9 x9 x10 y1))
def f_X0_leastBetween_9 (S : St) (p1 p2 p3 p4 p5 : Int32) (rec : Int32 → Int32 → Int32 → Int32 → Int32 → Option Int32) : Nat → Int32 → Int32 → Int32 → Option Int32
  | 0, _, _, _ => none
  | k + 1, x6, x7, x8 => (if (S.1 0) ≤ x8 then (f_X0_leastBetween_75 S p1 p2 p3 p4 p5 rec x6 x7) else ((f_X0_takenIn S p1 x6 x7 p4).bind fun v2 => ((f_X0_takenOut S p1 v2 x7 p4).bind fun v3 => (if v2 = x6 then (if v3 = x7 then (f_X0_leastBetween_75 S p1 p2 p3 p4 p5 rec x6 x7) else (f_X0_leastBetween_61 S p1 p2 p3 p4 p5 rec (f_X0_leastBetween_9 S p1 p2 p3 p4 p5 rec k) x8 v2 v3)) else (f_X0_leastBetween_61 S p1 p2 p3 p4 p5 rec (f_X0_leastBetween_9 S p1 p2 p3 p4 p5 rec k) x8 v2 v3)))))
def f_X0_leastBetween (S : St) : Nat → Int32 → Int32 → Int32 → Int32 → Int32 → Option Int32
  | 0, _, _, _, _, _ => none
  | d + 1, p1, p2, p3, p4, p5 => (f_X0_leastBetween_9 S p1 p2 p3 p4 p5 (f_X0_leastBetween S d) 70 p2 p3 0)

def f_X0_isTold_2 (S : St) (p1 : Int32) : Nat → Int32 → Option Int32
  | 0, _ => none
  | k + 1, x2 => (if (S.1 2) ≤ x2 then some 0 else (if (atv 6 (S.2 6) x2) = p1 then some 1 else (bnd (x2 + 1) fun y3 => ((f_X0_isTold_2 S p1 k) y3))))
def f_X0_isTold (S : St) (p1 : Int32) : Option Int32 := (f_X0_isTold_2 S p1 70 0)

def f_X0_aheadOf_4 (S : St) (p1 : Int32) : Nat → Int32 → Int32 → Option Int32
  | 0, _, _ => none
  | k + 1, x2, x3 => (if (S.1 2) ≤ x3 then some x2 else (bnd (atv 6 (S.2 6) x3) fun y2 => (if y2 = p1 then some x2 else (bnd (f_X0_with x2 y2) fun y4 => (bnd (x3 + 1) fun y5 => ((f_X0_aheadOf_4 S p1 k) y4 y5))))))
def f_X0_aheadOf (S : St) (p1 : Int32) : Option Int32 := (f_X0_aheadOf_4 S p1 70 0 0)

def f_X0_greediest_8 (S : St) (p1 p2 : Int32) : Nat → Int32 → Int32 → Int32 → Option Int32
  | 0, _, _, _ => none
  | k + 1, x3, x4, x5 => (if (S.1 0) ≤ x5 then some x3 else (bnd (f_X0_gain S p1 p2 x5) fun y2 => (if y2 ≤ x4 then (bnd (x5 + 1) fun y4 => ((f_X0_greediest_8 S p1 p2 k) x3 x4 y4)) else (bnd (x5 + 1) fun y5 => ((f_X0_greediest_8 S p1 p2 k) x5 y2 y5)))))
def f_X0_greediest (S : St) (p1 : Int32) (p2 : Int32) : Option Int32 := (f_X0_greediest_8 S p1 p2 70 (-1) 0 0)

def f_X0_hasRoom (S : St) (p1 : Int32) (p2 : Int32) (p3 : Int32) : Option Int32 := (bnd (f_X0_colourOf S p1 p2) fun y1 => (if (f_X0_has p3 p2) = 0 then ((f_X0_countOf S p1 y1 p3).bind fun v3 => (if (f_X0_roomOf S p1 y1) ≤ v3 then some 0 else some 1)) else some 0))

def f_X0_isStep_13 (S : St) (p1 p2 p3 : Int32) (s0 : Int32) : Int32 := (if (f_X0_has p3 p1) = (f_X0_has p3 p2) then 0 else (if (f_X0_colourOf S s0 p1) = (f_X0_colourOf S s0 p2) then 1 else 0))
def f_X0_isStep (S : St) (p1 : Int32) (p2 : Int32) (p3 : Int32) : Int32 := (if (f_X0_has p3 p1) = 0 then (f_X0_isStep_13 S p1 p2 p3 1) else (f_X0_isStep_13 S p1 p2 p3 0))
theorem z_X0_isStep (S : St) (p1 p2 p3 : Int32) : f_X0_isStep S p1 p2 p3 &&& 1 = f_X0_isStep S p1 p2 p3 := by
  unfold f_X0_isStep
  try unfold f_X0_isStep_13
  repeat' split
  all_goals first | decide | exact z_X0_has .. | exact z_X0_has .. | exact z_X0_has ..

def f_X0_flippedAlong_8 (S : St) (p1 p2 : Int32) : Nat → Int32 → Int32 → Int32 → Option Int32
  | 0, _, _, _ => none
  | k + 1, x3, x4, x5 => (if (S.1 0) ≤ x5 then some x3 else (if x4 = (-1) then some x3 else (bnd (x3 ^^^ ((1 : Int32) <<< (x4 &&& 31))) fun y3 => (bnd (atv 6 (S.2 7) x4) fun y4 => (bnd (x5 + 1) fun y5 => ((f_X0_flippedAlong_8 S p1 p2 k) y3 y4 y5))))))
def f_X0_flippedAlong (S : St) (p1 : Int32) (p2 : Int32) : Option Int32 := (f_X0_flippedAlong_8 S p1 p2 70 p1 p2 0)

def f_X0_ordersOf_4 (p0 : Int32) : Nat → Int32 → Int32 → Option Int32
  | 0, _, _ => none
  | k + 1, x1, x2 => (if p0 < x2 then some x1 else (bnd (x1 * x2) fun y2 => (bnd (x2 + 1) fun y3 => ((f_X0_ordersOf_4 p0 k) y2 y3))))
def f_X0_ordersOf (p0 : Int32) : Option Int32 := (f_X0_ordersOf_4 p0 70 1 2)

def f_X0_gainsOverOrders_54 (S : St) (p1 p2 p3 p4 p5 : Int32) (rec : Int32 → Int32 → Int32 → Int32 → Int32 → Option Int32) (K18 : Int32 → Int32 → Option Int32) (x6 : Int32) (x7 : Int32) (s0 : Int32) : Option Int32 := ((rec p1 p2 (f_X0_with p3 x7) (p4 + 1) s0).bind fun v1 => (bnd (x6 + v1) fun y2 => (bnd (x7 + 1) fun y3 => (K18 y2 y3))))
def f_X0_gainsOverOrders_18 (S : St) (p1 p2 p3 p4 p5 : Int32) (rec : Int32 → Int32 → Int32 → Int32 → Int32 → Option Int32) : Nat → Int32 → Int32 → Option Int32
  | 0, _, _ => none
  | k + 1, x6, x7 => (if (S.1 0) ≤ x7 then some x6 else (if (f_X0_has p3 x7) = 0 then (if x7 = p2 then (f_X0_gainsOverOrders_54 S p1 p2 p3 p4 p5 rec (f_X0_gainsOverOrders_18 S p1 p2 p3 p4 p5 rec k) x6 x7 (f_X0_gain S p1 p3 p2)) else (f_X0_gainsOverOrders_54 S p1 p2 p3 p4 p5 rec (f_X0_gainsOverOrders_18 S p1 p2 p3 p4 p5 rec k) x6 x7 p5)) else (bnd (x7 + 1) fun y3 => ((f_X0_gainsOverOrders_18 S p1 p2 p3 p4 p5 rec k) x6 y3))))
def f_X0_gainsOverOrders (S : St) : Nat → Int32 → Int32 → Int32 → Int32 → Int32 → Option Int32
  | 0, _, _, _, _, _ => none
  | d + 1, p1, p2, p3, p4, p5 => (if p4 < (S.1 0) then (f_X0_gainsOverOrders_18 S p1 p2 p3 p4 p5 (f_X0_gainsOverOrders S d) 70 0 0) else some p5)

theorem cd_X0_cutValue : yX0_cutValue.cls = RX0 ∧ yX0_cutValue.cls ≠ "java/lang/invoke/MethodHandle" ∧ yX0_cutValue.cls ≠ "java/lang/invoke/VarHandle" ∧ (parseMethodDescriptor yX0_cutValue.desc).map (fun d => d.parameters.length) = some 1 := by decide +kernel
set_option maxHeartbeats 4000000 in
set_option maxRecDepth 100000 in
theorem k_X0_cutValue (l : Launch) (dC : Nat → ClassId) (dI : Nat → Nat → Nat) (cA : ClassId) (a : Nat → Nat) (S : St) (p1 : Int32) (r : Int32) (hf : f_X0_cutValue S p1 = some r) : Met l yX0_cutValue wsX0_cutValue ({ frames := 2, cells := 0, slots := 0, locals := 43 }) (va_Pc [.ref (a 0), .int p1] (PXs (dC, dI) cA a S)) (pQi r) 0 0 (fun _ => False) := by
  refine Met.ofW (cc := cX0_cutValue) (maxL := 5) (ret := (some .int)) (by decide) rfl ?_
  intro p e s m args below meth c s₁ B hml hv
  obtain ⟨rfl, hP, hK⟩ := hv
  have hx := B.exec
  have hb := B.bytes
  have hr := B.returns
  have hts := atoms_spec (ws := wsX0_cutValue) B.pre
  have hown : s.vm.findClass RX0 = some m.cls := findClass_of_methodNamed B.named
  have hlocks := B.notSynchronized
  have hin : ∀ w ∈ u_ws RX0 TX0 12, w ∈ wsX0_cutValue := by decide +kernel
  have hw0 := hts (.fieldLink RX0 9 "Submodulary" "elements" "I") (by decide +kernel)
  have hl := lv_entry ([.ref (a 0), .int p1]) (n := 5) (Nat.le_of_ble_eq_true rfl)
  rw [lg_entry_eq]
  generalize (lg_sl ([.ref (a 0), .int p1]) ++ List.replicate (5 - (lg_sl ([.ref (a 0), .int p1])).length) Slot.unset).toArray = ls at hl ⊢
  have hl : lv_has ls 5 [(0, .ref (a 0)), (1, .int p1)] := hl
  have hW4 : ∀ (k4 : Nat) (x2 x3 : Int32) (ls : Array Slot), f_X0_cutValue_4 S p1 k4 x2 x3 = some r → lv_has ls 5 [(0, .ref (a 0)), (1, .int p1), (2, .int x2), (3, .int x3)] → W p l e (headSpec wsX0_cutValue ({ frames := 2, cells := 0, slots := 0, locals := 43 })).room s m ([.ref (a 0), .int p1] : List Value).toArray below meth c s.heap [] 0 0 (MQ below (pQi r) ([.ref (a 0), .int p1] : List Value).toArray s 0 0 (fun _ => False)) (F0 m 4 ls []) := by
    intro k4
    induction k4 with
    | zero =>
      intro x2 x3 ls hf hl
      rw [f_X0_cutValue_4] at hf
      cases hf
    | succ k4 ih4 =>
      have hW17 : ∀ (k17 : Nat) (x2 x3 x4 : Int32) (ls : Array Slot), f_X0_cutValue_17 S p1 (f_X0_cutValue_4 S p1 k4) k17 x2 x3 x4 = some r → lv_has ls 5 [(0, .ref (a 0)), (1, .int p1), (2, .int x2), (3, .int x3), (4, .int x4)] → W p l e (headSpec wsX0_cutValue ({ frames := 2, cells := 0, slots := 0, locals := 43 })).room s m ([.ref (a 0), .int p1] : List Value).toArray below meth c s.heap [] 0 0 (MQ below (pQi r) ([.ref (a 0), .int p1] : List Value).toArray s 0 0 (fun _ => False)) (F0 m 17 ls []) := by
        intro k17
        induction k17 with
        | zero =>
          intro x2 x3 x4 ls hf hl
          rw [f_X0_cutValue_17] at hf
          cases hf
        | succ k17 ih17 =>
          intro x2 x3 x4 ls hf hl
          rw [f_X0_cutValue_17] at hf
          refine lv_iload hx hb dX0_cutValue_17 (lv_at hl 4 rfl) ?_
          refine lv_aload_n hx hb dX0_cutValue_19 rfl (lv_at hl 0 rfl) ?_
          refine gfX hx hb hts hin hown hK hP 0 (by decide) hw0 rfl rfl dX0_cutValue_20 ?_
          refine lv_icmp_ge (tgt := 56) hx hb dX0_cutValue_23 (by decide) (fun c1 => ?_) (fun c1 => ?_)
          · rw [if_pos c1] at hf
            obtain ⟨y2, ey2⟩ : ∃ y : Int32, y = (x3 + 1) := ⟨_, rfl⟩
            have hf := bnd_at hf ey2
            refine lv_iinc (v := y2) (lv' := [(3, .int y2), (0, .ref (a 0)), (1, .int p1), (2, .int x2), (4, .int x4)]) hx hb dX0_cutValue_56 hl (k := 3) rfl (by rw [ey2]; rfl) (by decide) rfl (fun ls hl => ?_)
            refine lv_goto (tgt := 4) hx hb dX0_cutValue_59 (by decide) ?_
            exact ih4 x2 y2 ls hf (lv_sub hl [1, 2, 3, 0] rfl)
          · rw [if_neg c1] at hf
            refine lv_iload_n hx hb dX0_cutValue_26 rfl (lv_at hl 1 rfl) ?_
            refine lv_iload_n hx hb dX0_cutValue_27 rfl (lv_at hl 3 rfl) ?_
            refine pu_S (As := [.int p1, .int x3]) (rest := []) ⟨hx, hb, hml, hown, hts⟩ (k_X0_has l p1 x3 _ rfl) gX0_cutValue_X0_has rfl rfl rfl cd_X0_has (Nat.le_of_ble_eq_true rfl) (Nat.le_of_ble_eq_true rfl) (preT) rfl hl.1 rfl (Nat.le_of_ble_eq_true rfl) (Nat.zero_le _) (Nat.zero_le _) dX0_cutValue_28 ?_
            refine lv_iload_n hx hb dX0_cutValue_31 rfl (lv_at hl 1 rfl) ?_
            refine lv_iload hx hb dX0_cutValue_32 (lv_at hl 4 rfl) ?_
            refine pu_S (As := [.int p1, .int x4]) (rest := [.int (f_X0_has p1 x3)]) ⟨hx, hb, hml, hown, hts⟩ (k_X0_has l p1 x4 _ rfl) gX0_cutValue_X0_has rfl rfl rfl cd_X0_has (Nat.le_of_ble_eq_true rfl) (Nat.le_of_ble_eq_true rfl) (preT) rfl hl.1 rfl (Nat.le_of_ble_eq_true rfl) (Nat.zero_le _) (Nat.zero_le _) dX0_cutValue_34 ?_
            refine lv_icmp_eq (tgt := 50) hx hb dX0_cutValue_37 (by decide) (fun c3 => ?_) (fun c3 => ?_)
            · rw [if_pos c3] at hf
              obtain ⟨y4, ey4⟩ : ∃ y : Int32, y = (x4 + 1) := ⟨_, rfl⟩
              have hf := bnd_at hf ey4
              refine lv_iinc (v := y4) (lv' := [(4, .int y4), (0, .ref (a 0)), (1, .int p1), (2, .int x2), (3, .int x3)]) hx hb dX0_cutValue_50 hl (k := 4) rfl (by rw [ey4]; rfl) (by decide) rfl (fun ls hl => ?_)
              refine lv_goto (tgt := 17) hx hb dX0_cutValue_53 (by decide) ?_
              exact ih17 x2 x3 y4 ls hf (lv_sub hl [1, 2, 3, 4, 0] rfl)
            · rw [if_neg c3] at hf
              refine lv_iload_n hx hb dX0_cutValue_40 rfl (lv_at hl 2 rfl) ?_
              refine lv_aload_n hx hb dX0_cutValue_41 rfl (lv_at hl 0 rfl) ?_
              refine lv_iload_n hx hb dX0_cutValue_42 rfl (lv_at hl 3 rfl) ?_
              refine lv_iload hx hb dX0_cutValue_43 (lv_at hl 4 rfl) ?_
              refine pu_V (As := [.int x3, .int x4]) (rest := [.int x2]) ⟨hx, hb, hml, hown, hts⟩ (k_X0_edgeWeight l dC dI cA a S x3 x4 _ rfl) gX0_cutValue_X0_edgeWeight rfl rfl rfl cd_X0_edgeWeight (Nat.le_of_ble_eq_true rfl) (Nat.le_of_ble_eq_true rfl) (preX hK hP) rfl hl.1 rfl (Nat.le_of_ble_eq_true rfl) (Nat.zero_le _) (Nat.zero_le _) dX0_cutValue_45 ?_
              refine lv_iadd hx hb dX0_cutValue_48 ?_
              refine lv_topi (fun y5 ey5 => ?_)
              have hf := bnd_at hf ey5
              refine lv_istore_n (lv' := [(2, .int y5), (0, .ref (a 0)), (1, .int p1), (3, .int x3), (4, .int x4)]) hx hb dX0_cutValue_49 rfl hl (by decide) rfl (fun ls hl => ?_)
              obtain ⟨y6, ey6⟩ : ∃ y : Int32, y = (x4 + 1) := ⟨_, rfl⟩
              have hf := bnd_at hf ey6
              refine lv_iinc (v := y6) (lv' := [(4, .int y6), (2, .int y5), (0, .ref (a 0)), (1, .int p1), (3, .int x3)]) hx hb dX0_cutValue_50 hl (k := 4) rfl (by rw [ey6]; rfl) (by decide) rfl (fun ls hl => ?_)
              refine lv_goto (tgt := 17) hx hb dX0_cutValue_53 (by decide) ?_
              exact ih17 y5 x3 y6 ls hf (lv_sub hl [2, 3, 1, 4, 0] rfl)
      intro x2 x3 ls hf hl
      rw [f_X0_cutValue_4] at hf
      refine lv_iload_n hx hb dX0_cutValue_4 rfl (lv_at hl 3 rfl) ?_
      refine lv_aload_n hx hb dX0_cutValue_5 rfl (lv_at hl 0 rfl) ?_
      refine gfX hx hb hts hin hown hK hP 0 (by decide) hw0 rfl rfl dX0_cutValue_6 ?_
      refine lv_icmp_ge (tgt := 62) hx hb dX0_cutValue_9 (by decide) (fun c7 => ?_) (fun c7 => ?_)
      · rw [if_pos c7] at hf
        refine lv_iload_n hx hb dX0_cutValue_62 rfl (lv_at hl 2 rfl) ?_
        have hf := Option.some.inj hf; subst hf
        exact W.iret hx hb hr (fun t ht hW => ⟨rfl, ht⟩) (fun q h => by cases h) dX0_cutValue_63
      · rw [if_neg c7] at hf
        refine lv_iload_n hx hb dX0_cutValue_12 rfl (lv_at hl 3 rfl) ?_
        refine lv_iconst (v := 1) hx hb dX0_cutValue_13 (by decide) ?_
        refine lv_iadd hx hb dX0_cutValue_14 ?_
        refine lv_topi (fun y8 ey8 => ?_)
        have hf := bnd_at hf ey8
        refine lv_istore (lv' := [(4, .int y8), (0, .ref (a 0)), (1, .int p1), (2, .int x2), (3, .int x3)]) hx hb dX0_cutValue_15 hl (by decide) rfl (fun ls hl => ?_)
        exact hW17 70 x2 x3 y8 ls hf (lv_sub hl [1, 2, 3, 4, 0] rfl)
  unfold f_X0_cutValue at hf
  refine lv_iconst (v := 0) hx hb dX0_cutValue_0 (by decide) ?_
  refine lv_istore_n (lv' := [(2, .int 0), (0, .ref (a 0)), (1, .int p1)]) hx hb dX0_cutValue_1 rfl hl (by decide) rfl (fun ls hl => ?_)
  refine lv_iconst (v := 0) hx hb dX0_cutValue_2 (by decide) ?_
  refine lv_istore_n (lv' := [(3, .int 0), (2, .int 0), (0, .ref (a 0)), (1, .int p1)]) hx hb dX0_cutValue_3 rfl hl (by decide) rfl (fun ls hl => ?_)
  exact hW4 70 0 0 ls hf (lv_sub hl [2, 3, 1, 0] rfl)
theorem cd_X0_rankValue : yX0_rankValue.cls = RX0 ∧ yX0_rankValue.cls ≠ "java/lang/invoke/MethodHandle" ∧ yX0_rankValue.cls ≠ "java/lang/invoke/VarHandle" ∧ (parseMethodDescriptor yX0_rankValue.desc).map (fun d => d.parameters.length) = some 2 := by decide +kernel
set_option maxHeartbeats 4000000 in
set_option maxRecDepth 100000 in
theorem k_X0_rankValue (l : Launch) (dC : Nat → ClassId) (dI : Nat → Nat → Nat) (cA : ClassId) (a : Nat → Nat) (S : St) (p1 : Int32) (p2 : Int32) (r : Int32) (hf : f_X0_rankValue S p1 p2 = some r) : Met l yX0_rankValue wsX0_rankValue ({ frames := 3, cells := 0, slots := 0, locals := 68 }) (va_Pc [.ref (a 0), .int p1, .int p2] (PXs (dC, dI) cA a S)) (pQi r) 0 0 (fun _ => False) := by
  refine Met.ofW (cc := cX0_rankValue) (maxL := 5) (ret := (some .int)) (by decide) rfl ?_
  intro p e s m args below meth c s₁ B hml hv
  obtain ⟨rfl, hP, hK⟩ := hv
  have hx := B.exec
  have hb := B.bytes
  have hr := B.returns
  have hts := atoms_spec (ws := wsX0_rankValue) B.pre
  have hown : s.vm.findClass RX0 = some m.cls := findClass_of_methodNamed B.named
  have hlocks := B.notSynchronized
  have hw0 := hts (.methodLink RX0 128 Lib.Math.min.name) (by decide +kernel)
  have hw1 := hts (.static Lib.Math.min.name) (by decide +kernel)
  have hw2 := hts (.initialized "java/lang/Math") (by decide +kernel)
  have hw3 := hts (.code Lib.Math.min.name Lib.Math.min.code 2 (some .int)) (by decide +kernel)
  have hl := lv_entry ([.ref (a 0), .int p1, .int p2]) (n := 5) (Nat.le_of_ble_eq_true rfl)
  rw [lg_entry_eq]
  generalize (lg_sl ([.ref (a 0), .int p1, .int p2]) ++ List.replicate (5 - (lg_sl ([.ref (a 0), .int p1, .int p2])).length) Slot.unset).toArray = ls at hl ⊢
  have hl : lv_has ls 5 [(0, .ref (a 0)), (1, .int p1), (2, .int p2)] := hl
  have hW5 : ∀ (k5 : Nat) (x3 x4 : Int32) (ls : Array Slot), f_X0_rankValue_5 S p1 p2 k5 x3 x4 = some r → lv_has ls 5 [(0, .ref (a 0)), (1, .int p1), (2, .int p2), (3, .int x3), (4, .int x4)] → W p l e (headSpec wsX0_rankValue ({ frames := 3, cells := 0, slots := 0, locals := 68 })).room s m ([.ref (a 0), .int p1, .int p2] : List Value).toArray below meth c s.heap [] 0 0 (MQ below (pQi r) ([.ref (a 0), .int p1, .int p2] : List Value).toArray s 0 0 (fun _ => False)) (F0 m 5 ls []) := by
    intro k5
    induction k5 with
    | zero =>
      intro x3 x4 ls hf hl
      rw [f_X0_rankValue_5] at hf
      cases hf
    | succ k5 ih5 =>
      intro x3 x4 ls hf hl
      rw [f_X0_rankValue_5] at hf
      refine lv_iload hx hb dX0_rankValue_5 (lv_at hl 4 rfl) ?_
      refine lv_bipush (v := 6) hx hb dX0_rankValue_7 (by decide) ?_
      refine lv_icmp_ge (tgt := 39) hx hb dX0_rankValue_9 (by decide) (fun c1 => ?_) (fun c1 => ?_)
      · rw [if_pos c1] at hf
        refine lv_iload_n hx hb dX0_rankValue_39 rfl (lv_at hl 3 rfl) ?_
        have hf := Option.some.inj hf; subst hf
        exact W.iret hx hb hr (fun t ht hW => ⟨rfl, ht⟩) (fun q h => by cases h) dX0_rankValue_40
      · rw [if_neg c1] at hf
        refine lv_iload_n hx hb dX0_rankValue_12 rfl (lv_at hl 3 rfl) ?_
        refine lv_aload_n hx hb dX0_rankValue_13 rfl (lv_at hl 0 rfl) ?_
        refine lv_iload_n hx hb dX0_rankValue_14 rfl (lv_at hl 1 rfl) ?_
        refine lv_iload hx hb dX0_rankValue_15 (lv_at hl 4 rfl) ?_
        refine lv_iload_n hx hb dX0_rankValue_17 rfl (lv_at hl 2 rfl) ?_
        obtain ⟨v2, hv2, hf⟩ := ob_some hf
        refine pu_V (As := [.int p1, .int x4, .int p2]) (rest := [.int x3]) ⟨hx, hb, hml, hown, hts⟩ (k_X0_countOf l dC dI cA a S p1 x4 p2 _ hv2) gX0_rankValue_X0_countOf rfl rfl rfl cd_X0_countOf (Nat.le_of_ble_eq_true rfl) (Nat.le_of_ble_eq_true rfl) (preX hK hP) rfl hl.1 rfl (Nat.le_of_ble_eq_true rfl) (Nat.zero_le _) (Nat.zero_le _) dX0_rankValue_18 ?_
        refine lv_aload_n hx hb dX0_rankValue_21 rfl (lv_at hl 0 rfl) ?_
        refine lv_iload_n hx hb dX0_rankValue_22 rfl (lv_at hl 1 rfl) ?_
        refine lv_iload hx hb dX0_rankValue_23 (lv_at hl 4 rfl) ?_
        refine pu_V (As := [.int p1, .int x4]) (rest := [.int v2, .int x3]) ⟨hx, hb, hml, hown, hts⟩ (k_X0_roomOf l dC dI cA a S p1 x4 _ rfl) gX0_rankValue_X0_roomOf rfl rfl rfl cd_X0_roomOf (Nat.le_of_ble_eq_true rfl) (Nat.le_of_ble_eq_true rfl) (preX hK hP) rfl hl.1 rfl (Nat.le_of_ble_eq_true rfl) (Nat.zero_le _) (Nat.zero_le _) dX0_rankValue_25 ?_
        refine va_mmin hx hb (hml.trans hl.1.symm) hown hw0 hw1 hw2 hw3 (Nat.le_of_ble_eq_true rfl) (Nat.le_of_ble_eq_true rfl) (Nat.le_of_ble_eq_true rfl) (Nat.le_of_ble_eq_true rfl) dX0_rankValue_28 ?_
        refine lv_iadd hx hb dX0_rankValue_31 ?_
        refine lv_topi (fun y3 ey3 => ?_)
        have hf := bnd_at hf ey3
        refine lv_istore_n (lv' := [(3, .int y3), (0, .ref (a 0)), (1, .int p1), (2, .int p2), (4, .int x4)]) hx hb dX0_rankValue_32 rfl hl (by decide) rfl (fun ls hl => ?_)
        obtain ⟨y4, ey4⟩ : ∃ y : Int32, y = (x4 + 1) := ⟨_, rfl⟩
        have hf := bnd_at hf ey4
        refine lv_iinc (v := y4) (lv' := [(4, .int y4), (3, .int y3), (0, .ref (a 0)), (1, .int p1), (2, .int p2)]) hx hb dX0_rankValue_33 hl (k := 4) rfl (by rw [ey4]; rfl) (by decide) rfl (fun ls hl => ?_)
        refine lv_goto (tgt := 5) hx hb dX0_rankValue_36 (by decide) ?_
        exact ih5 y3 y4 ls hf (lv_sub hl [2, 3, 4, 1, 0] rfl)
  unfold f_X0_rankValue at hf
  refine lv_iconst (v := 0) hx hb dX0_rankValue_0 (by decide) ?_
  refine lv_istore_n (lv' := [(3, .int 0), (0, .ref (a 0)), (1, .int p1), (2, .int p2)]) hx hb dX0_rankValue_1 rfl hl (by decide) rfl (fun ls hl => ?_)
  refine lv_iconst (v := 0) hx hb dX0_rankValue_2 (by decide) ?_
  refine lv_istore (lv' := [(4, .int 0), (3, .int 0), (0, .ref (a 0)), (1, .int p1), (2, .int p2)]) hx hb dX0_rankValue_3 hl (by decide) rfl (fun ls hl => ?_)
  exact hW5 70 0 0 ls hf (lv_sub hl [2, 3, 4, 1, 0] rfl)
theorem cd_X0_weightsValue : yX0_weightsValue.cls = RX0 ∧ yX0_weightsValue.cls ≠ "java/lang/invoke/MethodHandle" ∧ yX0_weightsValue.cls ≠ "java/lang/invoke/VarHandle" ∧ (parseMethodDescriptor yX0_weightsValue.desc).map (fun d => d.parameters.length) = some 1 := by decide +kernel
set_option maxHeartbeats 4000000 in
set_option maxRecDepth 100000 in
theorem k_X0_weightsValue (l : Launch) (dC : Nat → ClassId) (dI : Nat → Nat → Nat) (cA : ClassId) (a : Nat → Nat) (S : St) (p1 : Int32) (r : Int32) (hf : f_X0_weightsValue S p1 = some r) : Met l yX0_weightsValue wsX0_weightsValue ({ frames := 1, cells := 0, slots := 0, locals := 21 }) (va_Pc [.ref (a 0), .int p1] (PXs (dC, dI) cA a S)) (pQi r) 0 0 (fun _ => False) := by
  refine Met.ofW (cc := cX0_weightsValue) (maxL := 4) (ret := (some .int)) (by decide) rfl ?_
  intro p e s m args below meth c s₁ B hml hv
  obtain ⟨rfl, hP, hK⟩ := hv
  have hx := B.exec
  have hb := B.bytes
  have hr := B.returns
  have hts := atoms_spec (ws := wsX0_weightsValue) B.pre
  have hown : s.vm.findClass RX0 = some m.cls := findClass_of_methodNamed B.named
  have hlocks := B.notSynchronized
  have hin : ∀ w ∈ u_ws RX0 TX0 12, w ∈ wsX0_weightsValue := by decide +kernel
  have hw0 := hts (.fieldLink RX0 9 "Submodulary" "elements" "I") (by decide +kernel)
  have hw1 := hts (.fieldLink RX0 32 "Submodulary" "weights" "[I") (by decide +kernel)
  have hl := lv_entry ([.ref (a 0), .int p1]) (n := 4) (Nat.le_of_ble_eq_true rfl)
  rw [lg_entry_eq]
  generalize (lg_sl ([.ref (a 0), .int p1]) ++ List.replicate (4 - (lg_sl ([.ref (a 0), .int p1])).length) Slot.unset).toArray = ls at hl ⊢
  have hl : lv_has ls 4 [(0, .ref (a 0)), (1, .int p1)] := hl
  have hW4 : ∀ (k4 : Nat) (x2 x3 : Int32) (ls : Array Slot), f_X0_weightsValue_4 S p1 k4 x2 x3 = some r → lv_has ls 4 [(0, .ref (a 0)), (1, .int p1), (2, .int x2), (3, .int x3)] → W p l e (headSpec wsX0_weightsValue ({ frames := 1, cells := 0, slots := 0, locals := 21 })).room s m ([.ref (a 0), .int p1] : List Value).toArray below meth c s.heap [] 0 0 (MQ below (pQi r) ([.ref (a 0), .int p1] : List Value).toArray s 0 0 (fun _ => False)) (F0 m 4 ls []) := by
    intro k4
    induction k4 with
    | zero =>
      intro x2 x3 ls hf hl
      rw [f_X0_weightsValue_4] at hf
      cases hf
    | succ k4 ih4 =>
      intro x2 x3 ls hf hl
      rw [f_X0_weightsValue_4] at hf
      refine lv_iload_n hx hb dX0_weightsValue_4 rfl (lv_at hl 3 rfl) ?_
      refine lv_aload_n hx hb dX0_weightsValue_5 rfl (lv_at hl 0 rfl) ?_
      refine gfX hx hb hts hin hown hK hP 0 (by decide) hw0 rfl rfl dX0_weightsValue_6 ?_
      refine lv_icmp_ge (tgt := 37) hx hb dX0_weightsValue_9 (by decide) (fun c1 => ?_) (fun c1 => ?_)
      · rw [if_pos c1] at hf
        refine lv_iload_n hx hb dX0_weightsValue_37 rfl (lv_at hl 2 rfl) ?_
        have hf := Option.some.inj hf; subst hf
        exact W.iret hx hb hr (fun t ht hW => ⟨rfl, ht⟩) (fun q h => by cases h) dX0_weightsValue_38
      · rw [if_neg c1] at hf
        refine lv_iload_n hx hb dX0_weightsValue_12 rfl (lv_at hl 1 rfl) ?_
        refine lv_iload_n hx hb dX0_weightsValue_13 rfl (lv_at hl 3 rfl) ?_
        refine pu_S (As := [.int p1, .int x3]) (rest := []) ⟨hx, hb, hml, hown, hts⟩ (k_X0_has l p1 x3 _ rfl) gX0_weightsValue_X0_has rfl rfl rfl cd_X0_has (Nat.le_of_ble_eq_true rfl) (Nat.le_of_ble_eq_true rfl) (preT) rfl hl.1 rfl (Nat.le_of_ble_eq_true rfl) (Nat.zero_le _) (Nat.zero_le _) dX0_weightsValue_14 ?_
        refine lv_if_eq (tgt := 31) hx hb dX0_weightsValue_17 (by decide) (fun c2 => ?_) (fun c2 => ?_)
        · rw [if_pos c2] at hf
          obtain ⟨y3, ey3⟩ : ∃ y : Int32, y = (x3 + 1) := ⟨_, rfl⟩
          have hf := bnd_at hf ey3
          refine lv_iinc (v := y3) (lv' := [(3, .int y3), (0, .ref (a 0)), (1, .int p1), (2, .int x2)]) hx hb dX0_weightsValue_31 hl (k := 3) rfl (by rw [ey3]; rfl) (by decide) rfl (fun ls hl => ?_)
          refine lv_goto (tgt := 4) hx hb dX0_weightsValue_34 (by decide) ?_
          exact ih4 x2 y3 ls hf (lv_sub hl [1, 2, 3, 0] rfl)
        · rw [if_neg c2] at hf
          refine lv_iload_n hx hb dX0_weightsValue_20 rfl (lv_at hl 2 rfl) ?_
          refine lv_aload_n hx hb dX0_weightsValue_21 rfl (lv_at hl 0 rfl) ?_
          refine gfX hx hb hts hin hown hK hP 7 (by decide) hw1 rfl rfl dX0_weightsValue_22 ?_
          refine lv_iload_n hx hb dX0_weightsValue_25 rfl (lv_at hl 3 rfl) ?_
          refine pu_S (As := [.ref (a 5), .int x3]) (rest := [.int x2]) ⟨hx, hb, hml, hown, hts⟩ (k_X0_at l dC dI cA (a 5) 6 (S.2 4) x3 (by decide)) gX0_weightsValue_X0_at rfl rfl rfl cd_X0_at (Nat.le_of_ble_eq_true rfl) (Nat.le_of_ble_eq_true rfl) (preR hK (rowX hP 5 rfl)) rfl hl.1 rfl (Nat.le_of_ble_eq_true rfl) (Nat.zero_le _) (Nat.zero_le _) dX0_weightsValue_26 ?_
          refine lv_iadd hx hb dX0_weightsValue_29 ?_
          refine lv_topi (fun y4 ey4 => ?_)
          have hf := bnd_at hf ey4
          refine lv_istore_n (lv' := [(2, .int y4), (0, .ref (a 0)), (1, .int p1), (3, .int x3)]) hx hb dX0_weightsValue_30 rfl hl (by decide) rfl (fun ls hl => ?_)
          obtain ⟨y5, ey5⟩ : ∃ y : Int32, y = (x3 + 1) := ⟨_, rfl⟩
          have hf := bnd_at hf ey5
          refine lv_iinc (v := y5) (lv' := [(3, .int y5), (2, .int y4), (0, .ref (a 0)), (1, .int p1)]) hx hb dX0_weightsValue_31 hl (k := 3) rfl (by rw [ey5]; rfl) (by decide) rfl (fun ls hl => ?_)
          refine lv_goto (tgt := 4) hx hb dX0_weightsValue_34 (by decide) ?_
          exact ih4 y4 y5 ls hf (lv_sub hl [2, 3, 1, 0] rfl)
  unfold f_X0_weightsValue at hf
  refine lv_iconst (v := 0) hx hb dX0_weightsValue_0 (by decide) ?_
  refine lv_istore_n (lv' := [(2, .int 0), (0, .ref (a 0)), (1, .int p1)]) hx hb dX0_weightsValue_1 rfl hl (by decide) rfl (fun ls hl => ?_)
  refine lv_iconst (v := 0) hx hb dX0_weightsValue_2 (by decide) ?_
  refine lv_istore_n (lv' := [(3, .int 0), (2, .int 0), (0, .ref (a 0)), (1, .int p1)]) hx hb dX0_weightsValue_3 rfl hl (by decide) rfl (fun ls hl => ?_)
  exact hW4 70 0 0 ls hf (lv_sub hl [2, 3, 1, 0] rfl)
theorem cd_X0_toldValue : yX0_toldValue.cls = RX0 ∧ yX0_toldValue.cls ≠ "java/lang/invoke/MethodHandle" ∧ yX0_toldValue.cls ≠ "java/lang/invoke/VarHandle" ∧ (parseMethodDescriptor yX0_toldValue.desc).map (fun d => d.parameters.length) = some 2 := by decide +kernel
set_option maxHeartbeats 4000000 in
set_option maxRecDepth 100000 in
theorem k_X0_toldValue (l : Launch) (dC : Nat → ClassId) (dI : Nat → Nat → Nat) (cA : ClassId) (a : Nat → Nat) (S : St) (p1 : Int32) (p2 : Int32) (r : Int32) (hf : f_X0_toldValue S p1 p2 = some r) : Met l yX0_toldValue wsX0_toldValue ({ frames := 4, cells := 0, slots := 0, locals := 92 }) (va_Pc [.ref (a 0), .int p1, .int p2] (PXs (dC, dI) cA a S)) (pQi r) 0 0 (fun _ => False) := by
  refine Met.ofW (cc := cX0_toldValue) (maxL := 3) (ret := (some .int)) (by decide) rfl ?_
  intro p e s m args below meth c s₁ B hml hv
  obtain ⟨rfl, hP, hK⟩ := hv
  have hx := B.exec
  have hb := B.bytes
  have hr := B.returns
  have hts := atoms_spec (ws := wsX0_toldValue) B.pre
  have hown : s.vm.findClass RX0 = some m.cls := findClass_of_methodNamed B.named
  have hlocks := B.notSynchronized
  have hl := lv_entry ([.ref (a 0), .int p1, .int p2]) (n := 3) (Nat.le_of_ble_eq_true rfl)
  rw [lg_entry_eq]
  generalize (lg_sl ([.ref (a 0), .int p1, .int p2]) ++ List.replicate (3 - (lg_sl ([.ref (a 0), .int p1, .int p2])).length) Slot.unset).toArray = ls at hl ⊢
  have hl : lv_has ls 3 [(0, .ref (a 0)), (1, .int p1), (2, .int p2)] := hl
  unfold f_X0_toldValue at hf
  refine lv_iload_n hx hb dX0_toldValue_0 rfl (lv_at hl 1 rfl) ?_
  by_cases c1 : p1 = 0
  · rw [if_pos c1] at hf
    refine lv_tableIn (off := 31) (tgt := 32) hx hb dX0_toldValue_1 (by rw [c1]; decide) (by rw [c1]; decide) (by rw [c1]; rfl) (by decide) ?_
    refine lv_aload_n hx hb dX0_toldValue_32 rfl (lv_at hl 0 rfl) ?_
    refine lv_iload_n hx hb dX0_toldValue_33 rfl (lv_at hl 2 rfl) ?_
    obtain ⟨v2, hv2, hf⟩ := ob_some hf
    refine pu_V (As := [.int p2]) (rest := []) ⟨hx, hb, hml, hown, hts⟩ (k_X0_coverValue l dC dI cA a S p2 _ hv2) gX0_toldValue_X0_coverValue rfl rfl rfl cd_X0_coverValue (Nat.le_of_ble_eq_true rfl) (Nat.le_of_ble_eq_true rfl) (preX hK hP) rfl hl.1 rfl (Nat.le_of_ble_eq_true rfl) (Nat.zero_le _) (Nat.zero_le _) dX0_toldValue_34 ?_
    have hf := Option.some.inj hf; subst hf
    exact W.iret hx hb hr (fun t ht hW => ⟨rfl, ht⟩) (fun q h => by cases h) dX0_toldValue_37
  rw [if_neg c1] at hf
  by_cases c3 : p1 = 1
  · rw [if_pos c3] at hf
    refine lv_tableIn (off := 37) (tgt := 38) hx hb dX0_toldValue_1 (by rw [c3]; decide) (by rw [c3]; decide) (by rw [c3]; rfl) (by decide) ?_
    refine lv_aload_n hx hb dX0_toldValue_38 rfl (lv_at hl 0 rfl) ?_
    refine lv_iload_n hx hb dX0_toldValue_39 rfl (lv_at hl 2 rfl) ?_
    obtain ⟨v4, hv4, hf⟩ := ob_some hf
    refine pu_V (As := [.int p2]) (rest := []) ⟨hx, hb, hml, hown, hts⟩ (k_X0_cutValue l dC dI cA a S p2 _ hv4) gX0_toldValue_X0_cutValue rfl rfl rfl cd_X0_cutValue (Nat.le_of_ble_eq_true rfl) (Nat.le_of_ble_eq_true rfl) (preX hK hP) rfl hl.1 rfl (Nat.le_of_ble_eq_true rfl) (Nat.zero_le _) (Nat.zero_le _) dX0_toldValue_40 ?_
    have hf := Option.some.inj hf; subst hf
    exact W.iret hx hb hr (fun t ht hW => ⟨rfl, ht⟩) (fun q h => by cases h) dX0_toldValue_43
  rw [if_neg c3] at hf
  by_cases c5 : p1 = 2
  · rw [if_pos c5] at hf
    refine lv_tableIn (off := 43) (tgt := 44) hx hb dX0_toldValue_1 (by rw [c5]; decide) (by rw [c5]; decide) (by rw [c5]; rfl) (by decide) ?_
    refine lv_aload_n hx hb dX0_toldValue_44 rfl (lv_at hl 0 rfl) ?_
    refine lv_iconst (v := 0) hx hb dX0_toldValue_45 (by decide) ?_
    refine lv_iload_n hx hb dX0_toldValue_46 rfl (lv_at hl 2 rfl) ?_
    obtain ⟨v6, hv6, hf⟩ := ob_some hf
    refine pu_V (As := [.int 0, .int p2]) (rest := []) ⟨hx, hb, hml, hown, hts⟩ (k_X0_rankValue l dC dI cA a S 0 p2 _ hv6) gX0_toldValue_X0_rankValue rfl rfl rfl cd_X0_rankValue (Nat.le_of_ble_eq_true rfl) (Nat.le_of_ble_eq_true rfl) (preX hK hP) rfl hl.1 rfl (Nat.le_of_ble_eq_true rfl) (Nat.zero_le _) (Nat.zero_le _) dX0_toldValue_47 ?_
    have hf := Option.some.inj hf; subst hf
    exact W.iret hx hb hr (fun t ht hW => ⟨rfl, ht⟩) (fun q h => by cases h) dX0_toldValue_50
  rw [if_neg c5] at hf
  by_cases c7 : p1 = 3
  · rw [if_pos c7] at hf
    refine lv_tableIn (off := 50) (tgt := 51) hx hb dX0_toldValue_1 (by rw [c7]; decide) (by rw [c7]; decide) (by rw [c7]; rfl) (by decide) ?_
    refine lv_aload_n hx hb dX0_toldValue_51 rfl (lv_at hl 0 rfl) ?_
    refine lv_iconst (v := 1) hx hb dX0_toldValue_52 (by decide) ?_
    refine lv_iload_n hx hb dX0_toldValue_53 rfl (lv_at hl 2 rfl) ?_
    obtain ⟨v8, hv8, hf⟩ := ob_some hf
    refine pu_V (As := [.int 1, .int p2]) (rest := []) ⟨hx, hb, hml, hown, hts⟩ (k_X0_rankValue l dC dI cA a S 1 p2 _ hv8) gX0_toldValue_X0_rankValue rfl rfl rfl cd_X0_rankValue (Nat.le_of_ble_eq_true rfl) (Nat.le_of_ble_eq_true rfl) (preX hK hP) rfl hl.1 rfl (Nat.le_of_ble_eq_true rfl) (Nat.zero_le _) (Nat.zero_le _) dX0_toldValue_54 ?_
    have hf := Option.some.inj hf; subst hf
    exact W.iret hx hb hr (fun t ht hW => ⟨rfl, ht⟩) (fun q h => by cases h) dX0_toldValue_57
  rw [if_neg c7] at hf
  refine lv_tableOut (tgt := 58) hx hb dX0_toldValue_1 (tabOut4 c1 c3 c5 c7) (by decide) ?_
  refine lv_aload_n hx hb dX0_toldValue_58 rfl (lv_at hl 0 rfl) ?_
  refine lv_iload_n hx hb dX0_toldValue_59 rfl (lv_at hl 2 rfl) ?_
  obtain ⟨v9, hv9, hf⟩ := ob_some hf
  refine pu_V (As := [.int p2]) (rest := []) ⟨hx, hb, hml, hown, hts⟩ (k_X0_weightsValue l dC dI cA a S p2 _ hv9) gX0_toldValue_X0_weightsValue rfl rfl rfl cd_X0_weightsValue (Nat.le_of_ble_eq_true rfl) (Nat.le_of_ble_eq_true rfl) (preX hK hP) rfl hl.1 rfl (Nat.le_of_ble_eq_true rfl) (Nat.zero_le _) (Nat.zero_le _) dX0_toldValue_60 ?_
  have hf := Option.some.inj hf; subst hf
  exact W.iret hx hb hr (fun t ht hW => ⟨rfl, ht⟩) (fun q h => by cases h) dX0_toldValue_63
theorem cd_X0_gain : yX0_gain.cls = RX0 ∧ yX0_gain.cls ≠ "java/lang/invoke/MethodHandle" ∧ yX0_gain.cls ≠ "java/lang/invoke/VarHandle" ∧ (parseMethodDescriptor yX0_gain.desc).map (fun d => d.parameters.length) = some 3 := by decide +kernel
set_option maxHeartbeats 4000000 in
set_option maxRecDepth 100000 in
theorem k_X0_gain (l : Launch) (dC : Nat → ClassId) (dI : Nat → Nat → Nat) (cA : ClassId) (a : Nat → Nat) (S : St) (p1 : Int32) (p2 : Int32) (p3 : Int32) (r : Int32) (hf : f_X0_gain S p1 p2 p3 = r) : Met l yX0_gain wsX0_gain ({ frames := 2, cells := 0, slots := 0, locals := 43 }) (va_Pc [.ref (a 0), .int p1, .int p2, .int p3] (PXs (dC, dI) cA a S)) (pQi r) 0 0 (fun _ => False) := by
  refine Met.ofW (cc := cX0_gain) (maxL := 4) (ret := (some .int)) (by decide) rfl ?_
  intro p e s m args below meth c s₁ B hml hv
  obtain ⟨rfl, hP, hK⟩ := hv
  have hx := B.exec
  have hb := B.bytes
  have hr := B.returns
  have hts := atoms_spec (ws := wsX0_gain) B.pre
  have hown : s.vm.findClass RX0 = some m.cls := findClass_of_methodNamed B.named
  have hlocks := B.notSynchronized
  have hl := lv_entry ([.ref (a 0), .int p1, .int p2, .int p3]) (n := 4) (Nat.le_of_ble_eq_true rfl)
  rw [lg_entry_eq]
  generalize (lg_sl ([.ref (a 0), .int p1, .int p2, .int p3]) ++ List.replicate (4 - (lg_sl ([.ref (a 0), .int p1, .int p2, .int p3])).length) Slot.unset).toArray = ls at hl ⊢
  have hl : lv_has ls 4 [(0, .ref (a 0)), (1, .int p1), (2, .int p2), (3, .int p3)] := hl
  unfold f_X0_gain at hf
  refine lv_aload_n hx hb dX0_gain_0 rfl (lv_at hl 0 rfl) ?_
  refine lv_iload_n hx hb dX0_gain_1 rfl (lv_at hl 1 rfl) ?_
  refine lv_iload_n hx hb dX0_gain_2 rfl (lv_at hl 2 rfl) ?_
  refine lv_iload_n hx hb dX0_gain_3 rfl (lv_at hl 3 rfl) ?_
  refine pu_S (As := [.int p2, .int p3]) (rest := [.int p1, .ref (a 0)]) ⟨hx, hb, hml, hown, hts⟩ (k_X0_with l p2 p3 _ rfl) gX0_gain_X0_with rfl rfl rfl cd_X0_with (Nat.le_of_ble_eq_true rfl) (Nat.le_of_ble_eq_true rfl) (preT) rfl hl.1 rfl (Nat.le_of_ble_eq_true rfl) (Nat.zero_le _) (Nat.zero_le _) dX0_gain_4 ?_
  refine pu_V (As := [.int p1, .int (f_X0_with p2 p3)]) (rest := []) ⟨hx, hb, hml, hown, hts⟩ (k_X0_valueOf l dC dI cA a S p1 (f_X0_with p2 p3) _ rfl) gX0_gain_X0_valueOf rfl rfl rfl cd_X0_valueOf (Nat.le_of_ble_eq_true rfl) (Nat.le_of_ble_eq_true rfl) (preX hK hP) rfl hl.1 rfl (Nat.le_of_ble_eq_true rfl) (Nat.zero_le _) (Nat.zero_le _) dX0_gain_7 ?_
  refine lv_aload_n hx hb dX0_gain_10 rfl (lv_at hl 0 rfl) ?_
  refine lv_iload_n hx hb dX0_gain_11 rfl (lv_at hl 1 rfl) ?_
  refine lv_iload_n hx hb dX0_gain_12 rfl (lv_at hl 2 rfl) ?_
  refine pu_V (As := [.int p1, .int p2]) (rest := [.int (f_X0_valueOf S p1 (f_X0_with p2 p3))]) ⟨hx, hb, hml, hown, hts⟩ (k_X0_valueOf l dC dI cA a S p1 p2 _ rfl) gX0_gain_X0_valueOf rfl rfl rfl cd_X0_valueOf (Nat.le_of_ble_eq_true rfl) (Nat.le_of_ble_eq_true rfl) (preX hK hP) rfl hl.1 rfl (Nat.le_of_ble_eq_true rfl) (Nat.zero_le _) (Nat.zero_le _) dX0_gain_13 ?_
  refine lv_isub hx hb dX0_gain_16 ?_
  subst hf
  exact W.iret hx hb hr (fun t ht hW => ⟨rfl, ht⟩) (fun q h => by cases h) dX0_gain_17
theorem cd_X0_hasLawAbove : yX0_hasLawAbove.cls = RX0 ∧ yX0_hasLawAbove.cls ≠ "java/lang/invoke/MethodHandle" ∧ yX0_hasLawAbove.cls ≠ "java/lang/invoke/VarHandle" ∧ (parseMethodDescriptor yX0_hasLawAbove.desc).map (fun d => d.parameters.length) = some 2 := by decide +kernel
set_option maxHeartbeats 4000000 in
set_option maxRecDepth 100000 in
theorem k_X0_hasLawAbove (l : Launch) (dC : Nat → ClassId) (dI : Nat → Nat → Nat) (cA : ClassId) (a : Nat → Nat) (S : St) (p1 : Int32) (p2 : Int32) (r : Int32) (hf : f_X0_hasLawAbove S p1 p2 = some r) : Met l yX0_hasLawAbove wsX0_hasLawAbove ({ frames := 3, cells := 0, slots := 0, locals := 66 }) (va_Pc [.ref (a 0), .int p1, .int p2] (PXs (dC, dI) cA a S)) (pQi r) 0 0 (fun _ => False) := by
  refine Met.ofW (cc := cX0_hasLawAbove) (maxL := 6) (ret := (some .boolean)) (by decide) rfl ?_
  intro p e s m args below meth c s₁ B hml hv
  obtain ⟨rfl, hP, hK⟩ := hv
  have hx := B.exec
  have hb := B.bytes
  have hr := B.returns
  have hts := atoms_spec (ws := wsX0_hasLawAbove) B.pre
  have hown : s.vm.findClass RX0 = some m.cls := findClass_of_methodNamed B.named
  have hlocks := B.notSynchronized
  have hin : ∀ w ∈ u_ws RX0 TX0 12, w ∈ wsX0_hasLawAbove := by decide +kernel
  have hw0 := hts (.fieldLink RX0 9 "Submodulary" "elements" "I") (by decide +kernel)
  have hl := lv_entry ([.ref (a 0), .int p1, .int p2]) (n := 6) (Nat.le_of_ble_eq_true rfl)
  rw [lg_entry_eq]
  generalize (lg_sl ([.ref (a 0), .int p1, .int p2]) ++ List.replicate (6 - (lg_sl ([.ref (a 0), .int p1, .int p2])).length) Slot.unset).toArray = ls at hl ⊢
  have hl : lv_has ls 6 [(0, .ref (a 0)), (1, .int p1), (2, .int p2)] := hl
  have hW2 : ∀ (k2 : Nat) (x3 : Int32) (ls : Array Slot), f_X0_hasLawAbove_2 S p1 p2 k2 x3 = some r → lv_has ls 6 [(0, .ref (a 0)), (1, .int p1), (2, .int p2), (3, .int x3)] → W p l e (headSpec wsX0_hasLawAbove ({ frames := 3, cells := 0, slots := 0, locals := 66 })).room s m ([.ref (a 0), .int p1, .int p2] : List Value).toArray below meth c s.heap [] 0 0 (MQ below (pQi r) ([.ref (a 0), .int p1, .int p2] : List Value).toArray s 0 0 (fun _ => False)) (F0 m 2 ls []) := by
    intro k2
    induction k2 with
    | zero =>
      intro x3 ls hf hl
      rw [f_X0_hasLawAbove_2] at hf
      cases hf
    | succ k2 ih2 =>
      have hW15 : ∀ (k15 : Nat) (x3 x4 : Int32) (ls : Array Slot), f_X0_hasLawAbove_15 S p1 p2 (f_X0_hasLawAbove_2 S p1 p2 k2) k15 x3 x4 = some r → lv_has ls 6 [(0, .ref (a 0)), (1, .int p1), (2, .int p2), (3, .int x3), (4, .int x4)] → W p l e (headSpec wsX0_hasLawAbove ({ frames := 3, cells := 0, slots := 0, locals := 66 })).room s m ([.ref (a 0), .int p1, .int p2] : List Value).toArray below meth c s.heap [] 0 0 (MQ below (pQi r) ([.ref (a 0), .int p1, .int p2] : List Value).toArray s 0 0 (fun _ => False)) (F0 m 15 ls []) := by
        intro k15
        induction k15 with
        | zero =>
          intro x3 x4 ls hf hl
          rw [f_X0_hasLawAbove_15] at hf
          cases hf
        | succ k15 ih15 =>
          have hW46 : ∀ (x3 x4 s0 : Int32) (ls : Array Slot), f_X0_hasLawAbove_46 S p1 p2 (f_X0_hasLawAbove_2 S p1 p2 k2) (f_X0_hasLawAbove_15 S p1 p2 (f_X0_hasLawAbove_2 S p1 p2 k2) k15) x3 x4 s0 = some r → lv_has ls 6 [(0, .ref (a 0)), (1, .int p1), (2, .int p2), (3, .int x3), (4, .int x4)] → W p l e (headSpec wsX0_hasLawAbove ({ frames := 3, cells := 0, slots := 0, locals := 66 })).room s m ([.ref (a 0), .int p1, .int p2] : List Value).toArray below meth c s.heap [] 0 0 (MQ below (pQi r) ([.ref (a 0), .int p1, .int p2] : List Value).toArray s 0 0 (fun _ => False)) (F0 m 46 ls [.int s0]) := by
            intro x3 x4 s0 ls hf hl
            unfold f_X0_hasLawAbove_46 at hf
            refine lv_istore (lv' := [(5, .int s0), (0, .ref (a 0)), (1, .int p1), (2, .int p2), (3, .int x3), (4, .int x4)]) hx hb dX0_hasLawAbove_46 hl (by decide) rfl (fun ls hl => ?_)
            refine lv_iload hx hb dX0_hasLawAbove_48 (lv_at hl 0 rfl) ?_
            refine lv_if_eq (tgt := 77) hx hb dX0_hasLawAbove_50 (by decide) (fun c1 => ?_) (fun c1 => ?_)
            · rw [if_pos c1] at hf
              obtain ⟨y2, ey2⟩ : ∃ y : Int32, y = (x4 + 1) := ⟨_, rfl⟩
              have hf := bnd_at hf ey2
              refine lv_iinc (v := y2) (lv' := [(4, .int y2), (5, .int s0), (0, .ref (a 0)), (1, .int p1), (2, .int p2), (3, .int x3)]) hx hb dX0_hasLawAbove_77 hl (k := 5) rfl (by rw [ey2]; rfl) (by decide) rfl (fun ls hl => ?_)
              refine lv_goto (tgt := 15) hx hb dX0_hasLawAbove_80 (by decide) ?_
              exact ih15 x3 y2 ls hf (lv_sub hl [2, 3, 4, 5, 0] rfl)
            · rw [if_neg c1] at hf
              refine lv_aload_n hx hb dX0_hasLawAbove_53 rfl (lv_at hl 1 rfl) ?_
              refine lv_iload_n hx hb dX0_hasLawAbove_54 rfl (lv_at hl 2 rfl) ?_
              refine lv_iload_n hx hb dX0_hasLawAbove_55 rfl (lv_at hl 3 rfl) ?_
              refine lv_iload_n hx hb dX0_hasLawAbove_56 rfl (lv_at hl 4 rfl) ?_
              refine pu_V (As := [.int p1, .int p2, .int x3]) (rest := []) ⟨hx, hb, hml, hown, hts⟩ (k_X0_gain l dC dI cA a S p1 p2 x3 _ rfl) gX0_hasLawAbove_X0_gain rfl rfl rfl cd_X0_gain (Nat.le_of_ble_eq_true rfl) (Nat.le_of_ble_eq_true rfl) (preX hK hP) rfl hl.1 rfl (Nat.le_of_ble_eq_true rfl) (Nat.zero_le _) (Nat.zero_le _) dX0_hasLawAbove_57 ?_
              refine lv_aload_n hx hb dX0_hasLawAbove_60 rfl (lv_at hl 1 rfl) ?_
              refine lv_iload_n hx hb dX0_hasLawAbove_61 rfl (lv_at hl 2 rfl) ?_
              refine lv_iload_n hx hb dX0_hasLawAbove_62 rfl (lv_at hl 3 rfl) ?_
              refine lv_iload hx hb dX0_hasLawAbove_63 (lv_at hl 5 rfl) ?_
              refine pu_S (As := [.int p2, .int x4]) (rest := [.int p1, .ref (a 0), .int (f_X0_gain S p1 p2 x3)]) ⟨hx, hb, hml, hown, hts⟩ (k_X0_with l p2 x4 _ rfl) gX0_hasLawAbove_X0_with rfl rfl rfl cd_X0_with (Nat.le_of_ble_eq_true rfl) (Nat.le_of_ble_eq_true rfl) (preT) rfl hl.1 rfl (Nat.le_of_ble_eq_true rfl) (Nat.zero_le _) (Nat.zero_le _) dX0_hasLawAbove_65 ?_
              refine lv_iload_n hx hb dX0_hasLawAbove_68 rfl (lv_at hl 4 rfl) ?_
              refine pu_V (As := [.int p1, .int (f_X0_with p2 x4), .int x3]) (rest := [.int (f_X0_gain S p1 p2 x3)]) ⟨hx, hb, hml, hown, hts⟩ (k_X0_gain l dC dI cA a S p1 (f_X0_with p2 x4) x3 _ rfl) gX0_hasLawAbove_X0_gain rfl rfl rfl cd_X0_gain (Nat.le_of_ble_eq_true rfl) (Nat.le_of_ble_eq_true rfl) (preX hK hP) rfl hl.1 rfl (Nat.le_of_ble_eq_true rfl) (Nat.zero_le _) (Nat.zero_le _) dX0_hasLawAbove_69 ?_
              refine lv_icmp_ge (tgt := 77) hx hb dX0_hasLawAbove_72 (by decide) (fun c3 => ?_) (fun c3 => ?_)
              · rw [if_pos c3] at hf
                obtain ⟨y4, ey4⟩ : ∃ y : Int32, y = (x4 + 1) := ⟨_, rfl⟩
                have hf := bnd_at hf ey4
                refine lv_iinc (v := y4) (lv' := [(4, .int y4), (5, .int s0), (0, .ref (a 0)), (1, .int p1), (2, .int p2), (3, .int x3)]) hx hb dX0_hasLawAbove_77 hl (k := 5) rfl (by rw [ey4]; rfl) (by decide) rfl (fun ls hl => ?_)
                refine lv_goto (tgt := 15) hx hb dX0_hasLawAbove_80 (by decide) ?_
                exact ih15 x3 y4 ls hf (lv_sub hl [2, 3, 4, 5, 0] rfl)
              · rw [if_neg c3] at hf
                refine lv_iconst (v := 0) hx hb dX0_hasLawAbove_75 (by decide) ?_
                have hf := Option.some.inj hf; subst hf
                exact W.zret hx hb hr rfl (fun t ht hW => ⟨rfl, ht⟩) (fun q h => by cases h) dX0_hasLawAbove_76
          intro x3 x4 ls hf hl
          rw [f_X0_hasLawAbove_15] at hf
          refine lv_iload hx hb dX0_hasLawAbove_15 (lv_at hl 4 rfl) ?_
          refine lv_aload_n hx hb dX0_hasLawAbove_17 rfl (lv_at hl 0 rfl) ?_
          refine gfX hx hb hts hin hown hK hP 0 (by decide) hw0 rfl rfl dX0_hasLawAbove_18 ?_
          refine lv_icmp_ge (tgt := 83) hx hb dX0_hasLawAbove_21 (by decide) (fun c5 => ?_) (fun c5 => ?_)
          · rw [if_pos c5] at hf
            obtain ⟨y6, ey6⟩ : ∃ y : Int32, y = (x3 + 1) := ⟨_, rfl⟩
            have hf := bnd_at hf ey6
            refine lv_iinc (v := y6) (lv' := [(3, .int y6), (0, .ref (a 0)), (1, .int p1), (2, .int p2), (4, .int x4)]) hx hb dX0_hasLawAbove_83 hl (k := 3) rfl (by rw [ey6]; rfl) (by decide) rfl (fun ls hl => ?_)
            refine lv_goto (tgt := 2) hx hb dX0_hasLawAbove_86 (by decide) ?_
            exact ih2 y6 ls hf (lv_sub hl [1, 2, 3, 0] rfl)
          · rw [if_neg c5] at hf
            refine lv_iload_n hx hb dX0_hasLawAbove_24 rfl (lv_at hl 2 rfl) ?_
            refine lv_iload_n hx hb dX0_hasLawAbove_25 rfl (lv_at hl 3 rfl) ?_
            refine pu_S (As := [.int p2, .int x3]) (rest := []) ⟨hx, hb, hml, hown, hts⟩ (k_X0_has l p2 x3 _ rfl) gX0_hasLawAbove_X0_has rfl rfl rfl cd_X0_has (Nat.le_of_ble_eq_true rfl) (Nat.le_of_ble_eq_true rfl) (preT) rfl hl.1 rfl (Nat.le_of_ble_eq_true rfl) (Nat.zero_le _) (Nat.zero_le _) dX0_hasLawAbove_26 ?_
            refine lv_if_ne (tgt := 45) hx hb dX0_hasLawAbove_29 (by decide) (fun c7 => ?_) (fun c7 => ?_)
            · rw [if_neg c7] at hf
              refine lv_iconst (v := 0) hx hb dX0_hasLawAbove_45 (by decide) ?_
              exact hW46 x3 x4 0 ls hf (lv_sub hl [0, 1, 2, 3, 4] rfl)
            · rw [if_pos c7] at hf
              refine lv_iload_n hx hb dX0_hasLawAbove_32 rfl (lv_at hl 2 rfl) ?_
              refine lv_iload hx hb dX0_hasLawAbove_33 (lv_at hl 4 rfl) ?_
              refine pu_S (As := [.int p2, .int x4]) (rest := []) ⟨hx, hb, hml, hown, hts⟩ (k_X0_has l p2 x4 _ rfl) gX0_hasLawAbove_X0_has rfl rfl rfl cd_X0_has (Nat.le_of_ble_eq_true rfl) (Nat.le_of_ble_eq_true rfl) (preT) rfl hl.1 rfl (Nat.le_of_ble_eq_true rfl) (Nat.zero_le _) (Nat.zero_le _) dX0_hasLawAbove_35 ?_
              refine lv_if_ne (tgt := 45) hx hb dX0_hasLawAbove_38 (by decide) (fun c8 => ?_) (fun c8 => ?_)
              · rw [if_neg c8] at hf
                refine lv_iconst (v := 0) hx hb dX0_hasLawAbove_45 (by decide) ?_
                exact hW46 x3 x4 0 ls hf (lv_sub hl [0, 1, 2, 3, 4] rfl)
              · rw [if_pos c8] at hf
                refine lv_iconst (v := 1) hx hb dX0_hasLawAbove_41 (by decide) ?_
                refine lv_goto (tgt := 46) hx hb dX0_hasLawAbove_42 (by decide) ?_
                exact hW46 x3 x4 1 ls hf (lv_sub hl [0, 1, 2, 3, 4] rfl)
      intro x3 ls hf hl
      rw [f_X0_hasLawAbove_2] at hf
      refine lv_iload_n hx hb dX0_hasLawAbove_2 rfl (lv_at hl 3 rfl) ?_
      refine lv_aload_n hx hb dX0_hasLawAbove_3 rfl (lv_at hl 0 rfl) ?_
      refine gfX hx hb hts hin hown hK hP 0 (by decide) hw0 rfl rfl dX0_hasLawAbove_4 ?_
      refine lv_icmp_ge (tgt := 89) hx hb dX0_hasLawAbove_7 (by decide) (fun c9 => ?_) (fun c9 => ?_)
      · rw [if_pos c9] at hf
        refine lv_iconst (v := 1) hx hb dX0_hasLawAbove_89 (by decide) ?_
        have hf := Option.some.inj hf; subst hf
        exact W.zret hx hb hr rfl (fun t ht hW => ⟨rfl, ht⟩) (fun q h => by cases h) dX0_hasLawAbove_90
      · rw [if_neg c9] at hf
        refine lv_iload_n hx hb dX0_hasLawAbove_10 rfl (lv_at hl 3 rfl) ?_
        refine lv_iconst (v := 1) hx hb dX0_hasLawAbove_11 (by decide) ?_
        refine lv_iadd hx hb dX0_hasLawAbove_12 ?_
        refine lv_topi (fun y10 ey10 => ?_)
        have hf := bnd_at hf ey10
        refine lv_istore (lv' := [(4, .int y10), (0, .ref (a 0)), (1, .int p1), (2, .int p2), (3, .int x3)]) hx hb dX0_hasLawAbove_13 hl (by decide) rfl (fun ls hl => ?_)
        exact hW15 70 x3 y10 ls hf (lv_sub hl [1, 2, 3, 4, 0] rfl)
  unfold f_X0_hasLawAbove at hf
  refine lv_iconst (v := 0) hx hb dX0_hasLawAbove_0 (by decide) ?_
  refine lv_istore_n (lv' := [(3, .int 0), (0, .ref (a 0)), (1, .int p1), (2, .int p2)]) hx hb dX0_hasLawAbove_1 rfl hl (by decide) rfl (fun ls hl => ?_)
  exact hW2 70 0 ls hf (lv_sub hl [1, 2, 3, 0] rfl)
theorem cd_X0_hasLaw : yX0_hasLaw.cls = RX0 ∧ yX0_hasLaw.cls ≠ "java/lang/invoke/MethodHandle" ∧ yX0_hasLaw.cls ≠ "java/lang/invoke/VarHandle" ∧ (parseMethodDescriptor yX0_hasLaw.desc).map (fun d => d.parameters.length) = some 1 := by decide +kernel
set_option maxHeartbeats 4000000 in
set_option maxRecDepth 100000 in
theorem k_X0_hasLaw (l : Launch) (dC : Nat → ClassId) (dI : Nat → Nat → Nat) (cA : ClassId) (a : Nat → Nat) (S : St) (p1 : Int32) (r : Int32) (hf : f_X0_hasLaw S p1 = some r) : Met l yX0_hasLaw wsX0_hasLaw ({ frames := 4, cells := 0, slots := 0, locals := 91 }) (va_Pc [.ref (a 0), .int p1] (PXs (dC, dI) cA a S)) (pQi r) 0 0 (fun _ => False) := by
  refine Met.ofW (cc := cX0_hasLaw) (maxL := 3) (ret := (some .boolean)) (by decide) rfl ?_
  intro p e s m args below meth c s₁ B hml hv
  obtain ⟨rfl, hP, hK⟩ := hv
  have hx := B.exec
  have hb := B.bytes
  have hr := B.returns
  have hts := atoms_spec (ws := wsX0_hasLaw) B.pre
  have hown : s.vm.findClass RX0 = some m.cls := findClass_of_methodNamed B.named
  have hlocks := B.notSynchronized
  have hl := lv_entry ([.ref (a 0), .int p1]) (n := 3) (Nat.le_of_ble_eq_true rfl)
  rw [lg_entry_eq]
  generalize (lg_sl ([.ref (a 0), .int p1]) ++ List.replicate (3 - (lg_sl ([.ref (a 0), .int p1])).length) Slot.unset).toArray = ls at hl ⊢
  have hl : lv_has ls 3 [(0, .ref (a 0)), (1, .int p1)] := hl
  have hW2 : ∀ (k2 : Nat) (x2 : Int32) (ls : Array Slot), f_X0_hasLaw_2 S p1 k2 x2 = some r → lv_has ls 3 [(0, .ref (a 0)), (1, .int p1), (2, .int x2)] → W p l e (headSpec wsX0_hasLaw ({ frames := 4, cells := 0, slots := 0, locals := 91 })).room s m ([.ref (a 0), .int p1] : List Value).toArray below meth c s.heap [] 0 0 (MQ below (pQi r) ([.ref (a 0), .int p1] : List Value).toArray s 0 0 (fun _ => False)) (F0 m 2 ls []) := by
    intro k2
    induction k2 with
    | zero =>
      intro x2 ls hf hl
      rw [f_X0_hasLaw_2] at hf
      cases hf
    | succ k2 ih2 =>
      intro x2 ls hf hl
      rw [f_X0_hasLaw_2] at hf
      refine lv_iload_n hx hb dX0_hasLaw_2 rfl (lv_at hl 2 rfl) ?_
      refine lv_aload_n hx hb dX0_hasLaw_3 rfl (lv_at hl 0 rfl) ?_
      refine pu_V (As := []) (rest := [.int x2]) ⟨hx, hb, hml, hown, hts⟩ (k_X0_sets l dC dI cA a S  _ rfl) gX0_hasLaw_X0_sets rfl rfl rfl cd_X0_sets (Nat.le_of_ble_eq_true rfl) (Nat.le_of_ble_eq_true rfl) (preX hK hP) rfl hl.1 rfl (Nat.le_of_ble_eq_true rfl) (Nat.zero_le _) (Nat.zero_le _) dX0_hasLaw_4 ?_
      refine lv_icmp_ge (tgt := 27) hx hb dX0_hasLaw_7 (by decide) (fun c1 => ?_) (fun c1 => ?_)
      · rw [if_pos c1] at hf
        refine lv_iconst (v := 1) hx hb dX0_hasLaw_27 (by decide) ?_
        have hf := Option.some.inj hf; subst hf
        exact W.zret hx hb hr rfl (fun t ht hW => ⟨rfl, ht⟩) (fun q h => by cases h) dX0_hasLaw_28
      · rw [if_neg c1] at hf
        refine lv_aload_n hx hb dX0_hasLaw_10 rfl (lv_at hl 0 rfl) ?_
        refine lv_iload_n hx hb dX0_hasLaw_11 rfl (lv_at hl 1 rfl) ?_
        refine lv_iload_n hx hb dX0_hasLaw_12 rfl (lv_at hl 2 rfl) ?_
        obtain ⟨v2, hv2, hf⟩ := ob_some hf
        refine pu_V (As := [.int p1, .int x2]) (rest := []) ⟨hx, hb, hml, hown, hts⟩ (k_X0_hasLawAbove l dC dI cA a S p1 x2 _ hv2) gX0_hasLaw_X0_hasLawAbove rfl rfl rfl cd_X0_hasLawAbove (Nat.le_of_ble_eq_true rfl) (Nat.le_of_ble_eq_true rfl) (preX hK hP) rfl hl.1 rfl (Nat.le_of_ble_eq_true rfl) (Nat.zero_le _) (Nat.zero_le _) dX0_hasLaw_13 ?_
        refine lv_if_ne (tgt := 21) hx hb dX0_hasLaw_16 (by decide) (fun c3 => ?_) (fun c3 => ?_)
        · rw [if_neg c3] at hf
          obtain ⟨y4, ey4⟩ : ∃ y : Int32, y = (x2 + 1) := ⟨_, rfl⟩
          have hf := bnd_at hf ey4
          refine lv_iinc (v := y4) (lv' := [(2, .int y4), (0, .ref (a 0)), (1, .int p1)]) hx hb dX0_hasLaw_21 hl (k := 2) rfl (by rw [ey4]; rfl) (by decide) rfl (fun ls hl => ?_)
          refine lv_goto (tgt := 2) hx hb dX0_hasLaw_24 (by decide) ?_
          exact ih2 y4 ls hf (lv_sub hl [1, 2, 0] rfl)
        · rw [if_pos c3] at hf
          refine lv_iconst (v := 0) hx hb dX0_hasLaw_19 (by decide) ?_
          have hf := Option.some.inj hf; subst hf
          exact W.zret hx hb hr rfl (fun t ht hW => ⟨rfl, ht⟩) (fun q h => by cases h) dX0_hasLaw_20
  unfold f_X0_hasLaw at hf
  refine lv_iconst (v := 0) hx hb dX0_hasLaw_0 (by decide) ?_
  refine lv_istore_n (lv' := [(2, .int 0), (0, .ref (a 0)), (1, .int p1)]) hx hb dX0_hasLaw_1 rfl hl (by decide) rfl (fun ls hl => ?_)
  exact hW2 70 0 ls hf (lv_sub hl [1, 2, 0] rfl)
theorem cd_X0_takenIn : yX0_takenIn.cls = RX0 ∧ yX0_takenIn.cls ≠ "java/lang/invoke/MethodHandle" ∧ yX0_takenIn.cls ≠ "java/lang/invoke/VarHandle" ∧ (parseMethodDescriptor yX0_takenIn.desc).map (fun d => d.parameters.length) = some 4 := by decide +kernel
set_option maxHeartbeats 4000000 in
set_option maxRecDepth 100000 in
theorem k_X0_takenIn (l : Launch) (dC : Nat → ClassId) (dI : Nat → Nat → Nat) (cA : ClassId) (a : Nat → Nat) (S : St) (p1 : Int32) (p2 : Int32) (p3 : Int32) (p4 : Int32) (r : Int32) (hf : f_X0_takenIn S p1 p2 p3 p4 = some r) : Met l yX0_takenIn wsX0_takenIn ({ frames := 3, cells := 0, slots := 0, locals := 66 }) (va_Pc [.ref (a 0), .int p1, .int p2, .int p3, .int p4] (PXs (dC, dI) cA a S)) (pQi r) 0 0 (fun _ => False) := by
  refine Met.ofW (cc := cX0_takenIn) (maxL := 8) (ret := (some .int)) (by decide) rfl ?_
  intro p e s m args below meth c s₁ B hml hv
  obtain ⟨rfl, hP, hK⟩ := hv
  have hx := B.exec
  have hb := B.bytes
  have hr := B.returns
  have hts := atoms_spec (ws := wsX0_takenIn) B.pre
  have hown : s.vm.findClass RX0 = some m.cls := findClass_of_methodNamed B.named
  have hlocks := B.notSynchronized
  have hin : ∀ w ∈ u_ws RX0 TX0 12, w ∈ wsX0_takenIn := by decide +kernel
  have hw0 := hts (.fieldLink RX0 9 "Submodulary" "elements" "I") (by decide +kernel)
  have hl := lv_entry ([.ref (a 0), .int p1, .int p2, .int p3, .int p4]) (n := 8) (Nat.le_of_ble_eq_true rfl)
  rw [lg_entry_eq]
  generalize (lg_sl ([.ref (a 0), .int p1, .int p2, .int p3, .int p4]) ++ List.replicate (8 - (lg_sl ([.ref (a 0), .int p1, .int p2, .int p3, .int p4])).length) Slot.unset).toArray = ls at hl ⊢
  have hl : lv_has ls 8 [(0, .ref (a 0)), (1, .int p1), (2, .int p2), (3, .int p3), (4, .int p4)] := hl
  have hW6 : ∀ (k6 : Nat) (x5 x6 : Int32) (ls : Array Slot), f_X0_takenIn_6 S p1 p2 p3 p4 k6 x5 x6 = some r → lv_has ls 8 [(0, .ref (a 0)), (1, .int p1), (2, .int p2), (3, .int p3), (4, .int p4), (5, .int x5), (6, .int x6)] → W p l e (headSpec wsX0_takenIn ({ frames := 3, cells := 0, slots := 0, locals := 66 })).room s m ([.ref (a 0), .int p1, .int p2, .int p3, .int p4] : List Value).toArray below meth c s.heap [] 0 0 (MQ below (pQi r) ([.ref (a 0), .int p1, .int p2, .int p3, .int p4] : List Value).toArray s 0 0 (fun _ => False)) (F0 m 6 ls []) := by
    intro k6
    induction k6 with
    | zero =>
      intro x5 x6 ls hf hl
      rw [f_X0_takenIn_6] at hf
      cases hf
    | succ k6 ih6 =>
      have hW60 : ∀ (x5 x6 : Int32) (ls : Array Slot), f_X0_takenIn_60 S p1 p2 p3 p4 (f_X0_takenIn_6 S p1 p2 p3 p4 k6) x5 x6 = some r → lv_has ls 8 [(0, .ref (a 0)), (1, .int p1), (2, .int p2), (3, .int p3), (4, .int p4), (5, .int x5), (6, .int x6)] → W p l e (headSpec wsX0_takenIn ({ frames := 3, cells := 0, slots := 0, locals := 66 })).room s m ([.ref (a 0), .int p1, .int p2, .int p3, .int p4] : List Value).toArray below meth c s.heap [] 0 0 (MQ below (pQi r) ([.ref (a 0), .int p1, .int p2, .int p3, .int p4] : List Value).toArray s 0 0 (fun _ => False)) (F0 m 60 ls []) := by
        intro x5 x6 ls hf hl
        unfold f_X0_takenIn_60 at hf
        refine lv_iload hx hb dX0_takenIn_60 (lv_at hl 5 rfl) ?_
        refine lv_iload hx hb dX0_takenIn_62 (lv_at hl 6 rfl) ?_
        refine pu_S (As := [.int x5, .int x6]) (rest := []) ⟨hx, hb, hml, hown, hts⟩ (k_X0_with l x5 x6 _ rfl) gX0_takenIn_X0_with rfl rfl rfl cd_X0_with (Nat.le_of_ble_eq_true rfl) (Nat.le_of_ble_eq_true rfl) (preT) rfl hl.1 rfl (Nat.le_of_ble_eq_true rfl) (Nat.zero_le _) (Nat.zero_le _) dX0_takenIn_64 ?_
        refine lv_topi (fun y1 ey1 => ?_)
        have hf := bnd_at hf ey1
        refine lv_istore (lv' := [(5, .int y1), (0, .ref (a 0)), (1, .int p1), (2, .int p2), (3, .int p3), (4, .int p4), (6, .int x6)]) hx hb dX0_takenIn_67 hl (by decide) rfl (fun ls hl => ?_)
        obtain ⟨y2, ey2⟩ : ∃ y : Int32, y = (x6 + 1) := ⟨_, rfl⟩
        have hf := bnd_at hf ey2
        refine lv_iinc (v := y2) (lv' := [(6, .int y2), (5, .int y1), (0, .ref (a 0)), (1, .int p1), (2, .int p2), (3, .int p3), (4, .int p4)]) hx hb dX0_takenIn_69 hl (k := 6) rfl (by rw [ey2]; rfl) (by decide) rfl (fun ls hl => ?_)
        refine lv_goto (tgt := 6) hx hb dX0_takenIn_72 (by decide) ?_
        exact ih6 y1 y2 ls hf (lv_sub hl [2, 3, 4, 5, 6, 1, 0] rfl)
      intro x5 x6 ls hf hl
      rw [f_X0_takenIn_6] at hf
      refine lv_iload hx hb dX0_takenIn_6 (lv_at hl 6 rfl) ?_
      refine lv_aload_n hx hb dX0_takenIn_8 rfl (lv_at hl 0 rfl) ?_
      refine gfX hx hb hts hin hown hK hP 0 (by decide) hw0 rfl rfl dX0_takenIn_9 ?_
      refine lv_icmp_ge (tgt := 75) hx hb dX0_takenIn_12 (by decide) (fun c3 => ?_) (fun c3 => ?_)
      · rw [if_pos c3] at hf
        refine lv_iload hx hb dX0_takenIn_75 (lv_at hl 5 rfl) ?_
        have hf := Option.some.inj hf; subst hf
        exact W.iret hx hb hr (fun t ht hW => ⟨rfl, ht⟩) (fun q h => by cases h) dX0_takenIn_77
      · rw [if_neg c3] at hf
        refine lv_iload_n hx hb dX0_takenIn_15 rfl (lv_at hl 3 rfl) ?_
        refine lv_iload hx hb dX0_takenIn_16 (lv_at hl 6 rfl) ?_
        refine pu_S (As := [.int p3, .int x6]) (rest := []) ⟨hx, hb, hml, hown, hts⟩ (k_X0_has l p3 x6 _ rfl) gX0_takenIn_X0_has rfl rfl rfl cd_X0_has (Nat.le_of_ble_eq_true rfl) (Nat.le_of_ble_eq_true rfl) (preT) rfl hl.1 rfl (Nat.le_of_ble_eq_true rfl) (Nat.zero_le _) (Nat.zero_le _) dX0_takenIn_18 ?_
        refine lv_if_eq (tgt := 69) hx hb dX0_takenIn_21 (by decide) (fun c4 => ?_) (fun c4 => ?_)
        · rw [if_pos c4] at hf
          obtain ⟨y5, ey5⟩ : ∃ y : Int32, y = (x6 + 1) := ⟨_, rfl⟩
          have hf := bnd_at hf ey5
          refine lv_iinc (v := y5) (lv' := [(6, .int y5), (0, .ref (a 0)), (1, .int p1), (2, .int p2), (3, .int p3), (4, .int p4), (5, .int x5)]) hx hb dX0_takenIn_69 hl (k := 6) rfl (by rw [ey5]; rfl) (by decide) rfl (fun ls hl => ?_)
          refine lv_goto (tgt := 6) hx hb dX0_takenIn_72 (by decide) ?_
          exact ih6 x5 y5 ls hf (lv_sub hl [1, 2, 3, 4, 5, 6, 0] rfl)
        · rw [if_neg c4] at hf
          refine lv_iload hx hb dX0_takenIn_24 (lv_at hl 5 rfl) ?_
          refine lv_iload hx hb dX0_takenIn_26 (lv_at hl 6 rfl) ?_
          refine pu_S (As := [.int x5, .int x6]) (rest := []) ⟨hx, hb, hml, hown, hts⟩ (k_X0_has l x5 x6 _ rfl) gX0_takenIn_X0_has rfl rfl rfl cd_X0_has (Nat.le_of_ble_eq_true rfl) (Nat.le_of_ble_eq_true rfl) (preT) rfl hl.1 rfl (Nat.le_of_ble_eq_true rfl) (Nat.zero_le _) (Nat.zero_le _) dX0_takenIn_28 ?_
          refine lv_if_ne (tgt := 69) hx hb dX0_takenIn_31 (by decide) (fun c6 => ?_) (fun c6 => ?_)
          · rw [if_neg c6] at hf
            obtain ⟨y7, ey7⟩ : ∃ y : Int32, y = (x6 + 1) := ⟨_, rfl⟩
            have hf := bnd_at hf ey7
            refine lv_iinc (v := y7) (lv' := [(6, .int y7), (0, .ref (a 0)), (1, .int p1), (2, .int p2), (3, .int p3), (4, .int p4), (5, .int x5)]) hx hb dX0_takenIn_69 hl (k := 6) rfl (by rw [ey7]; rfl) (by decide) rfl (fun ls hl => ?_)
            refine lv_goto (tgt := 6) hx hb dX0_takenIn_72 (by decide) ?_
            exact ih6 x5 y7 ls hf (lv_sub hl [1, 2, 3, 4, 5, 6, 0] rfl)
          · rw [if_pos c6] at hf
            refine lv_aload_n hx hb dX0_takenIn_34 rfl (lv_at hl 0 rfl) ?_
            refine lv_iload_n hx hb dX0_takenIn_35 rfl (lv_at hl 1 rfl) ?_
            refine lv_iload hx hb dX0_takenIn_36 (lv_at hl 5 rfl) ?_
            refine lv_iload hx hb dX0_takenIn_38 (lv_at hl 6 rfl) ?_
            refine pu_V (As := [.int p1, .int x5, .int x6]) (rest := []) ⟨hx, hb, hml, hown, hts⟩ (k_X0_gain l dC dI cA a S p1 x5 x6 _ rfl) gX0_takenIn_X0_gain rfl rfl rfl cd_X0_gain (Nat.le_of_ble_eq_true rfl) (Nat.le_of_ble_eq_true rfl) (preX hK hP) rfl hl.1 rfl (Nat.le_of_ble_eq_true rfl) (Nat.zero_le _) (Nat.zero_le _) dX0_takenIn_40 ?_
            refine lv_topi (fun y8 ey8 => ?_)
            have hf := bnd_at hf ey8
            refine lv_istore (lv' := [(7, .int y8), (0, .ref (a 0)), (1, .int p1), (2, .int p2), (3, .int p3), (4, .int p4), (5, .int x5), (6, .int x6)]) hx hb dX0_takenIn_43 hl (by decide) rfl (fun ls hl => ?_)
            refine lv_iload hx hb dX0_takenIn_45 (lv_at hl 0 rfl) ?_
            refine lv_if_lt (tgt := 60) hx hb dX0_takenIn_47 (by decide) (fun c9 => ?_) (fun c9 => ?_)
            · rw [if_pos c9] at hf
              exact hW60 x5 x6 ls hf (lv_sub hl [1, 2, 3, 4, 5, 6, 7] rfl)
            · rw [if_neg c9] at hf
              refine lv_iload hx hb dX0_takenIn_50 (lv_at hl 0 rfl) ?_
              refine lv_if_ne (tgt := 69) hx hb dX0_takenIn_52 (by decide) (fun c10 => ?_) (fun c10 => ?_)
              · rw [if_neg c10] at hf
                obtain ⟨y11, ey11⟩ : ∃ y : Int32, y = (x6 + 1) := ⟨_, rfl⟩
                have hf := bnd_at hf ey11
                refine lv_iinc (v := y11) (lv' := [(6, .int y11), (7, .int y8), (0, .ref (a 0)), (1, .int p1), (2, .int p2), (3, .int p3), (4, .int p4), (5, .int x5)]) hx hb dX0_takenIn_69 hl (k := 7) rfl (by rw [ey11]; rfl) (by decide) rfl (fun ls hl => ?_)
                refine lv_goto (tgt := 6) hx hb dX0_takenIn_72 (by decide) ?_
                exact ih6 x5 y11 ls hf (lv_sub hl [2, 3, 4, 5, 6, 7, 0] rfl)
              · rw [if_pos c10] at hf
                refine lv_iload hx hb dX0_takenIn_55 (lv_at hl 5 rfl) ?_
                refine lv_if_eq (tgt := 69) hx hb dX0_takenIn_57 (by decide) (fun c12 => ?_) (fun c12 => ?_)
                · rw [if_pos c12] at hf
                  obtain ⟨y13, ey13⟩ : ∃ y : Int32, y = (x6 + 1) := ⟨_, rfl⟩
                  have hf := bnd_at hf ey13
                  refine lv_iinc (v := y13) (lv' := [(6, .int y13), (7, .int y8), (0, .ref (a 0)), (1, .int p1), (2, .int p2), (3, .int p3), (4, .int p4), (5, .int x5)]) hx hb dX0_takenIn_69 hl (k := 7) rfl (by rw [ey13]; rfl) (by decide) rfl (fun ls hl => ?_)
                  refine lv_goto (tgt := 6) hx hb dX0_takenIn_72 (by decide) ?_
                  exact ih6 x5 y13 ls hf (lv_sub hl [2, 3, 4, 5, 6, 7, 0] rfl)
                · rw [if_neg c12] at hf
                  exact hW60 x5 x6 ls hf (lv_sub hl [1, 2, 3, 4, 5, 6, 7] rfl)
  unfold f_X0_takenIn at hf
  refine lv_iload_n hx hb dX0_takenIn_0 rfl (lv_at hl 2 rfl) ?_
  refine lv_istore (lv' := [(5, .int p2), (0, .ref (a 0)), (1, .int p1), (2, .int p2), (3, .int p3), (4, .int p4)]) hx hb dX0_takenIn_1 hl (by decide) rfl (fun ls hl => ?_)
  refine lv_iconst (v := 0) hx hb dX0_takenIn_3 (by decide) ?_
  refine lv_istore (lv' := [(6, .int 0), (5, .int p2), (0, .ref (a 0)), (1, .int p1), (2, .int p2), (3, .int p3), (4, .int p4)]) hx hb dX0_takenIn_4 hl (by decide) rfl (fun ls hl => ?_)
  exact hW6 70 p2 0 ls hf (lv_sub hl [2, 3, 4, 5, 6, 1, 0] rfl)
theorem cd_X0_takenOut : yX0_takenOut.cls = RX0 ∧ yX0_takenOut.cls ≠ "java/lang/invoke/MethodHandle" ∧ yX0_takenOut.cls ≠ "java/lang/invoke/VarHandle" ∧ (parseMethodDescriptor yX0_takenOut.desc).map (fun d => d.parameters.length) = some 4 := by decide +kernel
set_option maxHeartbeats 4000000 in
set_option maxRecDepth 100000 in
theorem k_X0_takenOut (l : Launch) (dC : Nat → ClassId) (dI : Nat → Nat → Nat) (cA : ClassId) (a : Nat → Nat) (S : St) (p1 : Int32) (p2 : Int32) (p3 : Int32) (p4 : Int32) (r : Int32) (hf : f_X0_takenOut S p1 p2 p3 p4 = some r) : Met l yX0_takenOut wsX0_takenOut ({ frames := 3, cells := 0, slots := 0, locals := 66 }) (va_Pc [.ref (a 0), .int p1, .int p2, .int p3, .int p4] (PXs (dC, dI) cA a S)) (pQi r) 0 0 (fun _ => False) := by
  refine Met.ofW (cc := cX0_takenOut) (maxL := 8) (ret := (some .int)) (by decide) rfl ?_
  intro p e s m args below meth c s₁ B hml hv
  obtain ⟨rfl, hP, hK⟩ := hv
  have hx := B.exec
  have hb := B.bytes
  have hr := B.returns
  have hts := atoms_spec (ws := wsX0_takenOut) B.pre
  have hown : s.vm.findClass RX0 = some m.cls := findClass_of_methodNamed B.named
  have hlocks := B.notSynchronized
  have hin : ∀ w ∈ u_ws RX0 TX0 12, w ∈ wsX0_takenOut := by decide +kernel
  have hw0 := hts (.fieldLink RX0 9 "Submodulary" "elements" "I") (by decide +kernel)
  have hl := lv_entry ([.ref (a 0), .int p1, .int p2, .int p3, .int p4]) (n := 8) (Nat.le_of_ble_eq_true rfl)
  rw [lg_entry_eq]
  generalize (lg_sl ([.ref (a 0), .int p1, .int p2, .int p3, .int p4]) ++ List.replicate (8 - (lg_sl ([.ref (a 0), .int p1, .int p2, .int p3, .int p4])).length) Slot.unset).toArray = ls at hl ⊢
  have hl : lv_has ls 8 [(0, .ref (a 0)), (1, .int p1), (2, .int p2), (3, .int p3), (4, .int p4)] := hl
  have hW6 : ∀ (k6 : Nat) (x5 x6 : Int32) (ls : Array Slot), f_X0_takenOut_6 S p1 p2 p3 p4 k6 x5 x6 = some r → lv_has ls 8 [(0, .ref (a 0)), (1, .int p1), (2, .int p2), (3, .int p3), (4, .int p4), (5, .int x5), (6, .int x6)] → W p l e (headSpec wsX0_takenOut ({ frames := 3, cells := 0, slots := 0, locals := 66 })).room s m ([.ref (a 0), .int p1, .int p2, .int p3, .int p4] : List Value).toArray below meth c s.heap [] 0 0 (MQ below (pQi r) ([.ref (a 0), .int p1, .int p2, .int p3, .int p4] : List Value).toArray s 0 0 (fun _ => False)) (F0 m 6 ls []) := by
    intro k6
    induction k6 with
    | zero =>
      intro x5 x6 ls hf hl
      rw [f_X0_takenOut_6] at hf
      cases hf
    | succ k6 ih6 =>
      have hW65 : ∀ (x5 x6 : Int32) (ls : Array Slot), f_X0_takenOut_65 S p1 p2 p3 p4 (f_X0_takenOut_6 S p1 p2 p3 p4 k6) x5 x6 = some r → lv_has ls 8 [(0, .ref (a 0)), (1, .int p1), (2, .int p2), (3, .int p3), (4, .int p4), (5, .int x5), (6, .int x6)] → W p l e (headSpec wsX0_takenOut ({ frames := 3, cells := 0, slots := 0, locals := 66 })).room s m ([.ref (a 0), .int p1, .int p2, .int p3, .int p4] : List Value).toArray below meth c s.heap [] 0 0 (MQ below (pQi r) ([.ref (a 0), .int p1, .int p2, .int p3, .int p4] : List Value).toArray s 0 0 (fun _ => False)) (F0 m 65 ls []) := by
        intro x5 x6 ls hf hl
        unfold f_X0_takenOut_65 at hf
        refine lv_iload hx hb dX0_takenOut_65 (lv_at hl 5 rfl) ?_
        refine lv_iload hx hb dX0_takenOut_67 (lv_at hl 6 rfl) ?_
        refine pu_S (As := [.int x5, .int x6]) (rest := []) ⟨hx, hb, hml, hown, hts⟩ (k_X0_without l x5 x6 _ rfl) gX0_takenOut_X0_without rfl rfl rfl cd_X0_without (Nat.le_of_ble_eq_true rfl) (Nat.le_of_ble_eq_true rfl) (preT) rfl hl.1 rfl (Nat.le_of_ble_eq_true rfl) (Nat.zero_le _) (Nat.zero_le _) dX0_takenOut_69 ?_
        refine lv_topi (fun y1 ey1 => ?_)
        have hf := bnd_at hf ey1
        refine lv_istore (lv' := [(5, .int y1), (0, .ref (a 0)), (1, .int p1), (2, .int p2), (3, .int p3), (4, .int p4), (6, .int x6)]) hx hb dX0_takenOut_72 hl (by decide) rfl (fun ls hl => ?_)
        obtain ⟨y2, ey2⟩ : ∃ y : Int32, y = (x6 + 1) := ⟨_, rfl⟩
        have hf := bnd_at hf ey2
        refine lv_iinc (v := y2) (lv' := [(6, .int y2), (5, .int y1), (0, .ref (a 0)), (1, .int p1), (2, .int p2), (3, .int p3), (4, .int p4)]) hx hb dX0_takenOut_74 hl (k := 6) rfl (by rw [ey2]; rfl) (by decide) rfl (fun ls hl => ?_)
        refine lv_goto (tgt := 6) hx hb dX0_takenOut_77 (by decide) ?_
        exact ih6 y1 y2 ls hf (lv_sub hl [2, 3, 4, 5, 6, 1, 0] rfl)
      intro x5 x6 ls hf hl
      rw [f_X0_takenOut_6] at hf
      refine lv_iload hx hb dX0_takenOut_6 (lv_at hl 6 rfl) ?_
      refine lv_aload_n hx hb dX0_takenOut_8 rfl (lv_at hl 0 rfl) ?_
      refine gfX hx hb hts hin hown hK hP 0 (by decide) hw0 rfl rfl dX0_takenOut_9 ?_
      refine lv_icmp_ge (tgt := 80) hx hb dX0_takenOut_12 (by decide) (fun c3 => ?_) (fun c3 => ?_)
      · rw [if_pos c3] at hf
        refine lv_iload hx hb dX0_takenOut_80 (lv_at hl 5 rfl) ?_
        have hf := Option.some.inj hf; subst hf
        exact W.iret hx hb hr (fun t ht hW => ⟨rfl, ht⟩) (fun q h => by cases h) dX0_takenOut_82
      · rw [if_neg c3] at hf
        refine lv_iload hx hb dX0_takenOut_15 (lv_at hl 5 rfl) ?_
        refine lv_iload hx hb dX0_takenOut_17 (lv_at hl 6 rfl) ?_
        refine pu_S (As := [.int x5, .int x6]) (rest := []) ⟨hx, hb, hml, hown, hts⟩ (k_X0_has l x5 x6 _ rfl) gX0_takenOut_X0_has rfl rfl rfl cd_X0_has (Nat.le_of_ble_eq_true rfl) (Nat.le_of_ble_eq_true rfl) (preT) rfl hl.1 rfl (Nat.le_of_ble_eq_true rfl) (Nat.zero_le _) (Nat.zero_le _) dX0_takenOut_19 ?_
        refine lv_if_eq (tgt := 74) hx hb dX0_takenOut_22 (by decide) (fun c4 => ?_) (fun c4 => ?_)
        · rw [if_pos c4] at hf
          obtain ⟨y5, ey5⟩ : ∃ y : Int32, y = (x6 + 1) := ⟨_, rfl⟩
          have hf := bnd_at hf ey5
          refine lv_iinc (v := y5) (lv' := [(6, .int y5), (0, .ref (a 0)), (1, .int p1), (2, .int p2), (3, .int p3), (4, .int p4), (5, .int x5)]) hx hb dX0_takenOut_74 hl (k := 6) rfl (by rw [ey5]; rfl) (by decide) rfl (fun ls hl => ?_)
          refine lv_goto (tgt := 6) hx hb dX0_takenOut_77 (by decide) ?_
          exact ih6 x5 y5 ls hf (lv_sub hl [1, 2, 3, 4, 5, 6, 0] rfl)
        · rw [if_neg c4] at hf
          refine lv_iload_n hx hb dX0_takenOut_25 rfl (lv_at hl 2 rfl) ?_
          refine lv_iload hx hb dX0_takenOut_26 (lv_at hl 6 rfl) ?_
          refine pu_S (As := [.int p2, .int x6]) (rest := []) ⟨hx, hb, hml, hown, hts⟩ (k_X0_has l p2 x6 _ rfl) gX0_takenOut_X0_has rfl rfl rfl cd_X0_has (Nat.le_of_ble_eq_true rfl) (Nat.le_of_ble_eq_true rfl) (preT) rfl hl.1 rfl (Nat.le_of_ble_eq_true rfl) (Nat.zero_le _) (Nat.zero_le _) dX0_takenOut_28 ?_
          refine lv_if_ne (tgt := 74) hx hb dX0_takenOut_31 (by decide) (fun c6 => ?_) (fun c6 => ?_)
          · rw [if_neg c6] at hf
            obtain ⟨y7, ey7⟩ : ∃ y : Int32, y = (x6 + 1) := ⟨_, rfl⟩
            have hf := bnd_at hf ey7
            refine lv_iinc (v := y7) (lv' := [(6, .int y7), (0, .ref (a 0)), (1, .int p1), (2, .int p2), (3, .int p3), (4, .int p4), (5, .int x5)]) hx hb dX0_takenOut_74 hl (k := 6) rfl (by rw [ey7]; rfl) (by decide) rfl (fun ls hl => ?_)
            refine lv_goto (tgt := 6) hx hb dX0_takenOut_77 (by decide) ?_
            exact ih6 x5 y7 ls hf (lv_sub hl [1, 2, 3, 4, 5, 6, 0] rfl)
          · rw [if_pos c6] at hf
            refine lv_aload_n hx hb dX0_takenOut_34 rfl (lv_at hl 0 rfl) ?_
            refine lv_iload_n hx hb dX0_takenOut_35 rfl (lv_at hl 1 rfl) ?_
            refine lv_iload hx hb dX0_takenOut_36 (lv_at hl 5 rfl) ?_
            refine lv_iload hx hb dX0_takenOut_38 (lv_at hl 6 rfl) ?_
            refine pu_S (As := [.int x5, .int x6]) (rest := [.int p1, .ref (a 0)]) ⟨hx, hb, hml, hown, hts⟩ (k_X0_without l x5 x6 _ rfl) gX0_takenOut_X0_without rfl rfl rfl cd_X0_without (Nat.le_of_ble_eq_true rfl) (Nat.le_of_ble_eq_true rfl) (preT) rfl hl.1 rfl (Nat.le_of_ble_eq_true rfl) (Nat.zero_le _) (Nat.zero_le _) dX0_takenOut_40 ?_
            refine lv_iload hx hb dX0_takenOut_43 (lv_at hl 6 rfl) ?_
            refine pu_V (As := [.int p1, .int (f_X0_without x5 x6), .int x6]) (rest := []) ⟨hx, hb, hml, hown, hts⟩ (k_X0_gain l dC dI cA a S p1 (f_X0_without x5 x6) x6 _ rfl) gX0_takenOut_X0_gain rfl rfl rfl cd_X0_gain (Nat.le_of_ble_eq_true rfl) (Nat.le_of_ble_eq_true rfl) (preX hK hP) rfl hl.1 rfl (Nat.le_of_ble_eq_true rfl) (Nat.zero_le _) (Nat.zero_le _) dX0_takenOut_45 ?_
            refine lv_topi (fun y8 ey8 => ?_)
            have hf := bnd_at hf ey8
            refine lv_istore (lv' := [(7, .int y8), (0, .ref (a 0)), (1, .int p1), (2, .int p2), (3, .int p3), (4, .int p4), (5, .int x5), (6, .int x6)]) hx hb dX0_takenOut_48 hl (by decide) rfl (fun ls hl => ?_)
            refine lv_iload hx hb dX0_takenOut_50 (lv_at hl 0 rfl) ?_
            refine lv_if_gt (tgt := 65) hx hb dX0_takenOut_52 (by decide) (fun c9 => ?_) (fun c9 => ?_)
            · rw [if_pos c9] at hf
              exact hW65 x5 x6 ls hf (lv_sub hl [1, 2, 3, 4, 5, 6, 7] rfl)
            · rw [if_neg c9] at hf
              refine lv_iload hx hb dX0_takenOut_55 (lv_at hl 0 rfl) ?_
              refine lv_if_ne (tgt := 74) hx hb dX0_takenOut_57 (by decide) (fun c10 => ?_) (fun c10 => ?_)
              · rw [if_neg c10] at hf
                obtain ⟨y11, ey11⟩ : ∃ y : Int32, y = (x6 + 1) := ⟨_, rfl⟩
                have hf := bnd_at hf ey11
                refine lv_iinc (v := y11) (lv' := [(6, .int y11), (7, .int y8), (0, .ref (a 0)), (1, .int p1), (2, .int p2), (3, .int p3), (4, .int p4), (5, .int x5)]) hx hb dX0_takenOut_74 hl (k := 7) rfl (by rw [ey11]; rfl) (by decide) rfl (fun ls hl => ?_)
                refine lv_goto (tgt := 6) hx hb dX0_takenOut_77 (by decide) ?_
                exact ih6 x5 y11 ls hf (lv_sub hl [2, 3, 4, 5, 6, 7, 0] rfl)
              · rw [if_pos c10] at hf
                refine lv_iload hx hb dX0_takenOut_60 (lv_at hl 5 rfl) ?_
                refine lv_if_ne (tgt := 74) hx hb dX0_takenOut_62 (by decide) (fun c12 => ?_) (fun c12 => ?_)
                · rw [if_neg c12] at hf
                  obtain ⟨y13, ey13⟩ : ∃ y : Int32, y = (x6 + 1) := ⟨_, rfl⟩
                  have hf := bnd_at hf ey13
                  refine lv_iinc (v := y13) (lv' := [(6, .int y13), (7, .int y8), (0, .ref (a 0)), (1, .int p1), (2, .int p2), (3, .int p3), (4, .int p4), (5, .int x5)]) hx hb dX0_takenOut_74 hl (k := 7) rfl (by rw [ey13]; rfl) (by decide) rfl (fun ls hl => ?_)
                  refine lv_goto (tgt := 6) hx hb dX0_takenOut_77 (by decide) ?_
                  exact ih6 x5 y13 ls hf (lv_sub hl [2, 3, 4, 5, 6, 7, 0] rfl)
                · rw [if_pos c12] at hf
                  exact hW65 x5 x6 ls hf (lv_sub hl [1, 2, 3, 4, 5, 6, 7] rfl)
  unfold f_X0_takenOut at hf
  refine lv_iload_n hx hb dX0_takenOut_0 rfl (lv_at hl 3 rfl) ?_
  refine lv_istore (lv' := [(5, .int p3), (0, .ref (a 0)), (1, .int p1), (2, .int p2), (3, .int p3), (4, .int p4)]) hx hb dX0_takenOut_1 hl (by decide) rfl (fun ls hl => ?_)
  refine lv_iconst (v := 0) hx hb dX0_takenOut_3 (by decide) ?_
  refine lv_istore (lv' := [(6, .int 0), (5, .int p3), (0, .ref (a 0)), (1, .int p1), (2, .int p2), (3, .int p3), (4, .int p4)]) hx hb dX0_takenOut_4 hl (by decide) rfl (fun ls hl => ?_)
  exact hW6 70 p3 0 ls hf (lv_sub hl [2, 3, 4, 5, 6, 1, 0] rfl)
theorem cd_X0_lowest : yX0_lowest.cls = RX0 ∧ yX0_lowest.cls ≠ "java/lang/invoke/MethodHandle" ∧ yX0_lowest.cls ≠ "java/lang/invoke/VarHandle" ∧ (parseMethodDescriptor yX0_lowest.desc).map (fun d => d.parameters.length) = some 1 := by decide +kernel
set_option maxHeartbeats 4000000 in
set_option maxRecDepth 100000 in
theorem k_X0_lowest (l : Launch) (dC : Nat → ClassId) (dI : Nat → Nat → Nat) (cA : ClassId) (a : Nat → Nat) (S : St) (p1 : Int32) (r : Int32) (hf : f_X0_lowest S p1 = some r) : Met l yX0_lowest wsX0_lowest ({ frames := 1, cells := 0, slots := 0, locals := 21 }) (va_Pc [.ref (a 0), .int p1] (PXs (dC, dI) cA a S)) (pQi r) 0 0 (fun _ => False) := by
  refine Met.ofW (cc := cX0_lowest) (maxL := 3) (ret := (some .int)) (by decide) rfl ?_
  intro p e s m args below meth c s₁ B hml hv
  obtain ⟨rfl, hP, hK⟩ := hv
  have hx := B.exec
  have hb := B.bytes
  have hr := B.returns
  have hts := atoms_spec (ws := wsX0_lowest) B.pre
  have hown : s.vm.findClass RX0 = some m.cls := findClass_of_methodNamed B.named
  have hlocks := B.notSynchronized
  have hin : ∀ w ∈ u_ws RX0 TX0 12, w ∈ wsX0_lowest := by decide +kernel
  have hw0 := hts (.fieldLink RX0 9 "Submodulary" "elements" "I") (by decide +kernel)
  have hl := lv_entry ([.ref (a 0), .int p1]) (n := 3) (Nat.le_of_ble_eq_true rfl)
  rw [lg_entry_eq]
  generalize (lg_sl ([.ref (a 0), .int p1]) ++ List.replicate (3 - (lg_sl ([.ref (a 0), .int p1])).length) Slot.unset).toArray = ls at hl ⊢
  have hl : lv_has ls 3 [(0, .ref (a 0)), (1, .int p1)] := hl
  have hW2 : ∀ (k2 : Nat) (x2 : Int32) (ls : Array Slot), f_X0_lowest_2 S p1 k2 x2 = some r → lv_has ls 3 [(0, .ref (a 0)), (1, .int p1), (2, .int x2)] → W p l e (headSpec wsX0_lowest ({ frames := 1, cells := 0, slots := 0, locals := 21 })).room s m ([.ref (a 0), .int p1] : List Value).toArray below meth c s.heap [] 0 0 (MQ below (pQi r) ([.ref (a 0), .int p1] : List Value).toArray s 0 0 (fun _ => False)) (F0 m 2 ls []) := by
    intro k2
    induction k2 with
    | zero =>
      intro x2 ls hf hl
      rw [f_X0_lowest_2] at hf
      cases hf
    | succ k2 ih2 =>
      intro x2 ls hf hl
      rw [f_X0_lowest_2] at hf
      refine lv_iload_n hx hb dX0_lowest_2 rfl (lv_at hl 2 rfl) ?_
      refine lv_aload_n hx hb dX0_lowest_3 rfl (lv_at hl 0 rfl) ?_
      refine gfX hx hb hts hin hown hK hP 0 (by decide) hw0 rfl rfl dX0_lowest_4 ?_
      refine lv_icmp_ge (tgt := 26) hx hb dX0_lowest_7 (by decide) (fun c1 => ?_) (fun c1 => ?_)
      · rw [if_pos c1] at hf
        refine lv_iconst (v := (-1)) hx hb dX0_lowest_26 (by decide) ?_
        have hf := Option.some.inj hf; subst hf
        exact W.iret hx hb hr (fun t ht hW => ⟨rfl, ht⟩) (fun q h => by cases h) dX0_lowest_27
      · rw [if_neg c1] at hf
        refine lv_iload_n hx hb dX0_lowest_10 rfl (lv_at hl 1 rfl) ?_
        refine lv_iload_n hx hb dX0_lowest_11 rfl (lv_at hl 2 rfl) ?_
        refine pu_S (As := [.int p1, .int x2]) (rest := []) ⟨hx, hb, hml, hown, hts⟩ (k_X0_has l p1 x2 _ rfl) gX0_lowest_X0_has rfl rfl rfl cd_X0_has (Nat.le_of_ble_eq_true rfl) (Nat.le_of_ble_eq_true rfl) (preT) rfl hl.1 rfl (Nat.le_of_ble_eq_true rfl) (Nat.zero_le _) (Nat.zero_le _) dX0_lowest_12 ?_
        refine lv_if_eq (tgt := 20) hx hb dX0_lowest_15 (by decide) (fun c2 => ?_) (fun c2 => ?_)
        · rw [if_pos c2] at hf
          obtain ⟨y3, ey3⟩ : ∃ y : Int32, y = (x2 + 1) := ⟨_, rfl⟩
          have hf := bnd_at hf ey3
          refine lv_iinc (v := y3) (lv' := [(2, .int y3), (0, .ref (a 0)), (1, .int p1)]) hx hb dX0_lowest_20 hl (k := 2) rfl (by rw [ey3]; rfl) (by decide) rfl (fun ls hl => ?_)
          refine lv_goto (tgt := 2) hx hb dX0_lowest_23 (by decide) ?_
          exact ih2 y3 ls hf (lv_sub hl [1, 2, 0] rfl)
        · rw [if_neg c2] at hf
          refine lv_iload_n hx hb dX0_lowest_18 rfl (lv_at hl 2 rfl) ?_
          have hf := Option.some.inj hf; subst hf
          exact W.iret hx hb hr (fun t ht hW => ⟨rfl, ht⟩) (fun q h => by cases h) dX0_lowest_19
  unfold f_X0_lowest at hf
  refine lv_iconst (v := 0) hx hb dX0_lowest_0 (by decide) ?_
  refine lv_istore_n (lv' := [(2, .int 0), (0, .ref (a 0)), (1, .int p1)]) hx hb dX0_lowest_1 rfl hl (by decide) rfl (fun ls hl => ?_)
  exact hW2 70 0 ls hf (lv_sub hl [1, 2, 0] rfl)
theorem cd_X0_leastBetween : yX0_leastBetween.cls = RX0 ∧ yX0_leastBetween.cls ≠ "java/lang/invoke/MethodHandle" ∧ yX0_leastBetween.cls ≠ "java/lang/invoke/VarHandle" ∧ (parseMethodDescriptor yX0_leastBetween.desc).map (fun d => d.parameters.length) = some 5 := by decide +kernel
set_option maxHeartbeats 4000000 in
set_option maxRecDepth 100000 in
theorem k_X0_leastBetween (l : Launch) (dC : Nat → ClassId) (dI : Nat → Nat → Nat) (cA : ClassId) (a : Nat → Nat) (S : St) : ∀ (d : Nat) (p1 : Int32) (p2 : Int32) (p3 : Int32) (p4 : Int32) (p5 : Int32) (r : Int32), f_X0_leastBetween S d p1 p2 p3 p4 p5 = some r → Met l yX0_leastBetween wsX0_leastBetween ({ frames := 4 + d, cells := 0, slots := 0, locals := 93 + d * 31 }) (va_Pc [.ref (a 0), .int p1, .int p2, .int p3, .int p4, .int p5] (PXs (dC, dI) cA a S)) (pQi r) 0 0 (fun _ => False) := by
  intro d
  induction d with
  | zero =>
    intro p1 p2 p3 p4 p5 r hf
    rw [f_X0_leastBetween] at hf
    cases hf
  | succ d ihd =>
    intro p1 p2 p3 p4 p5 r hf
    refine Met.ofW (cc := cX0_leastBetween) (maxL := 12) (ret := (some .int)) (by decide) rfl ?_
    intro p e s m args below meth c s₁ B hml hv
    obtain ⟨rfl, hP, hK⟩ := hv
    have hx := B.exec
    have hb := B.bytes
    have hr := B.returns
    have hts := atoms_spec (ws := wsX0_leastBetween) B.pre
    have hown : s.vm.findClass RX0 = some m.cls := findClass_of_methodNamed B.named
    have hlocks := B.notSynchronized
    have hin : ∀ w ∈ u_ws RX0 TX0 12, w ∈ wsX0_leastBetween := by decide +kernel
    have hw0 := hts (.fieldLink RX0 9 "Submodulary" "elements" "I") (by decide +kernel)
    have hl := lv_entry ([.ref (a 0), .int p1, .int p2, .int p3, .int p4, .int p5]) (n := 12) (Nat.le_of_ble_eq_true rfl)
    rw [lg_entry_eq]
    generalize (lg_sl ([.ref (a 0), .int p1, .int p2, .int p3, .int p4, .int p5]) ++ List.replicate (12 - (lg_sl ([.ref (a 0), .int p1, .int p2, .int p3, .int p4, .int p5])).length) Slot.unset).toArray = ls at hl ⊢
    have hl : lv_has ls 12 [(0, .ref (a 0)), (1, .int p1), (2, .int p2), (3, .int p3), (4, .int p4), (5, .int p5)] := hl
    have hW75 : ∀ (x6 x7 : Int32) (ls : Array Slot), f_X0_leastBetween_75 S p1 p2 p3 p4 p5 (f_X0_leastBetween S d) x6 x7 = some r → lv_has ls 12 [(0, .ref (a 0)), (1, .int p1), (2, .int p2), (3, .int p3), (4, .int p4), (5, .int p5), (6, .int x6), (7, .int x7)] → W p l e (headSpec wsX0_leastBetween ({ frames := 4 + (d + 1), cells := 0, slots := 0, locals := 93 + (d + 1) * 31 })).room s m ([.ref (a 0), .int p1, .int p2, .int p3, .int p4, .int p5] : List Value).toArray below meth c s.heap [] 0 0 (MQ below (pQi r) ([.ref (a 0), .int p1, .int p2, .int p3, .int p4, .int p5] : List Value).toArray s 0 0 (fun _ => False)) (F0 m 75 ls []) := by
      intro x6 x7 ls hf hl
      unfold f_X0_leastBetween_75 at hf
      refine lv_aload_n hx hb dX0_leastBetween_75 rfl (lv_at hl 0 rfl) ?_
      refine lv_iload hx hb dX0_leastBetween_76 (lv_at hl 7 rfl) ?_
      refine lv_iload hx hb dX0_leastBetween_78 (lv_at hl 6 rfl) ?_
      refine lv_iconst (v := (-1)) hx hb dX0_leastBetween_80 (by decide) ?_
      refine lv_ixor hx hb dX0_leastBetween_81 ?_
      refine lv_iand hx hb dX0_leastBetween_82 ?_
      obtain ⟨v1, hv1, hf⟩ := ob_some hf
      refine pu_V (As := [.int (x7 &&& (x6 ^^^ (-1)))]) (rest := []) ⟨hx, hb, hml, hown, hts⟩ (k_X0_lowest l dC dI cA a S (x7 &&& (x6 ^^^ (-1))) _ hv1) gX0_leastBetween_X0_lowest rfl rfl rfl cd_X0_lowest (by show 1 + 1 ≤ 4 + (d + 1); omega) (by show 8 + (3 + 11) + 21 ≤ 93 + (d + 1) * 31; omega) (preX hK hP) rfl hl.1 rfl (Nat.le_of_ble_eq_true rfl) (Nat.zero_le _) (Nat.zero_le _) dX0_leastBetween_83 ?_
      refine lv_istore (lv' := [(8, .int v1), (0, .ref (a 0)), (1, .int p1), (2, .int p2), (3, .int p3), (4, .int p4), (5, .int p5), (6, .int x6), (7, .int x7)]) hx hb dX0_leastBetween_86 hl (by decide) rfl (fun ls hl => ?_)
      refine lv_iload hx hb dX0_leastBetween_88 (lv_at hl 0 rfl) ?_
      refine lv_iconst (v := (-1)) hx hb dX0_leastBetween_90 (by decide) ?_
      refine lv_icmp_eq (tgt := 101) hx hb dX0_leastBetween_91 (by decide) (fun c2 => ?_) (fun c2 => ?_)
      · rw [if_pos c2] at hf
        refine lv_iload hx hb dX0_leastBetween_101 (lv_at hl 7 rfl) ?_
        have hf := Option.some.inj hf; subst hf
        exact W.iret hx hb hr (fun t ht hW => ⟨rfl, ht⟩) (fun q h => by cases h) dX0_leastBetween_103
      · rw [if_neg c2] at hf
        refine lv_iload hx hb dX0_leastBetween_94 (lv_at hl 6 rfl) ?_
        refine lv_bipush (v := 6) hx hb dX0_leastBetween_96 (by decide) ?_
        refine lv_icmp_lt (tgt := 104) hx hb dX0_leastBetween_98 (by decide) (fun c3 => ?_) (fun c3 => ?_)
        · rw [if_pos c3] at hf
          refine lv_aload_n hx hb dX0_leastBetween_104 rfl (lv_at hl 1 rfl) ?_
          refine lv_iload_n hx hb dX0_leastBetween_105 rfl (lv_at hl 2 rfl) ?_
          refine lv_iload hx hb dX0_leastBetween_106 (lv_at hl 7 rfl) ?_
          refine lv_iload hx hb dX0_leastBetween_108 (lv_at hl 0 rfl) ?_
          refine pu_S (As := [.int x6, .int v1]) (rest := [.int p1, .ref (a 0)]) ⟨hx, hb, hml, hown, hts⟩ (k_X0_with l x6 v1 _ rfl) gX0_leastBetween_X0_with rfl rfl rfl cd_X0_with (by show 0 + 1 ≤ 4 + (d + 1); omega) (by show 8 + (2 + 11) + 0 ≤ 93 + (d + 1) * 31; omega) (preT) rfl hl.1 rfl (Nat.le_of_ble_eq_true rfl) (Nat.zero_le _) (Nat.zero_le _) dX0_leastBetween_110 ?_
          refine lv_iload hx hb dX0_leastBetween_113 (lv_at hl 8 rfl) ?_
          refine lv_iload hx hb dX0_leastBetween_115 (lv_at hl 5 rfl) ?_
          refine lv_iload hx hb dX0_leastBetween_117 (lv_at hl 6 rfl) ?_
          refine lv_iconst (v := 1) hx hb dX0_leastBetween_119 (by decide) ?_
          refine lv_iadd hx hb dX0_leastBetween_120 ?_
          obtain ⟨v4, hv4, hf⟩ := ob_some hf
          refine pu_V (As := [.int p1, .int (f_X0_with x6 v1), .int x7, .int p4, .int (p5 + 1)]) (rest := []) ⟨hx, hb, hml, hown, hts⟩ (ihd p1 (f_X0_with x6 v1) x7 p4 (p5 + 1) _ hv4) gX0_leastBetween_X0_leastBetween rfl rfl rfl cd_X0_leastBetween (by show 4 + d + 1 ≤ 4 + (d + 1); omega) (by show 8 + (12 + 11) + (93 + d * 31) ≤ 93 + (d + 1) * 31; omega) (preX hK hP) rfl hl.1 rfl (Nat.le_of_ble_eq_true rfl) (Nat.zero_le _) (Nat.zero_le _) dX0_leastBetween_121 ?_
          refine lv_istore (lv' := [(9, .int v4), (8, .int v1), (0, .ref (a 0)), (1, .int p1), (2, .int p2), (3, .int p3), (4, .int p4), (5, .int p5), (6, .int x6), (7, .int x7)]) hx hb dX0_leastBetween_124 hl (by decide) rfl (fun ls hl => ?_)
          refine lv_aload_n hx hb dX0_leastBetween_126 rfl (lv_at hl 2 rfl) ?_
          refine lv_iload_n hx hb dX0_leastBetween_127 rfl (lv_at hl 3 rfl) ?_
          refine lv_iload hx hb dX0_leastBetween_128 (lv_at hl 8 rfl) ?_
          refine lv_iload hx hb dX0_leastBetween_130 (lv_at hl 9 rfl) ?_
          refine lv_iload hx hb dX0_leastBetween_132 (lv_at hl 1 rfl) ?_
          refine pu_S (As := [.int x7, .int v1]) (rest := [.int x6, .int p1, .ref (a 0)]) ⟨hx, hb, hml, hown, hts⟩ (k_X0_without l x7 v1 _ rfl) gX0_leastBetween_X0_without rfl rfl rfl cd_X0_without (by show 0 + 1 ≤ 4 + (d + 1); omega) (by show 8 + (2 + 11) + 0 ≤ 93 + (d + 1) * 31; omega) (preT) rfl hl.1 rfl (Nat.le_of_ble_eq_true rfl) (Nat.zero_le _) (Nat.zero_le _) dX0_leastBetween_134 ?_
          refine lv_iload hx hb dX0_leastBetween_137 (lv_at hl 6 rfl) ?_
          refine lv_iload hx hb dX0_leastBetween_139 (lv_at hl 7 rfl) ?_
          refine lv_iconst (v := 1) hx hb dX0_leastBetween_141 (by decide) ?_
          refine lv_iadd hx hb dX0_leastBetween_142 ?_
          obtain ⟨v5, hv5, hf⟩ := ob_some hf
          refine pu_V (As := [.int p1, .int x6, .int (f_X0_without x7 v1), .int p4, .int (p5 + 1)]) (rest := []) ⟨hx, hb, hml, hown, hts⟩ (ihd p1 x6 (f_X0_without x7 v1) p4 (p5 + 1) _ hv5) gX0_leastBetween_X0_leastBetween rfl rfl rfl cd_X0_leastBetween (by show 4 + d + 1 ≤ 4 + (d + 1); omega) (by show 8 + (12 + 11) + (93 + d * 31) ≤ 93 + (d + 1) * 31; omega) (preX hK hP) rfl hl.1 rfl (Nat.le_of_ble_eq_true rfl) (Nat.zero_le _) (Nat.zero_le _) dX0_leastBetween_143 ?_
          refine lv_istore (lv' := [(10, .int v5), (9, .int v4), (8, .int v1), (0, .ref (a 0)), (1, .int p1), (2, .int p2), (3, .int p3), (4, .int p4), (5, .int p5), (6, .int x6), (7, .int x7)]) hx hb dX0_leastBetween_146 hl (by decide) rfl (fun ls hl => ?_)
          refine lv_aload_n hx hb dX0_leastBetween_148 rfl (lv_at hl 3 rfl) ?_
          refine lv_iload_n hx hb dX0_leastBetween_149 rfl (lv_at hl 4 rfl) ?_
          refine lv_iload hx hb dX0_leastBetween_150 (lv_at hl 1 rfl) ?_
          refine pu_V (As := [.int p1, .int v4]) (rest := []) ⟨hx, hb, hml, hown, hts⟩ (k_X0_valueOf l dC dI cA a S p1 v4 _ rfl) gX0_leastBetween_X0_valueOf rfl rfl rfl cd_X0_valueOf (by show 1 + 1 ≤ 4 + (d + 1); omega) (by show 8 + (3 + 11) + 21 ≤ 93 + (d + 1) * 31; omega) (preX hK hP) rfl hl.1 rfl (Nat.le_of_ble_eq_true rfl) (Nat.zero_le _) (Nat.zero_le _) dX0_leastBetween_152 ?_
          refine lv_aload_n hx hb dX0_leastBetween_155 rfl (lv_at hl 3 rfl) ?_
          refine lv_iload_n hx hb dX0_leastBetween_156 rfl (lv_at hl 4 rfl) ?_
          refine lv_iload hx hb dX0_leastBetween_157 (lv_at hl 0 rfl) ?_
          refine pu_V (As := [.int p1, .int v5]) (rest := [.int (f_X0_valueOf S p1 v4)]) ⟨hx, hb, hml, hown, hts⟩ (k_X0_valueOf l dC dI cA a S p1 v5 _ rfl) gX0_leastBetween_X0_valueOf rfl rfl rfl cd_X0_valueOf (by show 1 + 1 ≤ 4 + (d + 1); omega) (by show 8 + (3 + 11) + 21 ≤ 93 + (d + 1) * 31; omega) (preX hK hP) rfl hl.1 rfl (Nat.le_of_ble_eq_true rfl) (Nat.zero_le _) (Nat.zero_le _) dX0_leastBetween_159 ?_
          refine lv_isub hx hb dX0_leastBetween_162 ?_
          refine lv_topi (fun y6 ey6 => ?_)
          have hf := bnd_at hf ey6
          refine lv_istore (lv' := [(11, .int y6), (10, .int v5), (9, .int v4), (8, .int v1), (0, .ref (a 0)), (1, .int p1), (2, .int p2), (3, .int p3), (4, .int p4), (5, .int p5), (6, .int x6), (7, .int x7)]) hx hb dX0_leastBetween_163 hl (by decide) rfl (fun ls hl => ?_)
          refine lv_iload hx hb dX0_leastBetween_165 (lv_at hl 0 rfl) ?_
          refine lv_if_lt (tgt := 180) hx hb dX0_leastBetween_167 (by decide) (fun c7 => ?_) (fun c7 => ?_)
          · rw [if_pos c7] at hf
            refine lv_iload hx hb dX0_leastBetween_180 (lv_at hl 2 rfl) ?_
            refine lv_goto (tgt := 187) hx hb dX0_leastBetween_182 (by decide) ?_
            have hf := Option.some.inj hf; subst hf
            exact W.iret hx hb hr (fun t ht hW => ⟨rfl, ht⟩) (fun q h => by cases h) dX0_leastBetween_187
          · rw [if_neg c7] at hf
            refine lv_iload hx hb dX0_leastBetween_170 (lv_at hl 0 rfl) ?_
            refine lv_if_ne (tgt := 185) hx hb dX0_leastBetween_172 (by decide) (fun c8 => ?_) (fun c8 => ?_)
            · rw [if_neg c8] at hf
              refine lv_iload hx hb dX0_leastBetween_185 (lv_at hl 1 rfl) ?_
              have hf := Option.some.inj hf; subst hf
              exact W.iret hx hb hr (fun t ht hW => ⟨rfl, ht⟩) (fun q h => by cases h) dX0_leastBetween_187
            · rw [if_pos c8] at hf
              refine lv_iload hx hb dX0_leastBetween_175 (lv_at hl 8 rfl) ?_
              refine lv_if_eq (tgt := 185) hx hb dX0_leastBetween_177 (by decide) (fun c9 => ?_) (fun c9 => ?_)
              · rw [if_pos c9] at hf
                refine lv_iload hx hb dX0_leastBetween_185 (lv_at hl 1 rfl) ?_
                have hf := Option.some.inj hf; subst hf
                exact W.iret hx hb hr (fun t ht hW => ⟨rfl, ht⟩) (fun q h => by cases h) dX0_leastBetween_187
              · rw [if_neg c9] at hf
                refine lv_iload hx hb dX0_leastBetween_180 (lv_at hl 2 rfl) ?_
                refine lv_goto (tgt := 187) hx hb dX0_leastBetween_182 (by decide) ?_
                have hf := Option.some.inj hf; subst hf
                exact W.iret hx hb hr (fun t ht hW => ⟨rfl, ht⟩) (fun q h => by cases h) dX0_leastBetween_187
        · rw [if_neg c3] at hf
          refine lv_iload hx hb dX0_leastBetween_101 (lv_at hl 7 rfl) ?_
          have hf := Option.some.inj hf; subst hf
          exact W.iret hx hb hr (fun t ht hW => ⟨rfl, ht⟩) (fun q h => by cases h) dX0_leastBetween_103
    have hW9 : ∀ (k9 : Nat) (x6 x7 x8 : Int32) (ls : Array Slot), f_X0_leastBetween_9 S p1 p2 p3 p4 p5 (f_X0_leastBetween S d) k9 x6 x7 x8 = some r → lv_has ls 12 [(0, .ref (a 0)), (1, .int p1), (2, .int p2), (3, .int p3), (4, .int p4), (5, .int p5), (6, .int x6), (7, .int x7), (8, .int x8)] → W p l e (headSpec wsX0_leastBetween ({ frames := 4 + (d + 1), cells := 0, slots := 0, locals := 93 + (d + 1) * 31 })).room s m ([.ref (a 0), .int p1, .int p2, .int p3, .int p4, .int p5] : List Value).toArray below meth c s.heap [] 0 0 (MQ below (pQi r) ([.ref (a 0), .int p1, .int p2, .int p3, .int p4, .int p5] : List Value).toArray s 0 0 (fun _ => False)) (F0 m 9 ls []) := by
      intro k9
      induction k9 with
      | zero =>
        intro x6 x7 x8 ls hf hl
        rw [f_X0_leastBetween_9] at hf
        cases hf
      | succ k9 ih9 =>
        have hW61 : ∀ (x8 x9 x10 : Int32) (ls : Array Slot), f_X0_leastBetween_61 S p1 p2 p3 p4 p5 (f_X0_leastBetween S d) (f_X0_leastBetween_9 S p1 p2 p3 p4 p5 (f_X0_leastBetween S d) k9) x8 x9 x10 = some r → lv_has ls 12 [(0, .ref (a 0)), (1, .int p1), (2, .int p2), (3, .int p3), (4, .int p4), (5, .int p5), (8, .int x8), (9, .int x9), (10, .int x10)] → W p l e (headSpec wsX0_leastBetween ({ frames := 4 + (d + 1), cells := 0, slots := 0, locals := 93 + (d + 1) * 31 })).room s m ([.ref (a 0), .int p1, .int p2, .int p3, .int p4, .int p5] : List Value).toArray below meth c s.heap [] 0 0 (MQ below (pQi r) ([.ref (a 0), .int p1, .int p2, .int p3, .int p4, .int p5] : List Value).toArray s 0 0 (fun _ => False)) (F0 m 61 ls []) := by
          intro x8 x9 x10 ls hf hl
          unfold f_X0_leastBetween_61 at hf
          refine lv_iload hx hb dX0_leastBetween_61 (lv_at hl 7 rfl) ?_
          refine lv_istore (lv' := [(6, .int x9), (0, .ref (a 0)), (1, .int p1), (2, .int p2), (3, .int p3), (4, .int p4), (5, .int p5), (8, .int x8), (9, .int x9), (10, .int x10)]) hx hb dX0_leastBetween_63 hl (by decide) rfl (fun ls hl => ?_)
          refine lv_iload hx hb dX0_leastBetween_65 (lv_at hl 9 rfl) ?_
          refine lv_istore (lv' := [(7, .int x10), (6, .int x9), (0, .ref (a 0)), (1, .int p1), (2, .int p2), (3, .int p3), (4, .int p4), (5, .int p5), (8, .int x8), (9, .int x9), (10, .int x10)]) hx hb dX0_leastBetween_67 hl (by decide) rfl (fun ls hl => ?_)
          obtain ⟨y10, ey10⟩ : ∃ y : Int32, y = (x8 + 1) := ⟨_, rfl⟩
          have hf := bnd_at hf ey10
          refine lv_iinc (v := y10) (lv' := [(8, .int y10), (7, .int x10), (6, .int x9), (0, .ref (a 0)), (1, .int p1), (2, .int p2), (3, .int p3), (4, .int p4), (5, .int p5), (9, .int x9), (10, .int x10)]) hx hb dX0_leastBetween_69 hl (k := 8) rfl (by rw [ey10]; rfl) (by decide) rfl (fun ls hl => ?_)
          refine lv_goto (tgt := 9) hx hb dX0_leastBetween_72 (by decide) ?_
          exact ih9 x9 x10 y10 ls hf (lv_sub hl [3, 4, 5, 6, 7, 8, 2, 1, 0] rfl)
        intro x6 x7 x8 ls hf hl
        rw [f_X0_leastBetween_9] at hf
        refine lv_iload hx hb dX0_leastBetween_9 (lv_at hl 8 rfl) ?_
        refine lv_aload_n hx hb dX0_leastBetween_11 rfl (lv_at hl 0 rfl) ?_
        refine gfX hx hb hts hin hown hK hP 0 (by decide) hw0 rfl rfl dX0_leastBetween_12 ?_
        refine lv_icmp_ge (tgt := 75) hx hb dX0_leastBetween_15 (by decide) (fun c11 => ?_) (fun c11 => ?_)
        · rw [if_pos c11] at hf
          exact hW75 x6 x7 ls hf (lv_sub hl [0, 1, 2, 3, 4, 5, 6, 7] rfl)
        · rw [if_neg c11] at hf
          refine lv_aload_n hx hb dX0_leastBetween_18 rfl (lv_at hl 0 rfl) ?_
          refine lv_iload_n hx hb dX0_leastBetween_19 rfl (lv_at hl 1 rfl) ?_
          refine lv_iload hx hb dX0_leastBetween_20 (lv_at hl 6 rfl) ?_
          refine lv_iload hx hb dX0_leastBetween_22 (lv_at hl 7 rfl) ?_
          refine lv_iload hx hb dX0_leastBetween_24 (lv_at hl 4 rfl) ?_
          obtain ⟨v12, hv12, hf⟩ := ob_some hf
          refine pu_V (As := [.int p1, .int x6, .int x7, .int p4]) (rest := []) ⟨hx, hb, hml, hown, hts⟩ (k_X0_takenIn l dC dI cA a S p1 x6 x7 p4 _ hv12) gX0_leastBetween_X0_takenIn rfl rfl rfl cd_X0_takenIn (by show 3 + 1 ≤ 4 + (d + 1); omega) (by show 8 + (8 + 11) + 66 ≤ 93 + (d + 1) * 31; omega) (preX hK hP) rfl hl.1 rfl (Nat.le_of_ble_eq_true rfl) (Nat.zero_le _) (Nat.zero_le _) dX0_leastBetween_26 ?_
          refine lv_istore (lv' := [(9, .int v12), (0, .ref (a 0)), (1, .int p1), (2, .int p2), (3, .int p3), (4, .int p4), (5, .int p5), (6, .int x6), (7, .int x7), (8, .int x8)]) hx hb dX0_leastBetween_29 hl (by decide) rfl (fun ls hl => ?_)
          refine lv_aload_n hx hb dX0_leastBetween_31 rfl (lv_at hl 1 rfl) ?_
          refine lv_iload_n hx hb dX0_leastBetween_32 rfl (lv_at hl 2 rfl) ?_
          refine lv_iload hx hb dX0_leastBetween_33 (lv_at hl 0 rfl) ?_
          refine lv_iload hx hb dX0_leastBetween_35 (lv_at hl 8 rfl) ?_
          refine lv_iload hx hb dX0_leastBetween_37 (lv_at hl 5 rfl) ?_
          obtain ⟨v13, hv13, hf⟩ := ob_some hf
          refine pu_V (As := [.int p1, .int v12, .int x7, .int p4]) (rest := []) ⟨hx, hb, hml, hown, hts⟩ (k_X0_takenOut l dC dI cA a S p1 v12 x7 p4 _ hv13) gX0_leastBetween_X0_takenOut rfl rfl rfl cd_X0_takenOut (by show 3 + 1 ≤ 4 + (d + 1); omega) (by show 8 + (8 + 11) + 66 ≤ 93 + (d + 1) * 31; omega) (preX hK hP) rfl hl.1 rfl (Nat.le_of_ble_eq_true rfl) (Nat.zero_le _) (Nat.zero_le _) dX0_leastBetween_39 ?_
          refine lv_istore (lv' := [(10, .int v13), (9, .int v12), (0, .ref (a 0)), (1, .int p1), (2, .int p2), (3, .int p3), (4, .int p4), (5, .int p5), (6, .int x6), (7, .int x7), (8, .int x8)]) hx hb dX0_leastBetween_42 hl (by decide) rfl (fun ls hl => ?_)
          refine lv_iload hx hb dX0_leastBetween_44 (lv_at hl 1 rfl) ?_
          refine lv_iload hx hb dX0_leastBetween_46 (lv_at hl 8 rfl) ?_
          refine lv_icmp_ne (tgt := 61) hx hb dX0_leastBetween_48 (by decide) (fun c14 => ?_) (fun c14 => ?_)
          · rw [if_neg c14] at hf
            exact hW61 x8 v12 v13 ls hf (lv_sub hl [2, 3, 4, 5, 6, 7, 10, 1, 0] rfl)
          · rw [if_pos c14] at hf
            refine lv_iload hx hb dX0_leastBetween_51 (lv_at hl 0 rfl) ?_
            refine lv_iload hx hb dX0_leastBetween_53 (lv_at hl 9 rfl) ?_
            refine lv_icmp_ne (tgt := 61) hx hb dX0_leastBetween_55 (by decide) (fun c15 => ?_) (fun c15 => ?_)
            · rw [if_neg c15] at hf
              exact hW61 x8 v12 v13 ls hf (lv_sub hl [2, 3, 4, 5, 6, 7, 10, 1, 0] rfl)
            · rw [if_pos c15] at hf
              refine lv_goto (tgt := 75) hx hb dX0_leastBetween_58 (by decide) ?_
              exact hW75 x6 x7 ls hf (lv_sub hl [2, 3, 4, 5, 6, 7, 8, 9] rfl)
    rw [f_X0_leastBetween] at hf
    refine lv_iload_n hx hb dX0_leastBetween_0 rfl (lv_at hl 2 rfl) ?_
    refine lv_istore (lv' := [(6, .int p2), (0, .ref (a 0)), (1, .int p1), (2, .int p2), (3, .int p3), (4, .int p4), (5, .int p5)]) hx hb dX0_leastBetween_1 hl (by decide) rfl (fun ls hl => ?_)
    refine lv_iload_n hx hb dX0_leastBetween_3 rfl (lv_at hl 4 rfl) ?_
    refine lv_istore (lv' := [(7, .int p3), (6, .int p2), (0, .ref (a 0)), (1, .int p1), (2, .int p2), (3, .int p3), (4, .int p4), (5, .int p5)]) hx hb dX0_leastBetween_4 hl (by decide) rfl (fun ls hl => ?_)
    refine lv_iconst (v := 0) hx hb dX0_leastBetween_6 (by decide) ?_
    refine lv_istore (lv' := [(8, .int 0), (7, .int p3), (6, .int p2), (0, .ref (a 0)), (1, .int p1), (2, .int p2), (3, .int p3), (4, .int p4), (5, .int p5)]) hx hb dX0_leastBetween_7 hl (by decide) rfl (fun ls hl => ?_)
    exact hW9 70 p2 p3 0 ls hf (lv_sub hl [3, 4, 5, 6, 7, 8, 2, 1, 0] rfl)
theorem cd_X0_isTold : yX0_isTold.cls = RX0 ∧ yX0_isTold.cls ≠ "java/lang/invoke/MethodHandle" ∧ yX0_isTold.cls ≠ "java/lang/invoke/VarHandle" ∧ (parseMethodDescriptor yX0_isTold.desc).map (fun d => d.parameters.length) = some 1 := by decide +kernel
set_option maxHeartbeats 4000000 in
set_option maxRecDepth 100000 in
theorem k_X0_isTold (l : Launch) (dC : Nat → ClassId) (dI : Nat → Nat → Nat) (cA : ClassId) (a : Nat → Nat) (S : St) (p1 : Int32) (r : Int32) (hf : f_X0_isTold S p1 = some r) : Met l yX0_isTold wsX0_isTold ({ frames := 1, cells := 0, slots := 0, locals := 21 }) (va_Pc [.ref (a 0), .int p1] (PXs (dC, dI) cA a S)) (pQi r) 0 0 (fun _ => False) := by
  refine Met.ofW (cc := cX0_isTold) (maxL := 3) (ret := (some .boolean)) (by decide) rfl ?_
  intro p e s m args below meth c s₁ B hml hv
  obtain ⟨rfl, hP, hK⟩ := hv
  have hx := B.exec
  have hb := B.bytes
  have hr := B.returns
  have hts := atoms_spec (ws := wsX0_isTold) B.pre
  have hown : s.vm.findClass RX0 = some m.cls := findClass_of_methodNamed B.named
  have hlocks := B.notSynchronized
  have hin : ∀ w ∈ u_ws RX0 TX0 12, w ∈ wsX0_isTold := by decide +kernel
  have hw0 := hts (.fieldLink RX0 16 "Submodulary" "told" "I") (by decide +kernel)
  have hw1 := hts (.fieldLink RX0 38 "Submodulary" "ordered" "[I") (by decide +kernel)
  have hl := lv_entry ([.ref (a 0), .int p1]) (n := 3) (Nat.le_of_ble_eq_true rfl)
  rw [lg_entry_eq]
  generalize (lg_sl ([.ref (a 0), .int p1]) ++ List.replicate (3 - (lg_sl ([.ref (a 0), .int p1])).length) Slot.unset).toArray = ls at hl ⊢
  have hl : lv_has ls 3 [(0, .ref (a 0)), (1, .int p1)] := hl
  have hW2 : ∀ (k2 : Nat) (x2 : Int32) (ls : Array Slot), f_X0_isTold_2 S p1 k2 x2 = some r → lv_has ls 3 [(0, .ref (a 0)), (1, .int p1), (2, .int x2)] → W p l e (headSpec wsX0_isTold ({ frames := 1, cells := 0, slots := 0, locals := 21 })).room s m ([.ref (a 0), .int p1] : List Value).toArray below meth c s.heap [] 0 0 (MQ below (pQi r) ([.ref (a 0), .int p1] : List Value).toArray s 0 0 (fun _ => False)) (F0 m 2 ls []) := by
    intro k2
    induction k2 with
    | zero =>
      intro x2 ls hf hl
      rw [f_X0_isTold_2] at hf
      cases hf
    | succ k2 ih2 =>
      intro x2 ls hf hl
      rw [f_X0_isTold_2] at hf
      refine lv_iload_n hx hb dX0_isTold_2 rfl (lv_at hl 2 rfl) ?_
      refine lv_aload_n hx hb dX0_isTold_3 rfl (lv_at hl 0 rfl) ?_
      refine gfX hx hb hts hin hown hK hP 2 (by decide) hw0 rfl rfl dX0_isTold_4 ?_
      refine lv_icmp_ge (tgt := 30) hx hb dX0_isTold_7 (by decide) (fun c1 => ?_) (fun c1 => ?_)
      · rw [if_pos c1] at hf
        refine lv_iconst (v := 0) hx hb dX0_isTold_30 (by decide) ?_
        have hf := Option.some.inj hf; subst hf
        exact W.zret hx hb hr rfl (fun t ht hW => ⟨rfl, ht⟩) (fun q h => by cases h) dX0_isTold_31
      · rw [if_neg c1] at hf
        refine lv_aload_n hx hb dX0_isTold_10 rfl (lv_at hl 0 rfl) ?_
        refine gfX hx hb hts hin hown hK hP 9 (by decide) hw1 rfl rfl dX0_isTold_11 ?_
        refine lv_iload_n hx hb dX0_isTold_14 rfl (lv_at hl 2 rfl) ?_
        refine pu_S (As := [.ref (a 7), .int x2]) (rest := []) ⟨hx, hb, hml, hown, hts⟩ (k_X0_at l dC dI cA (a 7) 6 (S.2 6) x2 (by decide)) gX0_isTold_X0_at rfl rfl rfl cd_X0_at (Nat.le_of_ble_eq_true rfl) (Nat.le_of_ble_eq_true rfl) (preR hK (rowX hP 7 rfl)) rfl hl.1 rfl (Nat.le_of_ble_eq_true rfl) (Nat.zero_le _) (Nat.zero_le _) dX0_isTold_15 ?_
        refine lv_iload_n hx hb dX0_isTold_18 rfl (lv_at hl 1 rfl) ?_
        refine lv_icmp_ne (tgt := 24) hx hb dX0_isTold_19 (by decide) (fun c2 => ?_) (fun c2 => ?_)
        · rw [if_neg c2] at hf
          obtain ⟨y3, ey3⟩ : ∃ y : Int32, y = (x2 + 1) := ⟨_, rfl⟩
          have hf := bnd_at hf ey3
          refine lv_iinc (v := y3) (lv' := [(2, .int y3), (0, .ref (a 0)), (1, .int p1)]) hx hb dX0_isTold_24 hl (k := 2) rfl (by rw [ey3]; rfl) (by decide) rfl (fun ls hl => ?_)
          refine lv_goto (tgt := 2) hx hb dX0_isTold_27 (by decide) ?_
          exact ih2 y3 ls hf (lv_sub hl [1, 2, 0] rfl)
        · rw [if_pos c2] at hf
          refine lv_iconst (v := 1) hx hb dX0_isTold_22 (by decide) ?_
          have hf := Option.some.inj hf; subst hf
          exact W.zret hx hb hr rfl (fun t ht hW => ⟨rfl, ht⟩) (fun q h => by cases h) dX0_isTold_23
  unfold f_X0_isTold at hf
  refine lv_iconst (v := 0) hx hb dX0_isTold_0 (by decide) ?_
  refine lv_istore_n (lv' := [(2, .int 0), (0, .ref (a 0)), (1, .int p1)]) hx hb dX0_isTold_1 rfl hl (by decide) rfl (fun ls hl => ?_)
  exact hW2 70 0 ls hf (lv_sub hl [1, 2, 0] rfl)
theorem cd_X0_aheadOf : yX0_aheadOf.cls = RX0 ∧ yX0_aheadOf.cls ≠ "java/lang/invoke/MethodHandle" ∧ yX0_aheadOf.cls ≠ "java/lang/invoke/VarHandle" ∧ (parseMethodDescriptor yX0_aheadOf.desc).map (fun d => d.parameters.length) = some 1 := by decide +kernel
set_option maxHeartbeats 4000000 in
set_option maxRecDepth 100000 in
theorem k_X0_aheadOf (l : Launch) (dC : Nat → ClassId) (dI : Nat → Nat → Nat) (cA : ClassId) (a : Nat → Nat) (S : St) (p1 : Int32) (r : Int32) (hf : f_X0_aheadOf S p1 = some r) : Met l yX0_aheadOf wsX0_aheadOf ({ frames := 1, cells := 0, slots := 0, locals := 21 }) (va_Pc [.ref (a 0), .int p1] (PXs (dC, dI) cA a S)) (pQi r) 0 0 (fun _ => False) := by
  refine Met.ofW (cc := cX0_aheadOf) (maxL := 5) (ret := (some .int)) (by decide) rfl ?_
  intro p e s m args below meth c s₁ B hml hv
  obtain ⟨rfl, hP, hK⟩ := hv
  have hx := B.exec
  have hb := B.bytes
  have hr := B.returns
  have hts := atoms_spec (ws := wsX0_aheadOf) B.pre
  have hown : s.vm.findClass RX0 = some m.cls := findClass_of_methodNamed B.named
  have hlocks := B.notSynchronized
  have hin : ∀ w ∈ u_ws RX0 TX0 12, w ∈ wsX0_aheadOf := by decide +kernel
  have hw0 := hts (.fieldLink RX0 16 "Submodulary" "told" "I") (by decide +kernel)
  have hw1 := hts (.fieldLink RX0 38 "Submodulary" "ordered" "[I") (by decide +kernel)
  have hl := lv_entry ([.ref (a 0), .int p1]) (n := 5) (Nat.le_of_ble_eq_true rfl)
  rw [lg_entry_eq]
  generalize (lg_sl ([.ref (a 0), .int p1]) ++ List.replicate (5 - (lg_sl ([.ref (a 0), .int p1])).length) Slot.unset).toArray = ls at hl ⊢
  have hl : lv_has ls 5 [(0, .ref (a 0)), (1, .int p1)] := hl
  have hW4 : ∀ (k4 : Nat) (x2 x3 : Int32) (ls : Array Slot), f_X0_aheadOf_4 S p1 k4 x2 x3 = some r → lv_has ls 5 [(0, .ref (a 0)), (1, .int p1), (2, .int x2), (3, .int x3)] → W p l e (headSpec wsX0_aheadOf ({ frames := 1, cells := 0, slots := 0, locals := 21 })).room s m ([.ref (a 0), .int p1] : List Value).toArray below meth c s.heap [] 0 0 (MQ below (pQi r) ([.ref (a 0), .int p1] : List Value).toArray s 0 0 (fun _ => False)) (F0 m 4 ls []) := by
    intro k4
    induction k4 with
    | zero =>
      intro x2 x3 ls hf hl
      rw [f_X0_aheadOf_4] at hf
      cases hf
    | succ k4 ih4 =>
      intro x2 x3 ls hf hl
      rw [f_X0_aheadOf_4] at hf
      refine lv_iload_n hx hb dX0_aheadOf_4 rfl (lv_at hl 3 rfl) ?_
      refine lv_aload_n hx hb dX0_aheadOf_5 rfl (lv_at hl 0 rfl) ?_
      refine gfX hx hb hts hin hown hK hP 2 (by decide) hw0 rfl rfl dX0_aheadOf_6 ?_
      refine lv_icmp_ge (tgt := 43) hx hb dX0_aheadOf_9 (by decide) (fun c1 => ?_) (fun c1 => ?_)
      · rw [if_pos c1] at hf
        refine lv_iload_n hx hb dX0_aheadOf_43 rfl (lv_at hl 2 rfl) ?_
        have hf := Option.some.inj hf; subst hf
        exact W.iret hx hb hr (fun t ht hW => ⟨rfl, ht⟩) (fun q h => by cases h) dX0_aheadOf_44
      · rw [if_neg c1] at hf
        refine lv_aload_n hx hb dX0_aheadOf_12 rfl (lv_at hl 0 rfl) ?_
        refine gfX hx hb hts hin hown hK hP 9 (by decide) hw1 rfl rfl dX0_aheadOf_13 ?_
        refine lv_iload_n hx hb dX0_aheadOf_16 rfl (lv_at hl 3 rfl) ?_
        refine pu_S (As := [.ref (a 7), .int x3]) (rest := []) ⟨hx, hb, hml, hown, hts⟩ (k_X0_at l dC dI cA (a 7) 6 (S.2 6) x3 (by decide)) gX0_aheadOf_X0_at rfl rfl rfl cd_X0_at (Nat.le_of_ble_eq_true rfl) (Nat.le_of_ble_eq_true rfl) (preR hK (rowX hP 7 rfl)) rfl hl.1 rfl (Nat.le_of_ble_eq_true rfl) (Nat.zero_le _) (Nat.zero_le _) dX0_aheadOf_17 ?_
        refine lv_topi (fun y2 ey2 => ?_)
        have hf := bnd_at hf ey2
        refine lv_istore (lv' := [(4, .int y2), (0, .ref (a 0)), (1, .int p1), (2, .int x2), (3, .int x3)]) hx hb dX0_aheadOf_20 hl (by decide) rfl (fun ls hl => ?_)
        refine lv_iload hx hb dX0_aheadOf_22 (lv_at hl 0 rfl) ?_
        refine lv_iload_n hx hb dX0_aheadOf_24 rfl (lv_at hl 2 rfl) ?_
        refine lv_icmp_ne (tgt := 30) hx hb dX0_aheadOf_25 (by decide) (fun c3 => ?_) (fun c3 => ?_)
        · rw [if_neg c3] at hf
          refine lv_iload_n hx hb dX0_aheadOf_30 rfl (lv_at hl 3 rfl) ?_
          refine lv_iload hx hb dX0_aheadOf_31 (lv_at hl 0 rfl) ?_
          refine pu_S (As := [.int x2, .int y2]) (rest := []) ⟨hx, hb, hml, hown, hts⟩ (k_X0_with l x2 y2 _ rfl) gX0_aheadOf_X0_with rfl rfl rfl cd_X0_with (Nat.le_of_ble_eq_true rfl) (Nat.le_of_ble_eq_true rfl) (preT) rfl hl.1 rfl (Nat.le_of_ble_eq_true rfl) (Nat.zero_le _) (Nat.zero_le _) dX0_aheadOf_33 ?_
          refine lv_topi (fun y4 ey4 => ?_)
          have hf := bnd_at hf ey4
          refine lv_istore_n (lv' := [(2, .int y4), (4, .int y2), (0, .ref (a 0)), (1, .int p1), (3, .int x3)]) hx hb dX0_aheadOf_36 rfl hl (by decide) rfl (fun ls hl => ?_)
          obtain ⟨y5, ey5⟩ : ∃ y : Int32, y = (x3 + 1) := ⟨_, rfl⟩
          have hf := bnd_at hf ey5
          refine lv_iinc (v := y5) (lv' := [(3, .int y5), (2, .int y4), (4, .int y2), (0, .ref (a 0)), (1, .int p1)]) hx hb dX0_aheadOf_37 hl (k := 4) rfl (by rw [ey5]; rfl) (by decide) rfl (fun ls hl => ?_)
          refine lv_goto (tgt := 4) hx hb dX0_aheadOf_40 (by decide) ?_
          exact ih4 y4 y5 ls hf (lv_sub hl [3, 4, 1, 0] rfl)
        · rw [if_pos c3] at hf
          refine lv_iload_n hx hb dX0_aheadOf_28 rfl (lv_at hl 3 rfl) ?_
          have hf := Option.some.inj hf; subst hf
          exact W.iret hx hb hr (fun t ht hW => ⟨rfl, ht⟩) (fun q h => by cases h) dX0_aheadOf_29
  unfold f_X0_aheadOf at hf
  refine lv_iconst (v := 0) hx hb dX0_aheadOf_0 (by decide) ?_
  refine lv_istore_n (lv' := [(2, .int 0), (0, .ref (a 0)), (1, .int p1)]) hx hb dX0_aheadOf_1 rfl hl (by decide) rfl (fun ls hl => ?_)
  refine lv_iconst (v := 0) hx hb dX0_aheadOf_2 (by decide) ?_
  refine lv_istore_n (lv' := [(3, .int 0), (2, .int 0), (0, .ref (a 0)), (1, .int p1)]) hx hb dX0_aheadOf_3 rfl hl (by decide) rfl (fun ls hl => ?_)
  exact hW4 70 0 0 ls hf (lv_sub hl [2, 3, 1, 0] rfl)
theorem cd_X0_greediest : yX0_greediest.cls = RX0 ∧ yX0_greediest.cls ≠ "java/lang/invoke/MethodHandle" ∧ yX0_greediest.cls ≠ "java/lang/invoke/VarHandle" ∧ (parseMethodDescriptor yX0_greediest.desc).map (fun d => d.parameters.length) = some 2 := by decide +kernel
set_option maxHeartbeats 4000000 in
set_option maxRecDepth 100000 in
theorem k_X0_greediest (l : Launch) (dC : Nat → ClassId) (dI : Nat → Nat → Nat) (cA : ClassId) (a : Nat → Nat) (S : St) (p1 : Int32) (p2 : Int32) (r : Int32) (hf : f_X0_greediest S p1 p2 = some r) : Met l yX0_greediest wsX0_greediest ({ frames := 3, cells := 0, slots := 0, locals := 66 }) (va_Pc [.ref (a 0), .int p1, .int p2] (PXs (dC, dI) cA a S)) (pQi r) 0 0 (fun _ => False) := by
  refine Met.ofW (cc := cX0_greediest) (maxL := 7) (ret := (some .int)) (by decide) rfl ?_
  intro p e s m args below meth c s₁ B hml hv
  obtain ⟨rfl, hP, hK⟩ := hv
  have hx := B.exec
  have hb := B.bytes
  have hr := B.returns
  have hts := atoms_spec (ws := wsX0_greediest) B.pre
  have hown : s.vm.findClass RX0 = some m.cls := findClass_of_methodNamed B.named
  have hlocks := B.notSynchronized
  have hin : ∀ w ∈ u_ws RX0 TX0 12, w ∈ wsX0_greediest := by decide +kernel
  have hw0 := hts (.fieldLink RX0 9 "Submodulary" "elements" "I") (by decide +kernel)
  have hl := lv_entry ([.ref (a 0), .int p1, .int p2]) (n := 7) (Nat.le_of_ble_eq_true rfl)
  rw [lg_entry_eq]
  generalize (lg_sl ([.ref (a 0), .int p1, .int p2]) ++ List.replicate (7 - (lg_sl ([.ref (a 0), .int p1, .int p2])).length) Slot.unset).toArray = ls at hl ⊢
  have hl : lv_has ls 7 [(0, .ref (a 0)), (1, .int p1), (2, .int p2)] := hl
  have hW8 : ∀ (k8 : Nat) (x3 x4 x5 : Int32) (ls : Array Slot), f_X0_greediest_8 S p1 p2 k8 x3 x4 x5 = some r → lv_has ls 7 [(0, .ref (a 0)), (1, .int p1), (2, .int p2), (3, .int x3), (4, .int x4), (5, .int x5)] → W p l e (headSpec wsX0_greediest ({ frames := 3, cells := 0, slots := 0, locals := 66 })).room s m ([.ref (a 0), .int p1, .int p2] : List Value).toArray below meth c s.heap [] 0 0 (MQ below (pQi r) ([.ref (a 0), .int p1, .int p2] : List Value).toArray s 0 0 (fun _ => False)) (F0 m 8 ls []) := by
    intro k8
    induction k8 with
    | zero =>
      intro x3 x4 x5 ls hf hl
      rw [f_X0_greediest_8] at hf
      cases hf
    | succ k8 ih8 =>
      intro x3 x4 x5 ls hf hl
      rw [f_X0_greediest_8] at hf
      refine lv_iload hx hb dX0_greediest_8 (lv_at hl 5 rfl) ?_
      refine lv_aload_n hx hb dX0_greediest_10 rfl (lv_at hl 0 rfl) ?_
      refine gfX hx hb hts hin hown hK hP 0 (by decide) hw0 rfl rfl dX0_greediest_11 ?_
      refine lv_icmp_ge (tgt := 47) hx hb dX0_greediest_14 (by decide) (fun c1 => ?_) (fun c1 => ?_)
      · rw [if_pos c1] at hf
        refine lv_iload_n hx hb dX0_greediest_47 rfl (lv_at hl 3 rfl) ?_
        have hf := Option.some.inj hf; subst hf
        exact W.iret hx hb hr (fun t ht hW => ⟨rfl, ht⟩) (fun q h => by cases h) dX0_greediest_48
      · rw [if_neg c1] at hf
        refine lv_aload_n hx hb dX0_greediest_17 rfl (lv_at hl 0 rfl) ?_
        refine lv_iload_n hx hb dX0_greediest_18 rfl (lv_at hl 1 rfl) ?_
        refine lv_iload_n hx hb dX0_greediest_19 rfl (lv_at hl 2 rfl) ?_
        refine lv_iload hx hb dX0_greediest_20 (lv_at hl 5 rfl) ?_
        refine pu_V (As := [.int p1, .int p2, .int x5]) (rest := []) ⟨hx, hb, hml, hown, hts⟩ (k_X0_gain l dC dI cA a S p1 p2 x5 _ rfl) gX0_greediest_X0_gain rfl rfl rfl cd_X0_gain (Nat.le_of_ble_eq_true rfl) (Nat.le_of_ble_eq_true rfl) (preX hK hP) rfl hl.1 rfl (Nat.le_of_ble_eq_true rfl) (Nat.zero_le _) (Nat.zero_le _) dX0_greediest_22 ?_
        refine lv_topi (fun y2 ey2 => ?_)
        have hf := bnd_at hf ey2
        refine lv_istore (lv' := [(6, .int y2), (0, .ref (a 0)), (1, .int p1), (2, .int p2), (3, .int x3), (4, .int x4), (5, .int x5)]) hx hb dX0_greediest_25 hl (by decide) rfl (fun ls hl => ?_)
        refine lv_iload hx hb dX0_greediest_27 (lv_at hl 0 rfl) ?_
        refine lv_iload hx hb dX0_greediest_29 (lv_at hl 5 rfl) ?_
        refine lv_icmp_le (tgt := 41) hx hb dX0_greediest_31 (by decide) (fun c3 => ?_) (fun c3 => ?_)
        · rw [if_pos c3] at hf
          obtain ⟨y4, ey4⟩ : ∃ y : Int32, y = (x5 + 1) := ⟨_, rfl⟩
          have hf := bnd_at hf ey4
          refine lv_iinc (v := y4) (lv' := [(5, .int y4), (6, .int y2), (0, .ref (a 0)), (1, .int p1), (2, .int p2), (3, .int x3), (4, .int x4)]) hx hb dX0_greediest_41 hl (k := 6) rfl (by rw [ey4]; rfl) (by decide) rfl (fun ls hl => ?_)
          refine lv_goto (tgt := 8) hx hb dX0_greediest_44 (by decide) ?_
          exact ih8 x3 x4 y4 ls hf (lv_sub hl [2, 3, 4, 5, 6, 0] rfl)
        · rw [if_neg c3] at hf
          refine lv_iload hx hb dX0_greediest_34 (lv_at hl 0 rfl) ?_
          refine lv_istore (lv' := [(4, .int y2), (6, .int y2), (0, .ref (a 0)), (1, .int p1), (2, .int p2), (3, .int x3), (5, .int x5)]) hx hb dX0_greediest_36 hl (by decide) rfl (fun ls hl => ?_)
          refine lv_iload hx hb dX0_greediest_38 (lv_at hl 6 rfl) ?_
          refine lv_istore_n (lv' := [(3, .int x5), (4, .int y2), (6, .int y2), (0, .ref (a 0)), (1, .int p1), (2, .int p2), (5, .int x5)]) hx hb dX0_greediest_40 rfl hl (by decide) rfl (fun ls hl => ?_)
          obtain ⟨y5, ey5⟩ : ∃ y : Int32, y = (x5 + 1) := ⟨_, rfl⟩
          have hf := bnd_at hf ey5
          refine lv_iinc (v := y5) (lv' := [(5, .int y5), (3, .int x5), (4, .int y2), (6, .int y2), (0, .ref (a 0)), (1, .int p1), (2, .int p2)]) hx hb dX0_greediest_41 hl (k := 6) rfl (by rw [ey5]; rfl) (by decide) rfl (fun ls hl => ?_)
          refine lv_goto (tgt := 8) hx hb dX0_greediest_44 (by decide) ?_
          exact ih8 x5 y2 y5 ls hf (lv_sub hl [4, 5, 6, 1, 2, 0] rfl)
  unfold f_X0_greediest at hf
  refine lv_iconst (v := (-1)) hx hb dX0_greediest_0 (by decide) ?_
  refine lv_istore_n (lv' := [(3, .int (-1)), (0, .ref (a 0)), (1, .int p1), (2, .int p2)]) hx hb dX0_greediest_1 rfl hl (by decide) rfl (fun ls hl => ?_)
  refine lv_iconst (v := 0) hx hb dX0_greediest_2 (by decide) ?_
  refine lv_istore (lv' := [(4, .int 0), (3, .int (-1)), (0, .ref (a 0)), (1, .int p1), (2, .int p2)]) hx hb dX0_greediest_3 hl (by decide) rfl (fun ls hl => ?_)
  refine lv_iconst (v := 0) hx hb dX0_greediest_5 (by decide) ?_
  refine lv_istore (lv' := [(5, .int 0), (4, .int 0), (3, .int (-1)), (0, .ref (a 0)), (1, .int p1), (2, .int p2)]) hx hb dX0_greediest_6 hl (by decide) rfl (fun ls hl => ?_)
  exact hW8 70 (-1) 0 0 ls hf (lv_sub hl [3, 4, 5, 2, 1, 0] rfl)
theorem cd_X0_hasRoom : yX0_hasRoom.cls = RX0 ∧ yX0_hasRoom.cls ≠ "java/lang/invoke/MethodHandle" ∧ yX0_hasRoom.cls ≠ "java/lang/invoke/VarHandle" ∧ (parseMethodDescriptor yX0_hasRoom.desc).map (fun d => d.parameters.length) = some 3 := by decide +kernel
set_option maxHeartbeats 4000000 in
set_option maxRecDepth 100000 in
theorem k_X0_hasRoom (l : Launch) (dC : Nat → ClassId) (dI : Nat → Nat → Nat) (cA : ClassId) (a : Nat → Nat) (S : St) (p1 : Int32) (p2 : Int32) (p3 : Int32) (r : Int32) (hf : f_X0_hasRoom S p1 p2 p3 = some r) : Met l yX0_hasRoom wsX0_hasRoom ({ frames := 3, cells := 0, slots := 0, locals := 68 }) (va_Pc [.ref (a 0), .int p1, .int p2, .int p3] (PXs (dC, dI) cA a S)) (pQi r) 0 0 (fun _ => False) := by
  refine Met.ofW (cc := cX0_hasRoom) (maxL := 5) (ret := (some .boolean)) (by decide) rfl ?_
  intro p e s m args below meth c s₁ B hml hv
  obtain ⟨rfl, hP, hK⟩ := hv
  have hx := B.exec
  have hb := B.bytes
  have hr := B.returns
  have hts := atoms_spec (ws := wsX0_hasRoom) B.pre
  have hown : s.vm.findClass RX0 = some m.cls := findClass_of_methodNamed B.named
  have hlocks := B.notSynchronized
  have hl := lv_entry ([.ref (a 0), .int p1, .int p2, .int p3]) (n := 5) (Nat.le_of_ble_eq_true rfl)
  rw [lg_entry_eq]
  generalize (lg_sl ([.ref (a 0), .int p1, .int p2, .int p3]) ++ List.replicate (5 - (lg_sl ([.ref (a 0), .int p1, .int p2, .int p3])).length) Slot.unset).toArray = ls at hl ⊢
  have hl : lv_has ls 5 [(0, .ref (a 0)), (1, .int p1), (2, .int p2), (3, .int p3)] := hl
  unfold f_X0_hasRoom at hf
  refine lv_aload_n hx hb dX0_hasRoom_0 rfl (lv_at hl 0 rfl) ?_
  refine lv_iload_n hx hb dX0_hasRoom_1 rfl (lv_at hl 1 rfl) ?_
  refine lv_iload_n hx hb dX0_hasRoom_2 rfl (lv_at hl 2 rfl) ?_
  refine pu_V (As := [.int p1, .int p2]) (rest := []) ⟨hx, hb, hml, hown, hts⟩ (k_X0_colourOf l dC dI cA a S p1 p2 _ rfl) gX0_hasRoom_X0_colourOf rfl rfl rfl cd_X0_colourOf (Nat.le_of_ble_eq_true rfl) (Nat.le_of_ble_eq_true rfl) (preX hK hP) rfl hl.1 rfl (Nat.le_of_ble_eq_true rfl) (Nat.zero_le _) (Nat.zero_le _) dX0_hasRoom_3 ?_
  refine lv_topi (fun y1 ey1 => ?_)
  have hf := bnd_at hf ey1
  refine lv_istore (lv' := [(4, .int y1), (0, .ref (a 0)), (1, .int p1), (2, .int p2), (3, .int p3)]) hx hb dX0_hasRoom_6 hl (by decide) rfl (fun ls hl => ?_)
  refine lv_iload_n hx hb dX0_hasRoom_8 rfl (lv_at hl 4 rfl) ?_
  refine lv_iload_n hx hb dX0_hasRoom_9 rfl (lv_at hl 3 rfl) ?_
  refine pu_S (As := [.int p3, .int p2]) (rest := []) ⟨hx, hb, hml, hown, hts⟩ (k_X0_has l p3 p2 _ rfl) gX0_hasRoom_X0_has rfl rfl rfl cd_X0_has (Nat.le_of_ble_eq_true rfl) (Nat.le_of_ble_eq_true rfl) (preT) rfl hl.1 rfl (Nat.le_of_ble_eq_true rfl) (Nat.zero_le _) (Nat.zero_le _) dX0_hasRoom_10 ?_
  refine lv_if_ne (tgt := 38) hx hb dX0_hasRoom_13 (by decide) (fun c2 => ?_) (fun c2 => ?_)
  · rw [if_neg c2] at hf
    refine lv_iconst (v := 0) hx hb dX0_hasRoom_38 (by decide) ?_
    have hf := Option.some.inj hf; subst hf
    exact W.zret hx hb hr rfl (fun t ht hW => ⟨rfl, ht⟩) (fun q h => by cases h) dX0_hasRoom_39
  · rw [if_pos c2] at hf
    refine lv_aload_n hx hb dX0_hasRoom_16 rfl (lv_at hl 1 rfl) ?_
    refine lv_iload_n hx hb dX0_hasRoom_17 rfl (lv_at hl 2 rfl) ?_
    refine lv_iload hx hb dX0_hasRoom_18 (lv_at hl 0 rfl) ?_
    refine lv_iload_n hx hb dX0_hasRoom_20 rfl (lv_at hl 4 rfl) ?_
    obtain ⟨v3, hv3, hf⟩ := ob_some hf
    refine pu_V (As := [.int p1, .int y1, .int p3]) (rest := []) ⟨hx, hb, hml, hown, hts⟩ (k_X0_countOf l dC dI cA a S p1 y1 p3 _ hv3) gX0_hasRoom_X0_countOf rfl rfl rfl cd_X0_countOf (Nat.le_of_ble_eq_true rfl) (Nat.le_of_ble_eq_true rfl) (preX hK hP) rfl hl.1 rfl (Nat.le_of_ble_eq_true rfl) (Nat.zero_le _) (Nat.zero_le _) dX0_hasRoom_21 ?_
    refine lv_aload_n hx hb dX0_hasRoom_24 rfl (lv_at hl 1 rfl) ?_
    refine lv_iload_n hx hb dX0_hasRoom_25 rfl (lv_at hl 2 rfl) ?_
    refine lv_iload hx hb dX0_hasRoom_26 (lv_at hl 0 rfl) ?_
    refine pu_V (As := [.int p1, .int y1]) (rest := [.int v3]) ⟨hx, hb, hml, hown, hts⟩ (k_X0_roomOf l dC dI cA a S p1 y1 _ rfl) gX0_hasRoom_X0_roomOf rfl rfl rfl cd_X0_roomOf (Nat.le_of_ble_eq_true rfl) (Nat.le_of_ble_eq_true rfl) (preX hK hP) rfl hl.1 rfl (Nat.le_of_ble_eq_true rfl) (Nat.zero_le _) (Nat.zero_le _) dX0_hasRoom_28 ?_
    refine lv_icmp_ge (tgt := 38) hx hb dX0_hasRoom_31 (by decide) (fun c4 => ?_) (fun c4 => ?_)
    · rw [if_pos c4] at hf
      refine lv_iconst (v := 0) hx hb dX0_hasRoom_38 (by decide) ?_
      have hf := Option.some.inj hf; subst hf
      exact W.zret hx hb hr rfl (fun t ht hW => ⟨rfl, ht⟩) (fun q h => by cases h) dX0_hasRoom_39
    · rw [if_neg c4] at hf
      refine lv_iconst (v := 1) hx hb dX0_hasRoom_34 (by decide) ?_
      refine lv_goto (tgt := 39) hx hb dX0_hasRoom_35 (by decide) ?_
      have hf := Option.some.inj hf; subst hf
      exact W.zret hx hb hr rfl (fun t ht hW => ⟨rfl, ht⟩) (fun q h => by cases h) dX0_hasRoom_39
theorem cd_X0_isStep : yX0_isStep.cls = RX0 ∧ yX0_isStep.cls ≠ "java/lang/invoke/MethodHandle" ∧ yX0_isStep.cls ≠ "java/lang/invoke/VarHandle" ∧ (parseMethodDescriptor yX0_isStep.desc).map (fun d => d.parameters.length) = some 3 := by decide +kernel
set_option maxHeartbeats 4000000 in
set_option maxRecDepth 100000 in
theorem k_X0_isStep (l : Launch) (dC : Nat → ClassId) (dI : Nat → Nat → Nat) (cA : ClassId) (a : Nat → Nat) (S : St) (p1 : Int32) (p2 : Int32) (p3 : Int32) (r : Int32) (hf : f_X0_isStep S p1 p2 p3 = r) : Met l yX0_isStep wsX0_isStep ({ frames := 2, cells := 0, slots := 0, locals := 43 }) (va_Pc [.ref (a 0), .int p1, .int p2, .int p3] (PXs (dC, dI) cA a S)) (pQi r) 0 0 (fun _ => False) := by
  refine Met.ofW (cc := cX0_isStep) (maxL := 5) (ret := (some .boolean)) (by decide) rfl ?_
  intro p e s m args below meth c s₁ B hml hv
  obtain ⟨rfl, hP, hK⟩ := hv
  have hx := B.exec
  have hb := B.bytes
  have hr := B.returns
  have hts := atoms_spec (ws := wsX0_isStep) B.pre
  have hown : s.vm.findClass RX0 = some m.cls := findClass_of_methodNamed B.named
  have hlocks := B.notSynchronized
  have hl := lv_entry ([.ref (a 0), .int p1, .int p2, .int p3]) (n := 5) (Nat.le_of_ble_eq_true rfl)
  rw [lg_entry_eq]
  generalize (lg_sl ([.ref (a 0), .int p1, .int p2, .int p3]) ++ List.replicate (5 - (lg_sl ([.ref (a 0), .int p1, .int p2, .int p3])).length) Slot.unset).toArray = ls at hl ⊢
  have hl : lv_has ls 5 [(0, .ref (a 0)), (1, .int p1), (2, .int p2), (3, .int p3)] := hl
  have hW13 : ∀ (s0 : Int32) (ls : Array Slot), f_X0_isStep_13 S p1 p2 p3 s0 = r → lv_has ls 5 [(0, .ref (a 0)), (1, .int p1), (2, .int p2), (3, .int p3)] → W p l e (headSpec wsX0_isStep ({ frames := 2, cells := 0, slots := 0, locals := 43 })).room s m ([.ref (a 0), .int p1, .int p2, .int p3] : List Value).toArray below meth c s.heap [] 0 0 (MQ below (pQi r) ([.ref (a 0), .int p1, .int p2, .int p3] : List Value).toArray s 0 0 (fun _ => False)) (F0 m 13 ls [.int s0]) := by
    intro s0 ls hf hl
    unfold f_X0_isStep_13 at hf
    refine lv_istore (lv' := [(4, .int s0), (0, .ref (a 0)), (1, .int p1), (2, .int p2), (3, .int p3)]) hx hb dX0_isStep_13 hl (by decide) rfl (fun ls hl => ?_)
    refine lv_iload_n hx hb dX0_isStep_15 rfl (lv_at hl 4 rfl) ?_
    refine lv_iload_n hx hb dX0_isStep_16 rfl (lv_at hl 2 rfl) ?_
    refine pu_S (As := [.int p3, .int p1]) (rest := []) ⟨hx, hb, hml, hown, hts⟩ (k_X0_has l p3 p1 _ rfl) gX0_isStep_X0_has rfl rfl rfl cd_X0_has (Nat.le_of_ble_eq_true rfl) (Nat.le_of_ble_eq_true rfl) (preT) rfl hl.1 rfl (Nat.le_of_ble_eq_true rfl) (Nat.zero_le _) (Nat.zero_le _) dX0_isStep_17 ?_
    refine lv_iload_n hx hb dX0_isStep_20 rfl (lv_at hl 4 rfl) ?_
    refine lv_iload_n hx hb dX0_isStep_21 rfl (lv_at hl 3 rfl) ?_
    refine pu_S (As := [.int p3, .int p2]) (rest := [.int (f_X0_has p3 p1)]) ⟨hx, hb, hml, hown, hts⟩ (k_X0_has l p3 p2 _ rfl) gX0_isStep_X0_has rfl rfl rfl cd_X0_has (Nat.le_of_ble_eq_true rfl) (Nat.le_of_ble_eq_true rfl) (preT) rfl hl.1 rfl (Nat.le_of_ble_eq_true rfl) (Nat.zero_le _) (Nat.zero_le _) dX0_isStep_22 ?_
    refine lv_icmp_eq (tgt := 49) hx hb dX0_isStep_25 (by decide) (fun c1 => ?_) (fun c1 => ?_)
    · rw [if_pos c1] at hf
      refine lv_iconst (v := 0) hx hb dX0_isStep_49 (by decide) ?_
      subst hf
      exact W.zret hx hb hr rfl (fun t ht hW => ⟨rfl, ht⟩) (fun q h => by cases h) dX0_isStep_50
    · rw [if_neg c1] at hf
      refine lv_aload_n hx hb dX0_isStep_28 rfl (lv_at hl 1 rfl) ?_
      refine lv_iload hx hb dX0_isStep_29 (lv_at hl 0 rfl) ?_
      refine lv_iload_n hx hb dX0_isStep_31 rfl (lv_at hl 2 rfl) ?_
      refine pu_V (As := [.int s0, .int p1]) (rest := []) ⟨hx, hb, hml, hown, hts⟩ (k_X0_colourOf l dC dI cA a S s0 p1 _ rfl) gX0_isStep_X0_colourOf rfl rfl rfl cd_X0_colourOf (Nat.le_of_ble_eq_true rfl) (Nat.le_of_ble_eq_true rfl) (preX hK hP) rfl hl.1 rfl (Nat.le_of_ble_eq_true rfl) (Nat.zero_le _) (Nat.zero_le _) dX0_isStep_32 ?_
      refine lv_aload_n hx hb dX0_isStep_35 rfl (lv_at hl 1 rfl) ?_
      refine lv_iload hx hb dX0_isStep_36 (lv_at hl 0 rfl) ?_
      refine lv_iload_n hx hb dX0_isStep_38 rfl (lv_at hl 3 rfl) ?_
      refine pu_V (As := [.int s0, .int p2]) (rest := [.int (f_X0_colourOf S s0 p1)]) ⟨hx, hb, hml, hown, hts⟩ (k_X0_colourOf l dC dI cA a S s0 p2 _ rfl) gX0_isStep_X0_colourOf rfl rfl rfl cd_X0_colourOf (Nat.le_of_ble_eq_true rfl) (Nat.le_of_ble_eq_true rfl) (preX hK hP) rfl hl.1 rfl (Nat.le_of_ble_eq_true rfl) (Nat.zero_le _) (Nat.zero_le _) dX0_isStep_39 ?_
      refine lv_icmp_ne (tgt := 49) hx hb dX0_isStep_42 (by decide) (fun c2 => ?_) (fun c2 => ?_)
      · rw [if_neg c2] at hf
        refine lv_iconst (v := 0) hx hb dX0_isStep_49 (by decide) ?_
        subst hf
        exact W.zret hx hb hr rfl (fun t ht hW => ⟨rfl, ht⟩) (fun q h => by cases h) dX0_isStep_50
      · rw [if_pos c2] at hf
        refine lv_iconst (v := 1) hx hb dX0_isStep_45 (by decide) ?_
        refine lv_goto (tgt := 50) hx hb dX0_isStep_46 (by decide) ?_
        subst hf
        exact W.zret hx hb hr rfl (fun t ht hW => ⟨rfl, ht⟩) (fun q h => by cases h) dX0_isStep_50
  unfold f_X0_isStep at hf
  refine lv_iload_n hx hb dX0_isStep_0 rfl (lv_at hl 3 rfl) ?_
  refine lv_iload_n hx hb dX0_isStep_1 rfl (lv_at hl 1 rfl) ?_
  refine pu_S (As := [.int p3, .int p1]) (rest := []) ⟨hx, hb, hml, hown, hts⟩ (k_X0_has l p3 p1 _ rfl) gX0_isStep_X0_has rfl rfl rfl cd_X0_has (Nat.le_of_ble_eq_true rfl) (Nat.le_of_ble_eq_true rfl) (preT) rfl hl.1 rfl (Nat.le_of_ble_eq_true rfl) (Nat.zero_le _) (Nat.zero_le _) dX0_isStep_2 ?_
  refine lv_if_eq (tgt := 12) hx hb dX0_isStep_5 (by decide) (fun c3 => ?_) (fun c3 => ?_)
  · rw [if_pos c3] at hf
    refine lv_iconst (v := 1) hx hb dX0_isStep_12 (by decide) ?_
    exact hW13 1 ls hf (lv_sub hl [0, 1, 2, 3] rfl)
  · rw [if_neg c3] at hf
    refine lv_iconst (v := 0) hx hb dX0_isStep_8 (by decide) ?_
    refine lv_goto (tgt := 13) hx hb dX0_isStep_9 (by decide) ?_
    exact hW13 0 ls hf (lv_sub hl [0, 1, 2, 3] rfl)
theorem cd_X0_flippedAlong : yX0_flippedAlong.cls = RX0 ∧ yX0_flippedAlong.cls ≠ "java/lang/invoke/MethodHandle" ∧ yX0_flippedAlong.cls ≠ "java/lang/invoke/VarHandle" ∧ (parseMethodDescriptor yX0_flippedAlong.desc).map (fun d => d.parameters.length) = some 2 := by decide +kernel
set_option maxHeartbeats 4000000 in
set_option maxRecDepth 100000 in
theorem k_X0_flippedAlong (l : Launch) (dC : Nat → ClassId) (dI : Nat → Nat → Nat) (cA : ClassId) (a : Nat → Nat) (S : St) (p1 : Int32) (p2 : Int32) (r : Int32) (hf : f_X0_flippedAlong S p1 p2 = some r) : Met l yX0_flippedAlong wsX0_flippedAlong ({ frames := 1, cells := 0, slots := 0, locals := 21 }) (va_Pc [.ref (a 0), .int p1, .int p2] (PXs (dC, dI) cA a S)) (pQi r) 0 0 (fun _ => False) := by
  refine Met.ofW (cc := cX0_flippedAlong) (maxL := 6) (ret := (some .int)) (by decide) rfl ?_
  intro p e s m args below meth c s₁ B hml hv
  obtain ⟨rfl, hP, hK⟩ := hv
  have hx := B.exec
  have hb := B.bytes
  have hr := B.returns
  have hts := atoms_spec (ws := wsX0_flippedAlong) B.pre
  have hown : s.vm.findClass RX0 = some m.cls := findClass_of_methodNamed B.named
  have hlocks := B.notSynchronized
  have hin : ∀ w ∈ u_ws RX0 TX0 12, w ∈ wsX0_flippedAlong := by decide +kernel
  have hw0 := hts (.fieldLink RX0 9 "Submodulary" "elements" "I") (by decide +kernel)
  have hw1 := hts (.fieldLink RX0 41 "Submodulary" "cameFrom" "[I") (by decide +kernel)
  have hl := lv_entry ([.ref (a 0), .int p1, .int p2]) (n := 6) (Nat.le_of_ble_eq_true rfl)
  rw [lg_entry_eq]
  generalize (lg_sl ([.ref (a 0), .int p1, .int p2]) ++ List.replicate (6 - (lg_sl ([.ref (a 0), .int p1, .int p2])).length) Slot.unset).toArray = ls at hl ⊢
  have hl : lv_has ls 6 [(0, .ref (a 0)), (1, .int p1), (2, .int p2)] := hl
  have hW8 : ∀ (k8 : Nat) (x3 x4 x5 : Int32) (ls : Array Slot), f_X0_flippedAlong_8 S p1 p2 k8 x3 x4 x5 = some r → lv_has ls 6 [(0, .ref (a 0)), (1, .int p1), (2, .int p2), (3, .int x3), (4, .int x4), (5, .int x5)] → W p l e (headSpec wsX0_flippedAlong ({ frames := 1, cells := 0, slots := 0, locals := 21 })).room s m ([.ref (a 0), .int p1, .int p2] : List Value).toArray below meth c s.heap [] 0 0 (MQ below (pQi r) ([.ref (a 0), .int p1, .int p2] : List Value).toArray s 0 0 (fun _ => False)) (F0 m 8 ls []) := by
    intro k8
    induction k8 with
    | zero =>
      intro x3 x4 x5 ls hf hl
      rw [f_X0_flippedAlong_8] at hf
      cases hf
    | succ k8 ih8 =>
      intro x3 x4 x5 ls hf hl
      rw [f_X0_flippedAlong_8] at hf
      refine lv_iload hx hb dX0_flippedAlong_8 (lv_at hl 5 rfl) ?_
      refine lv_aload_n hx hb dX0_flippedAlong_10 rfl (lv_at hl 0 rfl) ?_
      refine gfX hx hb hts hin hown hK hP 0 (by decide) hw0 rfl rfl dX0_flippedAlong_11 ?_
      refine lv_icmp_ge (tgt := 47) hx hb dX0_flippedAlong_14 (by decide) (fun c1 => ?_) (fun c1 => ?_)
      · rw [if_pos c1] at hf
        refine lv_iload_n hx hb dX0_flippedAlong_47 rfl (lv_at hl 3 rfl) ?_
        have hf := Option.some.inj hf; subst hf
        exact W.iret hx hb hr (fun t ht hW => ⟨rfl, ht⟩) (fun q h => by cases h) dX0_flippedAlong_48
      · rw [if_neg c1] at hf
        refine lv_iload hx hb dX0_flippedAlong_17 (lv_at hl 4 rfl) ?_
        refine lv_iconst (v := (-1)) hx hb dX0_flippedAlong_19 (by decide) ?_
        refine lv_icmp_eq (tgt := 47) hx hb dX0_flippedAlong_20 (by decide) (fun c2 => ?_) (fun c2 => ?_)
        · rw [if_pos c2] at hf
          refine lv_iload_n hx hb dX0_flippedAlong_47 rfl (lv_at hl 3 rfl) ?_
          have hf := Option.some.inj hf; subst hf
          exact W.iret hx hb hr (fun t ht hW => ⟨rfl, ht⟩) (fun q h => by cases h) dX0_flippedAlong_48
        · rw [if_neg c2] at hf
          refine lv_iload_n hx hb dX0_flippedAlong_23 rfl (lv_at hl 3 rfl) ?_
          refine lv_iconst (v := 1) hx hb dX0_flippedAlong_24 (by decide) ?_
          refine lv_iload hx hb dX0_flippedAlong_25 (lv_at hl 4 rfl) ?_
          refine lv_ishl hx hb dX0_flippedAlong_27 ?_
          refine lv_ixor hx hb dX0_flippedAlong_28 ?_
          refine lv_topi (fun y3 ey3 => ?_)
          have hf := bnd_at hf ey3
          refine lv_istore_n (lv' := [(3, .int y3), (0, .ref (a 0)), (1, .int p1), (2, .int p2), (4, .int x4), (5, .int x5)]) hx hb dX0_flippedAlong_29 rfl hl (by decide) rfl (fun ls hl => ?_)
          refine lv_aload_n hx hb dX0_flippedAlong_30 rfl (lv_at hl 1 rfl) ?_
          refine gfX hx hb hts hin hown hK hP 10 (by decide) hw1 rfl rfl dX0_flippedAlong_31 ?_
          refine lv_iload hx hb dX0_flippedAlong_34 (lv_at hl 4 rfl) ?_
          refine pu_S (As := [.ref (a 8), .int x4]) (rest := []) ⟨hx, hb, hml, hown, hts⟩ (k_X0_at l dC dI cA (a 8) 6 (S.2 7) x4 (by decide)) gX0_flippedAlong_X0_at rfl rfl rfl cd_X0_at (Nat.le_of_ble_eq_true rfl) (Nat.le_of_ble_eq_true rfl) (preR hK (rowX hP 8 rfl)) rfl hl.1 rfl (Nat.le_of_ble_eq_true rfl) (Nat.zero_le _) (Nat.zero_le _) dX0_flippedAlong_36 ?_
          refine lv_topi (fun y4 ey4 => ?_)
          have hf := bnd_at hf ey4
          refine lv_istore (lv' := [(4, .int y4), (3, .int y3), (0, .ref (a 0)), (1, .int p1), (2, .int p2), (5, .int x5)]) hx hb dX0_flippedAlong_39 hl (by decide) rfl (fun ls hl => ?_)
          obtain ⟨y5, ey5⟩ : ∃ y : Int32, y = (x5 + 1) := ⟨_, rfl⟩
          have hf := bnd_at hf ey5
          refine lv_iinc (v := y5) (lv' := [(5, .int y5), (4, .int y4), (3, .int y3), (0, .ref (a 0)), (1, .int p1), (2, .int p2)]) hx hb dX0_flippedAlong_41 hl (k := 5) rfl (by rw [ey5]; rfl) (by decide) rfl (fun ls hl => ?_)
          refine lv_goto (tgt := 8) hx hb dX0_flippedAlong_44 (by decide) ?_
          exact ih8 y3 y4 y5 ls hf (lv_sub hl [3, 4, 5, 2, 1, 0] rfl)
  unfold f_X0_flippedAlong at hf
  refine lv_iload_n hx hb dX0_flippedAlong_0 rfl (lv_at hl 1 rfl) ?_
  refine lv_istore_n (lv' := [(3, .int p1), (0, .ref (a 0)), (1, .int p1), (2, .int p2)]) hx hb dX0_flippedAlong_1 rfl hl (by decide) rfl (fun ls hl => ?_)
  refine lv_iload_n hx hb dX0_flippedAlong_2 rfl (lv_at hl 3 rfl) ?_
  refine lv_istore (lv' := [(4, .int p2), (3, .int p1), (0, .ref (a 0)), (1, .int p1), (2, .int p2)]) hx hb dX0_flippedAlong_3 hl (by decide) rfl (fun ls hl => ?_)
  refine lv_iconst (v := 0) hx hb dX0_flippedAlong_5 (by decide) ?_
  refine lv_istore (lv' := [(5, .int 0), (4, .int p2), (3, .int p1), (0, .ref (a 0)), (1, .int p1), (2, .int p2)]) hx hb dX0_flippedAlong_6 hl (by decide) rfl (fun ls hl => ?_)
  exact hW8 70 p1 p2 0 ls hf (lv_sub hl [3, 4, 5, 2, 1, 0] rfl)
theorem cd_X0_ordersOf : yX0_ordersOf.cls ≠ "java/lang/invoke/MethodHandle" ∧ yX0_ordersOf.cls ≠ "java/lang/invoke/VarHandle" ∧ (parseMethodDescriptor yX0_ordersOf.desc).map (fun d => d.parameters.length) = some 1 := by decide +kernel
set_option maxHeartbeats 4000000 in
set_option maxRecDepth 100000 in
theorem k_X0_ordersOf (l : Launch) (p0 : Int32) (r : Int32) (hf : f_X0_ordersOf p0 = some r) : Met l yX0_ordersOf wsX0_ordersOf ({ frames := 0, cells := 0, slots := 0, locals := 0 }) (va_Pc [.int p0] (fun _ => True)) (pQi r) 0 0 (fun _ => False) := by
  refine Met.ofW (cc := cX0_ordersOf) (maxL := 3) (ret := (some .int)) (by decide) rfl ?_
  intro p e s m args below meth c s₁ B hml hv
  obtain ⟨rfl, -⟩ := hv
  have hx := B.exec
  have hb := B.bytes
  have hr := B.returns
  have hts := atoms_spec (ws := wsX0_ordersOf) B.pre
  have hown : s.vm.findClass RX0 = some m.cls := findClass_of_methodNamed B.named
  have hlocks := B.notSynchronized
  have hl := lv_entry ([.int p0]) (n := 3) (Nat.le_of_ble_eq_true rfl)
  rw [lg_entry_eq]
  generalize (lg_sl ([.int p0]) ++ List.replicate (3 - (lg_sl ([.int p0])).length) Slot.unset).toArray = ls at hl ⊢
  have hl : lv_has ls 3 [(0, .int p0)] := hl
  have hW4 : ∀ (k4 : Nat) (x1 x2 : Int32) (ls : Array Slot), f_X0_ordersOf_4 p0 k4 x1 x2 = some r → lv_has ls 3 [(0, .int p0), (1, .int x1), (2, .int x2)] → W p l e (headSpec wsX0_ordersOf ({ frames := 0, cells := 0, slots := 0, locals := 0 })).room s m ([.int p0] : List Value).toArray below meth c s.heap [] 0 0 (MQ below (pQi r) ([.int p0] : List Value).toArray s 0 0 (fun _ => False)) (F0 m 4 ls []) := by
    intro k4
    induction k4 with
    | zero =>
      intro x1 x2 ls hf hl
      rw [f_X0_ordersOf_4] at hf
      cases hf
    | succ k4 ih4 =>
      intro x1 x2 ls hf hl
      rw [f_X0_ordersOf_4] at hf
      refine lv_iload_n hx hb dX0_ordersOf_4 rfl (lv_at hl 2 rfl) ?_
      refine lv_iload_n hx hb dX0_ordersOf_5 rfl (lv_at hl 0 rfl) ?_
      refine lv_icmp_gt (tgt := 19) hx hb dX0_ordersOf_6 (by decide) (fun c1 => ?_) (fun c1 => ?_)
      · rw [if_pos c1] at hf
        refine lv_iload_n hx hb dX0_ordersOf_19 rfl (lv_at hl 1 rfl) ?_
        have hf := Option.some.inj hf; subst hf
        exact W.iret hx hb hr (fun t ht hW => ⟨rfl, ht⟩) (fun q h => by cases h) dX0_ordersOf_20
      · rw [if_neg c1] at hf
        refine lv_iload_n hx hb dX0_ordersOf_9 rfl (lv_at hl 1 rfl) ?_
        refine lv_iload_n hx hb dX0_ordersOf_10 rfl (lv_at hl 2 rfl) ?_
        refine lv_imul hx hb dX0_ordersOf_11 ?_
        refine lv_topi (fun y2 ey2 => ?_)
        have hf := bnd_at hf ey2
        refine lv_istore_n (lv' := [(1, .int y2), (0, .int p0), (2, .int x2)]) hx hb dX0_ordersOf_12 rfl hl (by decide) rfl (fun ls hl => ?_)
        obtain ⟨y3, ey3⟩ : ∃ y : Int32, y = (x2 + 1) := ⟨_, rfl⟩
        have hf := bnd_at hf ey3
        refine lv_iinc (v := y3) (lv' := [(2, .int y3), (1, .int y2), (0, .int p0)]) hx hb dX0_ordersOf_13 hl (k := 2) rfl (by rw [ey3]; rfl) (by decide) rfl (fun ls hl => ?_)
        refine lv_goto (tgt := 4) hx hb dX0_ordersOf_16 (by decide) ?_
        exact ih4 y2 y3 ls hf (lv_sub hl [2, 1, 0] rfl)
  unfold f_X0_ordersOf at hf
  refine lv_iconst (v := 1) hx hb dX0_ordersOf_0 (by decide) ?_
  refine lv_istore_n (lv' := [(1, .int 1), (0, .int p0)]) hx hb dX0_ordersOf_1 rfl hl (by decide) rfl (fun ls hl => ?_)
  refine lv_iconst (v := 2) hx hb dX0_ordersOf_2 (by decide) ?_
  refine lv_istore_n (lv' := [(2, .int 2), (1, .int 1), (0, .int p0)]) hx hb dX0_ordersOf_3 rfl hl (by decide) rfl (fun ls hl => ?_)
  exact hW4 70 1 2 ls hf (lv_sub hl [2, 1, 0] rfl)
theorem cd_X0_gainsOverOrders : yX0_gainsOverOrders.cls = RX0 ∧ yX0_gainsOverOrders.cls ≠ "java/lang/invoke/MethodHandle" ∧ yX0_gainsOverOrders.cls ≠ "java/lang/invoke/VarHandle" ∧ (parseMethodDescriptor yX0_gainsOverOrders.desc).map (fun d => d.parameters.length) = some 5 := by decide +kernel
set_option maxHeartbeats 4000000 in
set_option maxRecDepth 100000 in
theorem k_X0_gainsOverOrders (l : Launch) (dC : Nat → ClassId) (dI : Nat → Nat → Nat) (cA : ClassId) (a : Nat → Nat) (S : St) : ∀ (d : Nat) (p1 : Int32) (p2 : Int32) (p3 : Int32) (p4 : Int32) (p5 : Int32) (r : Int32), f_X0_gainsOverOrders S d p1 p2 p3 p4 p5 = some r → Met l yX0_gainsOverOrders wsX0_gainsOverOrders ({ frames := 3 + d, cells := 0, slots := 0, locals := 66 + d * 28 }) (va_Pc [.ref (a 0), .int p1, .int p2, .int p3, .int p4, .int p5] (PXs (dC, dI) cA a S)) (pQi r) 0 0 (fun _ => False) := by
  intro d
  induction d with
  | zero =>
    intro p1 p2 p3 p4 p5 r hf
    rw [f_X0_gainsOverOrders] at hf
    cases hf
  | succ d ihd =>
    intro p1 p2 p3 p4 p5 r hf
    refine Met.ofW (cc := cX0_gainsOverOrders) (maxL := 9) (ret := (some .int)) (by decide) rfl ?_
    intro p e s m args below meth c s₁ B hml hv
    obtain ⟨rfl, hP, hK⟩ := hv
    have hx := B.exec
    have hb := B.bytes
    have hr := B.returns
    have hts := atoms_spec (ws := wsX0_gainsOverOrders) B.pre
    have hown : s.vm.findClass RX0 = some m.cls := findClass_of_methodNamed B.named
    have hlocks := B.notSynchronized
    have hin : ∀ w ∈ u_ws RX0 TX0 12, w ∈ wsX0_gainsOverOrders := by decide +kernel
    have hw0 := hts (.fieldLink RX0 9 "Submodulary" "elements" "I") (by decide +kernel)
    have hl := lv_entry ([.ref (a 0), .int p1, .int p2, .int p3, .int p4, .int p5]) (n := 9) (Nat.le_of_ble_eq_true rfl)
    rw [lg_entry_eq]
    generalize (lg_sl ([.ref (a 0), .int p1, .int p2, .int p3, .int p4, .int p5]) ++ List.replicate (9 - (lg_sl ([.ref (a 0), .int p1, .int p2, .int p3, .int p4, .int p5])).length) Slot.unset).toArray = ls at hl ⊢
    have hl : lv_has ls 9 [(0, .ref (a 0)), (1, .int p1), (2, .int p2), (3, .int p3), (4, .int p4), (5, .int p5)] := hl
    have hW18 : ∀ (k18 : Nat) (x6 x7 : Int32) (ls : Array Slot), f_X0_gainsOverOrders_18 S p1 p2 p3 p4 p5 (f_X0_gainsOverOrders S d) k18 x6 x7 = some r → lv_has ls 9 [(0, .ref (a 0)), (1, .int p1), (2, .int p2), (3, .int p3), (4, .int p4), (5, .int p5), (6, .int x6), (7, .int x7)] → W p l e (headSpec wsX0_gainsOverOrders ({ frames := 3 + (d + 1), cells := 0, slots := 0, locals := 66 + (d + 1) * 28 })).room s m ([.ref (a 0), .int p1, .int p2, .int p3, .int p4, .int p5] : List Value).toArray below meth c s.heap [] 0 0 (MQ below (pQi r) ([.ref (a 0), .int p1, .int p2, .int p3, .int p4, .int p5] : List Value).toArray s 0 0 (fun _ => False)) (F0 m 18 ls []) := by
      intro k18
      induction k18 with
      | zero =>
        intro x6 x7 ls hf hl
        rw [f_X0_gainsOverOrders_18] at hf
        cases hf
      | succ k18 ih18 =>
        have hW54 : ∀ (x6 x7 s0 : Int32) (ls : Array Slot), f_X0_gainsOverOrders_54 S p1 p2 p3 p4 p5 (f_X0_gainsOverOrders S d) (f_X0_gainsOverOrders_18 S p1 p2 p3 p4 p5 (f_X0_gainsOverOrders S d) k18) x6 x7 s0 = some r → lv_has ls 9 [(0, .ref (a 0)), (1, .int p1), (2, .int p2), (3, .int p3), (4, .int p4), (5, .int p5), (6, .int x6), (7, .int x7)] → W p l e (headSpec wsX0_gainsOverOrders ({ frames := 3 + (d + 1), cells := 0, slots := 0, locals := 66 + (d + 1) * 28 })).room s m ([.ref (a 0), .int p1, .int p2, .int p3, .int p4, .int p5] : List Value).toArray below meth c s.heap [] 0 0 (MQ below (pQi r) ([.ref (a 0), .int p1, .int p2, .int p3, .int p4, .int p5] : List Value).toArray s 0 0 (fun _ => False)) (F0 m 54 ls [.int s0]) := by
          intro x6 x7 s0 ls hf hl
          unfold f_X0_gainsOverOrders_54 at hf
          refine lv_istore (lv' := [(8, .int s0), (0, .ref (a 0)), (1, .int p1), (2, .int p2), (3, .int p3), (4, .int p4), (5, .int p5), (6, .int x6), (7, .int x7)]) hx hb dX0_gainsOverOrders_54 hl (by decide) rfl (fun ls hl => ?_)
          refine lv_iload hx hb dX0_gainsOverOrders_56 (lv_at hl 7 rfl) ?_
          refine lv_aload_n hx hb dX0_gainsOverOrders_58 rfl (lv_at hl 1 rfl) ?_
          refine lv_iload_n hx hb dX0_gainsOverOrders_59 rfl (lv_at hl 2 rfl) ?_
          refine lv_iload_n hx hb dX0_gainsOverOrders_60 rfl (lv_at hl 3 rfl) ?_
          refine lv_iload_n hx hb dX0_gainsOverOrders_61 rfl (lv_at hl 4 rfl) ?_
          refine lv_iload hx hb dX0_gainsOverOrders_62 (lv_at hl 8 rfl) ?_
          refine pu_S (As := [.int p3, .int x7]) (rest := [.int p2, .int p1, .ref (a 0), .int x6]) ⟨hx, hb, hml, hown, hts⟩ (k_X0_with l p3 x7 _ rfl) gX0_gainsOverOrders_X0_with rfl rfl rfl cd_X0_with (by show 0 + 1 ≤ 3 + (d + 1); omega) (by show 8 + (2 + 11) + 0 ≤ 66 + (d + 1) * 28; omega) (preT) rfl hl.1 rfl (Nat.le_of_ble_eq_true rfl) (Nat.zero_le _) (Nat.zero_le _) dX0_gainsOverOrders_64 ?_
          refine lv_iload hx hb dX0_gainsOverOrders_67 (lv_at hl 5 rfl) ?_
          refine lv_iconst (v := 1) hx hb dX0_gainsOverOrders_69 (by decide) ?_
          refine lv_iadd hx hb dX0_gainsOverOrders_70 ?_
          refine lv_iload hx hb dX0_gainsOverOrders_71 (lv_at hl 0 rfl) ?_
          obtain ⟨v1, hv1, hf⟩ := ob_some hf
          refine pu_V (As := [.int p1, .int p2, .int (f_X0_with p3 x7), .int (p4 + 1), .int s0]) (rest := [.int x6]) ⟨hx, hb, hml, hown, hts⟩ (ihd p1 p2 (f_X0_with p3 x7) (p4 + 1) s0 _ hv1) gX0_gainsOverOrders_X0_gainsOverOrders rfl rfl rfl cd_X0_gainsOverOrders (by show 3 + d + 1 ≤ 3 + (d + 1); omega) (by show 8 + (9 + 11) + (66 + d * 28) ≤ 66 + (d + 1) * 28; omega) (preX hK hP) rfl hl.1 rfl (Nat.le_of_ble_eq_true rfl) (Nat.zero_le _) (Nat.zero_le _) dX0_gainsOverOrders_73 ?_
          refine lv_iadd hx hb dX0_gainsOverOrders_76 ?_
          refine lv_topi (fun y2 ey2 => ?_)
          have hf := bnd_at hf ey2
          refine lv_istore (lv' := [(6, .int y2), (8, .int s0), (0, .ref (a 0)), (1, .int p1), (2, .int p2), (3, .int p3), (4, .int p4), (5, .int p5), (7, .int x7)]) hx hb dX0_gainsOverOrders_77 hl (by decide) rfl (fun ls hl => ?_)
          obtain ⟨y3, ey3⟩ : ∃ y : Int32, y = (x7 + 1) := ⟨_, rfl⟩
          have hf := bnd_at hf ey3
          refine lv_iinc (v := y3) (lv' := [(7, .int y3), (6, .int y2), (8, .int s0), (0, .ref (a 0)), (1, .int p1), (2, .int p2), (3, .int p3), (4, .int p4), (5, .int p5)]) hx hb dX0_gainsOverOrders_79 hl (k := 8) rfl (by rw [ey3]; rfl) (by decide) rfl (fun ls hl => ?_)
          refine lv_goto (tgt := 18) hx hb dX0_gainsOverOrders_82 (by decide) ?_
          exact ih18 y2 y3 ls hf (lv_sub hl [3, 4, 5, 6, 7, 8, 1, 0] rfl)
        intro x6 x7 ls hf hl
        rw [f_X0_gainsOverOrders_18] at hf
        refine lv_iload hx hb dX0_gainsOverOrders_18 (lv_at hl 7 rfl) ?_
        refine lv_aload_n hx hb dX0_gainsOverOrders_20 rfl (lv_at hl 0 rfl) ?_
        refine gfX hx hb hts hin hown hK hP 0 (by decide) hw0 rfl rfl dX0_gainsOverOrders_21 ?_
        refine lv_icmp_ge (tgt := 85) hx hb dX0_gainsOverOrders_24 (by decide) (fun c4 => ?_) (fun c4 => ?_)
        · rw [if_pos c4] at hf
          refine lv_iload hx hb dX0_gainsOverOrders_85 (lv_at hl 6 rfl) ?_
          have hf := Option.some.inj hf; subst hf
          exact W.iret hx hb hr (fun t ht hW => ⟨rfl, ht⟩) (fun q h => by cases h) dX0_gainsOverOrders_87
        · rw [if_neg c4] at hf
          refine lv_iload_n hx hb dX0_gainsOverOrders_27 rfl (lv_at hl 3 rfl) ?_
          refine lv_iload hx hb dX0_gainsOverOrders_28 (lv_at hl 7 rfl) ?_
          refine pu_S (As := [.int p3, .int x7]) (rest := []) ⟨hx, hb, hml, hown, hts⟩ (k_X0_has l p3 x7 _ rfl) gX0_gainsOverOrders_X0_has rfl rfl rfl cd_X0_has (by show 0 + 1 ≤ 3 + (d + 1); omega) (by show 8 + (2 + 11) + 0 ≤ 66 + (d + 1) * 28; omega) (preT) rfl hl.1 rfl (Nat.le_of_ble_eq_true rfl) (Nat.zero_le _) (Nat.zero_le _) dX0_gainsOverOrders_30 ?_
          refine lv_if_ne (tgt := 79) hx hb dX0_gainsOverOrders_33 (by decide) (fun c5 => ?_) (fun c5 => ?_)
          · rw [if_neg c5] at hf
            obtain ⟨y6, ey6⟩ : ∃ y : Int32, y = (x7 + 1) := ⟨_, rfl⟩
            have hf := bnd_at hf ey6
            refine lv_iinc (v := y6) (lv' := [(7, .int y6), (0, .ref (a 0)), (1, .int p1), (2, .int p2), (3, .int p3), (4, .int p4), (5, .int p5), (6, .int x6)]) hx hb dX0_gainsOverOrders_79 hl (k := 7) rfl (by rw [ey6]; rfl) (by decide) rfl (fun ls hl => ?_)
            refine lv_goto (tgt := 18) hx hb dX0_gainsOverOrders_82 (by decide) ?_
            exact ih18 x6 y6 ls hf (lv_sub hl [1, 2, 3, 4, 5, 6, 7, 0] rfl)
          · rw [if_pos c5] at hf
            refine lv_iload hx hb dX0_gainsOverOrders_36 (lv_at hl 7 rfl) ?_
            refine lv_iload_n hx hb dX0_gainsOverOrders_38 rfl (lv_at hl 2 rfl) ?_
            refine lv_icmp_ne (tgt := 52) hx hb dX0_gainsOverOrders_39 (by decide) (fun c7 => ?_) (fun c7 => ?_)
            · rw [if_neg c7] at hf
              refine lv_iload hx hb dX0_gainsOverOrders_52 (lv_at hl 5 rfl) ?_
              exact hW54 x6 x7 p5 ls hf (lv_sub hl [0, 1, 2, 3, 4, 5, 6, 7] rfl)
            · rw [if_pos c7] at hf
              refine lv_aload_n hx hb dX0_gainsOverOrders_42 rfl (lv_at hl 0 rfl) ?_
              refine lv_iload_n hx hb dX0_gainsOverOrders_43 rfl (lv_at hl 1 rfl) ?_
              refine lv_iload_n hx hb dX0_gainsOverOrders_44 rfl (lv_at hl 3 rfl) ?_
              refine lv_iload_n hx hb dX0_gainsOverOrders_45 rfl (lv_at hl 2 rfl) ?_
              refine pu_V (As := [.int p1, .int p3, .int p2]) (rest := []) ⟨hx, hb, hml, hown, hts⟩ (k_X0_gain l dC dI cA a S p1 p3 p2 _ rfl) gX0_gainsOverOrders_X0_gain rfl rfl rfl cd_X0_gain (by show 2 + 1 ≤ 3 + (d + 1); omega) (by show 8 + (4 + 11) + 43 ≤ 66 + (d + 1) * 28; omega) (preX hK hP) rfl hl.1 rfl (Nat.le_of_ble_eq_true rfl) (Nat.zero_le _) (Nat.zero_le _) dX0_gainsOverOrders_46 ?_
              refine lv_goto (tgt := 54) hx hb dX0_gainsOverOrders_49 (by decide) ?_
              exact hW54 x6 x7 (f_X0_gain S p1 p3 p2) ls hf (lv_sub hl [0, 1, 2, 3, 4, 5, 6, 7] rfl)
    rw [f_X0_gainsOverOrders] at hf
    refine lv_iload hx hb dX0_gainsOverOrders_0 (lv_at hl 4 rfl) ?_
    refine lv_aload_n hx hb dX0_gainsOverOrders_2 rfl (lv_at hl 0 rfl) ?_
    refine gfX hx hb hts hin hown hK hP 0 (by decide) hw0 rfl rfl dX0_gainsOverOrders_3 ?_
    refine lv_icmp_lt (tgt := 12) hx hb dX0_gainsOverOrders_6 (by decide) (fun c8 => ?_) (fun c8 => ?_)
    · rw [if_pos c8] at hf
      refine lv_iconst (v := 0) hx hb dX0_gainsOverOrders_12 (by decide) ?_
      refine lv_istore (lv' := [(6, .int 0), (0, .ref (a 0)), (1, .int p1), (2, .int p2), (3, .int p3), (4, .int p4), (5, .int p5)]) hx hb dX0_gainsOverOrders_13 hl (by decide) rfl (fun ls hl => ?_)
      refine lv_iconst (v := 0) hx hb dX0_gainsOverOrders_15 (by decide) ?_
      refine lv_istore (lv' := [(7, .int 0), (6, .int 0), (0, .ref (a 0)), (1, .int p1), (2, .int p2), (3, .int p3), (4, .int p4), (5, .int p5)]) hx hb dX0_gainsOverOrders_16 hl (by decide) rfl (fun ls hl => ?_)
      exact hW18 70 0 0 ls hf (lv_sub hl [2, 3, 4, 5, 6, 7, 1, 0] rfl)
    · rw [if_neg c8] at hf
      refine lv_iload hx hb dX0_gainsOverOrders_9 (lv_at hl 5 rfl) ?_
      have hf := Option.some.inj hf; subst hf
      exact W.iret hx hb hr (fun t ht hW => ⟨rfl, ht⟩) (fun q h => by cases h) dX0_gainsOverOrders_11

def f_X0_elements (S : St) (p1 : Int32) : Option (Nat × Int32 × St) := (if (nx 2 (f_X0_isWithin p1 1 6)) = 0 then (bnd (S.1 0) fun y2 => some (0, y2, (sA (sA (sA (sA (sA (sS (sS (sS S 0 p1) 1 0) 2 0) 0 (filv 6 ((sS (sS (sS S 0 p1) 1 0) 2 0).2 0) 0)) 1 (filv 36 ((sA (sS (sS (sS S 0 p1) 1 0) 2 0) 0 (filv 6 ((sS (sS (sS S 0 p1) 1 0) 2 0).2 0) 0)).2 1) 0)) 2 (filv 12 ((sA (sA (sS (sS (sS S 0 p1) 1 0) 2 0) 0 (filv 6 ((sS (sS (sS S 0 p1) 1 0) 2 0).2 0) 0)) 1 (filv 36 ((sA (sS (sS (sS S 0 p1) 1 0) 2 0) 0 (filv 6 ((sS (sS (sS S 0 p1) 1 0) 2 0).2 0) 0)).2 1) 0)).2 2) 0)) 3 (filv 12 ((sA (sA (sA (sS (sS (sS S 0 p1) 1 0) 2 0) 0 (filv 6 ((sS (sS (sS S 0 p1) 1 0) 2 0).2 0) 0)) 1 (filv 36 ((sA (sS (sS (sS S 0 p1) 1 0) 2 0) 0 (filv 6 ((sS (sS (sS S 0 p1) 1 0) 2 0).2 0) 0)).2 1) 0)) 2 (filv 12 ((sA (sA (sS (sS (sS S 0 p1) 1 0) 2 0) 0 (filv 6 ((sS (sS (sS S 0 p1) 1 0) 2 0).2 0) 0)) 1 (filv 36 ((sA (sS (sS (sS S 0 p1) 1 0) 2 0) 0 (filv 6 ((sS (sS (sS S 0 p1) 1 0) 2 0).2 0) 0)).2 1) 0)).2 2) 0)).2 3) 1)) 4 (filv 6 ((sA (sA (sA (sA (sS (sS (sS S 0 p1) 1 0) 2 0) 0 (filv 6 ((sS (sS (sS S 0 p1) 1 0) 2 0).2 0) 0)) 1 (filv 36 ((sA (sS (sS (sS S 0 p1) 1 0) 2 0) 0 (filv 6 ((sS (sS (sS S 0 p1) 1 0) 2 0).2 0) 0)).2 1) 0)) 2 (filv 12 ((sA (sA (sS (sS (sS S 0 p1) 1 0) 2 0) 0 (filv 6 ((sS (sS (sS S 0 p1) 1 0) 2 0).2 0) 0)) 1 (filv 36 ((sA (sS (sS (sS S 0 p1) 1 0) 2 0) 0 (filv 6 ((sS (sS (sS S 0 p1) 1 0) 2 0).2 0) 0)).2 1) 0)).2 2) 0)) 3 (filv 12 ((sA (sA (sA (sS (sS (sS S 0 p1) 1 0) 2 0) 0 (filv 6 ((sS (sS (sS S 0 p1) 1 0) 2 0).2 0) 0)) 1 (filv 36 ((sA (sS (sS (sS S 0 p1) 1 0) 2 0) 0 (filv 6 ((sS (sS (sS S 0 p1) 1 0) 2 0).2 0) 0)).2 1) 0)) 2 (filv 12 ((sA (sA (sS (sS (sS S 0 p1) 1 0) 2 0) 0 (filv 6 ((sS (sS (sS S 0 p1) 1 0) 2 0).2 0) 0)) 1 (filv 36 ((sA (sS (sS (sS S 0 p1) 1 0) 2 0) 0 (filv 6 ((sS (sS (sS S 0 p1) 1 0) 2 0).2 0) 0)).2 1) 0)).2 2) 0)).2 3) 1)).2 4) 0)))) else some ((nx 2 (f_X0_isWithin p1 1 6)), 0, S))
def f_X0_cover_60 (S : St) (p1 p2 p3 : Int32) (x4 : Int32) (s1 : Int32) (s2 : Int32) : Option (Nat × Int32 × St) := some (0, (f_X0_has x4 p2), (sA S 0 (putv 6 (S.2 0) s1 s2)))
def f_X0_cover_23 (S : St) (p1 p2 p3 : Int32) (s0 : Int32) : Option (Nat × Int32 × St) := (if (nx 1 s0) = 0 then (bnd (atv 6 (S.2 0) p1) fun y2 => (if p3 = 0 then (f_X0_cover_60 S p1 p2 p3 y2 p1 (f_X0_without y2 p2)) else (f_X0_cover_60 S p1 p2 p3 y2 p1 (f_X0_with y2 p2)))) else some ((nx 1 s0), 0, S))
def f_X0_cover (S : St) (p1 : Int32) (p2 : Int32) (p3 : Int32) : Option (Nat × Int32 × St) := (if (f_X0_isElement S p1) = 0 then (f_X0_cover_23 S p1 p2 p3 0) else (if (f_X0_isWithin p2 0 9) = 0 then (f_X0_cover_23 S p1 p2 p3 0) else (f_X0_cover_23 S p1 p2 p3 1)))
def f_X0_edge_44 (S : St) (p1 p2 p3 : Int32) (s0 : Int32) : Option (Nat × Int32 × St) := (if (nx 2 s0) = 0 then (bnd (f_X0_edgeWeight S p1 p2) fun y2 => some (0, y2, (sA (sA S 1 (putv 36 (S.2 1) ((p1 * 6) + p2) p3)) 1 (putv 36 ((sA S 1 (putv 36 (S.2 1) ((p1 * 6) + p2) p3)).2 1) ((p2 * 6) + p1) p3)))) else some ((nx 2 s0), 0, S))
def f_X0_edge_21 (S : St) (p1 p2 p3 : Int32) (s0 : Int32) : Option (Nat × Int32 × St) := (if (nx 1 s0) = 0 then (if p1 = p2 then (f_X0_edge_44 S p1 p2 p3 0) else (if (f_X0_isWithin p3 0 20) = 0 then (f_X0_edge_44 S p1 p2 p3 0) else (f_X0_edge_44 S p1 p2 p3 1))) else some ((nx 1 s0), 0, S))
def f_X0_edge (S : St) (p1 : Int32) (p2 : Int32) (p3 : Int32) : Option (Nat × Int32 × St) := (if (f_X0_isElement S p1) = 0 then (f_X0_edge_21 S p1 p2 p3 0) else (if (f_X0_isElement S p2) = 0 then (f_X0_edge_21 S p1 p2 p3 0) else (f_X0_edge_21 S p1 p2 p3 1)))
def f_X0_colour_27 (S : St) (p1 p2 p3 : Int32) (s0 : Int32) : Option (Nat × Int32 × St) := (if (nx 1 s0) = 0 then (bnd (f_X0_colourOf S p1 p2) fun y2 => some (0, y2, (sA S 2 (putv 12 (S.2 2) ((p1 * 6) + p2) p3)))) else some ((nx 1 s0), 0, S))
def f_X0_colour (S : St) (p1 : Int32) (p2 : Int32) (p3 : Int32) : Option (Nat × Int32 × St) := (if (f_X0_isFamily p1) = 0 then (f_X0_colour_27 S p1 p2 p3 0) else (if (f_X0_isElement S p2) = 0 then (f_X0_colour_27 S p1 p2 p3 0) else (if (f_X0_isColour p3) = 0 then (f_X0_colour_27 S p1 p2 p3 0) else (f_X0_colour_27 S p1 p2 p3 1))))
def f_X0_room_19 (S : St) (p1 p2 p3 : Int32) (s0 : Int32) : Option (Nat × Int32 × St) := (if (nx 1 s0) = 0 then (if (nx 2 (f_X0_isWithin p3 0 6)) = 0 then (bnd (f_X0_roomOf S p1 p2) fun y3 => some (0, y3, (sA S 3 (putv 12 (S.2 3) ((p1 * 6) + p2) p3)))) else some ((nx 2 (f_X0_isWithin p3 0 6)), 0, S)) else some ((nx 1 s0), 0, S))
def f_X0_room (S : St) (p1 : Int32) (p2 : Int32) (p3 : Int32) : Option (Nat × Int32 × St) := (if (f_X0_isFamily p1) = 0 then (f_X0_room_19 S p1 p2 p3 0) else (if (f_X0_isColour p2) = 0 then (f_X0_room_19 S p1 p2 p3 0) else (f_X0_room_19 S p1 p2 p3 1)))
def f_X0_weigh (S : St) (p1 : Int32) (p2 : Int32) : Option (Nat × Int32 × St) := (if (nx 1 (f_X0_isElement S p1)) = 0 then (if (nx 2 (f_X0_isWithin p2 (-20) 20)) = 0 then (bnd (atv 6 (S.2 4) p1) fun y3 => some (0, y3, (sA S 4 (putv 6 (S.2 4) p1 p2)))) else some ((nx 2 (f_X0_isWithin p2 (-20) 20)), 0, S)) else some ((nx 1 (f_X0_isElement S p1)), 0, S))
def f_X0_needPlace_14 (S : St) (s0 : Int32) : Option Nat := (if (nx 3 s0) = 0 then some 0 else some (nx 3 s0))
def f_X0_needPlace (S : St) : Option Nat := (if 8 ≤ (S.1 1) then (f_X0_needPlace_14 S 0) else (f_X0_needPlace_14 S 1))
def f_X0_make_15 (p1 : Int32) : Nat → St → Int32 → Option (Nat × Int32 × St)
  | 0, _, _ => none
  | k + 1, S, x2 => (if (f_X0_sets S ) ≤ x2 then ((f_X0_countNew S).bind fun q2 => some (0, q2.1, q2.2)) else ((f_X0_toldValue S p1 x2).bind fun v3 => ((f_X0_putNew S x2 v3).bind fun q4 => (bnd (x2 + 1) fun y5 => ((f_X0_make_15 p1 k) q4 y5)))))
def f_X0_make (S : St) (p1 : Int32) : Option (Nat × Int32 × St) := (if (nx 2 (f_X0_isWithin p1 0 4)) = 0 then ((f_X0_needPlace S).bind fun e2 => (if e2 = 0 then (f_X0_make_15 p1 70 S 0) else some (e2, 0, S))) else some ((nx 2 (f_X0_isWithin p1 0 4)), 0, S))
def f_X0_sum_30 (p1 p2 : Int32) : Nat → St → Int32 → Option (Nat × Int32 × St)
  | 0, _, _ => none
  | k + 1, S, x3 => (if (f_X0_sets S ) ≤ x3 then ((f_X0_countNew S).bind fun q2 => some (0, q2.1, q2.2)) else ((f_X0_putNew S x3 ((f_X0_valueOf S p1 x3) + (f_X0_valueOf S p2 x3))).bind fun q3 => (bnd (x3 + 1) fun y4 => ((f_X0_sum_30 p1 p2 k) q3 y4))))
def f_X0_sum_21 (S : St) (p1 p2 : Int32) (s0 : Int32) : Option (Nat × Int32 × St) := (if (nx 1 s0) = 0 then ((f_X0_needPlace S).bind fun e2 => (if e2 = 0 then (f_X0_sum_30 p1 p2 70 S 0) else some (e2, 0, S))) else some ((nx 1 s0), 0, S))
def f_X0_sum (S : St) (p1 : Int32) (p2 : Int32) : Option (Nat × Int32 × St) := (if (f_X0_isFunction S p1) = 0 then (f_X0_sum_21 S p1 p2 0) else (if (f_X0_isFunction S p2) = 0 then (f_X0_sum_21 S p1 p2 0) else (f_X0_sum_21 S p1 p2 1)))
def f_X0_contract_22 (p1 p2 : Int32) : Nat → St → Int32 → Option (Nat × Int32 × St)
  | 0, _, _ => none
  | k + 1, S, x3 => (if (f_X0_sets S ) ≤ x3 then ((f_X0_countNew S).bind fun q2 => some (0, q2.1, q2.2)) else ((f_X0_putNew S x3 ((f_X0_valueOf S p1 (x3 ||| p2)) - (f_X0_valueOf S p1 p2))).bind fun q3 => (bnd (x3 + 1) fun y4 => ((f_X0_contract_22 p1 p2 k) q3 y4))))
def f_X0_contract (S : St) (p1 : Int32) (p2 : Int32) : Option (Nat × Int32 × St) := (if (nx 1 (f_X0_isFunction S p1)) = 0 then (if (nx 2 (f_X0_isSet S p2)) = 0 then ((f_X0_needPlace S).bind fun e3 => (if e3 = 0 then (f_X0_contract_22 p1 p2 70 S 0) else some (e3, 0, S))) else some ((nx 2 (f_X0_isSet S p2)), 0, S)) else some ((nx 1 (f_X0_isFunction S p1)), 0, S))
def f_X0_cap_24 (p1 p2 : Int32) : Nat → St → Int32 → Option (Nat × Int32 × St)
  | 0, _, _ => none
  | k + 1, S, x3 => (if (f_X0_sets S ) ≤ x3 then ((f_X0_countNew S).bind fun q2 => some (0, q2.1, q2.2)) else ((f_X0_putNew S x3 (if p2 < (f_X0_valueOf S p1 x3) then p2 else (f_X0_valueOf S p1 x3))).bind fun q3 => (bnd (x3 + 1) fun y4 => ((f_X0_cap_24 p1 p2 k) q3 y4))))
def f_X0_cap (S : St) (p1 : Int32) (p2 : Int32) : Option (Nat × Int32 × St) := (if (nx 1 (f_X0_isFunction S p1)) = 0 then (if (nx 2 (f_X0_isWithin p2 0 100)) = 0 then ((f_X0_needPlace S).bind fun e3 => (if e3 = 0 then (f_X0_cap_24 p1 p2 70 S 0) else some (e3, 0, S))) else some ((nx 2 (f_X0_isWithin p2 0 100)), 0, S)) else some ((nx 1 (f_X0_isFunction S p1)), 0, S))
def f_X0_value (S : St) (p1 : Int32) (p2 : Int32) : Option (Nat × Int32 × St) := (if (nx 1 (f_X0_isFunction S p1)) = 0 then (if (nx 2 (f_X0_isSet S p2)) = 0 then some (0, (f_X0_valueOf S p1 p2), S) else some ((nx 2 (f_X0_isSet S p2)), 0, S)) else some ((nx 1 (f_X0_isFunction S p1)), 0, S))
theorem cd_X0_elements : yX0_elements.cls = RX0 ∧ yX0_elements.cls ≠ "java/lang/invoke/MethodHandle" ∧ yX0_elements.cls ≠ "java/lang/invoke/VarHandle" ∧ (parseMethodDescriptor yX0_elements.desc).map (fun d => d.parameters.length) = some 1 := by decide +kernel
set_option maxHeartbeats 4000000 in
set_option maxRecDepth 100000 in
theorem k_X0_elements (l : Launch) (dC : Nat → ClassId) (dI : Nat → Nat → Nat) (cA : ClassId) (a : Nat → Nat) (S : St) (p1 : Int32) (r : Nat × Int32 × St) (hf : f_X0_elements S p1 = some r) (hap : apart a 10) (hfl : l.stackTraces = false) : vx_Met l yX0_elements wsX0_elements ({ frames := 7, cells := 1, slots := 6, locals := 110 }) (va_Pc [.ref (a 0), .int p1] (PTs (dC, dI) cA a S)) (tQi (dC, dI) cA a r) (tX r.1) 1 6 (ad a 10) := by
  refine vx_ofW (cc := cX0_elements) (maxL := 3) (ret := (some .int)) (by decide) rfl ?_
  intro p e s m args below meth c s₁ B hml htab hv
  obtain ⟨rfl, hP, hK, hEx⟩ := hv
  have hx := B.exec
  have hb := B.bytes
  have hr := B.returns
  have hts := atoms_spec (ws := wsX0_elements) B.pre
  have hown : s.vm.findClass RX0 = some m.cls := findClass_of_methodNamed B.named
  have hlocks := B.notSynchronized
  have hin : ∀ w ∈ u_ws RX0 TX0 12, w ∈ wsX0_elements := by decide +kernel
  have hw0 := hts (.fieldLink RX0 9 "Submodulary" "elements" "I") (by decide +kernel)
  have hw1 := hts (.fieldLink RX0 13 "Submodulary" "functions" "I") (by decide +kernel)
  have hw2 := hts (.fieldLink RX0 16 "Submodulary" "told" "I") (by decide +kernel)
  have hw3 := hts (.fieldLink RX0 19 "Submodulary" "covered" "[I") (by decide +kernel)
  have hw4 := hts (.fieldLink RX0 23 "Submodulary" "edges" "[I") (by decide +kernel)
  have hw5 := hts (.fieldLink RX0 26 "Submodulary" "colours" "[I") (by decide +kernel)
  have hw6 := hts (.fieldLink RX0 29 "Submodulary" "rooms" "[I") (by decide +kernel)
  have hw7 := hts (.fieldLink RX0 32 "Submodulary" "weights" "[I") (by decide +kernel)
  have hS : va_S (ad a 10) s.heap s.heap [] := va_S.rf
  have hl := lv_entry ([.ref (a 0), .int p1]) (n := 3) (Nat.le_of_ble_eq_true rfl)
  rw [lg_entry_eq]
  generalize (lg_sl ([.ref (a 0), .int p1]) ++ List.replicate (3 - (lg_sl ([.ref (a 0), .int p1])).length) Slot.unset).toArray = ls at hl ⊢
  have hl : lv_has ls 3 [(0, .ref (a 0)), (1, .int p1)] := hl
  unfold f_X0_elements at hf
  refine lv_iload_n hx hb dX0_elements_0 rfl (lv_at hl 1 rfl) ?_
  refine lv_iconst (v := 1) hx hb dX0_elements_1 (by decide) ?_
  refine lv_bipush (v := 6) hx hb dX0_elements_2 (by decide) ?_
  refine pu_S (As := [.int p1, .int 1, .int 6]) (rest := []) ⟨hx, hb, hml, hown, hts⟩ (k_X0_isWithin l p1 1 6 _ rfl) gX0_elements_X0_isWithin rfl rfl rfl cd_X0_isWithin (Nat.le_of_ble_eq_true rfl) (Nat.le_of_ble_eq_true rfl) (preT) rfl hl.1 rfl (Nat.le_of_ble_eq_true rfl) (Nat.le_of_ble_eq_true rfl) (Nat.le_of_ble_eq_true rfl) dX0_elements_4 ?_
  refine xt_S (As := [.int (f_X0_isWithin p1 1 6)]) (rest := []) ⟨hx, hb, hml, hown, hts⟩ (k_X0_needArgument l hfl (f_X0_isWithin p1 1 6)) gX0_elements_X0_needArgument rfl rfl rfl cd_X0_needArgument (Nat.le_of_ble_eq_true rfl) (Nat.le_of_ble_eq_true rfl) (preE hEx) rfl hl.1 rfl (Nat.le_of_ble_eq_true rfl) (Nat.le_of_ble_eq_true rfl) (Nat.le_of_ble_eq_true rfl) dX0_elements_7 (fun c1 E ce q9 H1 hE hz hk hce hcv hcl => ?_) (fun c1 => ?_)
  · rw [if_neg c1] at hf
    have hf := Option.some.inj hf; subst hf
    exact xt_out htab hlocks c1 hE hz hk hce hcv hcl (Nat.le_of_ble_eq_true rfl) (Nat.le_of_ble_eq_true rfl)
  rw [if_pos c1] at hf
  refine lv_aload_n hx hb dX0_elements_10 rfl (lv_at hl 0 rfl) ?_
  refine gfX hx hb hts hin hown hK hP 0 (by decide) hw0 rfl rfl dX0_elements_11 ?_
  refine lv_topi (fun y2 ey2 => ?_)
  have hf := bnd_at hf ey2
  refine lv_istore_n (lv' := [(2, .int y2), (0, .ref (a 0)), (1, .int p1)]) hx hb dX0_elements_14 rfl hl (by decide) rfl (fun ls hl => ?_)
  refine lv_aload_n hx hb dX0_elements_15 rfl (lv_at hl 1 rfl) ?_
  refine lv_iload_n hx hb dX0_elements_16 rfl (lv_at hl 2 rfl) ?_
  refine pfX hx hb hts hin hown hK hP hap hS 0 (by decide) hw0 rfl rfl (by decide +kernel) (k2 := 0) (fun _ => rfl) dX0_elements_17 (fun H locs hP hS => ?_)
  refine lv_aload_n hx hb dX0_elements_20 rfl (lv_at hl 1 rfl) ?_
  refine lv_iconst (v := 0) hx hb dX0_elements_21 (by decide) ?_
  refine pfX hx hb hts hin hown hK hP hap hS 1 (by decide) hw1 rfl rfl (by decide +kernel) (k2 := 1) (fun _ => rfl) dX0_elements_22 (fun H locs hP hS => ?_)
  refine lv_aload_n hx hb dX0_elements_25 rfl (lv_at hl 1 rfl) ?_
  refine lv_iconst (v := 0) hx hb dX0_elements_26 (by decide) ?_
  refine pfX hx hb hts hin hown hK hP hap hS 2 (by decide) hw2 rfl rfl (by decide +kernel) (k2 := 2) (fun _ => rfl) dX0_elements_27 (fun H locs hP hS => ?_)
  refine lv_aload_n hx hb dX0_elements_30 rfl (lv_at hl 1 rfl) ?_
  refine gfX hx hb hts hin hown hK hP 3 (by decide) hw3 rfl rfl dX0_elements_31 ?_
  refine lv_iconst (v := 0) hx hb dX0_elements_34 (by decide) ?_
  refine mu_RX (As := [.ref (a 1), .int 0]) (rest := []) ⟨hx, hb, hml, hown, hts⟩ (k_J7_fill_53178 l dC dI cA (a 1) 6 ((sS (sS (sS S 0 p1) 1 0) 2 0).2 0) 0 (by decide)) gX0_elements_J7_fill_53178 rfl rfl rfl cd_J7_fill_53178 (Nat.le_of_ble_eq_true rfl) (Nat.le_of_ble_eq_true rfl) (preR hK (rowX hP 1 (wX_q0 cA a _))) rfl hl.1 rfl (Nat.le_of_ble_eq_true rfl) (Nat.le_of_ble_eq_true rfl) (Nat.le_of_ble_eq_true rfl) dX0_elements_35 hP hap hS 0 (wX_q0 cA a _) (wX_s0 cA a _ _) (fun H locs hP hS => ?_)
  refine lv_aload_n hx hb dX0_elements_38 rfl (lv_at hl 1 rfl) ?_
  refine gfX hx hb hts hin hown hK hP 4 (by decide) hw4 rfl rfl dX0_elements_39 ?_
  refine lv_iconst (v := 0) hx hb dX0_elements_42 (by decide) ?_
  refine mu_RX (As := [.ref (a 2), .int 0]) (rest := []) ⟨hx, hb, hml, hown, hts⟩ (k_J7_fill_53178 l dC dI cA (a 2) 36 ((sA (sS (sS (sS S 0 p1) 1 0) 2 0) 0 (filv 6 ((sS (sS (sS S 0 p1) 1 0) 2 0).2 0) 0)).2 1) 0 (by decide)) gX0_elements_J7_fill_53178 rfl rfl rfl cd_J7_fill_53178 (Nat.le_of_ble_eq_true rfl) (Nat.le_of_ble_eq_true rfl) (preR hK (rowX hP 2 (wX_q1 cA a _))) rfl hl.1 rfl (Nat.le_of_ble_eq_true rfl) (Nat.le_of_ble_eq_true rfl) (Nat.le_of_ble_eq_true rfl) dX0_elements_43 hP hap hS 1 (wX_q1 cA a _) (wX_s1 cA a _ _) (fun H locs hP hS => ?_)
  refine lv_aload_n hx hb dX0_elements_46 rfl (lv_at hl 1 rfl) ?_
  refine gfX hx hb hts hin hown hK hP 5 (by decide) hw5 rfl rfl dX0_elements_47 ?_
  refine lv_iconst (v := 0) hx hb dX0_elements_50 (by decide) ?_
  refine mu_RX (As := [.ref (a 3), .int 0]) (rest := []) ⟨hx, hb, hml, hown, hts⟩ (k_J7_fill_53178 l dC dI cA (a 3) 12 ((sA (sA (sS (sS (sS S 0 p1) 1 0) 2 0) 0 (filv 6 ((sS (sS (sS S 0 p1) 1 0) 2 0).2 0) 0)) 1 (filv 36 ((sA (sS (sS (sS S 0 p1) 1 0) 2 0) 0 (filv 6 ((sS (sS (sS S 0 p1) 1 0) 2 0).2 0) 0)).2 1) 0)).2 2) 0 (by decide)) gX0_elements_J7_fill_53178 rfl rfl rfl cd_J7_fill_53178 (Nat.le_of_ble_eq_true rfl) (Nat.le_of_ble_eq_true rfl) (preR hK (rowX hP 3 (wX_q2 cA a _))) rfl hl.1 rfl (Nat.le_of_ble_eq_true rfl) (Nat.le_of_ble_eq_true rfl) (Nat.le_of_ble_eq_true rfl) dX0_elements_51 hP hap hS 2 (wX_q2 cA a _) (wX_s2 cA a _ _) (fun H locs hP hS => ?_)
  refine lv_aload_n hx hb dX0_elements_54 rfl (lv_at hl 1 rfl) ?_
  refine gfX hx hb hts hin hown hK hP 6 (by decide) hw6 rfl rfl dX0_elements_55 ?_
  refine lv_iconst (v := 1) hx hb dX0_elements_58 (by decide) ?_
  refine mu_RX (As := [.ref (a 4), .int 1]) (rest := []) ⟨hx, hb, hml, hown, hts⟩ (k_J7_fill_53178 l dC dI cA (a 4) 12 ((sA (sA (sA (sS (sS (sS S 0 p1) 1 0) 2 0) 0 (filv 6 ((sS (sS (sS S 0 p1) 1 0) 2 0).2 0) 0)) 1 (filv 36 ((sA (sS (sS (sS S 0 p1) 1 0) 2 0) 0 (filv 6 ((sS (sS (sS S 0 p1) 1 0) 2 0).2 0) 0)).2 1) 0)) 2 (filv 12 ((sA (sA (sS (sS (sS S 0 p1) 1 0) 2 0) 0 (filv 6 ((sS (sS (sS S 0 p1) 1 0) 2 0).2 0) 0)) 1 (filv 36 ((sA (sS (sS (sS S 0 p1) 1 0) 2 0) 0 (filv 6 ((sS (sS (sS S 0 p1) 1 0) 2 0).2 0) 0)).2 1) 0)).2 2) 0)).2 3) 1 (by decide)) gX0_elements_J7_fill_53178 rfl rfl rfl cd_J7_fill_53178 (Nat.le_of_ble_eq_true rfl) (Nat.le_of_ble_eq_true rfl) (preR hK (rowX hP 4 (wX_q3 cA a _))) rfl hl.1 rfl (Nat.le_of_ble_eq_true rfl) (Nat.le_of_ble_eq_true rfl) (Nat.le_of_ble_eq_true rfl) dX0_elements_59 hP hap hS 3 (wX_q3 cA a _) (wX_s3 cA a _ _) (fun H locs hP hS => ?_)
  refine lv_aload_n hx hb dX0_elements_62 rfl (lv_at hl 1 rfl) ?_
  refine gfX hx hb hts hin hown hK hP 7 (by decide) hw7 rfl rfl dX0_elements_63 ?_
  refine lv_iconst (v := 0) hx hb dX0_elements_66 (by decide) ?_
  refine mu_RX (As := [.ref (a 5), .int 0]) (rest := []) ⟨hx, hb, hml, hown, hts⟩ (k_J7_fill_53178 l dC dI cA (a 5) 6 ((sA (sA (sA (sA (sS (sS (sS S 0 p1) 1 0) 2 0) 0 (filv 6 ((sS (sS (sS S 0 p1) 1 0) 2 0).2 0) 0)) 1 (filv 36 ((sA (sS (sS (sS S 0 p1) 1 0) 2 0) 0 (filv 6 ((sS (sS (sS S 0 p1) 1 0) 2 0).2 0) 0)).2 1) 0)) 2 (filv 12 ((sA (sA (sS (sS (sS S 0 p1) 1 0) 2 0) 0 (filv 6 ((sS (sS (sS S 0 p1) 1 0) 2 0).2 0) 0)) 1 (filv 36 ((sA (sS (sS (sS S 0 p1) 1 0) 2 0) 0 (filv 6 ((sS (sS (sS S 0 p1) 1 0) 2 0).2 0) 0)).2 1) 0)).2 2) 0)) 3 (filv 12 ((sA (sA (sA (sS (sS (sS S 0 p1) 1 0) 2 0) 0 (filv 6 ((sS (sS (sS S 0 p1) 1 0) 2 0).2 0) 0)) 1 (filv 36 ((sA (sS (sS (sS S 0 p1) 1 0) 2 0) 0 (filv 6 ((sS (sS (sS S 0 p1) 1 0) 2 0).2 0) 0)).2 1) 0)) 2 (filv 12 ((sA (sA (sS (sS (sS S 0 p1) 1 0) 2 0) 0 (filv 6 ((sS (sS (sS S 0 p1) 1 0) 2 0).2 0) 0)) 1 (filv 36 ((sA (sS (sS (sS S 0 p1) 1 0) 2 0) 0 (filv 6 ((sS (sS (sS S 0 p1) 1 0) 2 0).2 0) 0)).2 1) 0)).2 2) 0)).2 3) 1)).2 4) 0 (by decide)) gX0_elements_J7_fill_53178 rfl rfl rfl cd_J7_fill_53178 (Nat.le_of_ble_eq_true rfl) (Nat.le_of_ble_eq_true rfl) (preR hK (rowX hP 5 (wX_q4 cA a _))) rfl hl.1 rfl (Nat.le_of_ble_eq_true rfl) (Nat.le_of_ble_eq_true rfl) (Nat.le_of_ble_eq_true rfl) dX0_elements_67 hP hap hS 4 (wX_q4 cA a _) (wX_s4 cA a _ _) (fun H locs hP hS => ?_)
  refine lv_iload_n hx hb dX0_elements_70 rfl (lv_at hl 0 rfl) ?_
  have hf := Option.some.inj hf; subst hf
  refine vx_ret ?_
  refine W.widen (k := 1) (n := 6) (Nat.le_of_ble_eq_true rfl) (Nat.le_of_ble_eq_true rfl) ?_
  exact W.iret hx hb hr (fun t ht hW => ⟨⟨rfl, rfl, by rw [ht]; exact hP⟩, hS.F ht⟩) hS.2.2 dX0_elements_71
theorem cd_X0_cover : yX0_cover.cls = RX0 ∧ yX0_cover.cls ≠ "java/lang/invoke/MethodHandle" ∧ yX0_cover.cls ≠ "java/lang/invoke/VarHandle" ∧ (parseMethodDescriptor yX0_cover.desc).map (fun d => d.parameters.length) = some 3 := by decide +kernel
set_option maxHeartbeats 4000000 in
set_option maxRecDepth 100000 in
theorem k_X0_cover (l : Launch) (dC : Nat → ClassId) (dI : Nat → Nat → Nat) (cA : ClassId) (a : Nat → Nat) (S : St) (p1 : Int32) (p2 : Int32) (p3 : Int32) (r : Nat × Int32 × St) (hf : f_X0_cover S p1 p2 p3 = some r) (hap : apart a 10) (hfl : l.stackTraces = false) : vx_Met l yX0_cover wsX0_cover ({ frames := 7, cells := 1, slots := 6, locals := 110 }) (va_Pc [.ref (a 0), .int p1, .int p2, .int p3] (PTs (dC, dI) cA a S)) (tQi (dC, dI) cA a r) (tX r.1) 1 6 (ad a 10) := by
  refine vx_ofW (cc := cX0_cover) (maxL := 5) (ret := (some .boolean)) (by decide) rfl ?_
  intro p e s m args below meth c s₁ B hml htab hv
  obtain ⟨rfl, hP, hK, hEx⟩ := hv
  have hx := B.exec
  have hb := B.bytes
  have hr := B.returns
  have hts := atoms_spec (ws := wsX0_cover) B.pre
  have hown : s.vm.findClass RX0 = some m.cls := findClass_of_methodNamed B.named
  have hlocks := B.notSynchronized
  have hin : ∀ w ∈ u_ws RX0 TX0 12, w ∈ wsX0_cover := by decide +kernel
  have hw0 := hts (.fieldLink RX0 19 "Submodulary" "covered" "[I") (by decide +kernel)
  have hS : va_S (ad a 10) s.heap s.heap [] := va_S.rf
  have hl := lv_entry ([.ref (a 0), .int p1, .int p2, .int p3]) (n := 5) (Nat.le_of_ble_eq_true rfl)
  rw [lg_entry_eq]
  generalize (lg_sl ([.ref (a 0), .int p1, .int p2, .int p3]) ++ List.replicate (5 - (lg_sl ([.ref (a 0), .int p1, .int p2, .int p3])).length) Slot.unset).toArray = ls at hl ⊢
  have hl : lv_has ls 5 [(0, .ref (a 0)), (1, .int p1), (2, .int p2), (3, .int p3)] := hl
  have hW60 : ∀ (x4 s1 s2 : Int32) (ls : Array Slot), f_X0_cover_60 S p1 p2 p3 x4 s1 s2 = some r → lv_has ls 5 [(0, .ref (a 0)), (1, .int p1), (2, .int p2), (3, .int p3), (4, .int x4)] → W p l e (headSpec wsX0_cover ({ frames := 7, cells := 1, slots := 6, locals := 110 })).room s m ([.ref (a 0), .int p1, .int p2, .int p3] : List Value).toArray below meth c s.heap [] 1 6 (vx_MQ below (tQi (dC, dI) cA a r) (tX r.1) ([.ref (a 0), .int p1, .int p2, .int p3] : List Value).toArray s 1 6 (ad a 10)) (F0 m 60 ls [.int s2, .int s1, .ref (a 1)]) := by
    intro x4 s1 s2 ls hf hl
    unfold f_X0_cover_60 at hf
    refine mu_RX (As := [.ref (a 1), .int s1, .int s2]) (rest := []) ⟨hx, hb, hml, hown, hts⟩ (k_X0_put l dC dI cA (a 1) 6 (S.2 0) s1 s2 (by decide)) gX0_cover_X0_put rfl rfl rfl cd_X0_put (Nat.le_of_ble_eq_true rfl) (Nat.le_of_ble_eq_true rfl) (preR hK (rowX hP 1 (wX_q0 cA a _))) rfl hl.1 rfl (Nat.le_of_ble_eq_true rfl) (Nat.le_of_ble_eq_true rfl) (Nat.le_of_ble_eq_true rfl) dX0_cover_60 hP hap hS 0 (wX_q0 cA a _) (wX_s0 cA a _ _) (fun H locs hP hS => ?_)
    refine lv_iload hx hb dX0_cover_63 (lv_at hl 4 rfl) ?_
    refine lv_iload_n hx hb dX0_cover_65 rfl (lv_at hl 2 rfl) ?_
    refine pu_S (As := [.int x4, .int p2]) (rest := []) ⟨hx, hb, hml, hown, hts⟩ (k_X0_has l x4 p2 _ rfl) gX0_cover_X0_has rfl rfl rfl cd_X0_has (Nat.le_of_ble_eq_true rfl) (Nat.le_of_ble_eq_true rfl) (preT) rfl hl.1 rfl (Nat.le_of_ble_eq_true rfl) (Nat.le_of_ble_eq_true rfl) (Nat.le_of_ble_eq_true rfl) dX0_cover_66 ?_
    have hf := Option.some.inj hf; subst hf
    refine vx_ret ?_
    refine W.widen (k := 1) (n := 6) (Nat.le_of_ble_eq_true rfl) (Nat.le_of_ble_eq_true rfl) ?_
    exact W.zret hx hb hr (by show Value.int (_ &&& 1) = _; rw [z_X0_has]) (fun t ht hW => ⟨⟨rfl, rfl, by rw [ht]; exact hP⟩, hS.F ht⟩) hS.2.2 dX0_cover_69
  have hW23 : ∀ (s0 : Int32) (ls : Array Slot), f_X0_cover_23 S p1 p2 p3 s0 = some r → lv_has ls 5 [(0, .ref (a 0)), (1, .int p1), (2, .int p2), (3, .int p3)] → W p l e (headSpec wsX0_cover ({ frames := 7, cells := 1, slots := 6, locals := 110 })).room s m ([.ref (a 0), .int p1, .int p2, .int p3] : List Value).toArray below meth c s.heap [] 0 0 (vx_MQ below (tQi (dC, dI) cA a r) (tX r.1) ([.ref (a 0), .int p1, .int p2, .int p3] : List Value).toArray s 1 6 (ad a 10)) (F0 m 23 ls [.int s0]) := by
    intro s0 ls hf hl
    unfold f_X0_cover_23 at hf
    refine xt_S (As := [.int s0]) (rest := []) ⟨hx, hb, hml, hown, hts⟩ (k_X0_needIndex l hfl s0) gX0_cover_X0_needIndex rfl rfl rfl cd_X0_needIndex (Nat.le_of_ble_eq_true rfl) (Nat.le_of_ble_eq_true rfl) (preE hEx) rfl hl.1 rfl (Nat.le_of_ble_eq_true rfl) (Nat.le_of_ble_eq_true rfl) (Nat.le_of_ble_eq_true rfl) dX0_cover_23 (fun c1 E ce q9 H1 hE hz hk hce hcv hcl => ?_) (fun c1 => ?_)
    · rw [if_neg c1] at hf
      have hf := Option.some.inj hf; subst hf
      exact xt_out htab hlocks c1 hE hz hk hce hcv hcl (Nat.le_of_ble_eq_true rfl) (Nat.le_of_ble_eq_true rfl)
    rw [if_pos c1] at hf
    refine lv_aload_n hx hb dX0_cover_26 rfl (lv_at hl 0 rfl) ?_
    refine gfX hx hb hts hin hown hK hP 3 (by decide) hw0 rfl rfl dX0_cover_27 ?_
    refine lv_iload_n hx hb dX0_cover_30 rfl (lv_at hl 1 rfl) ?_
    refine pu_S (As := [.ref (a 1), .int p1]) (rest := []) ⟨hx, hb, hml, hown, hts⟩ (k_X0_at l dC dI cA (a 1) 6 (S.2 0) p1 (by decide)) gX0_cover_X0_at rfl rfl rfl cd_X0_at (Nat.le_of_ble_eq_true rfl) (Nat.le_of_ble_eq_true rfl) (preR hK (rowX hP 1 rfl)) rfl hl.1 rfl (Nat.le_of_ble_eq_true rfl) (Nat.le_of_ble_eq_true rfl) (Nat.le_of_ble_eq_true rfl) dX0_cover_31 ?_
    refine lv_topi (fun y2 ey2 => ?_)
    have hf := bnd_at hf ey2
    refine lv_istore (lv' := [(4, .int y2), (0, .ref (a 0)), (1, .int p1), (2, .int p2), (3, .int p3)]) hx hb dX0_cover_34 hl (by decide) rfl (fun ls hl => ?_)
    refine lv_aload_n hx hb dX0_cover_36 rfl (lv_at hl 1 rfl) ?_
    refine gfX hx hb hts hin hown hK hP 3 (by decide) hw0 rfl rfl dX0_cover_37 ?_
    refine lv_iload_n hx hb dX0_cover_40 rfl (lv_at hl 2 rfl) ?_
    refine lv_iload_n hx hb dX0_cover_41 rfl (lv_at hl 4 rfl) ?_
    refine lv_if_eq (tgt := 54) hx hb dX0_cover_42 (by decide) (fun c3 => ?_) (fun c3 => ?_)
    · rw [if_pos c3] at hf
      refine lv_iload hx hb dX0_cover_54 (lv_at hl 0 rfl) ?_
      refine lv_iload_n hx hb dX0_cover_56 rfl (lv_at hl 3 rfl) ?_
      refine pu_S (As := [.int y2, .int p2]) (rest := [.int p1, .ref (a 1)]) ⟨hx, hb, hml, hown, hts⟩ (k_X0_without l y2 p2 _ rfl) gX0_cover_X0_without rfl rfl rfl cd_X0_without (Nat.le_of_ble_eq_true rfl) (Nat.le_of_ble_eq_true rfl) (preT) rfl hl.1 rfl (Nat.le_of_ble_eq_true rfl) (Nat.le_of_ble_eq_true rfl) (Nat.le_of_ble_eq_true rfl) dX0_cover_57 ?_
      exact hW60 y2 p1 (f_X0_without y2 p2) ls hf (lv_sub hl [1, 2, 3, 4, 0] rfl)
    · rw [if_neg c3] at hf
      refine lv_iload hx hb dX0_cover_45 (lv_at hl 0 rfl) ?_
      refine lv_iload_n hx hb dX0_cover_47 rfl (lv_at hl 3 rfl) ?_
      refine pu_S (As := [.int y2, .int p2]) (rest := [.int p1, .ref (a 1)]) ⟨hx, hb, hml, hown, hts⟩ (k_X0_with l y2 p2 _ rfl) gX0_cover_X0_with rfl rfl rfl cd_X0_with (Nat.le_of_ble_eq_true rfl) (Nat.le_of_ble_eq_true rfl) (preT) rfl hl.1 rfl (Nat.le_of_ble_eq_true rfl) (Nat.le_of_ble_eq_true rfl) (Nat.le_of_ble_eq_true rfl) dX0_cover_48 ?_
      refine lv_goto (tgt := 60) hx hb dX0_cover_51 (by decide) ?_
      exact hW60 y2 p1 (f_X0_with y2 p2) ls hf (lv_sub hl [1, 2, 3, 4, 0] rfl)
  unfold f_X0_cover at hf
  refine lv_aload_n hx hb dX0_cover_0 rfl (lv_at hl 0 rfl) ?_
  refine lv_iload_n hx hb dX0_cover_1 rfl (lv_at hl 1 rfl) ?_
  refine pu_V (As := [.int p1]) (rest := []) ⟨hx, hb, hml, hown, hts⟩ (k_X0_isElement l dC dI cA a S p1 _ rfl) gX0_cover_X0_isElement rfl rfl rfl cd_X0_isElement (Nat.le_of_ble_eq_true rfl) (Nat.le_of_ble_eq_true rfl) (preX hK hP) rfl hl.1 rfl (Nat.le_of_ble_eq_true rfl) (Nat.le_of_ble_eq_true rfl) (Nat.le_of_ble_eq_true rfl) dX0_cover_2 ?_
  refine lv_if_eq (tgt := 22) hx hb dX0_cover_5 (by decide) (fun c4 => ?_) (fun c4 => ?_)
  · rw [if_pos c4] at hf
    refine lv_iconst (v := 0) hx hb dX0_cover_22 (by decide) ?_
    exact hW23 0 ls hf (lv_sub hl [0, 1, 2, 3] rfl)
  · rw [if_neg c4] at hf
    refine lv_iload_n hx hb dX0_cover_8 rfl (lv_at hl 2 rfl) ?_
    refine lv_iconst (v := 0) hx hb dX0_cover_9 (by decide) ?_
    refine lv_bipush (v := 9) hx hb dX0_cover_10 (by decide) ?_
    refine pu_S (As := [.int p2, .int 0, .int 9]) (rest := []) ⟨hx, hb, hml, hown, hts⟩ (k_X0_isWithin l p2 0 9 _ rfl) gX0_cover_X0_isWithin rfl rfl rfl cd_X0_isWithin (Nat.le_of_ble_eq_true rfl) (Nat.le_of_ble_eq_true rfl) (preT) rfl hl.1 rfl (Nat.le_of_ble_eq_true rfl) (Nat.le_of_ble_eq_true rfl) (Nat.le_of_ble_eq_true rfl) dX0_cover_12 ?_
    refine lv_if_eq (tgt := 22) hx hb dX0_cover_15 (by decide) (fun c5 => ?_) (fun c5 => ?_)
    · rw [if_pos c5] at hf
      refine lv_iconst (v := 0) hx hb dX0_cover_22 (by decide) ?_
      exact hW23 0 ls hf (lv_sub hl [0, 1, 2, 3] rfl)
    · rw [if_neg c5] at hf
      refine lv_iconst (v := 1) hx hb dX0_cover_18 (by decide) ?_
      refine lv_goto (tgt := 23) hx hb dX0_cover_19 (by decide) ?_
      exact hW23 1 ls hf (lv_sub hl [0, 1, 2, 3] rfl)
theorem cd_X0_edge : yX0_edge.cls = RX0 ∧ yX0_edge.cls ≠ "java/lang/invoke/MethodHandle" ∧ yX0_edge.cls ≠ "java/lang/invoke/VarHandle" ∧ (parseMethodDescriptor yX0_edge.desc).map (fun d => d.parameters.length) = some 3 := by decide +kernel
set_option maxHeartbeats 4000000 in
set_option maxRecDepth 100000 in
theorem k_X0_edge (l : Launch) (dC : Nat → ClassId) (dI : Nat → Nat → Nat) (cA : ClassId) (a : Nat → Nat) (S : St) (p1 : Int32) (p2 : Int32) (p3 : Int32) (r : Nat × Int32 × St) (hf : f_X0_edge S p1 p2 p3 = some r) (hap : apart a 10) (hfl : l.stackTraces = false) : vx_Met l yX0_edge wsX0_edge ({ frames := 7, cells := 2, slots := 12, locals := 110 }) (va_Pc [.ref (a 0), .int p1, .int p2, .int p3] (PTs (dC, dI) cA a S)) (tQi (dC, dI) cA a r) (tX r.1) 2 12 (ad a 10) := by
  refine vx_ofW (cc := cX0_edge) (maxL := 5) (ret := (some .int)) (by decide) rfl ?_
  intro p e s m args below meth c s₁ B hml htab hv
  obtain ⟨rfl, hP, hK, hEx⟩ := hv
  have hx := B.exec
  have hb := B.bytes
  have hr := B.returns
  have hts := atoms_spec (ws := wsX0_edge) B.pre
  have hown : s.vm.findClass RX0 = some m.cls := findClass_of_methodNamed B.named
  have hlocks := B.notSynchronized
  have hin : ∀ w ∈ u_ws RX0 TX0 12, w ∈ wsX0_edge := by decide +kernel
  have hw0 := hts (.fieldLink RX0 23 "Submodulary" "edges" "[I") (by decide +kernel)
  have hS : va_S (ad a 10) s.heap s.heap [] := va_S.rf
  have hl := lv_entry ([.ref (a 0), .int p1, .int p2, .int p3]) (n := 5) (Nat.le_of_ble_eq_true rfl)
  rw [lg_entry_eq]
  generalize (lg_sl ([.ref (a 0), .int p1, .int p2, .int p3]) ++ List.replicate (5 - (lg_sl ([.ref (a 0), .int p1, .int p2, .int p3])).length) Slot.unset).toArray = ls at hl ⊢
  have hl : lv_has ls 5 [(0, .ref (a 0)), (1, .int p1), (2, .int p2), (3, .int p3)] := hl
  have hW44 : ∀ (s0 : Int32) (ls : Array Slot), f_X0_edge_44 S p1 p2 p3 s0 = some r → lv_has ls 5 [(0, .ref (a 0)), (1, .int p1), (2, .int p2), (3, .int p3)] → W p l e (headSpec wsX0_edge ({ frames := 7, cells := 2, slots := 12, locals := 110 })).room s m ([.ref (a 0), .int p1, .int p2, .int p3] : List Value).toArray below meth c s.heap [] 1 6 (vx_MQ below (tQi (dC, dI) cA a r) (tX r.1) ([.ref (a 0), .int p1, .int p2, .int p3] : List Value).toArray s 2 12 (ad a 10)) (F0 m 44 ls [.int s0]) := by
    intro s0 ls hf hl
    unfold f_X0_edge_44 at hf
    refine xt_S (As := [.int s0]) (rest := []) ⟨hx, hb, hml, hown, hts⟩ (k_X0_needArgument l hfl s0) gX0_edge_X0_needArgument rfl rfl rfl cd_X0_needArgument (Nat.le_of_ble_eq_true rfl) (Nat.le_of_ble_eq_true rfl) (preE hEx) rfl hl.1 rfl (Nat.le_of_ble_eq_true rfl) (Nat.le_of_ble_eq_true rfl) (Nat.le_of_ble_eq_true rfl) dX0_edge_44 (fun c1 E ce q9 H1 hE hz hk hce hcv hcl => ?_) (fun c1 => ?_)
    · rw [if_neg c1] at hf
      have hf := Option.some.inj hf; subst hf
      exact xt_out htab hlocks c1 hE hz hk hce hcv hcl (Nat.le_of_ble_eq_true rfl) (Nat.le_of_ble_eq_true rfl)
    rw [if_pos c1] at hf
    refine lv_aload_n hx hb dX0_edge_47 rfl (lv_at hl 0 rfl) ?_
    refine lv_iload_n hx hb dX0_edge_48 rfl (lv_at hl 1 rfl) ?_
    refine lv_iload_n hx hb dX0_edge_49 rfl (lv_at hl 2 rfl) ?_
    refine pu_V (As := [.int p1, .int p2]) (rest := []) ⟨hx, hb, hml, hown, hts⟩ (k_X0_edgeWeight l dC dI cA a S p1 p2 _ rfl) gX0_edge_X0_edgeWeight rfl rfl rfl cd_X0_edgeWeight (Nat.le_of_ble_eq_true rfl) (Nat.le_of_ble_eq_true rfl) (preX hK hP) rfl hl.1 rfl (Nat.le_of_ble_eq_true rfl) (Nat.le_of_ble_eq_true rfl) (Nat.le_of_ble_eq_true rfl) dX0_edge_50 ?_
    refine lv_topi (fun y2 ey2 => ?_)
    have hf := bnd_at hf ey2
    refine lv_istore (lv' := [(4, .int y2), (0, .ref (a 0)), (1, .int p1), (2, .int p2), (3, .int p3)]) hx hb dX0_edge_53 hl (by decide) rfl (fun ls hl => ?_)
    refine lv_aload_n hx hb dX0_edge_55 rfl (lv_at hl 1 rfl) ?_
    refine gfX hx hb hts hin hown hK hP 4 (by decide) hw0 rfl rfl dX0_edge_56 ?_
    refine lv_iload_n hx hb dX0_edge_59 rfl (lv_at hl 2 rfl) ?_
    refine lv_bipush (v := 6) hx hb dX0_edge_60 (by decide) ?_
    refine lv_imul hx hb dX0_edge_62 ?_
    refine lv_iload_n hx hb dX0_edge_63 rfl (lv_at hl 3 rfl) ?_
    refine lv_iadd hx hb dX0_edge_64 ?_
    refine lv_iload_n hx hb dX0_edge_65 rfl (lv_at hl 4 rfl) ?_
    refine mu_RX (As := [.ref (a 2), .int ((p1 * 6) + p2), .int p3]) (rest := []) ⟨hx, hb, hml, hown, hts⟩ (k_X0_put l dC dI cA (a 2) 36 (S.2 1) ((p1 * 6) + p2) p3 (by decide)) gX0_edge_X0_put rfl rfl rfl cd_X0_put (Nat.le_of_ble_eq_true rfl) (Nat.le_of_ble_eq_true rfl) (preR hK (rowX hP 2 (wX_q1 cA a _))) rfl hl.1 rfl (Nat.le_of_ble_eq_true rfl) (Nat.le_of_ble_eq_true rfl) (Nat.le_of_ble_eq_true rfl) dX0_edge_66 hP hap hS 1 (wX_q1 cA a _) (wX_s1 cA a _ _) (fun H locs hP hS => ?_)
    refine lv_aload_n hx hb dX0_edge_69 rfl (lv_at hl 1 rfl) ?_
    refine gfX hx hb hts hin hown hK hP 4 (by decide) hw0 rfl rfl dX0_edge_70 ?_
    refine lv_iload_n hx hb dX0_edge_73 rfl (lv_at hl 3 rfl) ?_
    refine lv_bipush (v := 6) hx hb dX0_edge_74 (by decide) ?_
    refine lv_imul hx hb dX0_edge_76 ?_
    refine lv_iload_n hx hb dX0_edge_77 rfl (lv_at hl 2 rfl) ?_
    refine lv_iadd hx hb dX0_edge_78 ?_
    refine lv_iload_n hx hb dX0_edge_79 rfl (lv_at hl 4 rfl) ?_
    refine mu_RX (As := [.ref (a 2), .int ((p2 * 6) + p1), .int p3]) (rest := []) ⟨hx, hb, hml, hown, hts⟩ (k_X0_put l dC dI cA (a 2) 36 ((sA S 1 (putv 36 (S.2 1) ((p1 * 6) + p2) p3)).2 1) ((p2 * 6) + p1) p3 (by decide)) gX0_edge_X0_put rfl rfl rfl cd_X0_put (Nat.le_of_ble_eq_true rfl) (Nat.le_of_ble_eq_true rfl) (preR hK (rowX hP 2 (wX_q1 cA a _))) rfl hl.1 rfl (Nat.le_of_ble_eq_true rfl) (Nat.le_of_ble_eq_true rfl) (Nat.le_of_ble_eq_true rfl) dX0_edge_80 hP hap hS 1 (wX_q1 cA a _) (wX_s1 cA a _ _) (fun H locs hP hS => ?_)
    refine lv_iload hx hb dX0_edge_83 (lv_at hl 0 rfl) ?_
    have hf := Option.some.inj hf; subst hf
    refine vx_ret ?_
    refine W.widen (k := 2) (n := 12) (Nat.le_of_ble_eq_true rfl) (Nat.le_of_ble_eq_true rfl) ?_
    exact W.iret hx hb hr (fun t ht hW => ⟨⟨rfl, rfl, by rw [ht]; exact hP⟩, hS.F ht⟩) hS.2.2 dX0_edge_85
  have hW21 : ∀ (s0 : Int32) (ls : Array Slot), f_X0_edge_21 S p1 p2 p3 s0 = some r → lv_has ls 5 [(0, .ref (a 0)), (1, .int p1), (2, .int p2), (3, .int p3)] → W p l e (headSpec wsX0_edge ({ frames := 7, cells := 2, slots := 12, locals := 110 })).room s m ([.ref (a 0), .int p1, .int p2, .int p3] : List Value).toArray below meth c s.heap [] 0 0 (vx_MQ below (tQi (dC, dI) cA a r) (tX r.1) ([.ref (a 0), .int p1, .int p2, .int p3] : List Value).toArray s 2 12 (ad a 10)) (F0 m 21 ls [.int s0]) := by
    intro s0 ls hf hl
    unfold f_X0_edge_21 at hf
    refine xt_S (As := [.int s0]) (rest := []) ⟨hx, hb, hml, hown, hts⟩ (k_X0_needIndex l hfl s0) gX0_edge_X0_needIndex rfl rfl rfl cd_X0_needIndex (Nat.le_of_ble_eq_true rfl) (Nat.le_of_ble_eq_true rfl) (preE hEx) rfl hl.1 rfl (Nat.le_of_ble_eq_true rfl) (Nat.le_of_ble_eq_true rfl) (Nat.le_of_ble_eq_true rfl) dX0_edge_21 (fun c3 E ce q9 H1 hE hz hk hce hcv hcl => ?_) (fun c3 => ?_)
    · rw [if_neg c3] at hf
      have hf := Option.some.inj hf; subst hf
      exact xt_out htab hlocks c3 hE hz hk hce hcv hcl (Nat.le_of_ble_eq_true rfl) (Nat.le_of_ble_eq_true rfl)
    rw [if_pos c3] at hf
    refine lv_iload_n hx hb dX0_edge_24 rfl (lv_at hl 1 rfl) ?_
    refine lv_iload_n hx hb dX0_edge_25 rfl (lv_at hl 2 rfl) ?_
    refine lv_icmp_eq (tgt := 43) hx hb dX0_edge_26 (by decide) (fun c4 => ?_) (fun c4 => ?_)
    · rw [if_pos c4] at hf
      refine lv_iconst (v := 0) hx hb dX0_edge_43 (by decide) ?_
      exact hW44 0 ls hf (lv_sub hl [0, 1, 2, 3] rfl)
    · rw [if_neg c4] at hf
      refine lv_iload_n hx hb dX0_edge_29 rfl (lv_at hl 3 rfl) ?_
      refine lv_iconst (v := 0) hx hb dX0_edge_30 (by decide) ?_
      refine lv_bipush (v := 20) hx hb dX0_edge_31 (by decide) ?_
      refine pu_S (As := [.int p3, .int 0, .int 20]) (rest := []) ⟨hx, hb, hml, hown, hts⟩ (k_X0_isWithin l p3 0 20 _ rfl) gX0_edge_X0_isWithin rfl rfl rfl cd_X0_isWithin (Nat.le_of_ble_eq_true rfl) (Nat.le_of_ble_eq_true rfl) (preT) rfl hl.1 rfl (Nat.le_of_ble_eq_true rfl) (Nat.le_of_ble_eq_true rfl) (Nat.le_of_ble_eq_true rfl) dX0_edge_33 ?_
      refine lv_if_eq (tgt := 43) hx hb dX0_edge_36 (by decide) (fun c5 => ?_) (fun c5 => ?_)
      · rw [if_pos c5] at hf
        refine lv_iconst (v := 0) hx hb dX0_edge_43 (by decide) ?_
        exact hW44 0 ls hf (lv_sub hl [0, 1, 2, 3] rfl)
      · rw [if_neg c5] at hf
        refine lv_iconst (v := 1) hx hb dX0_edge_39 (by decide) ?_
        refine lv_goto (tgt := 44) hx hb dX0_edge_40 (by decide) ?_
        exact hW44 1 ls hf (lv_sub hl [0, 1, 2, 3] rfl)
  unfold f_X0_edge at hf
  refine lv_aload_n hx hb dX0_edge_0 rfl (lv_at hl 0 rfl) ?_
  refine lv_iload_n hx hb dX0_edge_1 rfl (lv_at hl 1 rfl) ?_
  refine pu_V (As := [.int p1]) (rest := []) ⟨hx, hb, hml, hown, hts⟩ (k_X0_isElement l dC dI cA a S p1 _ rfl) gX0_edge_X0_isElement rfl rfl rfl cd_X0_isElement (Nat.le_of_ble_eq_true rfl) (Nat.le_of_ble_eq_true rfl) (preX hK hP) rfl hl.1 rfl (Nat.le_of_ble_eq_true rfl) (Nat.le_of_ble_eq_true rfl) (Nat.le_of_ble_eq_true rfl) dX0_edge_2 ?_
  refine lv_if_eq (tgt := 20) hx hb dX0_edge_5 (by decide) (fun c6 => ?_) (fun c6 => ?_)
  · rw [if_pos c6] at hf
    refine lv_iconst (v := 0) hx hb dX0_edge_20 (by decide) ?_
    exact hW21 0 ls hf (lv_sub hl [0, 1, 2, 3] rfl)
  · rw [if_neg c6] at hf
    refine lv_aload_n hx hb dX0_edge_8 rfl (lv_at hl 0 rfl) ?_
    refine lv_iload_n hx hb dX0_edge_9 rfl (lv_at hl 2 rfl) ?_
    refine pu_V (As := [.int p2]) (rest := []) ⟨hx, hb, hml, hown, hts⟩ (k_X0_isElement l dC dI cA a S p2 _ rfl) gX0_edge_X0_isElement rfl rfl rfl cd_X0_isElement (Nat.le_of_ble_eq_true rfl) (Nat.le_of_ble_eq_true rfl) (preX hK hP) rfl hl.1 rfl (Nat.le_of_ble_eq_true rfl) (Nat.le_of_ble_eq_true rfl) (Nat.le_of_ble_eq_true rfl) dX0_edge_10 ?_
    refine lv_if_eq (tgt := 20) hx hb dX0_edge_13 (by decide) (fun c7 => ?_) (fun c7 => ?_)
    · rw [if_pos c7] at hf
      refine lv_iconst (v := 0) hx hb dX0_edge_20 (by decide) ?_
      exact hW21 0 ls hf (lv_sub hl [0, 1, 2, 3] rfl)
    · rw [if_neg c7] at hf
      refine lv_iconst (v := 1) hx hb dX0_edge_16 (by decide) ?_
      refine lv_goto (tgt := 21) hx hb dX0_edge_17 (by decide) ?_
      exact hW21 1 ls hf (lv_sub hl [0, 1, 2, 3] rfl)
theorem cd_X0_colour : yX0_colour.cls = RX0 ∧ yX0_colour.cls ≠ "java/lang/invoke/MethodHandle" ∧ yX0_colour.cls ≠ "java/lang/invoke/VarHandle" ∧ (parseMethodDescriptor yX0_colour.desc).map (fun d => d.parameters.length) = some 3 := by decide +kernel
set_option maxHeartbeats 4000000 in
set_option maxRecDepth 100000 in
theorem k_X0_colour (l : Launch) (dC : Nat → ClassId) (dI : Nat → Nat → Nat) (cA : ClassId) (a : Nat → Nat) (S : St) (p1 : Int32) (p2 : Int32) (p3 : Int32) (r : Nat × Int32 × St) (hf : f_X0_colour S p1 p2 p3 = some r) (hap : apart a 10) (hfl : l.stackTraces = false) : vx_Met l yX0_colour wsX0_colour ({ frames := 7, cells := 1, slots := 6, locals := 110 }) (va_Pc [.ref (a 0), .int p1, .int p2, .int p3] (PTs (dC, dI) cA a S)) (tQi (dC, dI) cA a r) (tX r.1) 1 6 (ad a 10) := by
  refine vx_ofW (cc := cX0_colour) (maxL := 5) (ret := (some .int)) (by decide) rfl ?_
  intro p e s m args below meth c s₁ B hml htab hv
  obtain ⟨rfl, hP, hK, hEx⟩ := hv
  have hx := B.exec
  have hb := B.bytes
  have hr := B.returns
  have hts := atoms_spec (ws := wsX0_colour) B.pre
  have hown : s.vm.findClass RX0 = some m.cls := findClass_of_methodNamed B.named
  have hlocks := B.notSynchronized
  have hin : ∀ w ∈ u_ws RX0 TX0 12, w ∈ wsX0_colour := by decide +kernel
  have hw0 := hts (.fieldLink RX0 26 "Submodulary" "colours" "[I") (by decide +kernel)
  have hS : va_S (ad a 10) s.heap s.heap [] := va_S.rf
  have hl := lv_entry ([.ref (a 0), .int p1, .int p2, .int p3]) (n := 5) (Nat.le_of_ble_eq_true rfl)
  rw [lg_entry_eq]
  generalize (lg_sl ([.ref (a 0), .int p1, .int p2, .int p3]) ++ List.replicate (5 - (lg_sl ([.ref (a 0), .int p1, .int p2, .int p3])).length) Slot.unset).toArray = ls at hl ⊢
  have hl : lv_has ls 5 [(0, .ref (a 0)), (1, .int p1), (2, .int p2), (3, .int p3)] := hl
  have hW27 : ∀ (s0 : Int32) (ls : Array Slot), f_X0_colour_27 S p1 p2 p3 s0 = some r → lv_has ls 5 [(0, .ref (a 0)), (1, .int p1), (2, .int p2), (3, .int p3)] → W p l e (headSpec wsX0_colour ({ frames := 7, cells := 1, slots := 6, locals := 110 })).room s m ([.ref (a 0), .int p1, .int p2, .int p3] : List Value).toArray below meth c s.heap [] 0 0 (vx_MQ below (tQi (dC, dI) cA a r) (tX r.1) ([.ref (a 0), .int p1, .int p2, .int p3] : List Value).toArray s 1 6 (ad a 10)) (F0 m 27 ls [.int s0]) := by
    intro s0 ls hf hl
    unfold f_X0_colour_27 at hf
    refine xt_S (As := [.int s0]) (rest := []) ⟨hx, hb, hml, hown, hts⟩ (k_X0_needIndex l hfl s0) gX0_colour_X0_needIndex rfl rfl rfl cd_X0_needIndex (Nat.le_of_ble_eq_true rfl) (Nat.le_of_ble_eq_true rfl) (preE hEx) rfl hl.1 rfl (Nat.le_of_ble_eq_true rfl) (Nat.le_of_ble_eq_true rfl) (Nat.le_of_ble_eq_true rfl) dX0_colour_27 (fun c1 E ce q9 H1 hE hz hk hce hcv hcl => ?_) (fun c1 => ?_)
    · rw [if_neg c1] at hf
      have hf := Option.some.inj hf; subst hf
      exact xt_out htab hlocks c1 hE hz hk hce hcv hcl (Nat.le_of_ble_eq_true rfl) (Nat.le_of_ble_eq_true rfl)
    rw [if_pos c1] at hf
    refine lv_aload_n hx hb dX0_colour_30 rfl (lv_at hl 0 rfl) ?_
    refine lv_iload_n hx hb dX0_colour_31 rfl (lv_at hl 1 rfl) ?_
    refine lv_iload_n hx hb dX0_colour_32 rfl (lv_at hl 2 rfl) ?_
    refine pu_V (As := [.int p1, .int p2]) (rest := []) ⟨hx, hb, hml, hown, hts⟩ (k_X0_colourOf l dC dI cA a S p1 p2 _ rfl) gX0_colour_X0_colourOf rfl rfl rfl cd_X0_colourOf (Nat.le_of_ble_eq_true rfl) (Nat.le_of_ble_eq_true rfl) (preX hK hP) rfl hl.1 rfl (Nat.le_of_ble_eq_true rfl) (Nat.le_of_ble_eq_true rfl) (Nat.le_of_ble_eq_true rfl) dX0_colour_33 ?_
    refine lv_topi (fun y2 ey2 => ?_)
    have hf := bnd_at hf ey2
    refine lv_istore (lv' := [(4, .int y2), (0, .ref (a 0)), (1, .int p1), (2, .int p2), (3, .int p3)]) hx hb dX0_colour_36 hl (by decide) rfl (fun ls hl => ?_)
    refine lv_aload_n hx hb dX0_colour_38 rfl (lv_at hl 1 rfl) ?_
    refine gfX hx hb hts hin hown hK hP 5 (by decide) hw0 rfl rfl dX0_colour_39 ?_
    refine lv_iload_n hx hb dX0_colour_42 rfl (lv_at hl 2 rfl) ?_
    refine lv_bipush (v := 6) hx hb dX0_colour_43 (by decide) ?_
    refine lv_imul hx hb dX0_colour_45 ?_
    refine lv_iload_n hx hb dX0_colour_46 rfl (lv_at hl 3 rfl) ?_
    refine lv_iadd hx hb dX0_colour_47 ?_
    refine lv_iload_n hx hb dX0_colour_48 rfl (lv_at hl 4 rfl) ?_
    refine mu_RX (As := [.ref (a 3), .int ((p1 * 6) + p2), .int p3]) (rest := []) ⟨hx, hb, hml, hown, hts⟩ (k_X0_put l dC dI cA (a 3) 12 (S.2 2) ((p1 * 6) + p2) p3 (by decide)) gX0_colour_X0_put rfl rfl rfl cd_X0_put (Nat.le_of_ble_eq_true rfl) (Nat.le_of_ble_eq_true rfl) (preR hK (rowX hP 3 (wX_q2 cA a _))) rfl hl.1 rfl (Nat.le_of_ble_eq_true rfl) (Nat.le_of_ble_eq_true rfl) (Nat.le_of_ble_eq_true rfl) dX0_colour_49 hP hap hS 2 (wX_q2 cA a _) (wX_s2 cA a _ _) (fun H locs hP hS => ?_)
    refine lv_iload hx hb dX0_colour_52 (lv_at hl 0 rfl) ?_
    have hf := Option.some.inj hf; subst hf
    refine vx_ret ?_
    refine W.widen (k := 1) (n := 6) (Nat.le_of_ble_eq_true rfl) (Nat.le_of_ble_eq_true rfl) ?_
    exact W.iret hx hb hr (fun t ht hW => ⟨⟨rfl, rfl, by rw [ht]; exact hP⟩, hS.F ht⟩) hS.2.2 dX0_colour_54
  unfold f_X0_colour at hf
  refine lv_iload_n hx hb dX0_colour_0 rfl (lv_at hl 1 rfl) ?_
  refine pu_S (As := [.int p1]) (rest := []) ⟨hx, hb, hml, hown, hts⟩ (k_X0_isFamily l p1 _ rfl) gX0_colour_X0_isFamily rfl rfl rfl cd_X0_isFamily (Nat.le_of_ble_eq_true rfl) (Nat.le_of_ble_eq_true rfl) (preT) rfl hl.1 rfl (Nat.le_of_ble_eq_true rfl) (Nat.le_of_ble_eq_true rfl) (Nat.le_of_ble_eq_true rfl) dX0_colour_1 ?_
  refine lv_if_eq (tgt := 26) hx hb dX0_colour_4 (by decide) (fun c3 => ?_) (fun c3 => ?_)
  · rw [if_pos c3] at hf
    refine lv_iconst (v := 0) hx hb dX0_colour_26 (by decide) ?_
    exact hW27 0 ls hf (lv_sub hl [0, 1, 2, 3] rfl)
  · rw [if_neg c3] at hf
    refine lv_aload_n hx hb dX0_colour_7 rfl (lv_at hl 0 rfl) ?_
    refine lv_iload_n hx hb dX0_colour_8 rfl (lv_at hl 2 rfl) ?_
    refine pu_V (As := [.int p2]) (rest := []) ⟨hx, hb, hml, hown, hts⟩ (k_X0_isElement l dC dI cA a S p2 _ rfl) gX0_colour_X0_isElement rfl rfl rfl cd_X0_isElement (Nat.le_of_ble_eq_true rfl) (Nat.le_of_ble_eq_true rfl) (preX hK hP) rfl hl.1 rfl (Nat.le_of_ble_eq_true rfl) (Nat.le_of_ble_eq_true rfl) (Nat.le_of_ble_eq_true rfl) dX0_colour_9 ?_
    refine lv_if_eq (tgt := 26) hx hb dX0_colour_12 (by decide) (fun c4 => ?_) (fun c4 => ?_)
    · rw [if_pos c4] at hf
      refine lv_iconst (v := 0) hx hb dX0_colour_26 (by decide) ?_
      exact hW27 0 ls hf (lv_sub hl [0, 1, 2, 3] rfl)
    · rw [if_neg c4] at hf
      refine lv_iload_n hx hb dX0_colour_15 rfl (lv_at hl 3 rfl) ?_
      refine pu_S (As := [.int p3]) (rest := []) ⟨hx, hb, hml, hown, hts⟩ (k_X0_isColour l p3 _ rfl) gX0_colour_X0_isColour rfl rfl rfl cd_X0_isColour (Nat.le_of_ble_eq_true rfl) (Nat.le_of_ble_eq_true rfl) (preT) rfl hl.1 rfl (Nat.le_of_ble_eq_true rfl) (Nat.le_of_ble_eq_true rfl) (Nat.le_of_ble_eq_true rfl) dX0_colour_16 ?_
      refine lv_if_eq (tgt := 26) hx hb dX0_colour_19 (by decide) (fun c5 => ?_) (fun c5 => ?_)
      · rw [if_pos c5] at hf
        refine lv_iconst (v := 0) hx hb dX0_colour_26 (by decide) ?_
        exact hW27 0 ls hf (lv_sub hl [0, 1, 2, 3] rfl)
      · rw [if_neg c5] at hf
        refine lv_iconst (v := 1) hx hb dX0_colour_22 (by decide) ?_
        refine lv_goto (tgt := 27) hx hb dX0_colour_23 (by decide) ?_
        exact hW27 1 ls hf (lv_sub hl [0, 1, 2, 3] rfl)
theorem cd_X0_room : yX0_room.cls = RX0 ∧ yX0_room.cls ≠ "java/lang/invoke/MethodHandle" ∧ yX0_room.cls ≠ "java/lang/invoke/VarHandle" ∧ (parseMethodDescriptor yX0_room.desc).map (fun d => d.parameters.length) = some 3 := by decide +kernel
set_option maxHeartbeats 4000000 in
set_option maxRecDepth 100000 in
theorem k_X0_room (l : Launch) (dC : Nat → ClassId) (dI : Nat → Nat → Nat) (cA : ClassId) (a : Nat → Nat) (S : St) (p1 : Int32) (p2 : Int32) (p3 : Int32) (r : Nat × Int32 × St) (hf : f_X0_room S p1 p2 p3 = some r) (hap : apart a 10) (hfl : l.stackTraces = false) : vx_Met l yX0_room wsX0_room ({ frames := 7, cells := 2, slots := 12, locals := 110 }) (va_Pc [.ref (a 0), .int p1, .int p2, .int p3] (PTs (dC, dI) cA a S)) (tQi (dC, dI) cA a r) (tX r.1) 2 12 (ad a 10) := by
  refine vx_ofW (cc := cX0_room) (maxL := 5) (ret := (some .int)) (by decide) rfl ?_
  intro p e s m args below meth c s₁ B hml htab hv
  obtain ⟨rfl, hP, hK, hEx⟩ := hv
  have hx := B.exec
  have hb := B.bytes
  have hr := B.returns
  have hts := atoms_spec (ws := wsX0_room) B.pre
  have hown : s.vm.findClass RX0 = some m.cls := findClass_of_methodNamed B.named
  have hlocks := B.notSynchronized
  have hin : ∀ w ∈ u_ws RX0 TX0 12, w ∈ wsX0_room := by decide +kernel
  have hw0 := hts (.fieldLink RX0 29 "Submodulary" "rooms" "[I") (by decide +kernel)
  have hS : va_S (ad a 10) s.heap s.heap [] := va_S.rf
  have hl := lv_entry ([.ref (a 0), .int p1, .int p2, .int p3]) (n := 5) (Nat.le_of_ble_eq_true rfl)
  rw [lg_entry_eq]
  generalize (lg_sl ([.ref (a 0), .int p1, .int p2, .int p3]) ++ List.replicate (5 - (lg_sl ([.ref (a 0), .int p1, .int p2, .int p3])).length) Slot.unset).toArray = ls at hl ⊢
  have hl : lv_has ls 5 [(0, .ref (a 0)), (1, .int p1), (2, .int p2), (3, .int p3)] := hl
  have hW19 : ∀ (s0 : Int32) (ls : Array Slot), f_X0_room_19 S p1 p2 p3 s0 = some r → lv_has ls 5 [(0, .ref (a 0)), (1, .int p1), (2, .int p2), (3, .int p3)] → W p l e (headSpec wsX0_room ({ frames := 7, cells := 2, slots := 12, locals := 110 })).room s m ([.ref (a 0), .int p1, .int p2, .int p3] : List Value).toArray below meth c s.heap [] 0 0 (vx_MQ below (tQi (dC, dI) cA a r) (tX r.1) ([.ref (a 0), .int p1, .int p2, .int p3] : List Value).toArray s 2 12 (ad a 10)) (F0 m 19 ls [.int s0]) := by
    intro s0 ls hf hl
    unfold f_X0_room_19 at hf
    refine xt_S (As := [.int s0]) (rest := []) ⟨hx, hb, hml, hown, hts⟩ (k_X0_needIndex l hfl s0) gX0_room_X0_needIndex rfl rfl rfl cd_X0_needIndex (Nat.le_of_ble_eq_true rfl) (Nat.le_of_ble_eq_true rfl) (preE hEx) rfl hl.1 rfl (Nat.le_of_ble_eq_true rfl) (Nat.le_of_ble_eq_true rfl) (Nat.le_of_ble_eq_true rfl) dX0_room_19 (fun c1 E ce q9 H1 hE hz hk hce hcv hcl => ?_) (fun c1 => ?_)
    · rw [if_neg c1] at hf
      have hf := Option.some.inj hf; subst hf
      exact xt_out htab hlocks c1 hE hz hk hce hcv hcl (Nat.le_of_ble_eq_true rfl) (Nat.le_of_ble_eq_true rfl)
    rw [if_pos c1] at hf
    refine lv_iload_n hx hb dX0_room_22 rfl (lv_at hl 3 rfl) ?_
    refine lv_iconst (v := 0) hx hb dX0_room_23 (by decide) ?_
    refine lv_bipush (v := 6) hx hb dX0_room_24 (by decide) ?_
    refine pu_S (As := [.int p3, .int 0, .int 6]) (rest := []) ⟨hx, hb, hml, hown, hts⟩ (k_X0_isWithin l p3 0 6 _ rfl) gX0_room_X0_isWithin rfl rfl rfl cd_X0_isWithin (Nat.le_of_ble_eq_true rfl) (Nat.le_of_ble_eq_true rfl) (preT) rfl hl.1 rfl (Nat.le_of_ble_eq_true rfl) (Nat.le_of_ble_eq_true rfl) (Nat.le_of_ble_eq_true rfl) dX0_room_26 ?_
    refine xt_S (As := [.int (f_X0_isWithin p3 0 6)]) (rest := []) ⟨hx, hb, hml, hown, hts⟩ (k_X0_needArgument l hfl (f_X0_isWithin p3 0 6)) gX0_room_X0_needArgument rfl rfl rfl cd_X0_needArgument (Nat.le_of_ble_eq_true rfl) (Nat.le_of_ble_eq_true rfl) (preE hEx) rfl hl.1 rfl (Nat.le_of_ble_eq_true rfl) (Nat.le_of_ble_eq_true rfl) (Nat.le_of_ble_eq_true rfl) dX0_room_29 (fun c2 E ce q9 H1 hE hz hk hce hcv hcl => ?_) (fun c2 => ?_)
    · rw [if_neg c2] at hf
      have hf := Option.some.inj hf; subst hf
      exact xt_out htab hlocks c2 hE hz hk hce hcv hcl (Nat.le_of_ble_eq_true rfl) (Nat.le_of_ble_eq_true rfl)
    rw [if_pos c2] at hf
    refine lv_aload_n hx hb dX0_room_32 rfl (lv_at hl 0 rfl) ?_
    refine lv_iload_n hx hb dX0_room_33 rfl (lv_at hl 1 rfl) ?_
    refine lv_iload_n hx hb dX0_room_34 rfl (lv_at hl 2 rfl) ?_
    refine pu_V (As := [.int p1, .int p2]) (rest := []) ⟨hx, hb, hml, hown, hts⟩ (k_X0_roomOf l dC dI cA a S p1 p2 _ rfl) gX0_room_X0_roomOf rfl rfl rfl cd_X0_roomOf (Nat.le_of_ble_eq_true rfl) (Nat.le_of_ble_eq_true rfl) (preX hK hP) rfl hl.1 rfl (Nat.le_of_ble_eq_true rfl) (Nat.le_of_ble_eq_true rfl) (Nat.le_of_ble_eq_true rfl) dX0_room_35 ?_
    refine lv_topi (fun y3 ey3 => ?_)
    have hf := bnd_at hf ey3
    refine lv_istore (lv' := [(4, .int y3), (0, .ref (a 0)), (1, .int p1), (2, .int p2), (3, .int p3)]) hx hb dX0_room_38 hl (by decide) rfl (fun ls hl => ?_)
    refine lv_aload_n hx hb dX0_room_40 rfl (lv_at hl 1 rfl) ?_
    refine gfX hx hb hts hin hown hK hP 6 (by decide) hw0 rfl rfl dX0_room_41 ?_
    refine lv_iload_n hx hb dX0_room_44 rfl (lv_at hl 2 rfl) ?_
    refine lv_bipush (v := 6) hx hb dX0_room_45 (by decide) ?_
    refine lv_imul hx hb dX0_room_47 ?_
    refine lv_iload_n hx hb dX0_room_48 rfl (lv_at hl 3 rfl) ?_
    refine lv_iadd hx hb dX0_room_49 ?_
    refine lv_iload_n hx hb dX0_room_50 rfl (lv_at hl 4 rfl) ?_
    refine mu_RX (As := [.ref (a 4), .int ((p1 * 6) + p2), .int p3]) (rest := []) ⟨hx, hb, hml, hown, hts⟩ (k_X0_put l dC dI cA (a 4) 12 (S.2 3) ((p1 * 6) + p2) p3 (by decide)) gX0_room_X0_put rfl rfl rfl cd_X0_put (Nat.le_of_ble_eq_true rfl) (Nat.le_of_ble_eq_true rfl) (preR hK (rowX hP 4 (wX_q3 cA a _))) rfl hl.1 rfl (Nat.le_of_ble_eq_true rfl) (Nat.le_of_ble_eq_true rfl) (Nat.le_of_ble_eq_true rfl) dX0_room_51 hP hap hS 3 (wX_q3 cA a _) (wX_s3 cA a _ _) (fun H locs hP hS => ?_)
    refine lv_iload hx hb dX0_room_54 (lv_at hl 0 rfl) ?_
    have hf := Option.some.inj hf; subst hf
    refine vx_ret ?_
    refine W.widen (k := 2) (n := 12) (Nat.le_of_ble_eq_true rfl) (Nat.le_of_ble_eq_true rfl) ?_
    exact W.iret hx hb hr (fun t ht hW => ⟨⟨rfl, rfl, by rw [ht]; exact hP⟩, hS.F ht⟩) hS.2.2 dX0_room_56
  unfold f_X0_room at hf
  refine lv_iload_n hx hb dX0_room_0 rfl (lv_at hl 1 rfl) ?_
  refine pu_S (As := [.int p1]) (rest := []) ⟨hx, hb, hml, hown, hts⟩ (k_X0_isFamily l p1 _ rfl) gX0_room_X0_isFamily rfl rfl rfl cd_X0_isFamily (Nat.le_of_ble_eq_true rfl) (Nat.le_of_ble_eq_true rfl) (preT) rfl hl.1 rfl (Nat.le_of_ble_eq_true rfl) (Nat.le_of_ble_eq_true rfl) (Nat.le_of_ble_eq_true rfl) dX0_room_1 ?_
  refine lv_if_eq (tgt := 18) hx hb dX0_room_4 (by decide) (fun c4 => ?_) (fun c4 => ?_)
  · rw [if_pos c4] at hf
    refine lv_iconst (v := 0) hx hb dX0_room_18 (by decide) ?_
    exact hW19 0 ls hf (lv_sub hl [0, 1, 2, 3] rfl)
  · rw [if_neg c4] at hf
    refine lv_iload_n hx hb dX0_room_7 rfl (lv_at hl 2 rfl) ?_
    refine pu_S (As := [.int p2]) (rest := []) ⟨hx, hb, hml, hown, hts⟩ (k_X0_isColour l p2 _ rfl) gX0_room_X0_isColour rfl rfl rfl cd_X0_isColour (Nat.le_of_ble_eq_true rfl) (Nat.le_of_ble_eq_true rfl) (preT) rfl hl.1 rfl (Nat.le_of_ble_eq_true rfl) (Nat.le_of_ble_eq_true rfl) (Nat.le_of_ble_eq_true rfl) dX0_room_8 ?_
    refine lv_if_eq (tgt := 18) hx hb dX0_room_11 (by decide) (fun c5 => ?_) (fun c5 => ?_)
    · rw [if_pos c5] at hf
      refine lv_iconst (v := 0) hx hb dX0_room_18 (by decide) ?_
      exact hW19 0 ls hf (lv_sub hl [0, 1, 2, 3] rfl)
    · rw [if_neg c5] at hf
      refine lv_iconst (v := 1) hx hb dX0_room_14 (by decide) ?_
      refine lv_goto (tgt := 19) hx hb dX0_room_15 (by decide) ?_
      exact hW19 1 ls hf (lv_sub hl [0, 1, 2, 3] rfl)
theorem cd_X0_weigh : yX0_weigh.cls = RX0 ∧ yX0_weigh.cls ≠ "java/lang/invoke/MethodHandle" ∧ yX0_weigh.cls ≠ "java/lang/invoke/VarHandle" ∧ (parseMethodDescriptor yX0_weigh.desc).map (fun d => d.parameters.length) = some 2 := by decide +kernel
set_option maxHeartbeats 4000000 in
set_option maxRecDepth 100000 in
theorem k_X0_weigh (l : Launch) (dC : Nat → ClassId) (dI : Nat → Nat → Nat) (cA : ClassId) (a : Nat → Nat) (S : St) (p1 : Int32) (p2 : Int32) (r : Nat × Int32 × St) (hf : f_X0_weigh S p1 p2 = some r) (hap : apart a 10) (hfl : l.stackTraces = false) : vx_Met l yX0_weigh wsX0_weigh ({ frames := 7, cells := 2, slots := 12, locals := 110 }) (va_Pc [.ref (a 0), .int p1, .int p2] (PTs (dC, dI) cA a S)) (tQi (dC, dI) cA a r) (tX r.1) 2 12 (ad a 10) := by
  refine vx_ofW (cc := cX0_weigh) (maxL := 4) (ret := (some .int)) (by decide) rfl ?_
  intro p e s m args below meth c s₁ B hml htab hv
  obtain ⟨rfl, hP, hK, hEx⟩ := hv
  have hx := B.exec
  have hb := B.bytes
  have hr := B.returns
  have hts := atoms_spec (ws := wsX0_weigh) B.pre
  have hown : s.vm.findClass RX0 = some m.cls := findClass_of_methodNamed B.named
  have hlocks := B.notSynchronized
  have hin : ∀ w ∈ u_ws RX0 TX0 12, w ∈ wsX0_weigh := by decide +kernel
  have hw0 := hts (.fieldLink RX0 32 "Submodulary" "weights" "[I") (by decide +kernel)
  have hS : va_S (ad a 10) s.heap s.heap [] := va_S.rf
  have hl := lv_entry ([.ref (a 0), .int p1, .int p2]) (n := 4) (Nat.le_of_ble_eq_true rfl)
  rw [lg_entry_eq]
  generalize (lg_sl ([.ref (a 0), .int p1, .int p2]) ++ List.replicate (4 - (lg_sl ([.ref (a 0), .int p1, .int p2])).length) Slot.unset).toArray = ls at hl ⊢
  have hl : lv_has ls 4 [(0, .ref (a 0)), (1, .int p1), (2, .int p2)] := hl
  unfold f_X0_weigh at hf
  refine lv_aload_n hx hb dX0_weigh_0 rfl (lv_at hl 0 rfl) ?_
  refine lv_iload_n hx hb dX0_weigh_1 rfl (lv_at hl 1 rfl) ?_
  refine pu_V (As := [.int p1]) (rest := []) ⟨hx, hb, hml, hown, hts⟩ (k_X0_isElement l dC dI cA a S p1 _ rfl) gX0_weigh_X0_isElement rfl rfl rfl cd_X0_isElement (Nat.le_of_ble_eq_true rfl) (Nat.le_of_ble_eq_true rfl) (preX hK hP) rfl hl.1 rfl (Nat.le_of_ble_eq_true rfl) (Nat.le_of_ble_eq_true rfl) (Nat.le_of_ble_eq_true rfl) dX0_weigh_2 ?_
  refine xt_S (As := [.int (f_X0_isElement S p1)]) (rest := []) ⟨hx, hb, hml, hown, hts⟩ (k_X0_needIndex l hfl (f_X0_isElement S p1)) gX0_weigh_X0_needIndex rfl rfl rfl cd_X0_needIndex (Nat.le_of_ble_eq_true rfl) (Nat.le_of_ble_eq_true rfl) (preE hEx) rfl hl.1 rfl (Nat.le_of_ble_eq_true rfl) (Nat.le_of_ble_eq_true rfl) (Nat.le_of_ble_eq_true rfl) dX0_weigh_5 (fun c1 E ce q9 H1 hE hz hk hce hcv hcl => ?_) (fun c1 => ?_)
  · rw [if_neg c1] at hf
    have hf := Option.some.inj hf; subst hf
    exact xt_out htab hlocks c1 hE hz hk hce hcv hcl (Nat.le_of_ble_eq_true rfl) (Nat.le_of_ble_eq_true rfl)
  rw [if_pos c1] at hf
  refine lv_iload_n hx hb dX0_weigh_8 rfl (lv_at hl 2 rfl) ?_
  refine lv_bipush (v := (-20)) hx hb dX0_weigh_9 (by decide) ?_
  refine lv_bipush (v := 20) hx hb dX0_weigh_11 (by decide) ?_
  refine pu_S (As := [.int p2, .int (-20), .int 20]) (rest := []) ⟨hx, hb, hml, hown, hts⟩ (k_X0_isWithin l p2 (-20) 20 _ rfl) gX0_weigh_X0_isWithin rfl rfl rfl cd_X0_isWithin (Nat.le_of_ble_eq_true rfl) (Nat.le_of_ble_eq_true rfl) (preT) rfl hl.1 rfl (Nat.le_of_ble_eq_true rfl) (Nat.le_of_ble_eq_true rfl) (Nat.le_of_ble_eq_true rfl) dX0_weigh_13 ?_
  refine xt_S (As := [.int (f_X0_isWithin p2 (-20) 20)]) (rest := []) ⟨hx, hb, hml, hown, hts⟩ (k_X0_needArgument l hfl (f_X0_isWithin p2 (-20) 20)) gX0_weigh_X0_needArgument rfl rfl rfl cd_X0_needArgument (Nat.le_of_ble_eq_true rfl) (Nat.le_of_ble_eq_true rfl) (preE hEx) rfl hl.1 rfl (Nat.le_of_ble_eq_true rfl) (Nat.le_of_ble_eq_true rfl) (Nat.le_of_ble_eq_true rfl) dX0_weigh_16 (fun c2 E ce q9 H1 hE hz hk hce hcv hcl => ?_) (fun c2 => ?_)
  · rw [if_neg c2] at hf
    have hf := Option.some.inj hf; subst hf
    exact xt_out htab hlocks c2 hE hz hk hce hcv hcl (Nat.le_of_ble_eq_true rfl) (Nat.le_of_ble_eq_true rfl)
  rw [if_pos c2] at hf
  refine lv_aload_n hx hb dX0_weigh_19 rfl (lv_at hl 0 rfl) ?_
  refine gfX hx hb hts hin hown hK hP 7 (by decide) hw0 rfl rfl dX0_weigh_20 ?_
  refine lv_iload_n hx hb dX0_weigh_23 rfl (lv_at hl 1 rfl) ?_
  refine pu_S (As := [.ref (a 5), .int p1]) (rest := []) ⟨hx, hb, hml, hown, hts⟩ (k_X0_at l dC dI cA (a 5) 6 (S.2 4) p1 (by decide)) gX0_weigh_X0_at rfl rfl rfl cd_X0_at (Nat.le_of_ble_eq_true rfl) (Nat.le_of_ble_eq_true rfl) (preR hK (rowX hP 5 rfl)) rfl hl.1 rfl (Nat.le_of_ble_eq_true rfl) (Nat.le_of_ble_eq_true rfl) (Nat.le_of_ble_eq_true rfl) dX0_weigh_24 ?_
  refine lv_topi (fun y3 ey3 => ?_)
  have hf := bnd_at hf ey3
  refine lv_istore_n (lv' := [(3, .int y3), (0, .ref (a 0)), (1, .int p1), (2, .int p2)]) hx hb dX0_weigh_27 rfl hl (by decide) rfl (fun ls hl => ?_)
  refine lv_aload_n hx hb dX0_weigh_28 rfl (lv_at hl 1 rfl) ?_
  refine gfX hx hb hts hin hown hK hP 7 (by decide) hw0 rfl rfl dX0_weigh_29 ?_
  refine lv_iload_n hx hb dX0_weigh_32 rfl (lv_at hl 2 rfl) ?_
  refine lv_iload_n hx hb dX0_weigh_33 rfl (lv_at hl 3 rfl) ?_
  refine mu_RX (As := [.ref (a 5), .int p1, .int p2]) (rest := []) ⟨hx, hb, hml, hown, hts⟩ (k_X0_put l dC dI cA (a 5) 6 (S.2 4) p1 p2 (by decide)) gX0_weigh_X0_put rfl rfl rfl cd_X0_put (Nat.le_of_ble_eq_true rfl) (Nat.le_of_ble_eq_true rfl) (preR hK (rowX hP 5 (wX_q4 cA a _))) rfl hl.1 rfl (Nat.le_of_ble_eq_true rfl) (Nat.le_of_ble_eq_true rfl) (Nat.le_of_ble_eq_true rfl) dX0_weigh_34 hP hap hS 4 (wX_q4 cA a _) (wX_s4 cA a _ _) (fun H locs hP hS => ?_)
  refine lv_iload_n hx hb dX0_weigh_37 rfl (lv_at hl 0 rfl) ?_
  have hf := Option.some.inj hf; subst hf
  refine vx_ret ?_
  refine W.widen (k := 2) (n := 12) (Nat.le_of_ble_eq_true rfl) (Nat.le_of_ble_eq_true rfl) ?_
  exact W.iret hx hb hr (fun t ht hW => ⟨⟨rfl, rfl, by rw [ht]; exact hP⟩, hS.F ht⟩) hS.2.2 dX0_weigh_38
theorem cd_X0_needPlace : yX0_needPlace.cls = RX0 ∧ yX0_needPlace.cls ≠ "java/lang/invoke/MethodHandle" ∧ yX0_needPlace.cls ≠ "java/lang/invoke/VarHandle" ∧ (parseMethodDescriptor yX0_needPlace.desc).map (fun d => d.parameters.length) = some 0 := by decide +kernel
set_option maxHeartbeats 4000000 in
set_option maxRecDepth 100000 in
theorem k_X0_needPlace (l : Launch) (dC : Nat → ClassId) (dI : Nat → Nat → Nat) (cA : ClassId) (a : Nat → Nat) (S : St) (r : Nat) (hf : f_X0_needPlace S = some r) (hap : apart a 10) (hfl : l.stackTraces = false) : vx_Met l yX0_needPlace wsX0_needPlace ({ frames := 7, cells := 1, slots := 6, locals := 110 }) (va_Pc [.ref (a 0)] (PTs (dC, dI) cA a S)) (tQv r) (tX r) 1 6 ((fun _ => False)) := by
  refine vx_ofW (cc := cX0_needPlace) (maxL := 1) (ret := none) (by decide) rfl ?_
  intro p e s m args below meth c s₁ B hml htab hv
  obtain ⟨rfl, hP, hK, hEx⟩ := hv
  have hx := B.exec
  have hb := B.bytes
  have hr := B.returns
  have hts := atoms_spec (ws := wsX0_needPlace) B.pre
  have hown : s.vm.findClass RX0 = some m.cls := findClass_of_methodNamed B.named
  have hlocks := B.notSynchronized
  have hin : ∀ w ∈ u_ws RX0 TX0 12, w ∈ wsX0_needPlace := by decide +kernel
  have hw0 := hts (.fieldLink RX0 13 "Submodulary" "functions" "I") (by decide +kernel)
  have hS : va_S (ad a 10) s.heap s.heap [] := va_S.rf
  have hl := lv_entry ([.ref (a 0)]) (n := 1) (Nat.le_of_ble_eq_true rfl)
  rw [lg_entry_eq]
  generalize (lg_sl ([.ref (a 0)]) ++ List.replicate (1 - (lg_sl ([.ref (a 0)])).length) Slot.unset).toArray = ls at hl ⊢
  have hl : lv_has ls 1 [(0, .ref (a 0))] := hl
  have hW14 : ∀ (s0 : Int32) (ls : Array Slot), f_X0_needPlace_14 S s0 = some r → lv_has ls 1 [(0, .ref (a 0))] → W p l e (headSpec wsX0_needPlace ({ frames := 7, cells := 1, slots := 6, locals := 110 })).room s m ([.ref (a 0)] : List Value).toArray below meth c s.heap [] 0 0 (vx_MQ below (tQv r) (tX r) ([.ref (a 0)] : List Value).toArray s 1 6 ((fun _ => False))) (F0 m 14 ls [.int s0]) := by
    intro s0 ls hf hl
    unfold f_X0_needPlace_14 at hf
    refine xt_S (As := [.int s0]) (rest := []) ⟨hx, hb, hml, hown, hts⟩ (k_X0_needState l hfl s0) gX0_needPlace_X0_needState rfl rfl rfl cd_X0_needState (Nat.le_of_ble_eq_true rfl) (Nat.le_of_ble_eq_true rfl) (preE hEx) rfl hl.1 rfl (Nat.le_of_ble_eq_true rfl) (Nat.le_of_ble_eq_true rfl) (Nat.le_of_ble_eq_true rfl) dX0_needPlace_14 (fun c1 E ce q9 H1 hE hz hk hce hcv hcl => ?_) (fun c1 => ?_)
    · rw [if_neg c1] at hf
      have hf := Option.some.inj hf; subst hf
      exact xt_out htab hlocks c1 hE hz hk hce hcv hcl (Nat.le_of_ble_eq_true rfl) (Nat.le_of_ble_eq_true rfl)
    rw [if_pos c1] at hf
    have hf := Option.some.inj hf; subst hf
    refine vx_ret ?_
    refine W.widen (k := 1) (n := 6) (Nat.le_of_ble_eq_true rfl) (Nat.le_of_ble_eq_true rfl) ?_
    exact W.vret hx hb hr (fun t ht hW => ⟨⟨rfl, rfl⟩, ht⟩) (fun q h => by cases h) dX0_needPlace_17
  unfold f_X0_needPlace at hf
  refine lv_aload_n hx hb dX0_needPlace_0 rfl (lv_at hl 0 rfl) ?_
  refine gfX hx hb hts hin hown hK hP 1 (by decide) hw0 rfl rfl dX0_needPlace_1 ?_
  refine lv_bipush (v := 8) hx hb dX0_needPlace_4 (by decide) ?_
  refine lv_icmp_ge (tgt := 13) hx hb dX0_needPlace_6 (by decide) (fun c2 => ?_) (fun c2 => ?_)
  · rw [if_pos c2] at hf
    refine lv_iconst (v := 0) hx hb dX0_needPlace_13 (by decide) ?_
    exact hW14 0 ls hf (lv_sub hl [0] rfl)
  · rw [if_neg c2] at hf
    refine lv_iconst (v := 1) hx hb dX0_needPlace_9 (by decide) ?_
    refine lv_goto (tgt := 14) hx hb dX0_needPlace_10 (by decide) ?_
    exact hW14 1 ls hf (lv_sub hl [0] rfl)
theorem cd_X0_make : yX0_make.cls = RX0 ∧ yX0_make.cls ≠ "java/lang/invoke/MethodHandle" ∧ yX0_make.cls ≠ "java/lang/invoke/VarHandle" ∧ (parseMethodDescriptor yX0_make.desc).map (fun d => d.parameters.length) = some 1 := by decide +kernel
set_option maxHeartbeats 4000000 in
set_option maxRecDepth 100000 in
theorem k_X0_make (l : Launch) (dC : Nat → ClassId) (dI : Nat → Nat → Nat) (cA : ClassId) (a : Nat → Nat) (S : St) (p1 : Int32) (r : Nat × Int32 × St) (hf : f_X0_make S p1 = some r) (hap : apart a 10) (hfl : l.stackTraces = false) : vx_Met l yX0_make wsX0_make ({ frames := 8, cells := 2, slots := 12, locals := 130 }) (va_Pc [.ref (a 0), .int p1] (PTs (dC, dI) cA a S)) (tQi (dC, dI) cA a r) (tX r.1) 2 12 (ad a 10) := by
  refine vx_ofW (cc := cX0_make) (maxL := 3) (ret := (some .int)) (by decide) rfl ?_
  intro p e s m args below meth c s₁ B hml htab hv
  obtain ⟨rfl, hP, hK, hEx⟩ := hv
  have hx := B.exec
  have hb := B.bytes
  have hr := B.returns
  have hts := atoms_spec (ws := wsX0_make) B.pre
  have hown : s.vm.findClass RX0 = some m.cls := findClass_of_methodNamed B.named
  have hlocks := B.notSynchronized
  have hS : va_S (ad a 10) s.heap s.heap [] := va_S.rf
  have hl := lv_entry ([.ref (a 0), .int p1]) (n := 3) (Nat.le_of_ble_eq_true rfl)
  rw [lg_entry_eq]
  generalize (lg_sl ([.ref (a 0), .int p1]) ++ List.replicate (3 - (lg_sl ([.ref (a 0), .int p1])).length) Slot.unset).toArray = ls at hl ⊢
  have hl : lv_has ls 3 [(0, .ref (a 0)), (1, .int p1)] := hl
  have hW15 : ∀ (k15 : Nat) (S : St) (x2 : Int32) (H : Heap) (locs : List Loc) (ls : Array Slot), f_X0_make_15 p1 k15 S x2 = some r → va_P (dC, dI) vwCl (wX cA a S) H → va_S (ad a 10) s.heap H locs → lv_has ls 3 [(0, .ref (a 0)), (1, .int p1), (2, .int x2)] → W p l e (headSpec wsX0_make ({ frames := 8, cells := 2, slots := 12, locals := 130 })).room s m ([.ref (a 0), .int p1] : List Value).toArray below meth c H locs 2 12 (vx_MQ below (tQi (dC, dI) cA a r) (tX r.1) ([.ref (a 0), .int p1] : List Value).toArray s 2 12 (ad a 10)) (F0 m 15 ls []) := by
    intro k15
    induction k15 with
    | zero =>
      intro S x2 H locs ls hf hP hS hl
      rw [f_X0_make_15] at hf
      cases hf
    | succ k15 ih15 =>
      intro S x2 H locs ls hf hP hS hl
      rw [f_X0_make_15] at hf
      refine lv_iload_n hx hb dX0_make_15 rfl (lv_at hl 2 rfl) ?_
      refine lv_aload_n hx hb dX0_make_16 rfl (lv_at hl 0 rfl) ?_
      refine pu_V (As := []) (rest := [.int x2]) ⟨hx, hb, hml, hown, hts⟩ (k_X0_sets l dC dI cA a S  _ rfl) gX0_make_X0_sets rfl rfl rfl cd_X0_sets (Nat.le_of_ble_eq_true rfl) (Nat.le_of_ble_eq_true rfl) (preX hK hP) rfl hl.1 rfl (Nat.le_of_ble_eq_true rfl) (Nat.le_of_ble_eq_true rfl) (Nat.le_of_ble_eq_true rfl) dX0_make_17 ?_
      refine lv_icmp_ge (tgt := 40) hx hb dX0_make_20 (by decide) (fun c1 => ?_) (fun c1 => ?_)
      · rw [if_pos c1] at hf
        refine lv_aload_n hx hb dX0_make_40 rfl (lv_at hl 0 rfl) ?_
        obtain ⟨q2, hq2, hf⟩ := ob_some hf
        refine mu_Xi (As := []) (rest := []) ⟨hx, hb, hml, hown, hts⟩ (k_X0_countNew l dC dI cA a S  _ hq2 hap) gX0_make_X0_countNew rfl rfl rfl cd_X0_countNew (Nat.le_of_ble_eq_true rfl) (Nat.le_of_ble_eq_true rfl) (preX hK hP) rfl hl.1 rfl (Nat.le_of_ble_eq_true rfl) (Nat.le_of_ble_eq_true rfl) (Nat.le_of_ble_eq_true rfl) dX0_make_41 hS (fun H locs hP hS => ?_)
        have hf := Option.some.inj hf; subst hf
        refine vx_ret ?_
        refine W.widen (k := 2) (n := 12) (Nat.le_of_ble_eq_true rfl) (Nat.le_of_ble_eq_true rfl) ?_
        exact W.iret hx hb hr (fun t ht hW => ⟨⟨rfl, rfl, by rw [ht]; exact hP⟩, hS.F ht⟩) hS.2.2 dX0_make_44
      · rw [if_neg c1] at hf
        refine lv_aload_n hx hb dX0_make_23 rfl (lv_at hl 0 rfl) ?_
        refine lv_iload_n hx hb dX0_make_24 rfl (lv_at hl 2 rfl) ?_
        refine lv_aload_n hx hb dX0_make_25 rfl (lv_at hl 0 rfl) ?_
        refine lv_iload_n hx hb dX0_make_26 rfl (lv_at hl 1 rfl) ?_
        refine lv_iload_n hx hb dX0_make_27 rfl (lv_at hl 2 rfl) ?_
        obtain ⟨v3, hv3, hf⟩ := ob_some hf
        refine pu_V (As := [.int p1, .int x2]) (rest := [.int x2, .ref (a 0)]) ⟨hx, hb, hml, hown, hts⟩ (k_X0_toldValue l dC dI cA a S p1 x2 _ hv3) gX0_make_X0_toldValue rfl rfl rfl cd_X0_toldValue (Nat.le_of_ble_eq_true rfl) (Nat.le_of_ble_eq_true rfl) (preX hK hP) rfl hl.1 rfl (Nat.le_of_ble_eq_true rfl) (Nat.le_of_ble_eq_true rfl) (Nat.le_of_ble_eq_true rfl) dX0_make_28 ?_
        obtain ⟨q4, hq4, hf⟩ := ob_some hf
        refine mu_Xv (As := [.int x2, .int v3]) (rest := []) ⟨hx, hb, hml, hown, hts⟩ (k_X0_putNew l dC dI cA a S x2 v3 _ hq4 hap) gX0_make_X0_putNew rfl rfl rfl cd_X0_putNew (Nat.le_of_ble_eq_true rfl) (Nat.le_of_ble_eq_true rfl) (preX hK hP) rfl hl.1 rfl (Nat.le_of_ble_eq_true rfl) (Nat.le_of_ble_eq_true rfl) (Nat.le_of_ble_eq_true rfl) dX0_make_31 hS (fun H locs hP hS => ?_)
        obtain ⟨y5, ey5⟩ : ∃ y : Int32, y = (x2 + 1) := ⟨_, rfl⟩
        have hf := bnd_at hf ey5
        refine lv_iinc (v := y5) (lv' := [(2, .int y5), (0, .ref (a 0)), (1, .int p1)]) hx hb dX0_make_34 hl (k := 2) rfl (by rw [ey5]; rfl) (by decide) rfl (fun ls hl => ?_)
        refine lv_goto (tgt := 15) hx hb dX0_make_37 (by decide) ?_
        exact ih15 q4 y5 _ _ ls hf hP hS (lv_sub hl [1, 2, 0] rfl)
  unfold f_X0_make at hf
  refine lv_iload_n hx hb dX0_make_0 rfl (lv_at hl 1 rfl) ?_
  refine lv_iconst (v := 0) hx hb dX0_make_1 (by decide) ?_
  refine lv_iconst (v := 4) hx hb dX0_make_2 (by decide) ?_
  refine pu_S (As := [.int p1, .int 0, .int 4]) (rest := []) ⟨hx, hb, hml, hown, hts⟩ (k_X0_isWithin l p1 0 4 _ rfl) gX0_make_X0_isWithin rfl rfl rfl cd_X0_isWithin (Nat.le_of_ble_eq_true rfl) (Nat.le_of_ble_eq_true rfl) (preT) rfl hl.1 rfl (Nat.le_of_ble_eq_true rfl) (Nat.le_of_ble_eq_true rfl) (Nat.le_of_ble_eq_true rfl) dX0_make_3 ?_
  refine xt_S (As := [.int (f_X0_isWithin p1 0 4)]) (rest := []) ⟨hx, hb, hml, hown, hts⟩ (k_X0_needArgument l hfl (f_X0_isWithin p1 0 4)) gX0_make_X0_needArgument rfl rfl rfl cd_X0_needArgument (Nat.le_of_ble_eq_true rfl) (Nat.le_of_ble_eq_true rfl) (preE hEx) rfl hl.1 rfl (Nat.le_of_ble_eq_true rfl) (Nat.le_of_ble_eq_true rfl) (Nat.le_of_ble_eq_true rfl) dX0_make_6 (fun c6 E ce q9 H1 hE hz hk hce hcv hcl => ?_) (fun c6 => ?_)
  · rw [if_neg c6] at hf
    have hf := Option.some.inj hf; subst hf
    exact xt_out htab hlocks c6 hE hz hk hce hcv hcl (Nat.le_of_ble_eq_true rfl) (Nat.le_of_ble_eq_true rfl)
  rw [if_pos c6] at hf
  refine lv_aload_n hx hb dX0_make_9 rfl (lv_at hl 0 rfl) ?_
  obtain ⟨e7, he7, hf⟩ := ob_some hf
  refine xt_V (As := []) (rest := []) ⟨hx, hb, hml, hown, hts⟩ (k_X0_needPlace l dC dI cA a S _ he7 hap hfl) gX0_make_X0_needPlace rfl rfl rfl cd_X0_needPlace (Nat.le_of_ble_eq_true rfl) (Nat.le_of_ble_eq_true rfl) (preTs hK hP hEx) rfl hl.1 rfl (Nat.le_of_ble_eq_true rfl) (Nat.le_of_ble_eq_true rfl) (Nat.le_of_ble_eq_true rfl) dX0_make_10 (fun c8 E ce q9 H1 hE hz hk hce hcv hcl => ?_) (fun c8 => ?_)
  · rw [if_neg c8] at hf
    have hf := Option.some.inj hf; subst hf
    exact xt_out htab hlocks c8 hE hz hk hce hcv hcl (Nat.le_of_ble_eq_true rfl) (Nat.le_of_ble_eq_true rfl)
  rw [if_pos c8] at hf
  refine lv_iconst (v := 0) hx hb dX0_make_13 (by decide) ?_
  refine lv_istore_n (lv' := [(2, .int 0), (0, .ref (a 0)), (1, .int p1)]) hx hb dX0_make_14 rfl hl (by decide) rfl (fun ls hl => ?_)
  exact hW15 70 S 0 _ _ ls hf hP hS (lv_sub hl [1, 2, 0] rfl)
theorem cd_X0_sum : yX0_sum.cls = RX0 ∧ yX0_sum.cls ≠ "java/lang/invoke/MethodHandle" ∧ yX0_sum.cls ≠ "java/lang/invoke/VarHandle" ∧ (parseMethodDescriptor yX0_sum.desc).map (fun d => d.parameters.length) = some 2 := by decide +kernel
set_option maxHeartbeats 4000000 in
set_option maxRecDepth 100000 in
theorem k_X0_sum (l : Launch) (dC : Nat → ClassId) (dI : Nat → Nat → Nat) (cA : ClassId) (a : Nat → Nat) (S : St) (p1 : Int32) (p2 : Int32) (r : Nat × Int32 × St) (hf : f_X0_sum S p1 p2 = some r) (hap : apart a 10) (hfl : l.stackTraces = false) : vx_Met l yX0_sum wsX0_sum ({ frames := 8, cells := 2, slots := 12, locals := 130 }) (va_Pc [.ref (a 0), .int p1, .int p2] (PTs (dC, dI) cA a S)) (tQi (dC, dI) cA a r) (tX r.1) 2 12 (ad a 10) := by
  refine vx_ofW (cc := cX0_sum) (maxL := 4) (ret := (some .int)) (by decide) rfl ?_
  intro p e s m args below meth c s₁ B hml htab hv
  obtain ⟨rfl, hP, hK, hEx⟩ := hv
  have hx := B.exec
  have hb := B.bytes
  have hr := B.returns
  have hts := atoms_spec (ws := wsX0_sum) B.pre
  have hown : s.vm.findClass RX0 = some m.cls := findClass_of_methodNamed B.named
  have hlocks := B.notSynchronized
  have hS : va_S (ad a 10) s.heap s.heap [] := va_S.rf
  have hl := lv_entry ([.ref (a 0), .int p1, .int p2]) (n := 4) (Nat.le_of_ble_eq_true rfl)
  rw [lg_entry_eq]
  generalize (lg_sl ([.ref (a 0), .int p1, .int p2]) ++ List.replicate (4 - (lg_sl ([.ref (a 0), .int p1, .int p2])).length) Slot.unset).toArray = ls at hl ⊢
  have hl : lv_has ls 4 [(0, .ref (a 0)), (1, .int p1), (2, .int p2)] := hl
  have hW30 : ∀ (k30 : Nat) (S : St) (x3 : Int32) (H : Heap) (locs : List Loc) (ls : Array Slot), f_X0_sum_30 p1 p2 k30 S x3 = some r → va_P (dC, dI) vwCl (wX cA a S) H → va_S (ad a 10) s.heap H locs → lv_has ls 4 [(0, .ref (a 0)), (1, .int p1), (2, .int p2), (3, .int x3)] → W p l e (headSpec wsX0_sum ({ frames := 8, cells := 2, slots := 12, locals := 130 })).room s m ([.ref (a 0), .int p1, .int p2] : List Value).toArray below meth c H locs 2 12 (vx_MQ below (tQi (dC, dI) cA a r) (tX r.1) ([.ref (a 0), .int p1, .int p2] : List Value).toArray s 2 12 (ad a 10)) (F0 m 30 ls []) := by
    intro k30
    induction k30 with
    | zero =>
      intro S x3 H locs ls hf hP hS hl
      rw [f_X0_sum_30] at hf
      cases hf
    | succ k30 ih30 =>
      intro S x3 H locs ls hf hP hS hl
      rw [f_X0_sum_30] at hf
      refine lv_iload_n hx hb dX0_sum_30 rfl (lv_at hl 3 rfl) ?_
      refine lv_aload_n hx hb dX0_sum_31 rfl (lv_at hl 0 rfl) ?_
      refine pu_V (As := []) (rest := [.int x3]) ⟨hx, hb, hml, hown, hts⟩ (k_X0_sets l dC dI cA a S  _ rfl) gX0_sum_X0_sets rfl rfl rfl cd_X0_sets (Nat.le_of_ble_eq_true rfl) (Nat.le_of_ble_eq_true rfl) (preX hK hP) rfl hl.1 rfl (Nat.le_of_ble_eq_true rfl) (Nat.le_of_ble_eq_true rfl) (Nat.le_of_ble_eq_true rfl) dX0_sum_32 ?_
      refine lv_icmp_ge (tgt := 62) hx hb dX0_sum_35 (by decide) (fun c1 => ?_) (fun c1 => ?_)
      · rw [if_pos c1] at hf
        refine lv_aload_n hx hb dX0_sum_62 rfl (lv_at hl 0 rfl) ?_
        obtain ⟨q2, hq2, hf⟩ := ob_some hf
        refine mu_Xi (As := []) (rest := []) ⟨hx, hb, hml, hown, hts⟩ (k_X0_countNew l dC dI cA a S  _ hq2 hap) gX0_sum_X0_countNew rfl rfl rfl cd_X0_countNew (Nat.le_of_ble_eq_true rfl) (Nat.le_of_ble_eq_true rfl) (preX hK hP) rfl hl.1 rfl (Nat.le_of_ble_eq_true rfl) (Nat.le_of_ble_eq_true rfl) (Nat.le_of_ble_eq_true rfl) dX0_sum_63 hS (fun H locs hP hS => ?_)
        have hf := Option.some.inj hf; subst hf
        refine vx_ret ?_
        refine W.widen (k := 2) (n := 12) (Nat.le_of_ble_eq_true rfl) (Nat.le_of_ble_eq_true rfl) ?_
        exact W.iret hx hb hr (fun t ht hW => ⟨⟨rfl, rfl, by rw [ht]; exact hP⟩, hS.F ht⟩) hS.2.2 dX0_sum_66
      · rw [if_neg c1] at hf
        refine lv_aload_n hx hb dX0_sum_38 rfl (lv_at hl 0 rfl) ?_
        refine lv_iload_n hx hb dX0_sum_39 rfl (lv_at hl 3 rfl) ?_
        refine lv_aload_n hx hb dX0_sum_40 rfl (lv_at hl 0 rfl) ?_
        refine lv_iload_n hx hb dX0_sum_41 rfl (lv_at hl 1 rfl) ?_
        refine lv_iload_n hx hb dX0_sum_42 rfl (lv_at hl 3 rfl) ?_
        refine pu_V (As := [.int p1, .int x3]) (rest := [.int x3, .ref (a 0)]) ⟨hx, hb, hml, hown, hts⟩ (k_X0_valueOf l dC dI cA a S p1 x3 _ rfl) gX0_sum_X0_valueOf rfl rfl rfl cd_X0_valueOf (Nat.le_of_ble_eq_true rfl) (Nat.le_of_ble_eq_true rfl) (preX hK hP) rfl hl.1 rfl (Nat.le_of_ble_eq_true rfl) (Nat.le_of_ble_eq_true rfl) (Nat.le_of_ble_eq_true rfl) dX0_sum_43 ?_
        refine lv_aload_n hx hb dX0_sum_46 rfl (lv_at hl 0 rfl) ?_
        refine lv_iload_n hx hb dX0_sum_47 rfl (lv_at hl 2 rfl) ?_
        refine lv_iload_n hx hb dX0_sum_48 rfl (lv_at hl 3 rfl) ?_
        refine pu_V (As := [.int p2, .int x3]) (rest := [.int (f_X0_valueOf S p1 x3), .int x3, .ref (a 0)]) ⟨hx, hb, hml, hown, hts⟩ (k_X0_valueOf l dC dI cA a S p2 x3 _ rfl) gX0_sum_X0_valueOf rfl rfl rfl cd_X0_valueOf (Nat.le_of_ble_eq_true rfl) (Nat.le_of_ble_eq_true rfl) (preX hK hP) rfl hl.1 rfl (Nat.le_of_ble_eq_true rfl) (Nat.le_of_ble_eq_true rfl) (Nat.le_of_ble_eq_true rfl) dX0_sum_49 ?_
        refine lv_iadd hx hb dX0_sum_52 ?_
        obtain ⟨q3, hq3, hf⟩ := ob_some hf
        refine mu_Xv (As := [.int x3, .int ((f_X0_valueOf S p1 x3) + (f_X0_valueOf S p2 x3))]) (rest := []) ⟨hx, hb, hml, hown, hts⟩ (k_X0_putNew l dC dI cA a S x3 ((f_X0_valueOf S p1 x3) + (f_X0_valueOf S p2 x3)) _ hq3 hap) gX0_sum_X0_putNew rfl rfl rfl cd_X0_putNew (Nat.le_of_ble_eq_true rfl) (Nat.le_of_ble_eq_true rfl) (preX hK hP) rfl hl.1 rfl (Nat.le_of_ble_eq_true rfl) (Nat.le_of_ble_eq_true rfl) (Nat.le_of_ble_eq_true rfl) dX0_sum_53 hS (fun H locs hP hS => ?_)
        obtain ⟨y4, ey4⟩ : ∃ y : Int32, y = (x3 + 1) := ⟨_, rfl⟩
        have hf := bnd_at hf ey4
        refine lv_iinc (v := y4) (lv' := [(3, .int y4), (0, .ref (a 0)), (1, .int p1), (2, .int p2)]) hx hb dX0_sum_56 hl (k := 3) rfl (by rw [ey4]; rfl) (by decide) rfl (fun ls hl => ?_)
        refine lv_goto (tgt := 30) hx hb dX0_sum_59 (by decide) ?_
        exact ih30 q3 y4 _ _ ls hf hP hS (lv_sub hl [1, 2, 3, 0] rfl)
  have hW21 : ∀ (s0 : Int32) (ls : Array Slot), f_X0_sum_21 S p1 p2 s0 = some r → lv_has ls 4 [(0, .ref (a 0)), (1, .int p1), (2, .int p2)] → W p l e (headSpec wsX0_sum ({ frames := 8, cells := 2, slots := 12, locals := 130 })).room s m ([.ref (a 0), .int p1, .int p2] : List Value).toArray below meth c s.heap [] 0 0 (vx_MQ below (tQi (dC, dI) cA a r) (tX r.1) ([.ref (a 0), .int p1, .int p2] : List Value).toArray s 2 12 (ad a 10)) (F0 m 21 ls [.int s0]) := by
    intro s0 ls hf hl
    unfold f_X0_sum_21 at hf
    refine xt_S (As := [.int s0]) (rest := []) ⟨hx, hb, hml, hown, hts⟩ (k_X0_needIndex l hfl s0) gX0_sum_X0_needIndex rfl rfl rfl cd_X0_needIndex (Nat.le_of_ble_eq_true rfl) (Nat.le_of_ble_eq_true rfl) (preE hEx) rfl hl.1 rfl (Nat.le_of_ble_eq_true rfl) (Nat.le_of_ble_eq_true rfl) (Nat.le_of_ble_eq_true rfl) dX0_sum_21 (fun c5 E ce q9 H1 hE hz hk hce hcv hcl => ?_) (fun c5 => ?_)
    · rw [if_neg c5] at hf
      have hf := Option.some.inj hf; subst hf
      exact xt_out htab hlocks c5 hE hz hk hce hcv hcl (Nat.le_of_ble_eq_true rfl) (Nat.le_of_ble_eq_true rfl)
    rw [if_pos c5] at hf
    refine lv_aload_n hx hb dX0_sum_24 rfl (lv_at hl 0 rfl) ?_
    obtain ⟨e6, he6, hf⟩ := ob_some hf
    refine xt_V (As := []) (rest := []) ⟨hx, hb, hml, hown, hts⟩ (k_X0_needPlace l dC dI cA a S _ he6 hap hfl) gX0_sum_X0_needPlace rfl rfl rfl cd_X0_needPlace (Nat.le_of_ble_eq_true rfl) (Nat.le_of_ble_eq_true rfl) (preTs hK hP hEx) rfl hl.1 rfl (Nat.le_of_ble_eq_true rfl) (Nat.le_of_ble_eq_true rfl) (Nat.le_of_ble_eq_true rfl) dX0_sum_25 (fun c7 E ce q9 H1 hE hz hk hce hcv hcl => ?_) (fun c7 => ?_)
    · rw [if_neg c7] at hf
      have hf := Option.some.inj hf; subst hf
      exact xt_out htab hlocks c7 hE hz hk hce hcv hcl (Nat.le_of_ble_eq_true rfl) (Nat.le_of_ble_eq_true rfl)
    rw [if_pos c7] at hf
    refine lv_iconst (v := 0) hx hb dX0_sum_28 (by decide) ?_
    refine lv_istore_n (lv' := [(3, .int 0), (0, .ref (a 0)), (1, .int p1), (2, .int p2)]) hx hb dX0_sum_29 rfl hl (by decide) rfl (fun ls hl => ?_)
    exact hW30 70 S 0 _ _ ls hf hP hS (lv_sub hl [1, 2, 3, 0] rfl)
  unfold f_X0_sum at hf
  refine lv_aload_n hx hb dX0_sum_0 rfl (lv_at hl 0 rfl) ?_
  refine lv_iload_n hx hb dX0_sum_1 rfl (lv_at hl 1 rfl) ?_
  refine pu_V (As := [.int p1]) (rest := []) ⟨hx, hb, hml, hown, hts⟩ (k_X0_isFunction l dC dI cA a S p1 _ rfl) gX0_sum_X0_isFunction rfl rfl rfl cd_X0_isFunction (Nat.le_of_ble_eq_true rfl) (Nat.le_of_ble_eq_true rfl) (preX hK hP) rfl hl.1 rfl (Nat.le_of_ble_eq_true rfl) (Nat.le_of_ble_eq_true rfl) (Nat.le_of_ble_eq_true rfl) dX0_sum_2 ?_
  refine lv_if_eq (tgt := 20) hx hb dX0_sum_5 (by decide) (fun c8 => ?_) (fun c8 => ?_)
  · rw [if_pos c8] at hf
    refine lv_iconst (v := 0) hx hb dX0_sum_20 (by decide) ?_
    exact hW21 0 ls hf (lv_sub hl [0, 1, 2] rfl)
  · rw [if_neg c8] at hf
    refine lv_aload_n hx hb dX0_sum_8 rfl (lv_at hl 0 rfl) ?_
    refine lv_iload_n hx hb dX0_sum_9 rfl (lv_at hl 2 rfl) ?_
    refine pu_V (As := [.int p2]) (rest := []) ⟨hx, hb, hml, hown, hts⟩ (k_X0_isFunction l dC dI cA a S p2 _ rfl) gX0_sum_X0_isFunction rfl rfl rfl cd_X0_isFunction (Nat.le_of_ble_eq_true rfl) (Nat.le_of_ble_eq_true rfl) (preX hK hP) rfl hl.1 rfl (Nat.le_of_ble_eq_true rfl) (Nat.le_of_ble_eq_true rfl) (Nat.le_of_ble_eq_true rfl) dX0_sum_10 ?_
    refine lv_if_eq (tgt := 20) hx hb dX0_sum_13 (by decide) (fun c9 => ?_) (fun c9 => ?_)
    · rw [if_pos c9] at hf
      refine lv_iconst (v := 0) hx hb dX0_sum_20 (by decide) ?_
      exact hW21 0 ls hf (lv_sub hl [0, 1, 2] rfl)
    · rw [if_neg c9] at hf
      refine lv_iconst (v := 1) hx hb dX0_sum_16 (by decide) ?_
      refine lv_goto (tgt := 21) hx hb dX0_sum_17 (by decide) ?_
      exact hW21 1 ls hf (lv_sub hl [0, 1, 2] rfl)
theorem cd_X0_contract : yX0_contract.cls = RX0 ∧ yX0_contract.cls ≠ "java/lang/invoke/MethodHandle" ∧ yX0_contract.cls ≠ "java/lang/invoke/VarHandle" ∧ (parseMethodDescriptor yX0_contract.desc).map (fun d => d.parameters.length) = some 2 := by decide +kernel
set_option maxHeartbeats 4000000 in
set_option maxRecDepth 100000 in
theorem k_X0_contract (l : Launch) (dC : Nat → ClassId) (dI : Nat → Nat → Nat) (cA : ClassId) (a : Nat → Nat) (S : St) (p1 : Int32) (p2 : Int32) (r : Nat × Int32 × St) (hf : f_X0_contract S p1 p2 = some r) (hap : apart a 10) (hfl : l.stackTraces = false) : vx_Met l yX0_contract wsX0_contract ({ frames := 8, cells := 3, slots := 18, locals := 130 }) (va_Pc [.ref (a 0), .int p1, .int p2] (PTs (dC, dI) cA a S)) (tQi (dC, dI) cA a r) (tX r.1) 3 18 (ad a 10) := by
  refine vx_ofW (cc := cX0_contract) (maxL := 4) (ret := (some .int)) (by decide) rfl ?_
  intro p e s m args below meth c s₁ B hml htab hv
  obtain ⟨rfl, hP, hK, hEx⟩ := hv
  have hx := B.exec
  have hb := B.bytes
  have hr := B.returns
  have hts := atoms_spec (ws := wsX0_contract) B.pre
  have hown : s.vm.findClass RX0 = some m.cls := findClass_of_methodNamed B.named
  have hlocks := B.notSynchronized
  have hS : va_S (ad a 10) s.heap s.heap [] := va_S.rf
  have hl := lv_entry ([.ref (a 0), .int p1, .int p2]) (n := 4) (Nat.le_of_ble_eq_true rfl)
  rw [lg_entry_eq]
  generalize (lg_sl ([.ref (a 0), .int p1, .int p2]) ++ List.replicate (4 - (lg_sl ([.ref (a 0), .int p1, .int p2])).length) Slot.unset).toArray = ls at hl ⊢
  have hl : lv_has ls 4 [(0, .ref (a 0)), (1, .int p1), (2, .int p2)] := hl
  have hW22 : ∀ (k22 : Nat) (S : St) (x3 : Int32) (H : Heap) (locs : List Loc) (ls : Array Slot), f_X0_contract_22 p1 p2 k22 S x3 = some r → va_P (dC, dI) vwCl (wX cA a S) H → va_S (ad a 10) s.heap H locs → lv_has ls 4 [(0, .ref (a 0)), (1, .int p1), (2, .int p2), (3, .int x3)] → W p l e (headSpec wsX0_contract ({ frames := 8, cells := 3, slots := 18, locals := 130 })).room s m ([.ref (a 0), .int p1, .int p2] : List Value).toArray below meth c H locs 3 18 (vx_MQ below (tQi (dC, dI) cA a r) (tX r.1) ([.ref (a 0), .int p1, .int p2] : List Value).toArray s 3 18 (ad a 10)) (F0 m 22 ls []) := by
    intro k22
    induction k22 with
    | zero =>
      intro S x3 H locs ls hf hP hS hl
      rw [f_X0_contract_22] at hf
      cases hf
    | succ k22 ih22 =>
      intro S x3 H locs ls hf hP hS hl
      rw [f_X0_contract_22] at hf
      refine lv_iload_n hx hb dX0_contract_22 rfl (lv_at hl 3 rfl) ?_
      refine lv_aload_n hx hb dX0_contract_23 rfl (lv_at hl 0 rfl) ?_
      refine pu_V (As := []) (rest := [.int x3]) ⟨hx, hb, hml, hown, hts⟩ (k_X0_sets l dC dI cA a S  _ rfl) gX0_contract_X0_sets rfl rfl rfl cd_X0_sets (Nat.le_of_ble_eq_true rfl) (Nat.le_of_ble_eq_true rfl) (preX hK hP) rfl hl.1 rfl (Nat.le_of_ble_eq_true rfl) (Nat.le_of_ble_eq_true rfl) (Nat.le_of_ble_eq_true rfl) dX0_contract_24 ?_
      refine lv_icmp_ge (tgt := 56) hx hb dX0_contract_27 (by decide) (fun c1 => ?_) (fun c1 => ?_)
      · rw [if_pos c1] at hf
        refine lv_aload_n hx hb dX0_contract_56 rfl (lv_at hl 0 rfl) ?_
        obtain ⟨q2, hq2, hf⟩ := ob_some hf
        refine mu_Xi (As := []) (rest := []) ⟨hx, hb, hml, hown, hts⟩ (k_X0_countNew l dC dI cA a S  _ hq2 hap) gX0_contract_X0_countNew rfl rfl rfl cd_X0_countNew (Nat.le_of_ble_eq_true rfl) (Nat.le_of_ble_eq_true rfl) (preX hK hP) rfl hl.1 rfl (Nat.le_of_ble_eq_true rfl) (Nat.le_of_ble_eq_true rfl) (Nat.le_of_ble_eq_true rfl) dX0_contract_57 hS (fun H locs hP hS => ?_)
        have hf := Option.some.inj hf; subst hf
        refine vx_ret ?_
        refine W.widen (k := 3) (n := 18) (Nat.le_of_ble_eq_true rfl) (Nat.le_of_ble_eq_true rfl) ?_
        exact W.iret hx hb hr (fun t ht hW => ⟨⟨rfl, rfl, by rw [ht]; exact hP⟩, hS.F ht⟩) hS.2.2 dX0_contract_60
      · rw [if_neg c1] at hf
        refine lv_aload_n hx hb dX0_contract_30 rfl (lv_at hl 0 rfl) ?_
        refine lv_iload_n hx hb dX0_contract_31 rfl (lv_at hl 3 rfl) ?_
        refine lv_aload_n hx hb dX0_contract_32 rfl (lv_at hl 0 rfl) ?_
        refine lv_iload_n hx hb dX0_contract_33 rfl (lv_at hl 1 rfl) ?_
        refine lv_iload_n hx hb dX0_contract_34 rfl (lv_at hl 3 rfl) ?_
        refine lv_iload_n hx hb dX0_contract_35 rfl (lv_at hl 2 rfl) ?_
        refine lv_ior hx hb dX0_contract_36 ?_
        refine pu_V (As := [.int p1, .int (x3 ||| p2)]) (rest := [.int x3, .ref (a 0)]) ⟨hx, hb, hml, hown, hts⟩ (k_X0_valueOf l dC dI cA a S p1 (x3 ||| p2) _ rfl) gX0_contract_X0_valueOf rfl rfl rfl cd_X0_valueOf (Nat.le_of_ble_eq_true rfl) (Nat.le_of_ble_eq_true rfl) (preX hK hP) rfl hl.1 rfl (Nat.le_of_ble_eq_true rfl) (Nat.le_of_ble_eq_true rfl) (Nat.le_of_ble_eq_true rfl) dX0_contract_37 ?_
        refine lv_aload_n hx hb dX0_contract_40 rfl (lv_at hl 0 rfl) ?_
        refine lv_iload_n hx hb dX0_contract_41 rfl (lv_at hl 1 rfl) ?_
        refine lv_iload_n hx hb dX0_contract_42 rfl (lv_at hl 2 rfl) ?_
        refine pu_V (As := [.int p1, .int p2]) (rest := [.int (f_X0_valueOf S p1 (x3 ||| p2)), .int x3, .ref (a 0)]) ⟨hx, hb, hml, hown, hts⟩ (k_X0_valueOf l dC dI cA a S p1 p2 _ rfl) gX0_contract_X0_valueOf rfl rfl rfl cd_X0_valueOf (Nat.le_of_ble_eq_true rfl) (Nat.le_of_ble_eq_true rfl) (preX hK hP) rfl hl.1 rfl (Nat.le_of_ble_eq_true rfl) (Nat.le_of_ble_eq_true rfl) (Nat.le_of_ble_eq_true rfl) dX0_contract_43 ?_
        refine lv_isub hx hb dX0_contract_46 ?_
        obtain ⟨q3, hq3, hf⟩ := ob_some hf
        refine mu_Xv (As := [.int x3, .int ((f_X0_valueOf S p1 (x3 ||| p2)) - (f_X0_valueOf S p1 p2))]) (rest := []) ⟨hx, hb, hml, hown, hts⟩ (k_X0_putNew l dC dI cA a S x3 ((f_X0_valueOf S p1 (x3 ||| p2)) - (f_X0_valueOf S p1 p2)) _ hq3 hap) gX0_contract_X0_putNew rfl rfl rfl cd_X0_putNew (Nat.le_of_ble_eq_true rfl) (Nat.le_of_ble_eq_true rfl) (preX hK hP) rfl hl.1 rfl (Nat.le_of_ble_eq_true rfl) (Nat.le_of_ble_eq_true rfl) (Nat.le_of_ble_eq_true rfl) dX0_contract_47 hS (fun H locs hP hS => ?_)
        obtain ⟨y4, ey4⟩ : ∃ y : Int32, y = (x3 + 1) := ⟨_, rfl⟩
        have hf := bnd_at hf ey4
        refine lv_iinc (v := y4) (lv' := [(3, .int y4), (0, .ref (a 0)), (1, .int p1), (2, .int p2)]) hx hb dX0_contract_50 hl (k := 3) rfl (by rw [ey4]; rfl) (by decide) rfl (fun ls hl => ?_)
        refine lv_goto (tgt := 22) hx hb dX0_contract_53 (by decide) ?_
        exact ih22 q3 y4 _ _ ls hf hP hS (lv_sub hl [1, 2, 3, 0] rfl)
  unfold f_X0_contract at hf
  refine lv_aload_n hx hb dX0_contract_0 rfl (lv_at hl 0 rfl) ?_
  refine lv_iload_n hx hb dX0_contract_1 rfl (lv_at hl 1 rfl) ?_
  refine pu_V (As := [.int p1]) (rest := []) ⟨hx, hb, hml, hown, hts⟩ (k_X0_isFunction l dC dI cA a S p1 _ rfl) gX0_contract_X0_isFunction rfl rfl rfl cd_X0_isFunction (Nat.le_of_ble_eq_true rfl) (Nat.le_of_ble_eq_true rfl) (preX hK hP) rfl hl.1 rfl (Nat.le_of_ble_eq_true rfl) (Nat.le_of_ble_eq_true rfl) (Nat.le_of_ble_eq_true rfl) dX0_contract_2 ?_
  refine xt_S (As := [.int (f_X0_isFunction S p1)]) (rest := []) ⟨hx, hb, hml, hown, hts⟩ (k_X0_needIndex l hfl (f_X0_isFunction S p1)) gX0_contract_X0_needIndex rfl rfl rfl cd_X0_needIndex (Nat.le_of_ble_eq_true rfl) (Nat.le_of_ble_eq_true rfl) (preE hEx) rfl hl.1 rfl (Nat.le_of_ble_eq_true rfl) (Nat.le_of_ble_eq_true rfl) (Nat.le_of_ble_eq_true rfl) dX0_contract_5 (fun c5 E ce q9 H1 hE hz hk hce hcv hcl => ?_) (fun c5 => ?_)
  · rw [if_neg c5] at hf
    have hf := Option.some.inj hf; subst hf
    exact xt_out htab hlocks c5 hE hz hk hce hcv hcl (Nat.le_of_ble_eq_true rfl) (Nat.le_of_ble_eq_true rfl)
  rw [if_pos c5] at hf
  refine lv_aload_n hx hb dX0_contract_8 rfl (lv_at hl 0 rfl) ?_
  refine lv_iload_n hx hb dX0_contract_9 rfl (lv_at hl 2 rfl) ?_
  refine pu_V (As := [.int p2]) (rest := []) ⟨hx, hb, hml, hown, hts⟩ (k_X0_isSet l dC dI cA a S p2 _ rfl) gX0_contract_X0_isSet rfl rfl rfl cd_X0_isSet (Nat.le_of_ble_eq_true rfl) (Nat.le_of_ble_eq_true rfl) (preX hK hP) rfl hl.1 rfl (Nat.le_of_ble_eq_true rfl) (Nat.le_of_ble_eq_true rfl) (Nat.le_of_ble_eq_true rfl) dX0_contract_10 ?_
  refine xt_S (As := [.int (f_X0_isSet S p2)]) (rest := []) ⟨hx, hb, hml, hown, hts⟩ (k_X0_needArgument l hfl (f_X0_isSet S p2)) gX0_contract_X0_needArgument rfl rfl rfl cd_X0_needArgument (Nat.le_of_ble_eq_true rfl) (Nat.le_of_ble_eq_true rfl) (preE hEx) rfl hl.1 rfl (Nat.le_of_ble_eq_true rfl) (Nat.le_of_ble_eq_true rfl) (Nat.le_of_ble_eq_true rfl) dX0_contract_13 (fun c6 E ce q9 H1 hE hz hk hce hcv hcl => ?_) (fun c6 => ?_)
  · rw [if_neg c6] at hf
    have hf := Option.some.inj hf; subst hf
    exact xt_out htab hlocks c6 hE hz hk hce hcv hcl (Nat.le_of_ble_eq_true rfl) (Nat.le_of_ble_eq_true rfl)
  rw [if_pos c6] at hf
  refine lv_aload_n hx hb dX0_contract_16 rfl (lv_at hl 0 rfl) ?_
  obtain ⟨e7, he7, hf⟩ := ob_some hf
  refine xt_V (As := []) (rest := []) ⟨hx, hb, hml, hown, hts⟩ (k_X0_needPlace l dC dI cA a S _ he7 hap hfl) gX0_contract_X0_needPlace rfl rfl rfl cd_X0_needPlace (Nat.le_of_ble_eq_true rfl) (Nat.le_of_ble_eq_true rfl) (preTs hK hP hEx) rfl hl.1 rfl (Nat.le_of_ble_eq_true rfl) (Nat.le_of_ble_eq_true rfl) (Nat.le_of_ble_eq_true rfl) dX0_contract_17 (fun c8 E ce q9 H1 hE hz hk hce hcv hcl => ?_) (fun c8 => ?_)
  · rw [if_neg c8] at hf
    have hf := Option.some.inj hf; subst hf
    exact xt_out htab hlocks c8 hE hz hk hce hcv hcl (Nat.le_of_ble_eq_true rfl) (Nat.le_of_ble_eq_true rfl)
  rw [if_pos c8] at hf
  refine lv_iconst (v := 0) hx hb dX0_contract_20 (by decide) ?_
  refine lv_istore_n (lv' := [(3, .int 0), (0, .ref (a 0)), (1, .int p1), (2, .int p2)]) hx hb dX0_contract_21 rfl hl (by decide) rfl (fun ls hl => ?_)
  exact hW22 70 S 0 _ _ ls hf hP hS (lv_sub hl [1, 2, 3, 0] rfl)
theorem cd_X0_cap : yX0_cap.cls = RX0 ∧ yX0_cap.cls ≠ "java/lang/invoke/MethodHandle" ∧ yX0_cap.cls ≠ "java/lang/invoke/VarHandle" ∧ (parseMethodDescriptor yX0_cap.desc).map (fun d => d.parameters.length) = some 2 := by decide +kernel
set_option maxHeartbeats 4000000 in
set_option maxRecDepth 100000 in
theorem k_X0_cap (l : Launch) (dC : Nat → ClassId) (dI : Nat → Nat → Nat) (cA : ClassId) (a : Nat → Nat) (S : St) (p1 : Int32) (p2 : Int32) (r : Nat × Int32 × St) (hf : f_X0_cap S p1 p2 = some r) (hap : apart a 10) (hfl : l.stackTraces = false) : vx_Met l yX0_cap wsX0_cap ({ frames := 8, cells := 3, slots := 18, locals := 130 }) (va_Pc [.ref (a 0), .int p1, .int p2] (PTs (dC, dI) cA a S)) (tQi (dC, dI) cA a r) (tX r.1) 3 18 (ad a 10) := by
  refine vx_ofW (cc := cX0_cap) (maxL := 4) (ret := (some .int)) (by decide) rfl ?_
  intro p e s m args below meth c s₁ B hml htab hv
  obtain ⟨rfl, hP, hK, hEx⟩ := hv
  have hx := B.exec
  have hb := B.bytes
  have hr := B.returns
  have hts := atoms_spec (ws := wsX0_cap) B.pre
  have hown : s.vm.findClass RX0 = some m.cls := findClass_of_methodNamed B.named
  have hlocks := B.notSynchronized
  have hw0 := hts (.methodLink RX0 128 Lib.Math.min.name) (by decide +kernel)
  have hw1 := hts (.static Lib.Math.min.name) (by decide +kernel)
  have hw2 := hts (.initialized "java/lang/Math") (by decide +kernel)
  have hw3 := hts (.code Lib.Math.min.name Lib.Math.min.code 2 (some .int)) (by decide +kernel)
  have hS : va_S (ad a 10) s.heap s.heap [] := va_S.rf
  have hl := lv_entry ([.ref (a 0), .int p1, .int p2]) (n := 4) (Nat.le_of_ble_eq_true rfl)
  rw [lg_entry_eq]
  generalize (lg_sl ([.ref (a 0), .int p1, .int p2]) ++ List.replicate (4 - (lg_sl ([.ref (a 0), .int p1, .int p2])).length) Slot.unset).toArray = ls at hl ⊢
  have hl : lv_has ls 4 [(0, .ref (a 0)), (1, .int p1), (2, .int p2)] := hl
  have hW24 : ∀ (k24 : Nat) (S : St) (x3 : Int32) (H : Heap) (locs : List Loc) (ls : Array Slot), f_X0_cap_24 p1 p2 k24 S x3 = some r → va_P (dC, dI) vwCl (wX cA a S) H → va_S (ad a 10) s.heap H locs → lv_has ls 4 [(0, .ref (a 0)), (1, .int p1), (2, .int p2), (3, .int x3)] → W p l e (headSpec wsX0_cap ({ frames := 8, cells := 3, slots := 18, locals := 130 })).room s m ([.ref (a 0), .int p1, .int p2] : List Value).toArray below meth c H locs 3 18 (vx_MQ below (tQi (dC, dI) cA a r) (tX r.1) ([.ref (a 0), .int p1, .int p2] : List Value).toArray s 3 18 (ad a 10)) (F0 m 24 ls []) := by
    intro k24
    induction k24 with
    | zero =>
      intro S x3 H locs ls hf hP hS hl
      rw [f_X0_cap_24] at hf
      cases hf
    | succ k24 ih24 =>
      intro S x3 H locs ls hf hP hS hl
      rw [f_X0_cap_24] at hf
      refine lv_iload_n hx hb dX0_cap_24 rfl (lv_at hl 3 rfl) ?_
      refine lv_aload_n hx hb dX0_cap_25 rfl (lv_at hl 0 rfl) ?_
      refine pu_V (As := []) (rest := [.int x3]) ⟨hx, hb, hml, hown, hts⟩ (k_X0_sets l dC dI cA a S  _ rfl) gX0_cap_X0_sets rfl rfl rfl cd_X0_sets (Nat.le_of_ble_eq_true rfl) (Nat.le_of_ble_eq_true rfl) (preX hK hP) rfl hl.1 rfl (Nat.le_of_ble_eq_true rfl) (Nat.le_of_ble_eq_true rfl) (Nat.le_of_ble_eq_true rfl) dX0_cap_26 ?_
      refine lv_icmp_ge (tgt := 53) hx hb dX0_cap_29 (by decide) (fun c1 => ?_) (fun c1 => ?_)
      · rw [if_pos c1] at hf
        refine lv_aload_n hx hb dX0_cap_53 rfl (lv_at hl 0 rfl) ?_
        obtain ⟨q2, hq2, hf⟩ := ob_some hf
        refine mu_Xi (As := []) (rest := []) ⟨hx, hb, hml, hown, hts⟩ (k_X0_countNew l dC dI cA a S  _ hq2 hap) gX0_cap_X0_countNew rfl rfl rfl cd_X0_countNew (Nat.le_of_ble_eq_true rfl) (Nat.le_of_ble_eq_true rfl) (preX hK hP) rfl hl.1 rfl (Nat.le_of_ble_eq_true rfl) (Nat.le_of_ble_eq_true rfl) (Nat.le_of_ble_eq_true rfl) dX0_cap_54 hS (fun H locs hP hS => ?_)
        have hf := Option.some.inj hf; subst hf
        refine vx_ret ?_
        refine W.widen (k := 3) (n := 18) (Nat.le_of_ble_eq_true rfl) (Nat.le_of_ble_eq_true rfl) ?_
        exact W.iret hx hb hr (fun t ht hW => ⟨⟨rfl, rfl, by rw [ht]; exact hP⟩, hS.F ht⟩) hS.2.2 dX0_cap_57
      · rw [if_neg c1] at hf
        refine lv_aload_n hx hb dX0_cap_32 rfl (lv_at hl 0 rfl) ?_
        refine lv_iload_n hx hb dX0_cap_33 rfl (lv_at hl 3 rfl) ?_
        refine lv_aload_n hx hb dX0_cap_34 rfl (lv_at hl 0 rfl) ?_
        refine lv_iload_n hx hb dX0_cap_35 rfl (lv_at hl 1 rfl) ?_
        refine lv_iload_n hx hb dX0_cap_36 rfl (lv_at hl 3 rfl) ?_
        refine pu_V (As := [.int p1, .int x3]) (rest := [.int x3, .ref (a 0)]) ⟨hx, hb, hml, hown, hts⟩ (k_X0_valueOf l dC dI cA a S p1 x3 _ rfl) gX0_cap_X0_valueOf rfl rfl rfl cd_X0_valueOf (Nat.le_of_ble_eq_true rfl) (Nat.le_of_ble_eq_true rfl) (preX hK hP) rfl hl.1 rfl (Nat.le_of_ble_eq_true rfl) (Nat.le_of_ble_eq_true rfl) (Nat.le_of_ble_eq_true rfl) dX0_cap_37 ?_
        refine lv_iload_n hx hb dX0_cap_40 rfl (lv_at hl 2 rfl) ?_
        refine va_mmin hx hb (hml.trans hl.1.symm) hown hw0 hw1 hw2 hw3 (Nat.le_of_ble_eq_true rfl) (Nat.le_of_ble_eq_true rfl) (Nat.le_of_ble_eq_true rfl) (Nat.le_of_ble_eq_true rfl) dX0_cap_41 ?_
        obtain ⟨q3, hq3, hf⟩ := ob_some hf
        refine mu_Xv (As := [.int x3, .int (if p2 < (f_X0_valueOf S p1 x3) then p2 else (f_X0_valueOf S p1 x3))]) (rest := []) ⟨hx, hb, hml, hown, hts⟩ (k_X0_putNew l dC dI cA a S x3 (if p2 < (f_X0_valueOf S p1 x3) then p2 else (f_X0_valueOf S p1 x3)) _ hq3 hap) gX0_cap_X0_putNew rfl rfl rfl cd_X0_putNew (Nat.le_of_ble_eq_true rfl) (Nat.le_of_ble_eq_true rfl) (preX hK hP) rfl hl.1 rfl (Nat.le_of_ble_eq_true rfl) (Nat.le_of_ble_eq_true rfl) (Nat.le_of_ble_eq_true rfl) dX0_cap_44 hS (fun H locs hP hS => ?_)
        obtain ⟨y4, ey4⟩ : ∃ y : Int32, y = (x3 + 1) := ⟨_, rfl⟩
        have hf := bnd_at hf ey4
        refine lv_iinc (v := y4) (lv' := [(3, .int y4), (0, .ref (a 0)), (1, .int p1), (2, .int p2)]) hx hb dX0_cap_47 hl (k := 3) rfl (by rw [ey4]; rfl) (by decide) rfl (fun ls hl => ?_)
        refine lv_goto (tgt := 24) hx hb dX0_cap_50 (by decide) ?_
        exact ih24 q3 y4 _ _ ls hf hP hS (lv_sub hl [1, 2, 3, 0] rfl)
  unfold f_X0_cap at hf
  refine lv_aload_n hx hb dX0_cap_0 rfl (lv_at hl 0 rfl) ?_
  refine lv_iload_n hx hb dX0_cap_1 rfl (lv_at hl 1 rfl) ?_
  refine pu_V (As := [.int p1]) (rest := []) ⟨hx, hb, hml, hown, hts⟩ (k_X0_isFunction l dC dI cA a S p1 _ rfl) gX0_cap_X0_isFunction rfl rfl rfl cd_X0_isFunction (Nat.le_of_ble_eq_true rfl) (Nat.le_of_ble_eq_true rfl) (preX hK hP) rfl hl.1 rfl (Nat.le_of_ble_eq_true rfl) (Nat.le_of_ble_eq_true rfl) (Nat.le_of_ble_eq_true rfl) dX0_cap_2 ?_
  refine xt_S (As := [.int (f_X0_isFunction S p1)]) (rest := []) ⟨hx, hb, hml, hown, hts⟩ (k_X0_needIndex l hfl (f_X0_isFunction S p1)) gX0_cap_X0_needIndex rfl rfl rfl cd_X0_needIndex (Nat.le_of_ble_eq_true rfl) (Nat.le_of_ble_eq_true rfl) (preE hEx) rfl hl.1 rfl (Nat.le_of_ble_eq_true rfl) (Nat.le_of_ble_eq_true rfl) (Nat.le_of_ble_eq_true rfl) dX0_cap_5 (fun c5 E ce q9 H1 hE hz hk hce hcv hcl => ?_) (fun c5 => ?_)
  · rw [if_neg c5] at hf
    have hf := Option.some.inj hf; subst hf
    exact xt_out htab hlocks c5 hE hz hk hce hcv hcl (Nat.le_of_ble_eq_true rfl) (Nat.le_of_ble_eq_true rfl)
  rw [if_pos c5] at hf
  refine lv_iload_n hx hb dX0_cap_8 rfl (lv_at hl 2 rfl) ?_
  refine lv_iconst (v := 0) hx hb dX0_cap_9 (by decide) ?_
  refine lv_bipush (v := 100) hx hb dX0_cap_10 (by decide) ?_
  refine pu_S (As := [.int p2, .int 0, .int 100]) (rest := []) ⟨hx, hb, hml, hown, hts⟩ (k_X0_isWithin l p2 0 100 _ rfl) gX0_cap_X0_isWithin rfl rfl rfl cd_X0_isWithin (Nat.le_of_ble_eq_true rfl) (Nat.le_of_ble_eq_true rfl) (preT) rfl hl.1 rfl (Nat.le_of_ble_eq_true rfl) (Nat.le_of_ble_eq_true rfl) (Nat.le_of_ble_eq_true rfl) dX0_cap_12 ?_
  refine xt_S (As := [.int (f_X0_isWithin p2 0 100)]) (rest := []) ⟨hx, hb, hml, hown, hts⟩ (k_X0_needArgument l hfl (f_X0_isWithin p2 0 100)) gX0_cap_X0_needArgument rfl rfl rfl cd_X0_needArgument (Nat.le_of_ble_eq_true rfl) (Nat.le_of_ble_eq_true rfl) (preE hEx) rfl hl.1 rfl (Nat.le_of_ble_eq_true rfl) (Nat.le_of_ble_eq_true rfl) (Nat.le_of_ble_eq_true rfl) dX0_cap_15 (fun c6 E ce q9 H1 hE hz hk hce hcv hcl => ?_) (fun c6 => ?_)
  · rw [if_neg c6] at hf
    have hf := Option.some.inj hf; subst hf
    exact xt_out htab hlocks c6 hE hz hk hce hcv hcl (Nat.le_of_ble_eq_true rfl) (Nat.le_of_ble_eq_true rfl)
  rw [if_pos c6] at hf
  refine lv_aload_n hx hb dX0_cap_18 rfl (lv_at hl 0 rfl) ?_
  obtain ⟨e7, he7, hf⟩ := ob_some hf
  refine xt_V (As := []) (rest := []) ⟨hx, hb, hml, hown, hts⟩ (k_X0_needPlace l dC dI cA a S _ he7 hap hfl) gX0_cap_X0_needPlace rfl rfl rfl cd_X0_needPlace (Nat.le_of_ble_eq_true rfl) (Nat.le_of_ble_eq_true rfl) (preTs hK hP hEx) rfl hl.1 rfl (Nat.le_of_ble_eq_true rfl) (Nat.le_of_ble_eq_true rfl) (Nat.le_of_ble_eq_true rfl) dX0_cap_19 (fun c8 E ce q9 H1 hE hz hk hce hcv hcl => ?_) (fun c8 => ?_)
  · rw [if_neg c8] at hf
    have hf := Option.some.inj hf; subst hf
    exact xt_out htab hlocks c8 hE hz hk hce hcv hcl (Nat.le_of_ble_eq_true rfl) (Nat.le_of_ble_eq_true rfl)
  rw [if_pos c8] at hf
  refine lv_iconst (v := 0) hx hb dX0_cap_22 (by decide) ?_
  refine lv_istore_n (lv' := [(3, .int 0), (0, .ref (a 0)), (1, .int p1), (2, .int p2)]) hx hb dX0_cap_23 rfl hl (by decide) rfl (fun ls hl => ?_)
  exact hW24 70 S 0 _ _ ls hf hP hS (lv_sub hl [1, 2, 3, 0] rfl)
theorem cd_X0_value : yX0_value.cls = RX0 ∧ yX0_value.cls ≠ "java/lang/invoke/MethodHandle" ∧ yX0_value.cls ≠ "java/lang/invoke/VarHandle" ∧ (parseMethodDescriptor yX0_value.desc).map (fun d => d.parameters.length) = some 2 := by decide +kernel
set_option maxHeartbeats 4000000 in
set_option maxRecDepth 100000 in
theorem k_X0_value (l : Launch) (dC : Nat → ClassId) (dI : Nat → Nat → Nat) (cA : ClassId) (a : Nat → Nat) (S : St) (p1 : Int32) (p2 : Int32) (r : Nat × Int32 × St) (hf : f_X0_value S p1 p2 = some r) (hap : apart a 10) (hfl : l.stackTraces = false) : vx_Met l yX0_value wsX0_value ({ frames := 7, cells := 2, slots := 12, locals := 110 }) (va_Pc [.ref (a 0), .int p1, .int p2] (PTs (dC, dI) cA a S)) (tQi (dC, dI) cA a r) (tX r.1) 2 12 (ad a 10) := by
  refine vx_ofW (cc := cX0_value) (maxL := 3) (ret := (some .int)) (by decide) rfl ?_
  intro p e s m args below meth c s₁ B hml htab hv
  obtain ⟨rfl, hP, hK, hEx⟩ := hv
  have hx := B.exec
  have hb := B.bytes
  have hr := B.returns
  have hts := atoms_spec (ws := wsX0_value) B.pre
  have hown : s.vm.findClass RX0 = some m.cls := findClass_of_methodNamed B.named
  have hlocks := B.notSynchronized
  have hS : va_S (ad a 10) s.heap s.heap [] := va_S.rf
  have hl := lv_entry ([.ref (a 0), .int p1, .int p2]) (n := 3) (Nat.le_of_ble_eq_true rfl)
  rw [lg_entry_eq]
  generalize (lg_sl ([.ref (a 0), .int p1, .int p2]) ++ List.replicate (3 - (lg_sl ([.ref (a 0), .int p1, .int p2])).length) Slot.unset).toArray = ls at hl ⊢
  have hl : lv_has ls 3 [(0, .ref (a 0)), (1, .int p1), (2, .int p2)] := hl
  unfold f_X0_value at hf
  refine lv_aload_n hx hb dX0_value_0 rfl (lv_at hl 0 rfl) ?_
  refine lv_iload_n hx hb dX0_value_1 rfl (lv_at hl 1 rfl) ?_
  refine pu_V (As := [.int p1]) (rest := []) ⟨hx, hb, hml, hown, hts⟩ (k_X0_isFunction l dC dI cA a S p1 _ rfl) gX0_value_X0_isFunction rfl rfl rfl cd_X0_isFunction (Nat.le_of_ble_eq_true rfl) (Nat.le_of_ble_eq_true rfl) (preX hK hP) rfl hl.1 rfl (Nat.le_of_ble_eq_true rfl) (Nat.le_of_ble_eq_true rfl) (Nat.le_of_ble_eq_true rfl) dX0_value_2 ?_
  refine xt_S (As := [.int (f_X0_isFunction S p1)]) (rest := []) ⟨hx, hb, hml, hown, hts⟩ (k_X0_needIndex l hfl (f_X0_isFunction S p1)) gX0_value_X0_needIndex rfl rfl rfl cd_X0_needIndex (Nat.le_of_ble_eq_true rfl) (Nat.le_of_ble_eq_true rfl) (preE hEx) rfl hl.1 rfl (Nat.le_of_ble_eq_true rfl) (Nat.le_of_ble_eq_true rfl) (Nat.le_of_ble_eq_true rfl) dX0_value_5 (fun c1 E ce q9 H1 hE hz hk hce hcv hcl => ?_) (fun c1 => ?_)
  · rw [if_neg c1] at hf
    have hf := Option.some.inj hf; subst hf
    exact xt_out htab hlocks c1 hE hz hk hce hcv hcl (Nat.le_of_ble_eq_true rfl) (Nat.le_of_ble_eq_true rfl)
  rw [if_pos c1] at hf
  refine lv_aload_n hx hb dX0_value_8 rfl (lv_at hl 0 rfl) ?_
  refine lv_iload_n hx hb dX0_value_9 rfl (lv_at hl 2 rfl) ?_
  refine pu_V (As := [.int p2]) (rest := []) ⟨hx, hb, hml, hown, hts⟩ (k_X0_isSet l dC dI cA a S p2 _ rfl) gX0_value_X0_isSet rfl rfl rfl cd_X0_isSet (Nat.le_of_ble_eq_true rfl) (Nat.le_of_ble_eq_true rfl) (preX hK hP) rfl hl.1 rfl (Nat.le_of_ble_eq_true rfl) (Nat.le_of_ble_eq_true rfl) (Nat.le_of_ble_eq_true rfl) dX0_value_10 ?_
  refine xt_S (As := [.int (f_X0_isSet S p2)]) (rest := []) ⟨hx, hb, hml, hown, hts⟩ (k_X0_needArgument l hfl (f_X0_isSet S p2)) gX0_value_X0_needArgument rfl rfl rfl cd_X0_needArgument (Nat.le_of_ble_eq_true rfl) (Nat.le_of_ble_eq_true rfl) (preE hEx) rfl hl.1 rfl (Nat.le_of_ble_eq_true rfl) (Nat.le_of_ble_eq_true rfl) (Nat.le_of_ble_eq_true rfl) dX0_value_13 (fun c2 E ce q9 H1 hE hz hk hce hcv hcl => ?_) (fun c2 => ?_)
  · rw [if_neg c2] at hf
    have hf := Option.some.inj hf; subst hf
    exact xt_out htab hlocks c2 hE hz hk hce hcv hcl (Nat.le_of_ble_eq_true rfl) (Nat.le_of_ble_eq_true rfl)
  rw [if_pos c2] at hf
  refine lv_aload_n hx hb dX0_value_16 rfl (lv_at hl 0 rfl) ?_
  refine lv_iload_n hx hb dX0_value_17 rfl (lv_at hl 1 rfl) ?_
  refine lv_iload_n hx hb dX0_value_18 rfl (lv_at hl 2 rfl) ?_
  refine pu_V (As := [.int p1, .int p2]) (rest := []) ⟨hx, hb, hml, hown, hts⟩ (k_X0_valueOf l dC dI cA a S p1 p2 _ rfl) gX0_value_X0_valueOf rfl rfl rfl cd_X0_valueOf (Nat.le_of_ble_eq_true rfl) (Nat.le_of_ble_eq_true rfl) (preX hK hP) rfl hl.1 rfl (Nat.le_of_ble_eq_true rfl) (Nat.le_of_ble_eq_true rfl) (Nat.le_of_ble_eq_true rfl) dX0_value_19 ?_
  have hf := Option.some.inj hf; subst hf
  refine vx_ret ?_
  refine W.widen (k := 2) (n := 12) (Nat.le_of_ble_eq_true rfl) (Nat.le_of_ble_eq_true rfl) ?_
  exact W.iret hx hb hr (fun t ht hW => ⟨⟨rfl, rfl, by rw [ht]; exact hP⟩, hS.F ht⟩) hS.2.2 dX0_value_22

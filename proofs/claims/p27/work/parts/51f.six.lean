def f_L_six_489 (S : St) : Option Int32 := ((f_L_refuses S 6 8).bind fun q1 => some 1)
def f_L_six_387 (S : St) : Option Int32 := (xv (f_X0_contract S 6 1) fun v1 S2 => (if v1 = 7 then (xv (f_X0_value S2 7 62) fun v4 S5 => (if v4 = (-3200) then ((f_L_least S5 7 (-3200) 62 63).bind fun q7 => ((f_X0_common q7).bind fun q9 => (if q9.1 = 1 then (xv (f_X0_room q9.2 0 0 6) fun v11 S12 => (if v11 = 1 then (xv (f_X0_room S12 1 0 4) fun v14 S15 => (if v14 = 1 then ((f_X0_common S15).bind fun q17 => (if q17.1 = 4 then (xv (f_X0_room q17.2 0 0 0) fun v19 S20 => (if v19 = 6 then ((f_X0_common S20).bind fun q22 => (if q22.1 = 0 then (f_L_six_489 q22.2) else none)) else none)) else none)) else none)) else none)) else none))) else none)) else none))
def f_L_six_288 (S : St) : Option Int32 := (xv (f_X0_value S 1 63) fun v1 S2 => (if v1 = 7 then ((f_L_share S2 1 5 840).bind fun q4 => ((f_L_share q4 0 3 0).bind fun q6 => (xv (f_X0_sum q6 0 0) fun v8 S9 => (if v8 = 2 then (xv (f_X0_sum S9 2 2) fun v11 S12 => (if v11 = 3 then (xv (f_X0_sum S12 3 3) fun v14 S15 => (if v14 = 4 then (xv (f_X0_sum S15 4 4) fun v17 S18 => (if v17 = 5 then (xv (f_X0_sum S18 5 5) fun v20 S21 => (if v20 = 6 then (xv (f_X0_value S21 6 7) fun v23 S24 => (if v23 = 5760 then (f_L_six_387 S24) else none)) else none)) else none)) else none)) else none)) else none)))) else none))
def f_L_six_170 (K129 : St → Int32 → Option Int32) : Nat → St → Int32 → Int32 → Option Int32
  | 0, _, _, _ => none
  | k + 1, S, x1, x2 => (if x1 ≤ x2 then (bnd (x1 + 1) fun y2 => (K129 S y2)) else (xv (f_X0_edge S x1 x2 20) fun v3 S4 => (if v3 = 0 then (bnd (x2 + 1) fun y6 => ((f_L_six_170 K129 k) S4 x1 y6)) else none)))
def f_L_six_129 : Nat → St → Int32 → Option Int32
  | 0, _, _ => none
  | k + 1, S, x1 => (if 6 ≤ x1 then (xv (f_X0_make S 1) fun v2 S3 => (if v2 = 0 then (xv (f_X0_value S3 0 7) fun v5 S6 => (if v5 = 180 then (xv (f_X0_value S6 0 1) fun v8 S9 => (if v8 = 100 then (xv (f_X0_best S9 0 6) fun v11 S12 => (if v11 = 180 then (xv (f_X0_greedy S12 0 6) fun v14 S15 => (if v14 = 7 then (xv (f_X0_greedy S15 0 2) fun v17 S18 => (if v17 = 3 then ((f_L_least S18 0 0 0 63).bind fun q20 => (xv (f_X0_make q20 0) fun v22 S23 => (if v22 = 1 then (f_L_six_288 S23) else none))) else none)) else none)) else none)) else none)) else none)) else none)) else (xv (f_X0_weigh S x1 20) fun v25 S26 => (if v25 = 0 then (xv (f_X0_cover S26 x1 x1 1) fun v28 S29 => (if v28 = 0 then (xv (f_X0_cover S29 x1 9 1) fun v31 S32 => (if v31 = 0 then (f_L_six_170 (f_L_six_129 k) 6 S32 x1 0) else none)) else none)) else none)))
def f_L_six_96 (S : St) : Option Int32 := (xv (f_X0_order S 0) fun v1 S2 => (if v1 = 1 then (xv (f_X0_elements S2 6) fun v4 S5 => (if v4 = 1 then ((f_L_refuses S5 6 0).bind fun q7 => (f_L_six_129 7 q7 0)) else none)) else none))
def f_L_six : Option Int32 := (xv (f_X0_elements S0X 1) fun v1 S2 => (if v1 = 4 then (xv (f_X0_weigh S2 0 (-20)) fun v4 S5 => (if v4 = 0 then (xv (f_X0_make S5 4) fun v7 S8 => (if v7 = 0 then (xv (f_X0_isLawful S8 0) fun v10 S11 => (if v10 = 0 then none else ((f_L_least S11 0 (-20) 1 1).bind fun q13 => ((f_L_share q13 0 0 (-20)).bind fun q15 => (xv (f_X0_greedy q15 0 6) fun v17 S18 => (if v17 = 0 then (xv (f_X0_order S18 0) fun v20 S21 => (if v20 = 1 then (xv (f_X0_corner S21 0 0) fun v23 S24 => (if v23 = (-20) then (f_L_six_96 S24) else none)) else none)) else none)))))) else none)) else none)) else none))
theorem cd_L_six : yL_six.cls ≠ "java/lang/invoke/MethodHandle" ∧ yL_six.cls ≠ "java/lang/invoke/VarHandle" ∧ (parseMethodDescriptor yL_six.desc).map (fun d => d.parameters.length) = some 0 := by decide +kernel
set_option maxHeartbeats 16000000 in
set_option maxRecDepth 100000 in
theorem k_L_six (l : Launch) (hfl : l.stackTraces = false) (dC : Nat → ClassId) (dI : Nat → Nat → Nat) (cA : ClassId) (r : Int32) (hf : f_L_six = some r) : Met l yL_six wsL_six ({ frames := 15, cells := 1478, slots := 9422, locals := 421 }) (va_Pc [] (PGs (dC, dI) cA)) gQ 1478 9422 (fun _ => False) := by
  refine Met.ofW (cc := cL_six) (maxL := 3) (ret := (some .boolean)) (by decide) rfl ?_
  intro p e s m args below meth c s₁ B hml hv
  obtain ⟨rfl, hK, hE, hN⟩ := hv
  have hx := B.exec
  have hb := B.bytes
  have hr := B.returns
  have hts := atoms_spec (ws := wsL_six) B.pre
  have hown : s.vm.findClass RL = some m.cls := findClass_of_methodNamed B.named
  have hlocks := B.notSynchronized
  have hS : va_S (fun q => s.heap.size ≤ q) s.heap s.heap [] := va_S.rf
  have hinl : ∀ w ∈ u_ws RX0 TX0 12, w ∈ wsL_six := fun _ h => List.mem_cons_of_mem _ (List.mem_append_left _ (List.mem_append_left _ (List.mem_append_left _ (List.mem_append_right _ h))))
  have hl := lv_entry ([]) (n := 3) (Nat.le_of_ble_eq_true rfl)
  rw [lg_entry_eq]
  generalize (lg_sl ([]) ++ List.replicate (3 - (lg_sl ([])).length) Slot.unset).toArray = ls at hl ⊢
  have hl : lv_has ls 3 [] := hl
  have hw0 := hts (.classLink RL 8 RX0) (by decide +kernel)
  have hw1 := hts (.instantiable RX0 12) (by decide +kernel)
  have hw2 := hts (.initialized RX0) (by decide +kernel)
  have hw3 := hts (.methodLink RL 104 yX0_init) (by decide +kernel)
  have hw4 := hts (.instanceMethod yX0_init) (by decide +kernel)
  unfold f_L_six at hf
  refine lc_new (cc := cL_six) ⟨hx, hb, hml, hown, hts⟩ hinl hw0 hw1 hw2 gL_six_X0_init hw3 hw4 (Nat.le_of_ble_eq_true rfl) (Nat.le_of_ble_eq_true rfl) hl.1 (Nat.le_of_ble_eq_true rfl) (by show 0 + 10 ≤ 1478; omega) (by show 0 + 614 ≤ 9422; omega) dL_six_0 dL_six_3 dL_six_4 hK hS (fun a H locs hap hA hP hS => ?_)
  have hW489 : ∀ (C Z : Nat) (S : St) (H : Heap) (locs : List Loc) (ls : Array Slot), C + (633) ≤ 1478 → Z + (3798) ≤ 9422 → f_L_six_489 S = some r → va_P (dC, dI) vwCl (wX cA a S) H → va_S (fun q => s.heap.size ≤ q) s.heap H locs → lv_has ls 3 [(0, .ref (a 0))] → W p l e (headSpec wsL_six ({ frames := 15, cells := 1478, slots := 9422, locals := 421 })).room s m ([] : List Value).toArray below meth c H locs C Z (MQ below (gQ) ([] : List Value).toArray s 1478 9422 ((fun _ => False))) (F0 m 489 ls []) := by
    intro C Z S H locs ls hC hZ hf hP hS hl
    unfold f_L_six_489 at hf
    refine lv_aload_n hx hb dL_six_489 rfl (lv_at hl 0 rfl) ?_
    refine lv_bipush (v := 6) hx hb dL_six_490 (by decide) ?_
    refine lv_bipush (v := 8) hx hb dL_six_492 (by decide) ?_
    obtain ⟨q1, hq1, hf⟩ := ob_some hf
    refine lc_M (As := [.ref (a 0), .int 6, .int 8]) (rest := []) ⟨hx, hb, hml, hown, hts⟩ (k_L_refuses l hfl dC dI cA a S 6 8 _ hq1 hap) gL_six_L_refuses rfl rfl rfl cd_L_refuses (Nat.le_of_ble_eq_true rfl) (Nat.le_of_ble_eq_true rfl) (preLsH hK hP hE hN hS hA) rfl hl.1 rfl (Nat.le_of_ble_eq_true rfl) (by show C + 633 ≤ 1478; omega) (by show Z + 3798 ≤ 9422; omega) dL_six_494 hS hA (fun H locs hP hS => ?_)
    refine lv_if_eq (tgt := 504) hx hb dL_six_497 (by decide) (fun c2 => ?_) (fun c2 => ?_)
    · exact absurd c2 (by decide)
    refine lv_iconst (v := 1) hx hb dL_six_500 (by decide) ?_
    refine lv_goto (tgt := 505) hx hb dL_six_501 (by decide) ?_
    refine va_forget (fun q hq => hS.2.2 q hq) ?_
    refine W.widen (k := 1478) (n := 9422) (by omega) (by omega) ?_
    exact W.zret hx hb hr rfl (fun t ht hW => ⟨⟨rfl, trivial⟩, by rw [ht]; exact hS.1, fun q h1 _ => by rw [ht]; exact hS.2.1 q h1 (Nat.not_le.mpr h1)⟩) (fun q h => by cases h) dL_six_505
  have hW387 : ∀ (C Z : Nat) (S : St) (H : Heap) (locs : List Loc) (ls : Array Slot), C + (654) ≤ 1478 → Z + (3924) ≤ 9422 → f_L_six_387 S = some r → va_P (dC, dI) vwCl (wX cA a S) H → va_S (fun q => s.heap.size ≤ q) s.heap H locs → lv_has ls 3 [(0, .ref (a 0))] → W p l e (headSpec wsL_six ({ frames := 15, cells := 1478, slots := 9422, locals := 421 })).room s m ([] : List Value).toArray below meth c H locs C Z (MQ below (gQ) ([] : List Value).toArray s 1478 9422 ((fun _ => False))) (F0 m 387 ls []) := by
    intro C Z S H locs ls hC hZ hf hP hS hl
    unfold f_L_six_387 at hf
    refine lv_aload_n hx hb dL_six_387 rfl (lv_at hl 0 rfl) ?_
    refine lv_bipush (v := 6) hx hb dL_six_388 (by decide) ?_
    refine lv_iconst (v := 1) hx hb dL_six_390 (by decide) ?_
    obtain ⟨v1, S2, hv1, hf⟩ := xv_some hf
    refine lc_P (As := [.int 6, .int 1]) (rest := []) ⟨hx, hb, hml, hown, hts⟩ (k_X0_contract l dC dI cA a S 6 1 _ hv1 hap hfl) gL_six_X0_contract rfl rfl rfl cd_X0_contract (Nat.le_of_ble_eq_true rfl) (Nat.le_of_ble_eq_true rfl) (preTsH hK hP hE hS hA) rfl hl.1 rfl (Nat.le_of_ble_eq_true rfl) (by show C + 3 ≤ 1478; omega) (by show Z + 18 ≤ 9422; omega) dL_six_391 hS hA (fun H locs hP hS => ?_)
    refine lv_bipush (v := 7) hx hb dL_six_394 (by decide) ?_
    refine lv_icmp_ne (tgt := 429) hx hb dL_six_396 (by decide) (fun c3 => ?_) (fun c3 => ?_)
    · rw [if_neg c3] at hf; cases hf
    rw [if_pos c3] at hf
    refine lv_aload_n hx hb dL_six_399 rfl (lv_at hl 0 rfl) ?_
    refine lv_bipush (v := 7) hx hb dL_six_400 (by decide) ?_
    refine lv_bipush (v := 62) hx hb dL_six_402 (by decide) ?_
    obtain ⟨v4, S5, hv4, hf⟩ := xv_some hf
    refine lc_P (As := [.int 7, .int 62]) (rest := []) ⟨hx, hb, hml, hown, hts⟩ (k_X0_value l dC dI cA a S2 7 62 _ hv4 hap hfl) gL_six_X0_value rfl rfl rfl cd_X0_value (Nat.le_of_ble_eq_true rfl) (Nat.le_of_ble_eq_true rfl) (preTsH hK hP hE hS hA) rfl hl.1 rfl (Nat.le_of_ble_eq_true rfl) (by show (C + 3) + 2 ≤ 1478; omega) (by show (Z + 18) + 12 ≤ 9422; omega) dL_six_404 hS hA (fun H locs hP hS => ?_)
    refine lv_sipush (v := (-3200)) hx hb dL_six_407 (by decide) ?_
    refine lv_icmp_ne (tgt := 429) hx hb dL_six_410 (by decide) (fun c6 => ?_) (fun c6 => ?_)
    · rw [if_neg c6] at hf; cases hf
    rw [if_pos c6] at hf
    refine lv_aload_n hx hb dL_six_413 rfl (lv_at hl 0 rfl) ?_
    refine lv_bipush (v := 7) hx hb dL_six_414 (by decide) ?_
    refine lv_sipush (v := (-3200)) hx hb dL_six_416 (by decide) ?_
    refine lv_bipush (v := 62) hx hb dL_six_419 (by decide) ?_
    refine lv_bipush (v := 63) hx hb dL_six_421 (by decide) ?_
    obtain ⟨q7, hq7, hf⟩ := ob_some hf
    refine lc_M (As := [.ref (a 0), .int 7, .int (-3200), .int 62, .int 63]) (rest := []) ⟨hx, hb, hml, hown, hts⟩ (k_L_least l hfl dC dI cA a S5 7 (-3200) 62 63 _ hq7 hap) gL_six_L_least rfl rfl rfl cd_L_least (Nat.le_of_ble_eq_true rfl) (Nat.le_of_ble_eq_true rfl) (preLsH hK hP hE hN hS hA) rfl hl.1 rfl (Nat.le_of_ble_eq_true rfl) (by show (C + 5) + 10 ≤ 1478; omega) (by show (Z + 30) + 60 ≤ 9422; omega) dL_six_423 hS hA (fun H locs hP hS => ?_)
    refine lv_if_ne (tgt := 431) hx hb dL_six_426 (by decide) (fun c8 => ?_) (fun c8 => ?_)
    · skip
      refine lv_aload_n hx hb dL_six_431 rfl (lv_at hl 0 rfl) ?_
      obtain ⟨q9, hq9, hf⟩ := ob_some hf
      refine lc_V (mc := 0) (ms := 0) (As := []) (rest := []) ⟨hx, hb, hml, hown, hts⟩ (k_X0_common l dC dI cA a q7 _ hq9 hap) gL_six_X0_common rfl rfl rfl cd_X0_common (Nat.le_of_ble_eq_true rfl) (Nat.le_of_ble_eq_true rfl) (preX hK hP) rfl hl.1 rfl (Nat.le_of_ble_eq_true rfl) (by show (C + 15) + 0 ≤ 1478; omega) (by show (Z + 90) + 0 ≤ 9422; omega) dL_six_432 hS hA (fun H locs hP hS => ?_)
      refine lv_iconst (v := 1) hx hb dL_six_435 (by decide) ?_
      refine lv_icmp_ne (tgt := 504) hx hb dL_six_436 (by decide) (fun c10 => ?_) (fun c10 => ?_)
      · rw [if_neg c10] at hf; cases hf
      rw [if_pos c10] at hf
      refine lv_aload_n hx hb dL_six_439 rfl (lv_at hl 0 rfl) ?_
      refine lv_iconst (v := 0) hx hb dL_six_440 (by decide) ?_
      refine lv_iconst (v := 0) hx hb dL_six_441 (by decide) ?_
      refine lv_bipush (v := 6) hx hb dL_six_442 (by decide) ?_
      obtain ⟨v11, S12, hv11, hf⟩ := xv_some hf
      refine lc_P (As := [.int 0, .int 0, .int 6]) (rest := []) ⟨hx, hb, hml, hown, hts⟩ (k_X0_room l dC dI cA a q9.2 0 0 6 _ hv11 hap hfl) gL_six_X0_room rfl rfl rfl cd_X0_room (Nat.le_of_ble_eq_true rfl) (Nat.le_of_ble_eq_true rfl) (preTsH hK hP hE hS hA) rfl hl.1 rfl (Nat.le_of_ble_eq_true rfl) (by show (C + 15) + 2 ≤ 1478; omega) (by show (Z + 90) + 12 ≤ 9422; omega) dL_six_444 hS hA (fun H locs hP hS => ?_)
      refine lv_iconst (v := 1) hx hb dL_six_447 (by decide) ?_
      refine lv_icmp_ne (tgt := 504) hx hb dL_six_448 (by decide) (fun c13 => ?_) (fun c13 => ?_)
      · rw [if_neg c13] at hf; cases hf
      rw [if_pos c13] at hf
      refine lv_aload_n hx hb dL_six_451 rfl (lv_at hl 0 rfl) ?_
      refine lv_iconst (v := 1) hx hb dL_six_452 (by decide) ?_
      refine lv_iconst (v := 0) hx hb dL_six_453 (by decide) ?_
      refine lv_iconst (v := 4) hx hb dL_six_454 (by decide) ?_
      obtain ⟨v14, S15, hv14, hf⟩ := xv_some hf
      refine lc_P (As := [.int 1, .int 0, .int 4]) (rest := []) ⟨hx, hb, hml, hown, hts⟩ (k_X0_room l dC dI cA a S12 1 0 4 _ hv14 hap hfl) gL_six_X0_room rfl rfl rfl cd_X0_room (Nat.le_of_ble_eq_true rfl) (Nat.le_of_ble_eq_true rfl) (preTsH hK hP hE hS hA) rfl hl.1 rfl (Nat.le_of_ble_eq_true rfl) (by show (C + 17) + 2 ≤ 1478; omega) (by show (Z + 102) + 12 ≤ 9422; omega) dL_six_455 hS hA (fun H locs hP hS => ?_)
      refine lv_iconst (v := 1) hx hb dL_six_458 (by decide) ?_
      refine lv_icmp_ne (tgt := 504) hx hb dL_six_459 (by decide) (fun c16 => ?_) (fun c16 => ?_)
      · rw [if_neg c16] at hf; cases hf
      rw [if_pos c16] at hf
      refine lv_aload_n hx hb dL_six_462 rfl (lv_at hl 0 rfl) ?_
      obtain ⟨q17, hq17, hf⟩ := ob_some hf
      refine lc_V (mc := 0) (ms := 0) (As := []) (rest := []) ⟨hx, hb, hml, hown, hts⟩ (k_X0_common l dC dI cA a S15 _ hq17 hap) gL_six_X0_common rfl rfl rfl cd_X0_common (Nat.le_of_ble_eq_true rfl) (Nat.le_of_ble_eq_true rfl) (preX hK hP) rfl hl.1 rfl (Nat.le_of_ble_eq_true rfl) (by show (C + 19) + 0 ≤ 1478; omega) (by show (Z + 114) + 0 ≤ 9422; omega) dL_six_463 hS hA (fun H locs hP hS => ?_)
      refine lv_iconst (v := 4) hx hb dL_six_466 (by decide) ?_
      refine lv_icmp_ne (tgt := 504) hx hb dL_six_467 (by decide) (fun c18 => ?_) (fun c18 => ?_)
      · rw [if_neg c18] at hf; cases hf
      rw [if_pos c18] at hf
      refine lv_aload_n hx hb dL_six_470 rfl (lv_at hl 0 rfl) ?_
      refine lv_iconst (v := 0) hx hb dL_six_471 (by decide) ?_
      refine lv_iconst (v := 0) hx hb dL_six_472 (by decide) ?_
      refine lv_iconst (v := 0) hx hb dL_six_473 (by decide) ?_
      obtain ⟨v19, S20, hv19, hf⟩ := xv_some hf
      refine lc_P (As := [.int 0, .int 0, .int 0]) (rest := []) ⟨hx, hb, hml, hown, hts⟩ (k_X0_room l dC dI cA a q17.2 0 0 0 _ hv19 hap hfl) gL_six_X0_room rfl rfl rfl cd_X0_room (Nat.le_of_ble_eq_true rfl) (Nat.le_of_ble_eq_true rfl) (preTsH hK hP hE hS hA) rfl hl.1 rfl (Nat.le_of_ble_eq_true rfl) (by show (C + 19) + 2 ≤ 1478; omega) (by show (Z + 114) + 12 ≤ 9422; omega) dL_six_474 hS hA (fun H locs hP hS => ?_)
      refine lv_bipush (v := 6) hx hb dL_six_477 (by decide) ?_
      refine lv_icmp_ne (tgt := 504) hx hb dL_six_479 (by decide) (fun c21 => ?_) (fun c21 => ?_)
      · rw [if_neg c21] at hf; cases hf
      rw [if_pos c21] at hf
      refine lv_aload_n hx hb dL_six_482 rfl (lv_at hl 0 rfl) ?_
      obtain ⟨q22, hq22, hf⟩ := ob_some hf
      refine lc_V (mc := 0) (ms := 0) (As := []) (rest := []) ⟨hx, hb, hml, hown, hts⟩ (k_X0_common l dC dI cA a S20 _ hq22 hap) gL_six_X0_common rfl rfl rfl cd_X0_common (Nat.le_of_ble_eq_true rfl) (Nat.le_of_ble_eq_true rfl) (preX hK hP) rfl hl.1 rfl (Nat.le_of_ble_eq_true rfl) (by show (C + 21) + 0 ≤ 1478; omega) (by show (Z + 126) + 0 ≤ 9422; omega) dL_six_483 hS hA (fun H locs hP hS => ?_)
      refine lv_if_ne (tgt := 504) hx hb dL_six_486 (by decide) (fun c23 => ?_) (fun c23 => ?_)
      · rw [if_neg c23] at hf; cases hf
      rw [if_pos c23] at hf
      exact hW489 (C + 21) (Z + 126) q22.2 _ _ ls (by omega) (by omega) hf hP hS (lv_sub hl [0] rfl)
    · exact absurd c8 (by decide)
  have hW288 : ∀ (C Z : Nat) (S : St) (H : Heap) (locs : List Loc) (ls : Array Slot), C + (672) ≤ 1478 → Z + (4032) ≤ 9422 → f_L_six_288 S = some r → va_P (dC, dI) vwCl (wX cA a S) H → va_S (fun q => s.heap.size ≤ q) s.heap H locs → lv_has ls 3 [(0, .ref (a 0))] → W p l e (headSpec wsL_six ({ frames := 15, cells := 1478, slots := 9422, locals := 421 })).room s m ([] : List Value).toArray below meth c H locs C Z (MQ below (gQ) ([] : List Value).toArray s 1478 9422 ((fun _ => False))) (F0 m 288 ls []) := by
    intro C Z S H locs ls hC hZ hf hP hS hl
    unfold f_L_six_288 at hf
    refine lv_aload_n hx hb dL_six_288 rfl (lv_at hl 0 rfl) ?_
    refine lv_iconst (v := 1) hx hb dL_six_289 (by decide) ?_
    refine lv_bipush (v := 63) hx hb dL_six_290 (by decide) ?_
    obtain ⟨v1, S2, hv1, hf⟩ := xv_some hf
    refine lc_P (As := [.int 1, .int 63]) (rest := []) ⟨hx, hb, hml, hown, hts⟩ (k_X0_value l dC dI cA a S 1 63 _ hv1 hap hfl) gL_six_X0_value rfl rfl rfl cd_X0_value (Nat.le_of_ble_eq_true rfl) (Nat.le_of_ble_eq_true rfl) (preTsH hK hP hE hS hA) rfl hl.1 rfl (Nat.le_of_ble_eq_true rfl) (by show C + 2 ≤ 1478; omega) (by show Z + 12 ≤ 9422; omega) dL_six_292 hS hA (fun H locs hP hS => ?_)
    refine lv_bipush (v := 7) hx hb dL_six_295 (by decide) ?_
    refine lv_icmp_ne (tgt := 429) hx hb dL_six_297 (by decide) (fun c3 => ?_) (fun c3 => ?_)
    · rw [if_neg c3] at hf; cases hf
    rw [if_pos c3] at hf
    refine lv_aload_n hx hb dL_six_300 rfl (lv_at hl 0 rfl) ?_
    refine lv_iconst (v := 1) hx hb dL_six_301 (by decide) ?_
    refine lv_iconst (v := 5) hx hb dL_six_302 (by decide) ?_
    refine lv_sipush (v := 840) hx hb dL_six_303 (by decide) ?_
    obtain ⟨q4, hq4, hf⟩ := ob_some hf
    refine lc_M (As := [.ref (a 0), .int 1, .int 5, .int 840]) (rest := []) ⟨hx, hb, hml, hown, hts⟩ (k_L_share l hfl dC dI cA a S2 1 5 840 _ hq4 hap) gL_six_L_share rfl rfl rfl cd_L_share (Nat.le_of_ble_eq_true rfl) (Nat.le_of_ble_eq_true rfl) (preLsH hK hP hE hN hS hA) rfl hl.1 rfl (Nat.le_of_ble_eq_true rfl) (by show (C + 2) + 2 ≤ 1478; omega) (by show (Z + 12) + 12 ≤ 9422; omega) dL_six_306 hS hA (fun H locs hP hS => ?_)
    refine lv_if_eq (tgt := 429) hx hb dL_six_309 (by decide) (fun c5 => ?_) (fun c5 => ?_)
    · exact absurd c5 (by decide)
    refine lv_aload_n hx hb dL_six_312 rfl (lv_at hl 0 rfl) ?_
    refine lv_iconst (v := 0) hx hb dL_six_313 (by decide) ?_
    refine lv_iconst (v := 3) hx hb dL_six_314 (by decide) ?_
    refine lv_iconst (v := 0) hx hb dL_six_315 (by decide) ?_
    obtain ⟨q6, hq6, hf⟩ := ob_some hf
    refine lc_M (As := [.ref (a 0), .int 0, .int 3, .int 0]) (rest := []) ⟨hx, hb, hml, hown, hts⟩ (k_L_share l hfl dC dI cA a q4 0 3 0 _ hq6 hap) gL_six_L_share rfl rfl rfl cd_L_share (Nat.le_of_ble_eq_true rfl) (Nat.le_of_ble_eq_true rfl) (preLsH hK hP hE hN hS hA) rfl hl.1 rfl (Nat.le_of_ble_eq_true rfl) (by show (C + 4) + 2 ≤ 1478; omega) (by show (Z + 24) + 12 ≤ 9422; omega) dL_six_316 hS hA (fun H locs hP hS => ?_)
    refine lv_if_eq (tgt := 429) hx hb dL_six_319 (by decide) (fun c7 => ?_) (fun c7 => ?_)
    · exact absurd c7 (by decide)
    refine lv_aload_n hx hb dL_six_322 rfl (lv_at hl 0 rfl) ?_
    refine lv_iconst (v := 0) hx hb dL_six_323 (by decide) ?_
    refine lv_iconst (v := 0) hx hb dL_six_324 (by decide) ?_
    obtain ⟨v8, S9, hv8, hf⟩ := xv_some hf
    refine lc_P (As := [.int 0, .int 0]) (rest := []) ⟨hx, hb, hml, hown, hts⟩ (k_X0_sum l dC dI cA a q6 0 0 _ hv8 hap hfl) gL_six_X0_sum rfl rfl rfl cd_X0_sum (Nat.le_of_ble_eq_true rfl) (Nat.le_of_ble_eq_true rfl) (preTsH hK hP hE hS hA) rfl hl.1 rfl (Nat.le_of_ble_eq_true rfl) (by show (C + 6) + 2 ≤ 1478; omega) (by show (Z + 36) + 12 ≤ 9422; omega) dL_six_325 hS hA (fun H locs hP hS => ?_)
    refine lv_iconst (v := 2) hx hb dL_six_328 (by decide) ?_
    refine lv_icmp_ne (tgt := 429) hx hb dL_six_329 (by decide) (fun c10 => ?_) (fun c10 => ?_)
    · rw [if_neg c10] at hf; cases hf
    rw [if_pos c10] at hf
    refine lv_aload_n hx hb dL_six_332 rfl (lv_at hl 0 rfl) ?_
    refine lv_iconst (v := 2) hx hb dL_six_333 (by decide) ?_
    refine lv_iconst (v := 2) hx hb dL_six_334 (by decide) ?_
    obtain ⟨v11, S12, hv11, hf⟩ := xv_some hf
    refine lc_P (As := [.int 2, .int 2]) (rest := []) ⟨hx, hb, hml, hown, hts⟩ (k_X0_sum l dC dI cA a S9 2 2 _ hv11 hap hfl) gL_six_X0_sum rfl rfl rfl cd_X0_sum (Nat.le_of_ble_eq_true rfl) (Nat.le_of_ble_eq_true rfl) (preTsH hK hP hE hS hA) rfl hl.1 rfl (Nat.le_of_ble_eq_true rfl) (by show (C + 8) + 2 ≤ 1478; omega) (by show (Z + 48) + 12 ≤ 9422; omega) dL_six_335 hS hA (fun H locs hP hS => ?_)
    refine lv_iconst (v := 3) hx hb dL_six_338 (by decide) ?_
    refine lv_icmp_ne (tgt := 429) hx hb dL_six_339 (by decide) (fun c13 => ?_) (fun c13 => ?_)
    · rw [if_neg c13] at hf; cases hf
    rw [if_pos c13] at hf
    refine lv_aload_n hx hb dL_six_342 rfl (lv_at hl 0 rfl) ?_
    refine lv_iconst (v := 3) hx hb dL_six_343 (by decide) ?_
    refine lv_iconst (v := 3) hx hb dL_six_344 (by decide) ?_
    obtain ⟨v14, S15, hv14, hf⟩ := xv_some hf
    refine lc_P (As := [.int 3, .int 3]) (rest := []) ⟨hx, hb, hml, hown, hts⟩ (k_X0_sum l dC dI cA a S12 3 3 _ hv14 hap hfl) gL_six_X0_sum rfl rfl rfl cd_X0_sum (Nat.le_of_ble_eq_true rfl) (Nat.le_of_ble_eq_true rfl) (preTsH hK hP hE hS hA) rfl hl.1 rfl (Nat.le_of_ble_eq_true rfl) (by show (C + 10) + 2 ≤ 1478; omega) (by show (Z + 60) + 12 ≤ 9422; omega) dL_six_345 hS hA (fun H locs hP hS => ?_)
    refine lv_iconst (v := 4) hx hb dL_six_348 (by decide) ?_
    refine lv_icmp_ne (tgt := 429) hx hb dL_six_349 (by decide) (fun c16 => ?_) (fun c16 => ?_)
    · rw [if_neg c16] at hf; cases hf
    rw [if_pos c16] at hf
    refine lv_aload_n hx hb dL_six_352 rfl (lv_at hl 0 rfl) ?_
    refine lv_iconst (v := 4) hx hb dL_six_353 (by decide) ?_
    refine lv_iconst (v := 4) hx hb dL_six_354 (by decide) ?_
    obtain ⟨v17, S18, hv17, hf⟩ := xv_some hf
    refine lc_P (As := [.int 4, .int 4]) (rest := []) ⟨hx, hb, hml, hown, hts⟩ (k_X0_sum l dC dI cA a S15 4 4 _ hv17 hap hfl) gL_six_X0_sum rfl rfl rfl cd_X0_sum (Nat.le_of_ble_eq_true rfl) (Nat.le_of_ble_eq_true rfl) (preTsH hK hP hE hS hA) rfl hl.1 rfl (Nat.le_of_ble_eq_true rfl) (by show (C + 12) + 2 ≤ 1478; omega) (by show (Z + 72) + 12 ≤ 9422; omega) dL_six_355 hS hA (fun H locs hP hS => ?_)
    refine lv_iconst (v := 5) hx hb dL_six_358 (by decide) ?_
    refine lv_icmp_ne (tgt := 429) hx hb dL_six_359 (by decide) (fun c19 => ?_) (fun c19 => ?_)
    · rw [if_neg c19] at hf; cases hf
    rw [if_pos c19] at hf
    refine lv_aload_n hx hb dL_six_362 rfl (lv_at hl 0 rfl) ?_
    refine lv_iconst (v := 5) hx hb dL_six_363 (by decide) ?_
    refine lv_iconst (v := 5) hx hb dL_six_364 (by decide) ?_
    obtain ⟨v20, S21, hv20, hf⟩ := xv_some hf
    refine lc_P (As := [.int 5, .int 5]) (rest := []) ⟨hx, hb, hml, hown, hts⟩ (k_X0_sum l dC dI cA a S18 5 5 _ hv20 hap hfl) gL_six_X0_sum rfl rfl rfl cd_X0_sum (Nat.le_of_ble_eq_true rfl) (Nat.le_of_ble_eq_true rfl) (preTsH hK hP hE hS hA) rfl hl.1 rfl (Nat.le_of_ble_eq_true rfl) (by show (C + 14) + 2 ≤ 1478; omega) (by show (Z + 84) + 12 ≤ 9422; omega) dL_six_365 hS hA (fun H locs hP hS => ?_)
    refine lv_bipush (v := 6) hx hb dL_six_368 (by decide) ?_
    refine lv_icmp_ne (tgt := 429) hx hb dL_six_370 (by decide) (fun c22 => ?_) (fun c22 => ?_)
    · rw [if_neg c22] at hf; cases hf
    rw [if_pos c22] at hf
    refine lv_aload_n hx hb dL_six_373 rfl (lv_at hl 0 rfl) ?_
    refine lv_bipush (v := 6) hx hb dL_six_374 (by decide) ?_
    refine lv_bipush (v := 7) hx hb dL_six_376 (by decide) ?_
    obtain ⟨v23, S24, hv23, hf⟩ := xv_some hf
    refine lc_P (As := [.int 6, .int 7]) (rest := []) ⟨hx, hb, hml, hown, hts⟩ (k_X0_value l dC dI cA a S21 6 7 _ hv23 hap hfl) gL_six_X0_value rfl rfl rfl cd_X0_value (Nat.le_of_ble_eq_true rfl) (Nat.le_of_ble_eq_true rfl) (preTsH hK hP hE hS hA) rfl hl.1 rfl (Nat.le_of_ble_eq_true rfl) (by show (C + 16) + 2 ≤ 1478; omega) (by show (Z + 96) + 12 ≤ 9422; omega) dL_six_378 hS hA (fun H locs hP hS => ?_)
    refine lv_sipush (v := 5760) hx hb dL_six_381 (by decide) ?_
    refine lv_icmp_ne (tgt := 429) hx hb dL_six_384 (by decide) (fun c25 => ?_) (fun c25 => ?_)
    · rw [if_neg c25] at hf; cases hf
    rw [if_pos c25] at hf
    exact hW387 (C + 18) (Z + 108) S24 _ _ ls (by omega) (by omega) hf hP hS (lv_sub hl [0] rfl)
  have hW129 : ∀ (k129 : Nat) (C Z : Nat) (S : St) (x1 : Int32) (H : Heap) (locs : List Loc) (ls : Array Slot), C + (k129 * 16 + 696) ≤ 1478 → Z + (k129 * 96 + 4176) ≤ 9422 → f_L_six_129 k129 S x1 = some r → va_P (dC, dI) vwCl (wX cA a S) H → va_S (fun q => s.heap.size ≤ q) s.heap H locs → lv_has ls 3 [(0, .ref (a 0)), (1, .int x1)] → W p l e (headSpec wsL_six ({ frames := 15, cells := 1478, slots := 9422, locals := 421 })).room s m ([] : List Value).toArray below meth c H locs C Z (MQ below (gQ) ([] : List Value).toArray s 1478 9422 ((fun _ => False))) (F0 m 129 ls []) := by
    intro k129
    induction k129 with
    | zero =>
      intro C Z S x1 H locs ls hC hZ hf hP hS hl
      rw [f_L_six_129] at hf
      cases hf
    | succ k129 ih129 =>
      have hW170 : ∀ (k170 : Nat) (C Z : Nat) (S : St) (x1 x2 : Int32) (H : Heap) (locs : List Loc) (ls : Array Slot), C + (k170 * 2 + k129 * 16 + 696) ≤ 1478 → Z + (k170 * 12 + k129 * 96 + 4176) ≤ 9422 → f_L_six_170 (f_L_six_129 k129) k170 S x1 x2 = some r → va_P (dC, dI) vwCl (wX cA a S) H → va_S (fun q => s.heap.size ≤ q) s.heap H locs → lv_has ls 3 [(0, .ref (a 0)), (1, .int x1), (2, .int x2)] → W p l e (headSpec wsL_six ({ frames := 15, cells := 1478, slots := 9422, locals := 421 })).room s m ([] : List Value).toArray below meth c H locs C Z (MQ below (gQ) ([] : List Value).toArray s 1478 9422 ((fun _ => False))) (F0 m 170 ls []) := by
        intro k170
        induction k170 with
        | zero =>
          intro C Z S x1 x2 H locs ls hC hZ hf hP hS hl
          rw [f_L_six_170] at hf
          cases hf
        | succ k170 ih170 =>
          intro C Z S x1 x2 H locs ls hC hZ hf hP hS hl
          rw [f_L_six_170] at hf
          rw [Nat.add_mul, Nat.one_mul] at hC hZ
          refine lv_iload_n hx hb dL_six_170 rfl (lv_at hl 2 rfl) ?_
          refine lv_iload_n hx hb dL_six_171 rfl (lv_at hl 1 rfl) ?_
          refine lv_icmp_ge (tgt := 194) hx hb dL_six_172 (by decide) (fun c1 => ?_) (fun c1 => ?_)
          · rw [if_pos c1] at hf
            obtain ⟨y2, ey2⟩ : ∃ y : Int32, y = (x1 + 1) := ⟨_, rfl⟩
            have hf := bnd_at hf ey2
            refine lv_iinc (v := y2) (lv' := [(1, .int y2), (0, .ref (a 0)), (2, .int x2)]) hx hb dL_six_194 hl (k := 1) rfl (by rw [ey2]; rfl) (by decide) rfl (fun ls hl => ?_)
            refine lv_goto (tgt := 129) hx hb dL_six_197 (by decide) ?_
            exact ih129 C Z S y2 _ _ ls (by omega) (by omega) hf hP hS (lv_sub hl [1, 0] rfl)
          · rw [if_neg c1] at hf
            refine lv_aload_n hx hb dL_six_175 rfl (lv_at hl 0 rfl) ?_
            refine lv_iload_n hx hb dL_six_176 rfl (lv_at hl 1 rfl) ?_
            refine lv_iload_n hx hb dL_six_177 rfl (lv_at hl 2 rfl) ?_
            refine lv_bipush (v := 20) hx hb dL_six_178 (by decide) ?_
            obtain ⟨v3, S4, hv3, hf⟩ := xv_some hf
            refine lc_P (As := [.int x1, .int x2, .int 20]) (rest := []) ⟨hx, hb, hml, hown, hts⟩ (k_X0_edge l dC dI cA a S x1 x2 20 _ hv3 hap hfl) gL_six_X0_edge rfl rfl rfl cd_X0_edge (Nat.le_of_ble_eq_true rfl) (Nat.le_of_ble_eq_true rfl) (preTsH hK hP hE hS hA) rfl hl.1 rfl (Nat.le_of_ble_eq_true rfl) (by show C + 2 ≤ 1478; omega) (by show Z + 12 ≤ 9422; omega) dL_six_180 hS hA (fun H locs hP hS => ?_)
            refine lv_if_eq (tgt := 188) hx hb dL_six_183 (by decide) (fun c5 => ?_) (fun c5 => ?_)
            · rw [if_pos c5] at hf
              obtain ⟨y6, ey6⟩ : ∃ y : Int32, y = (x2 + 1) := ⟨_, rfl⟩
              have hf := bnd_at hf ey6
              refine lv_iinc (v := y6) (lv' := [(2, .int y6), (0, .ref (a 0)), (1, .int x1)]) hx hb dL_six_188 hl (k := 2) rfl (by rw [ey6]; rfl) (by decide) rfl (fun ls hl => ?_)
              refine lv_goto (tgt := 170) hx hb dL_six_191 (by decide) ?_
              exact ih170 (C + 2) (Z + 12) S4 x1 y6 _ _ ls (by omega) (by omega) hf hP hS (lv_sub hl [1, 2, 0] rfl)
            · rw [if_neg c5] at hf
              refine lv_iconst (v := 0) hx hb dL_six_186 (by decide) ?_
              cases hf
      intro C Z S x1 H locs ls hC hZ hf hP hS hl
      rw [f_L_six_129] at hf
      rw [Nat.add_mul, Nat.one_mul] at hC hZ
      refine lv_iload_n hx hb dL_six_129 rfl (lv_at hl 1 rfl) ?_
      refine lv_bipush (v := 6) hx hb dL_six_130 (by decide) ?_
      refine lv_icmp_ge (tgt := 200) hx hb dL_six_132 (by decide) (fun c1 => ?_) (fun c1 => ?_)
      · rw [if_pos c1] at hf
        refine lv_aload_n hx hb dL_six_200 rfl (lv_at hl 0 rfl) ?_
        refine lv_iconst (v := 1) hx hb dL_six_201 (by decide) ?_
        obtain ⟨v2, S3, hv2, hf⟩ := xv_some hf
        refine lc_P (As := [.int 1]) (rest := []) ⟨hx, hb, hml, hown, hts⟩ (k_X0_make l dC dI cA a S 1 _ hv2 hap hfl) gL_six_X0_make rfl rfl rfl cd_X0_make (Nat.le_of_ble_eq_true rfl) (Nat.le_of_ble_eq_true rfl) (preTsH hK hP hE hS hA) rfl hl.1 rfl (Nat.le_of_ble_eq_true rfl) (by show C + 2 ≤ 1478; omega) (by show Z + 12 ≤ 9422; omega) dL_six_202 hS hA (fun H locs hP hS => ?_)
        refine lv_if_ne (tgt := 429) hx hb dL_six_205 (by decide) (fun c4 => ?_) (fun c4 => ?_)
        · rw [if_neg c4] at hf; cases hf
        rw [if_pos c4] at hf
        refine lv_aload_n hx hb dL_six_208 rfl (lv_at hl 0 rfl) ?_
        refine lv_iconst (v := 0) hx hb dL_six_209 (by decide) ?_
        refine lv_bipush (v := 7) hx hb dL_six_210 (by decide) ?_
        obtain ⟨v5, S6, hv5, hf⟩ := xv_some hf
        refine lc_P (As := [.int 0, .int 7]) (rest := []) ⟨hx, hb, hml, hown, hts⟩ (k_X0_value l dC dI cA a S3 0 7 _ hv5 hap hfl) gL_six_X0_value rfl rfl rfl cd_X0_value (Nat.le_of_ble_eq_true rfl) (Nat.le_of_ble_eq_true rfl) (preTsH hK hP hE hS hA) rfl hl.1 rfl (Nat.le_of_ble_eq_true rfl) (by show (C + 2) + 2 ≤ 1478; omega) (by show (Z + 12) + 12 ≤ 9422; omega) dL_six_212 hS hA (fun H locs hP hS => ?_)
        refine lv_sipush (v := 180) hx hb dL_six_215 (by decide) ?_
        refine lv_icmp_ne (tgt := 429) hx hb dL_six_218 (by decide) (fun c7 => ?_) (fun c7 => ?_)
        · rw [if_neg c7] at hf; cases hf
        rw [if_pos c7] at hf
        refine lv_aload_n hx hb dL_six_221 rfl (lv_at hl 0 rfl) ?_
        refine lv_iconst (v := 0) hx hb dL_six_222 (by decide) ?_
        refine lv_iconst (v := 1) hx hb dL_six_223 (by decide) ?_
        obtain ⟨v8, S9, hv8, hf⟩ := xv_some hf
        refine lc_P (As := [.int 0, .int 1]) (rest := []) ⟨hx, hb, hml, hown, hts⟩ (k_X0_value l dC dI cA a S6 0 1 _ hv8 hap hfl) gL_six_X0_value rfl rfl rfl cd_X0_value (Nat.le_of_ble_eq_true rfl) (Nat.le_of_ble_eq_true rfl) (preTsH hK hP hE hS hA) rfl hl.1 rfl (Nat.le_of_ble_eq_true rfl) (by show (C + 4) + 2 ≤ 1478; omega) (by show (Z + 24) + 12 ≤ 9422; omega) dL_six_224 hS hA (fun H locs hP hS => ?_)
        refine lv_bipush (v := 100) hx hb dL_six_227 (by decide) ?_
        refine lv_icmp_ne (tgt := 429) hx hb dL_six_229 (by decide) (fun c10 => ?_) (fun c10 => ?_)
        · rw [if_neg c10] at hf; cases hf
        rw [if_pos c10] at hf
        refine lv_aload_n hx hb dL_six_232 rfl (lv_at hl 0 rfl) ?_
        refine lv_iconst (v := 0) hx hb dL_six_233 (by decide) ?_
        refine lv_bipush (v := 6) hx hb dL_six_234 (by decide) ?_
        obtain ⟨v11, S12, hv11, hf⟩ := xv_some hf
        refine lc_P (As := [.int 0, .int 6]) (rest := []) ⟨hx, hb, hml, hown, hts⟩ (k_X0_best l dC dI cA a S9 0 6 _ hv11 hap hfl) gL_six_X0_best rfl rfl rfl cd_X0_best (Nat.le_of_ble_eq_true rfl) (Nat.le_of_ble_eq_true rfl) (preTsH hK hP hE hS hA) rfl hl.1 rfl (Nat.le_of_ble_eq_true rfl) (by show (C + 6) + 2 ≤ 1478; omega) (by show (Z + 36) + 12 ≤ 9422; omega) dL_six_236 hS hA (fun H locs hP hS => ?_)
        refine lv_sipush (v := 180) hx hb dL_six_239 (by decide) ?_
        refine lv_icmp_ne (tgt := 429) hx hb dL_six_242 (by decide) (fun c13 => ?_) (fun c13 => ?_)
        · rw [if_neg c13] at hf; cases hf
        rw [if_pos c13] at hf
        refine lv_aload_n hx hb dL_six_245 rfl (lv_at hl 0 rfl) ?_
        refine lv_iconst (v := 0) hx hb dL_six_246 (by decide) ?_
        refine lv_bipush (v := 6) hx hb dL_six_247 (by decide) ?_
        obtain ⟨v14, S15, hv14, hf⟩ := xv_some hf
        refine lc_P (As := [.int 0, .int 6]) (rest := []) ⟨hx, hb, hml, hown, hts⟩ (k_X0_greedy l dC dI cA a S12 0 6 _ hv14 hap hfl) gL_six_X0_greedy rfl rfl rfl cd_X0_greedy (Nat.le_of_ble_eq_true rfl) (Nat.le_of_ble_eq_true rfl) (preTsH hK hP hE hS hA) rfl hl.1 rfl (Nat.le_of_ble_eq_true rfl) (by show (C + 8) + 2 ≤ 1478; omega) (by show (Z + 48) + 12 ≤ 9422; omega) dL_six_249 hS hA (fun H locs hP hS => ?_)
        refine lv_bipush (v := 7) hx hb dL_six_252 (by decide) ?_
        refine lv_icmp_ne (tgt := 429) hx hb dL_six_254 (by decide) (fun c16 => ?_) (fun c16 => ?_)
        · rw [if_neg c16] at hf; cases hf
        rw [if_pos c16] at hf
        refine lv_aload_n hx hb dL_six_257 rfl (lv_at hl 0 rfl) ?_
        refine lv_iconst (v := 0) hx hb dL_six_258 (by decide) ?_
        refine lv_iconst (v := 2) hx hb dL_six_259 (by decide) ?_
        obtain ⟨v17, S18, hv17, hf⟩ := xv_some hf
        refine lc_P (As := [.int 0, .int 2]) (rest := []) ⟨hx, hb, hml, hown, hts⟩ (k_X0_greedy l dC dI cA a S15 0 2 _ hv17 hap hfl) gL_six_X0_greedy rfl rfl rfl cd_X0_greedy (Nat.le_of_ble_eq_true rfl) (Nat.le_of_ble_eq_true rfl) (preTsH hK hP hE hS hA) rfl hl.1 rfl (Nat.le_of_ble_eq_true rfl) (by show (C + 10) + 2 ≤ 1478; omega) (by show (Z + 60) + 12 ≤ 9422; omega) dL_six_260 hS hA (fun H locs hP hS => ?_)
        refine lv_iconst (v := 3) hx hb dL_six_263 (by decide) ?_
        refine lv_icmp_ne (tgt := 429) hx hb dL_six_264 (by decide) (fun c19 => ?_) (fun c19 => ?_)
        · rw [if_neg c19] at hf; cases hf
        rw [if_pos c19] at hf
        refine lv_aload_n hx hb dL_six_267 rfl (lv_at hl 0 rfl) ?_
        refine lv_iconst (v := 0) hx hb dL_six_268 (by decide) ?_
        refine lv_iconst (v := 0) hx hb dL_six_269 (by decide) ?_
        refine lv_iconst (v := 0) hx hb dL_six_270 (by decide) ?_
        refine lv_bipush (v := 63) hx hb dL_six_271 (by decide) ?_
        obtain ⟨q20, hq20, hf⟩ := ob_some hf
        refine lc_M (As := [.ref (a 0), .int 0, .int 0, .int 0, .int 63]) (rest := []) ⟨hx, hb, hml, hown, hts⟩ (k_L_least l hfl dC dI cA a S18 0 0 0 63 _ hq20 hap) gL_six_L_least rfl rfl rfl cd_L_least (Nat.le_of_ble_eq_true rfl) (Nat.le_of_ble_eq_true rfl) (preLsH hK hP hE hN hS hA) rfl hl.1 rfl (Nat.le_of_ble_eq_true rfl) (by show (C + 12) + 10 ≤ 1478; omega) (by show (Z + 72) + 60 ≤ 9422; omega) dL_six_273 hS hA (fun H locs hP hS => ?_)
        refine lv_if_eq (tgt := 429) hx hb dL_six_276 (by decide) (fun c21 => ?_) (fun c21 => ?_)
        · exact absurd c21 (by decide)
        refine lv_aload_n hx hb dL_six_279 rfl (lv_at hl 0 rfl) ?_
        refine lv_iconst (v := 0) hx hb dL_six_280 (by decide) ?_
        obtain ⟨v22, S23, hv22, hf⟩ := xv_some hf
        refine lc_P (As := [.int 0]) (rest := []) ⟨hx, hb, hml, hown, hts⟩ (k_X0_make l dC dI cA a q20 0 _ hv22 hap hfl) gL_six_X0_make rfl rfl rfl cd_X0_make (Nat.le_of_ble_eq_true rfl) (Nat.le_of_ble_eq_true rfl) (preTsH hK hP hE hS hA) rfl hl.1 rfl (Nat.le_of_ble_eq_true rfl) (by show (C + 22) + 2 ≤ 1478; omega) (by show (Z + 132) + 12 ≤ 9422; omega) dL_six_281 hS hA (fun H locs hP hS => ?_)
        refine lv_iconst (v := 1) hx hb dL_six_284 (by decide) ?_
        refine lv_icmp_ne (tgt := 429) hx hb dL_six_285 (by decide) (fun c24 => ?_) (fun c24 => ?_)
        · rw [if_neg c24] at hf; cases hf
        rw [if_pos c24] at hf
        exact hW288 (C + 24) (Z + 144) S23 _ _ ls (by omega) (by omega) hf hP hS (lv_sub hl [0] rfl)
      · rw [if_neg c1] at hf
        refine lv_aload_n hx hb dL_six_135 rfl (lv_at hl 0 rfl) ?_
        refine lv_iload_n hx hb dL_six_136 rfl (lv_at hl 1 rfl) ?_
        refine lv_bipush (v := 20) hx hb dL_six_137 (by decide) ?_
        obtain ⟨v25, S26, hv25, hf⟩ := xv_some hf
        refine lc_P (As := [.int x1, .int 20]) (rest := []) ⟨hx, hb, hml, hown, hts⟩ (k_X0_weigh l dC dI cA a S x1 20 _ hv25 hap hfl) gL_six_X0_weigh rfl rfl rfl cd_X0_weigh (Nat.le_of_ble_eq_true rfl) (Nat.le_of_ble_eq_true rfl) (preTsH hK hP hE hS hA) rfl hl.1 rfl (Nat.le_of_ble_eq_true rfl) (by show C + 2 ≤ 1478; omega) (by show Z + 12 ≤ 9422; omega) dL_six_139 hS hA (fun H locs hP hS => ?_)
        refine lv_if_ne (tgt := 166) hx hb dL_six_142 (by decide) (fun c27 => ?_) (fun c27 => ?_)
        · rw [if_neg c27] at hf; cases hf
        rw [if_pos c27] at hf
        refine lv_aload_n hx hb dL_six_145 rfl (lv_at hl 0 rfl) ?_
        refine lv_iload_n hx hb dL_six_146 rfl (lv_at hl 1 rfl) ?_
        refine lv_iload_n hx hb dL_six_147 rfl (lv_at hl 1 rfl) ?_
        refine lv_iconst (v := 1) hx hb dL_six_148 (by decide) ?_
        obtain ⟨v28, S29, hv28, hf⟩ := xv_some hf
        refine lc_P (As := [.int x1, .int x1, .int 1]) (rest := []) ⟨hx, hb, hml, hown, hts⟩ (k_X0_cover l dC dI cA a S26 x1 x1 1 _ hv28 hap hfl) gL_six_X0_cover rfl rfl rfl cd_X0_cover (Nat.le_of_ble_eq_true rfl) (Nat.le_of_ble_eq_true rfl) (preTsH hK hP hE hS hA) rfl hl.1 rfl (Nat.le_of_ble_eq_true rfl) (by show (C + 2) + 1 ≤ 1478; omega) (by show (Z + 12) + 6 ≤ 9422; omega) dL_six_149 hS hA (fun H locs hP hS => ?_)
        refine lv_if_ne (tgt := 166) hx hb dL_six_152 (by decide) (fun c30 => ?_) (fun c30 => ?_)
        · rw [if_neg c30] at hf; cases hf
        rw [if_pos c30] at hf
        refine lv_aload_n hx hb dL_six_155 rfl (lv_at hl 0 rfl) ?_
        refine lv_iload_n hx hb dL_six_156 rfl (lv_at hl 1 rfl) ?_
        refine lv_bipush (v := 9) hx hb dL_six_157 (by decide) ?_
        refine lv_iconst (v := 1) hx hb dL_six_159 (by decide) ?_
        obtain ⟨v31, S32, hv31, hf⟩ := xv_some hf
        refine lc_P (As := [.int x1, .int 9, .int 1]) (rest := []) ⟨hx, hb, hml, hown, hts⟩ (k_X0_cover l dC dI cA a S29 x1 9 1 _ hv31 hap hfl) gL_six_X0_cover rfl rfl rfl cd_X0_cover (Nat.le_of_ble_eq_true rfl) (Nat.le_of_ble_eq_true rfl) (preTsH hK hP hE hS hA) rfl hl.1 rfl (Nat.le_of_ble_eq_true rfl) (by show (C + 3) + 1 ≤ 1478; omega) (by show (Z + 18) + 6 ≤ 9422; omega) dL_six_160 hS hA (fun H locs hP hS => ?_)
        refine lv_if_eq (tgt := 168) hx hb dL_six_163 (by decide) (fun c33 => ?_) (fun c33 => ?_)
        · rw [if_pos c33] at hf
          refine lv_iconst (v := 0) hx hb dL_six_168 (by decide) ?_
          refine lv_istore_n (lv' := [(2, .int 0), (0, .ref (a 0)), (1, .int x1)]) hx hb dL_six_169 rfl hl (by decide) rfl (fun ls hl => ?_)
          exact hW170 6 (C + 4) (Z + 24) S32 x1 0 _ _ ls (by omega) (by omega) hf hP hS (lv_sub hl [1, 2, 0] rfl)
        · rw [if_neg c33] at hf
          refine lv_iconst (v := 0) hx hb dL_six_166 (by decide) ?_
          cases hf
  have hW96 : ∀ (C Z : Nat) (S : St) (H : Heap) (locs : List Loc) (ls : Array Slot), C + (1444) ≤ 1478 → Z + (8664) ≤ 9422 → f_L_six_96 S = some r → va_P (dC, dI) vwCl (wX cA a S) H → va_S (fun q => s.heap.size ≤ q) s.heap H locs → lv_has ls 3 [(0, .ref (a 0))] → W p l e (headSpec wsL_six ({ frames := 15, cells := 1478, slots := 9422, locals := 421 })).room s m ([] : List Value).toArray below meth c H locs C Z (MQ below (gQ) ([] : List Value).toArray s 1478 9422 ((fun _ => False))) (F0 m 96 ls []) := by
    intro C Z S H locs ls hC hZ hf hP hS hl
    unfold f_L_six_96 at hf
    refine lv_aload_n hx hb dL_six_96 rfl (lv_at hl 0 rfl) ?_
    refine lv_iconst (v := 0) hx hb dL_six_97 (by decide) ?_
    obtain ⟨v1, S2, hv1, hf⟩ := xv_some hf
    refine lc_P (As := [.int 0]) (rest := []) ⟨hx, hb, hml, hown, hts⟩ (k_X0_order l dC dI cA a S 0 _ hv1 hap hfl) gL_six_X0_order rfl rfl rfl cd_X0_order (Nat.le_of_ble_eq_true rfl) (Nat.le_of_ble_eq_true rfl) (preTsH hK hP hE hS hA) rfl hl.1 rfl (Nat.le_of_ble_eq_true rfl) (by show C + 2 ≤ 1478; omega) (by show Z + 12 ≤ 9422; omega) dL_six_98 hS hA (fun H locs hP hS => ?_)
    refine lv_iconst (v := 1) hx hb dL_six_101 (by decide) ?_
    refine lv_icmp_ne (tgt := 125) hx hb dL_six_102 (by decide) (fun c3 => ?_) (fun c3 => ?_)
    · rw [if_neg c3] at hf; cases hf
    rw [if_pos c3] at hf
    refine lv_aload_n hx hb dL_six_105 rfl (lv_at hl 0 rfl) ?_
    refine lv_bipush (v := 6) hx hb dL_six_106 (by decide) ?_
    obtain ⟨v4, S5, hv4, hf⟩ := xv_some hf
    refine lc_P (As := [.int 6]) (rest := []) ⟨hx, hb, hml, hown, hts⟩ (k_X0_elements l dC dI cA a S2 6 _ hv4 hap hfl) gL_six_X0_elements rfl rfl rfl cd_X0_elements (Nat.le_of_ble_eq_true rfl) (Nat.le_of_ble_eq_true rfl) (preTsH hK hP hE hS hA) rfl hl.1 rfl (Nat.le_of_ble_eq_true rfl) (by show (C + 2) + 1 ≤ 1478; omega) (by show (Z + 12) + 6 ≤ 9422; omega) dL_six_108 hS hA (fun H locs hP hS => ?_)
    refine lv_iconst (v := 1) hx hb dL_six_111 (by decide) ?_
    refine lv_icmp_ne (tgt := 125) hx hb dL_six_112 (by decide) (fun c6 => ?_) (fun c6 => ?_)
    · rw [if_neg c6] at hf; cases hf
    rw [if_pos c6] at hf
    refine lv_aload_n hx hb dL_six_115 rfl (lv_at hl 0 rfl) ?_
    refine lv_bipush (v := 6) hx hb dL_six_116 (by decide) ?_
    refine lv_iconst (v := 0) hx hb dL_six_118 (by decide) ?_
    obtain ⟨q7, hq7, hf⟩ := ob_some hf
    refine lc_M (As := [.ref (a 0), .int 6, .int 0]) (rest := []) ⟨hx, hb, hml, hown, hts⟩ (k_L_refuses l hfl dC dI cA a S5 6 0 _ hq7 hap) gL_six_L_refuses rfl rfl rfl cd_L_refuses (Nat.le_of_ble_eq_true rfl) (Nat.le_of_ble_eq_true rfl) (preLsH hK hP hE hN hS hA) rfl hl.1 rfl (Nat.le_of_ble_eq_true rfl) (by show (C + 3) + 633 ≤ 1478; omega) (by show (Z + 18) + 3798 ≤ 9422; omega) dL_six_119 hS hA (fun H locs hP hS => ?_)
    refine lv_if_ne (tgt := 127) hx hb dL_six_122 (by decide) (fun c8 => ?_) (fun c8 => ?_)
    · skip
      refine lv_iconst (v := 0) hx hb dL_six_127 (by decide) ?_
      refine lv_istore_n (lv' := [(1, .int 0), (0, .ref (a 0))]) hx hb dL_six_128 rfl hl (by decide) rfl (fun ls hl => ?_)
      exact hW129 7 (C + 636) (Z + 3816) q7 0 _ _ ls (by omega) (by omega) hf hP hS (lv_sub hl [1, 0] rfl)
    · exact absurd c8 (by decide)
  refine lv_astore_n (lv' := [(0, .ref (a 0))]) hx hb dL_six_7 rfl hl (by decide) rfl (fun ls hl => ?_)
  refine lv_aload_n hx hb dL_six_8 rfl (lv_at hl 0 rfl) ?_
  refine lv_iconst (v := 1) hx hb dL_six_9 (by decide) ?_
  obtain ⟨v1, S2, hv1, hf⟩ := xv_some hf
  refine lc_P (As := [.int 1]) (rest := []) ⟨hx, hb, hml, hown, hts⟩ (k_X0_elements l dC dI cA a S0X 1 _ hv1 hap hfl) gL_six_X0_elements rfl rfl rfl cd_X0_elements (Nat.le_of_ble_eq_true rfl) (Nat.le_of_ble_eq_true rfl) (preTsH hK hP hE hS hA) rfl hl.1 rfl (Nat.le_of_ble_eq_true rfl) (by show 10 + 1 ≤ 1478; omega) (by show 614 + 6 ≤ 9422; omega) dL_six_10 hS hA (fun H locs hP hS => ?_)
  refine lv_iconst (v := 4) hx hb dL_six_13 (by decide) ?_
  refine lv_icmp_ne (tgt := 125) hx hb dL_six_14 (by decide) (fun c3 => ?_) (fun c3 => ?_)
  · rw [if_neg c3] at hf; cases hf
  rw [if_pos c3] at hf
  refine lv_aload_n hx hb dL_six_17 rfl (lv_at hl 0 rfl) ?_
  refine lv_iconst (v := 0) hx hb dL_six_18 (by decide) ?_
  refine lv_bipush (v := (-20)) hx hb dL_six_19 (by decide) ?_
  obtain ⟨v4, S5, hv4, hf⟩ := xv_some hf
  refine lc_P (As := [.int 0, .int (-20)]) (rest := []) ⟨hx, hb, hml, hown, hts⟩ (k_X0_weigh l dC dI cA a S2 0 (-20) _ hv4 hap hfl) gL_six_X0_weigh rfl rfl rfl cd_X0_weigh (Nat.le_of_ble_eq_true rfl) (Nat.le_of_ble_eq_true rfl) (preTsH hK hP hE hS hA) rfl hl.1 rfl (Nat.le_of_ble_eq_true rfl) (by show 11 + 2 ≤ 1478; omega) (by show 620 + 12 ≤ 9422; omega) dL_six_21 hS hA (fun H locs hP hS => ?_)
  refine lv_if_ne (tgt := 125) hx hb dL_six_24 (by decide) (fun c6 => ?_) (fun c6 => ?_)
  · rw [if_neg c6] at hf; cases hf
  rw [if_pos c6] at hf
  refine lv_aload_n hx hb dL_six_27 rfl (lv_at hl 0 rfl) ?_
  refine lv_iconst (v := 4) hx hb dL_six_28 (by decide) ?_
  obtain ⟨v7, S8, hv7, hf⟩ := xv_some hf
  refine lc_P (As := [.int 4]) (rest := []) ⟨hx, hb, hml, hown, hts⟩ (k_X0_make l dC dI cA a S5 4 _ hv7 hap hfl) gL_six_X0_make rfl rfl rfl cd_X0_make (Nat.le_of_ble_eq_true rfl) (Nat.le_of_ble_eq_true rfl) (preTsH hK hP hE hS hA) rfl hl.1 rfl (Nat.le_of_ble_eq_true rfl) (by show 13 + 2 ≤ 1478; omega) (by show 632 + 12 ≤ 9422; omega) dL_six_29 hS hA (fun H locs hP hS => ?_)
  refine lv_if_ne (tgt := 125) hx hb dL_six_32 (by decide) (fun c9 => ?_) (fun c9 => ?_)
  · rw [if_neg c9] at hf; cases hf
  rw [if_pos c9] at hf
  refine lv_aload_n hx hb dL_six_35 rfl (lv_at hl 0 rfl) ?_
  refine lv_iconst (v := 0) hx hb dL_six_36 (by decide) ?_
  obtain ⟨v10, S11, hv10, hf⟩ := xv_some hf
  refine lc_P (As := [.int 0]) (rest := []) ⟨hx, hb, hml, hown, hts⟩ (k_X0_isLawful l dC dI cA a S8 0 _ hv10 hap hfl) gL_six_X0_isLawful rfl rfl rfl cd_X0_isLawful (Nat.le_of_ble_eq_true rfl) (Nat.le_of_ble_eq_true rfl) (preTsH hK hP hE hS hA) rfl hl.1 rfl (Nat.le_of_ble_eq_true rfl) (by show 15 + 1 ≤ 1478; omega) (by show 644 + 6 ≤ 9422; omega) dL_six_37 hS hA (fun H locs hP hS => ?_)
  refine lv_if_eq (tgt := 125) hx hb dL_six_40 (by decide) (fun c12 => ?_) (fun c12 => ?_)
  · rw [if_pos c12] at hf; cases hf
  rw [if_neg c12] at hf
  refine lv_aload_n hx hb dL_six_43 rfl (lv_at hl 0 rfl) ?_
  refine lv_iconst (v := 0) hx hb dL_six_44 (by decide) ?_
  refine lv_bipush (v := (-20)) hx hb dL_six_45 (by decide) ?_
  refine lv_iconst (v := 1) hx hb dL_six_47 (by decide) ?_
  refine lv_iconst (v := 1) hx hb dL_six_48 (by decide) ?_
  obtain ⟨q13, hq13, hf⟩ := ob_some hf
  refine lc_M (As := [.ref (a 0), .int 0, .int (-20), .int 1, .int 1]) (rest := []) ⟨hx, hb, hml, hown, hts⟩ (k_L_least l hfl dC dI cA a S11 0 (-20) 1 1 _ hq13 hap) gL_six_L_least rfl rfl rfl cd_L_least (Nat.le_of_ble_eq_true rfl) (Nat.le_of_ble_eq_true rfl) (preLsH hK hP hE hN hS hA) rfl hl.1 rfl (Nat.le_of_ble_eq_true rfl) (by show 16 + 10 ≤ 1478; omega) (by show 650 + 60 ≤ 9422; omega) dL_six_49 hS hA (fun H locs hP hS => ?_)
  refine lv_if_eq (tgt := 125) hx hb dL_six_52 (by decide) (fun c14 => ?_) (fun c14 => ?_)
  · exact absurd c14 (by decide)
  refine lv_aload_n hx hb dL_six_55 rfl (lv_at hl 0 rfl) ?_
  refine lv_iconst (v := 0) hx hb dL_six_56 (by decide) ?_
  refine lv_iconst (v := 0) hx hb dL_six_57 (by decide) ?_
  refine lv_bipush (v := (-20)) hx hb dL_six_58 (by decide) ?_
  obtain ⟨q15, hq15, hf⟩ := ob_some hf
  refine lc_M (As := [.ref (a 0), .int 0, .int 0, .int (-20)]) (rest := []) ⟨hx, hb, hml, hown, hts⟩ (k_L_share l hfl dC dI cA a q13 0 0 (-20) _ hq15 hap) gL_six_L_share rfl rfl rfl cd_L_share (Nat.le_of_ble_eq_true rfl) (Nat.le_of_ble_eq_true rfl) (preLsH hK hP hE hN hS hA) rfl hl.1 rfl (Nat.le_of_ble_eq_true rfl) (by show 26 + 2 ≤ 1478; omega) (by show 710 + 12 ≤ 9422; omega) dL_six_60 hS hA (fun H locs hP hS => ?_)
  refine lv_if_eq (tgt := 125) hx hb dL_six_63 (by decide) (fun c16 => ?_) (fun c16 => ?_)
  · exact absurd c16 (by decide)
  refine lv_aload_n hx hb dL_six_66 rfl (lv_at hl 0 rfl) ?_
  refine lv_iconst (v := 0) hx hb dL_six_67 (by decide) ?_
  refine lv_bipush (v := 6) hx hb dL_six_68 (by decide) ?_
  obtain ⟨v17, S18, hv17, hf⟩ := xv_some hf
  refine lc_P (As := [.int 0, .int 6]) (rest := []) ⟨hx, hb, hml, hown, hts⟩ (k_X0_greedy l dC dI cA a q15 0 6 _ hv17 hap hfl) gL_six_X0_greedy rfl rfl rfl cd_X0_greedy (Nat.le_of_ble_eq_true rfl) (Nat.le_of_ble_eq_true rfl) (preTsH hK hP hE hS hA) rfl hl.1 rfl (Nat.le_of_ble_eq_true rfl) (by show 28 + 2 ≤ 1478; omega) (by show 722 + 12 ≤ 9422; omega) dL_six_70 hS hA (fun H locs hP hS => ?_)
  refine lv_if_ne (tgt := 125) hx hb dL_six_73 (by decide) (fun c19 => ?_) (fun c19 => ?_)
  · rw [if_neg c19] at hf; cases hf
  rw [if_pos c19] at hf
  refine lv_aload_n hx hb dL_six_76 rfl (lv_at hl 0 rfl) ?_
  refine lv_iconst (v := 0) hx hb dL_six_77 (by decide) ?_
  obtain ⟨v20, S21, hv20, hf⟩ := xv_some hf
  refine lc_P (As := [.int 0]) (rest := []) ⟨hx, hb, hml, hown, hts⟩ (k_X0_order l dC dI cA a S18 0 _ hv20 hap hfl) gL_six_X0_order rfl rfl rfl cd_X0_order (Nat.le_of_ble_eq_true rfl) (Nat.le_of_ble_eq_true rfl) (preTsH hK hP hE hS hA) rfl hl.1 rfl (Nat.le_of_ble_eq_true rfl) (by show 30 + 2 ≤ 1478; omega) (by show 734 + 12 ≤ 9422; omega) dL_six_78 hS hA (fun H locs hP hS => ?_)
  refine lv_iconst (v := 1) hx hb dL_six_81 (by decide) ?_
  refine lv_icmp_ne (tgt := 125) hx hb dL_six_82 (by decide) (fun c22 => ?_) (fun c22 => ?_)
  · rw [if_neg c22] at hf; cases hf
  rw [if_pos c22] at hf
  refine lv_aload_n hx hb dL_six_85 rfl (lv_at hl 0 rfl) ?_
  refine lv_iconst (v := 0) hx hb dL_six_86 (by decide) ?_
  refine lv_iconst (v := 0) hx hb dL_six_87 (by decide) ?_
  obtain ⟨v23, S24, hv23, hf⟩ := xv_some hf
  refine lc_P (As := [.int 0, .int 0]) (rest := []) ⟨hx, hb, hml, hown, hts⟩ (k_X0_corner l dC dI cA a S21 0 0 _ hv23 hap hfl) gL_six_X0_corner rfl rfl rfl cd_X0_corner (Nat.le_of_ble_eq_true rfl) (Nat.le_of_ble_eq_true rfl) (preTsH hK hP hE hS hA) rfl hl.1 rfl (Nat.le_of_ble_eq_true rfl) (by show 32 + 2 ≤ 1478; omega) (by show 746 + 12 ≤ 9422; omega) dL_six_88 hS hA (fun H locs hP hS => ?_)
  refine lv_bipush (v := (-20)) hx hb dL_six_91 (by decide) ?_
  refine lv_icmp_ne (tgt := 125) hx hb dL_six_93 (by decide) (fun c25 => ?_) (fun c25 => ?_)
  · rw [if_neg c25] at hf; cases hf
  rw [if_pos c25] at hf
  exact hW96 34 758 S24 _ _ ls (by omega) (by omega) hf hP hS (lv_sub hl [0] rfl)

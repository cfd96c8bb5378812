def f_L_orders_368 (S : St) : Option St := ((f_L_act S 10 0 0 0).bind fun q1 => (if q1.1 = (-7000001) then (xv (f_X0_order q1.2 1) fun v3 S4 => (if v3 = 1 then some S4 else none)) else none))
def f_L_orders_286 (S : St) : Option St := (xv (f_X0_value S 0 3) fun v1 S2 => (if v1 = 0 then (xv (f_X0_make S2 1) fun v4 S5 => (if v4 = 1 then (xv (f_X0_value S5 1 1) fun v7 S8 => (if v7 = 0 then (xv (f_X0_make S8 2) fun v10 S11 => (if v10 = 2 then (xv (f_X0_value S11 2 3) fun v13 S14 => (if v13 = 1 then (xv (f_X0_make S14 4) fun v16 S17 => (if v16 = 3 then (xv (f_X0_value S17 3 3) fun v19 S20 => (if v19 = 0 then (xv (f_X0_order S20 1) fun v22 S23 => (if v22 = 1 then (xv (f_X0_elements S23 2) fun v25 S26 => (if v25 = 2 then (f_L_orders_368 S26) else none)) else none)) else none)) else none)) else none)) else none)) else none)) else none)) else none))
def f_L_orders_193 (S : St) : Option St := (xv (f_X0_corner S 1 3) fun v1 S2 => (if v1 = 2 then ((f_L_act S2 17 0 0 0).bind fun q4 => (if q4.1 = (-7000003) then (xv (f_X0_order q4.2 0) fun v6 S7 => (if v6 = 2 then (xv (f_X0_corner S7 1 0) fun v9 S10 => (if v9 = 3 then ((f_L_refuses S10 4 8).bind fun q12 => (xv (f_X0_elements q12 2) fun v14 S15 => (if v14 = 4 then ((f_L_refuses S15 2 0).bind fun q17 => ((f_L_act q17 17 0 0 0).bind fun q19 => (if q19.1 = (-7000001) then (xv (f_X0_make q19.2 0) fun v21 S22 => (if v21 = 0 then (f_L_orders_286 S22) else none)) else none))) else none))) else none)) else none)) else none)) else none))
def f_L_orders_103 (S : St) : Option St := (xv (f_X0_order S 3) fun v1 S2 => (if v1 = 4 then (xv (f_X0_corner S2 0 1) fun v4 S5 => (if v4 = 0 then (xv (f_X0_corner S5 0 3) fun v7 S8 => (if v7 = 1 then (xv (f_X0_corner S8 1 2) fun v10 S11 => (if v10 = 3 then (xv (f_X0_corner S11 1 0) fun v13 S14 => (if v13 = 7 then (xv (f_X0_corner S14 1 1) fun v16 S17 => (if v16 = (-8) then (xv (f_X0_corner S17 1 3) fun v19 S20 => (if v19 = (-2) then (xv (f_X0_order S20 3) fun v22 S23 => (if v22 = 1 then (xv (f_X0_corner S23 0 3) fun v25 S26 => (if v25 = 1 then (f_L_orders_193 S26) else none)) else none)) else none)) else none)) else none)) else none)) else none)) else none)) else none))
def f_L_orders (S : St) : Option St := ((f_L_act S 17 0 0 0).bind fun q1 => (if q1.1 = (-7000003) then (xv (f_X0_order q1.2 2) fun v3 S4 => (if v3 = 1 then (xv (f_X0_order S4 0) fun v6 S7 => (if v6 = 2 then ((f_L_act S7 16 2 0 0).bind fun q9 => (if q9.1 = (-7000003) then ((f_L_act q9.2 16 0 0 0).bind fun q11 => (if q11.1 = (-7000003) then (xv (f_X0_corner q11.2 0 2) fun v13 S14 => (if v13 = 1 then (xv (f_X0_corner S14 0 0) fun v16 S17 => (if v16 = 2 then ((f_L_act S17 17 0 1 0).bind fun q19 => (if q19.1 = (-7000003) then (xv (f_X0_order q19.2 1) fun v21 S22 => (if v21 = 3 then (f_L_orders_103 S22) else none)) else none)) else none)) else none)) else none)) else none)) else none)) else none)) else none))
theorem cd_L_orders : yL_orders.cls ≠ "java/lang/invoke/MethodHandle" ∧ yL_orders.cls ≠ "java/lang/invoke/VarHandle" ∧ (parseMethodDescriptor yL_orders.desc).map (fun d => d.parameters.length) = some 1 := by decide +kernel
set_option maxHeartbeats 16000000 in
set_option maxRecDepth 100000 in
theorem k_L_orders (l : Launch) (hfl : l.stackTraces = false) (dC : Nat → ClassId) (dI : Nat → Nat → Nat) (cA : ClassId) (a : Nat → Nat) (S : St) (r : St) (hf : f_L_orders S = some r) (hap : apart a 10) : Met l yL_orders wsL_orders ({ frames := 15, cells := 1343, slots := 8058, locals := 421 }) (va_Pc [.ref (a 0)] (PLs (dC, dI) cA a S)) (mXi (dC, dI) cA a 1 r) 1343 8058 (ad a 10) := by
  refine Met.ofW (cc := cL_orders) (maxL := 1) (ret := (some .boolean)) (by decide) rfl ?_
  intro p e s m args below meth c s₁ B hml hv
  obtain ⟨rfl, hP, hK, hE, hN⟩ := hv
  have hx := B.exec
  have hb := B.bytes
  have hr := B.returns
  have hts := atoms_spec (ws := wsL_orders) B.pre
  have hown : s.vm.findClass RL = some m.cls := findClass_of_methodNamed B.named
  have hlocks := B.notSynchronized
  have hA : ∀ q, ad a 10 q → ad a 10 q := fun _ h => h
  have hS : va_S (ad a 10) s.heap s.heap [] := va_S.rf
  have hl := lv_entry ([.ref (a 0)]) (n := 1) (Nat.le_of_ble_eq_true rfl)
  rw [lg_entry_eq]
  generalize (lg_sl ([.ref (a 0)]) ++ List.replicate (1 - (lg_sl ([.ref (a 0)])).length) Slot.unset).toArray = ls at hl ⊢
  have hl : lv_has ls 1 [(0, .ref (a 0))] := hl
  have hw0 := hts (.constant RL 89 (-7000003)) (by decide +kernel)
  have hw1 := hts (.constant RL 83 (-7000001)) (by decide +kernel)
  have hW368 : ∀ (C Z : Nat) (S : St) (H : Heap) (locs : List Loc) (ls : Array Slot), C + (5) ≤ 1343 → Z + (30) ≤ 8058 → f_L_orders_368 S = some r → va_P (dC, dI) vwCl (wX cA a S) H → va_S (ad a 10) s.heap H locs → lv_has ls 1 [(0, .ref (a 0))] → W p l e (headSpec wsL_orders ({ frames := 15, cells := 1343, slots := 8058, locals := 421 })).room s m ([.ref (a 0)] : List Value).toArray below meth c H locs C Z (MQ below (mXi (dC, dI) cA a 1 r) ([.ref (a 0)] : List Value).toArray s 1343 8058 (ad a 10)) (F0 m 368 ls []) := by
    intro C Z S H locs ls hC hZ hf hP hS hl
    unfold f_L_orders_368 at hf
    refine lv_aload_n hx hb dL_orders_368 rfl (lv_at hl 0 rfl) ?_
    refine lv_bipush (v := 10) hx hb dL_orders_369 (by decide) ?_
    refine lv_iconst (v := 0) hx hb dL_orders_371 (by decide) ?_
    refine lv_iconst (v := 0) hx hb dL_orders_372 (by decide) ?_
    refine lv_iconst (v := 0) hx hb dL_orders_373 (by decide) ?_
    obtain ⟨q1, hq1, hf⟩ := ob_some hf
    refine lc_W (As := [.ref (a 0), .int 10, .int 0, .int 0, .int 0]) (rest := []) ⟨hx, hb, hml, hown, hts⟩ (k_L_act l hfl dC dI cA a S 10 0 0 0 _ hq1 hap) gL_orders_L_act rfl rfl rfl cd_L_act (Nat.le_of_ble_eq_true rfl) (Nat.le_of_ble_eq_true rfl) (preLsH hK hP hE hN hS hA) rfl hl.1 rfl (Nat.le_of_ble_eq_true rfl) (by show C + 3 ≤ 1343; omega) (by show Z + 18 ≤ 8058; omega) dL_orders_374 hS hA (fun H locs hP hS => ?_)
    refine lv_ldc (v := (-7000001)) hx hb hown hw1 dL_orders_377 ?_
    refine lv_icmp_ne (tgt := 395) hx hb dL_orders_379 (by decide) (fun c2 => ?_) (fun c2 => ?_)
    · rw [if_neg c2] at hf; cases hf
    rw [if_pos c2] at hf
    refine lv_aload_n hx hb dL_orders_382 rfl (lv_at hl 0 rfl) ?_
    refine lv_iconst (v := 1) hx hb dL_orders_383 (by decide) ?_
    obtain ⟨v3, S4, hv3, hf⟩ := xv_some hf
    refine lc_P (As := [.int 1]) (rest := []) ⟨hx, hb, hml, hown, hts⟩ (k_X0_order l dC dI cA a q1.2 1 _ hv3 hap hfl) gL_orders_X0_order rfl rfl rfl cd_X0_order (Nat.le_of_ble_eq_true rfl) (Nat.le_of_ble_eq_true rfl) (preTsH hK hP hE hS hA) rfl hl.1 rfl (Nat.le_of_ble_eq_true rfl) (by show (C + 3) + 2 ≤ 1343; omega) (by show (Z + 18) + 12 ≤ 8058; omega) dL_orders_384 hS hA (fun H locs hP hS => ?_)
    refine lv_iconst (v := 1) hx hb dL_orders_387 (by decide) ?_
    refine lv_icmp_ne (tgt := 395) hx hb dL_orders_388 (by decide) (fun c5 => ?_) (fun c5 => ?_)
    · rw [if_neg c5] at hf; cases hf
    rw [if_pos c5] at hf
    refine lv_iconst (v := 1) hx hb dL_orders_391 (by decide) ?_
    refine lv_goto (tgt := 396) hx hb dL_orders_392 (by decide) ?_
    have hf := Option.some.inj hf; subst hf
    refine W.widen (k := 1343) (n := 8058) (by omega) (by omega) ?_
    exact W.zret hx hb hr rfl (fun t ht hW => ⟨⟨rfl, by rw [ht]; exact hP⟩, hS.F ht⟩) hS.2.2 dL_orders_396
  have hW286 : ∀ (C Z : Nat) (S : St) (H : Heap) (locs : List Loc) (ls : Array Slot), C + (22) ≤ 1343 → Z + (132) ≤ 8058 → f_L_orders_286 S = some r → va_P (dC, dI) vwCl (wX cA a S) H → va_S (ad a 10) s.heap H locs → lv_has ls 1 [(0, .ref (a 0))] → W p l e (headSpec wsL_orders ({ frames := 15, cells := 1343, slots := 8058, locals := 421 })).room s m ([.ref (a 0)] : List Value).toArray below meth c H locs C Z (MQ below (mXi (dC, dI) cA a 1 r) ([.ref (a 0)] : List Value).toArray s 1343 8058 (ad a 10)) (F0 m 286 ls []) := by
    intro C Z S H locs ls hC hZ hf hP hS hl
    unfold f_L_orders_286 at hf
    refine lv_aload_n hx hb dL_orders_286 rfl (lv_at hl 0 rfl) ?_
    refine lv_iconst (v := 0) hx hb dL_orders_287 (by decide) ?_
    refine lv_iconst (v := 3) hx hb dL_orders_288 (by decide) ?_
    obtain ⟨v1, S2, hv1, hf⟩ := xv_some hf
    refine lc_P (As := [.int 0, .int 3]) (rest := []) ⟨hx, hb, hml, hown, hts⟩ (k_X0_value l dC dI cA a S 0 3 _ hv1 hap hfl) gL_orders_X0_value rfl rfl rfl cd_X0_value (Nat.le_of_ble_eq_true rfl) (Nat.le_of_ble_eq_true rfl) (preTsH hK hP hE hS hA) rfl hl.1 rfl (Nat.le_of_ble_eq_true rfl) (by show C + 2 ≤ 1343; omega) (by show Z + 12 ≤ 8058; omega) dL_orders_289 hS hA (fun H locs hP hS => ?_)
    refine lv_if_ne (tgt := 395) hx hb dL_orders_292 (by decide) (fun c3 => ?_) (fun c3 => ?_)
    · rw [if_neg c3] at hf; cases hf
    rw [if_pos c3] at hf
    refine lv_aload_n hx hb dL_orders_295 rfl (lv_at hl 0 rfl) ?_
    refine lv_iconst (v := 1) hx hb dL_orders_296 (by decide) ?_
    obtain ⟨v4, S5, hv4, hf⟩ := xv_some hf
    refine lc_P (As := [.int 1]) (rest := []) ⟨hx, hb, hml, hown, hts⟩ (k_X0_make l dC dI cA a S2 1 _ hv4 hap hfl) gL_orders_X0_make rfl rfl rfl cd_X0_make (Nat.le_of_ble_eq_true rfl) (Nat.le_of_ble_eq_true rfl) (preTsH hK hP hE hS hA) rfl hl.1 rfl (Nat.le_of_ble_eq_true rfl) (by show (C + 2) + 2 ≤ 1343; omega) (by show (Z + 12) + 12 ≤ 8058; omega) dL_orders_297 hS hA (fun H locs hP hS => ?_)
    refine lv_iconst (v := 1) hx hb dL_orders_300 (by decide) ?_
    refine lv_icmp_ne (tgt := 395) hx hb dL_orders_301 (by decide) (fun c6 => ?_) (fun c6 => ?_)
    · rw [if_neg c6] at hf; cases hf
    rw [if_pos c6] at hf
    refine lv_aload_n hx hb dL_orders_304 rfl (lv_at hl 0 rfl) ?_
    refine lv_iconst (v := 1) hx hb dL_orders_305 (by decide) ?_
    refine lv_iconst (v := 1) hx hb dL_orders_306 (by decide) ?_
    obtain ⟨v7, S8, hv7, hf⟩ := xv_some hf
    refine lc_P (As := [.int 1, .int 1]) (rest := []) ⟨hx, hb, hml, hown, hts⟩ (k_X0_value l dC dI cA a S5 1 1 _ hv7 hap hfl) gL_orders_X0_value rfl rfl rfl cd_X0_value (Nat.le_of_ble_eq_true rfl) (Nat.le_of_ble_eq_true rfl) (preTsH hK hP hE hS hA) rfl hl.1 rfl (Nat.le_of_ble_eq_true rfl) (by show (C + 4) + 2 ≤ 1343; omega) (by show (Z + 24) + 12 ≤ 8058; omega) dL_orders_307 hS hA (fun H locs hP hS => ?_)
    refine lv_if_ne (tgt := 395) hx hb dL_orders_310 (by decide) (fun c9 => ?_) (fun c9 => ?_)
    · rw [if_neg c9] at hf; cases hf
    rw [if_pos c9] at hf
    refine lv_aload_n hx hb dL_orders_313 rfl (lv_at hl 0 rfl) ?_
    refine lv_iconst (v := 2) hx hb dL_orders_314 (by decide) ?_
    obtain ⟨v10, S11, hv10, hf⟩ := xv_some hf
    refine lc_P (As := [.int 2]) (rest := []) ⟨hx, hb, hml, hown, hts⟩ (k_X0_make l dC dI cA a S8 2 _ hv10 hap hfl) gL_orders_X0_make rfl rfl rfl cd_X0_make (Nat.le_of_ble_eq_true rfl) (Nat.le_of_ble_eq_true rfl) (preTsH hK hP hE hS hA) rfl hl.1 rfl (Nat.le_of_ble_eq_true rfl) (by show (C + 6) + 2 ≤ 1343; omega) (by show (Z + 36) + 12 ≤ 8058; omega) dL_orders_315 hS hA (fun H locs hP hS => ?_)
    refine lv_iconst (v := 2) hx hb dL_orders_318 (by decide) ?_
    refine lv_icmp_ne (tgt := 395) hx hb dL_orders_319 (by decide) (fun c12 => ?_) (fun c12 => ?_)
    · rw [if_neg c12] at hf; cases hf
    rw [if_pos c12] at hf
    refine lv_aload_n hx hb dL_orders_322 rfl (lv_at hl 0 rfl) ?_
    refine lv_iconst (v := 2) hx hb dL_orders_323 (by decide) ?_
    refine lv_iconst (v := 3) hx hb dL_orders_324 (by decide) ?_
    obtain ⟨v13, S14, hv13, hf⟩ := xv_some hf
    refine lc_P (As := [.int 2, .int 3]) (rest := []) ⟨hx, hb, hml, hown, hts⟩ (k_X0_value l dC dI cA a S11 2 3 _ hv13 hap hfl) gL_orders_X0_value rfl rfl rfl cd_X0_value (Nat.le_of_ble_eq_true rfl) (Nat.le_of_ble_eq_true rfl) (preTsH hK hP hE hS hA) rfl hl.1 rfl (Nat.le_of_ble_eq_true rfl) (by show (C + 8) + 2 ≤ 1343; omega) (by show (Z + 48) + 12 ≤ 8058; omega) dL_orders_325 hS hA (fun H locs hP hS => ?_)
    refine lv_iconst (v := 1) hx hb dL_orders_328 (by decide) ?_
    refine lv_icmp_ne (tgt := 395) hx hb dL_orders_329 (by decide) (fun c15 => ?_) (fun c15 => ?_)
    · rw [if_neg c15] at hf; cases hf
    rw [if_pos c15] at hf
    refine lv_aload_n hx hb dL_orders_332 rfl (lv_at hl 0 rfl) ?_
    refine lv_iconst (v := 4) hx hb dL_orders_333 (by decide) ?_
    obtain ⟨v16, S17, hv16, hf⟩ := xv_some hf
    refine lc_P (As := [.int 4]) (rest := []) ⟨hx, hb, hml, hown, hts⟩ (k_X0_make l dC dI cA a S14 4 _ hv16 hap hfl) gL_orders_X0_make rfl rfl rfl cd_X0_make (Nat.le_of_ble_eq_true rfl) (Nat.le_of_ble_eq_true rfl) (preTsH hK hP hE hS hA) rfl hl.1 rfl (Nat.le_of_ble_eq_true rfl) (by show (C + 10) + 2 ≤ 1343; omega) (by show (Z + 60) + 12 ≤ 8058; omega) dL_orders_334 hS hA (fun H locs hP hS => ?_)
    refine lv_iconst (v := 3) hx hb dL_orders_337 (by decide) ?_
    refine lv_icmp_ne (tgt := 395) hx hb dL_orders_338 (by decide) (fun c18 => ?_) (fun c18 => ?_)
    · rw [if_neg c18] at hf; cases hf
    rw [if_pos c18] at hf
    refine lv_aload_n hx hb dL_orders_341 rfl (lv_at hl 0 rfl) ?_
    refine lv_iconst (v := 3) hx hb dL_orders_342 (by decide) ?_
    refine lv_iconst (v := 3) hx hb dL_orders_343 (by decide) ?_
    obtain ⟨v19, S20, hv19, hf⟩ := xv_some hf
    refine lc_P (As := [.int 3, .int 3]) (rest := []) ⟨hx, hb, hml, hown, hts⟩ (k_X0_value l dC dI cA a S17 3 3 _ hv19 hap hfl) gL_orders_X0_value rfl rfl rfl cd_X0_value (Nat.le_of_ble_eq_true rfl) (Nat.le_of_ble_eq_true rfl) (preTsH hK hP hE hS hA) rfl hl.1 rfl (Nat.le_of_ble_eq_true rfl) (by show (C + 12) + 2 ≤ 1343; omega) (by show (Z + 72) + 12 ≤ 8058; omega) dL_orders_344 hS hA (fun H locs hP hS => ?_)
    refine lv_if_ne (tgt := 395) hx hb dL_orders_347 (by decide) (fun c21 => ?_) (fun c21 => ?_)
    · rw [if_neg c21] at hf; cases hf
    rw [if_pos c21] at hf
    refine lv_aload_n hx hb dL_orders_350 rfl (lv_at hl 0 rfl) ?_
    refine lv_iconst (v := 1) hx hb dL_orders_351 (by decide) ?_
    obtain ⟨v22, S23, hv22, hf⟩ := xv_some hf
    refine lc_P (As := [.int 1]) (rest := []) ⟨hx, hb, hml, hown, hts⟩ (k_X0_order l dC dI cA a S20 1 _ hv22 hap hfl) gL_orders_X0_order rfl rfl rfl cd_X0_order (Nat.le_of_ble_eq_true rfl) (Nat.le_of_ble_eq_true rfl) (preTsH hK hP hE hS hA) rfl hl.1 rfl (Nat.le_of_ble_eq_true rfl) (by show (C + 14) + 2 ≤ 1343; omega) (by show (Z + 84) + 12 ≤ 8058; omega) dL_orders_352 hS hA (fun H locs hP hS => ?_)
    refine lv_iconst (v := 1) hx hb dL_orders_355 (by decide) ?_
    refine lv_icmp_ne (tgt := 395) hx hb dL_orders_356 (by decide) (fun c24 => ?_) (fun c24 => ?_)
    · rw [if_neg c24] at hf; cases hf
    rw [if_pos c24] at hf
    refine lv_aload_n hx hb dL_orders_359 rfl (lv_at hl 0 rfl) ?_
    refine lv_iconst (v := 2) hx hb dL_orders_360 (by decide) ?_
    obtain ⟨v25, S26, hv25, hf⟩ := xv_some hf
    refine lc_P (As := [.int 2]) (rest := []) ⟨hx, hb, hml, hown, hts⟩ (k_X0_elements l dC dI cA a S23 2 _ hv25 hap hfl) gL_orders_X0_elements rfl rfl rfl cd_X0_elements (Nat.le_of_ble_eq_true rfl) (Nat.le_of_ble_eq_true rfl) (preTsH hK hP hE hS hA) rfl hl.1 rfl (Nat.le_of_ble_eq_true rfl) (by show (C + 16) + 1 ≤ 1343; omega) (by show (Z + 96) + 6 ≤ 8058; omega) dL_orders_361 hS hA (fun H locs hP hS => ?_)
    refine lv_iconst (v := 2) hx hb dL_orders_364 (by decide) ?_
    refine lv_icmp_ne (tgt := 395) hx hb dL_orders_365 (by decide) (fun c27 => ?_) (fun c27 => ?_)
    · rw [if_neg c27] at hf; cases hf
    rw [if_pos c27] at hf
    exact hW368 (C + 17) (Z + 102) S26 _ _ ls (by omega) (by omega) hf hP hS (lv_sub hl [0] rfl)
  have hW193 : ∀ (C Z : Nat) (S : St) (H : Heap) (locs : List Loc) (ls : Array Slot), C + (1303) ≤ 1343 → Z + (7818) ≤ 8058 → f_L_orders_193 S = some r → va_P (dC, dI) vwCl (wX cA a S) H → va_S (ad a 10) s.heap H locs → lv_has ls 1 [(0, .ref (a 0))] → W p l e (headSpec wsL_orders ({ frames := 15, cells := 1343, slots := 8058, locals := 421 })).room s m ([.ref (a 0)] : List Value).toArray below meth c H locs C Z (MQ below (mXi (dC, dI) cA a 1 r) ([.ref (a 0)] : List Value).toArray s 1343 8058 (ad a 10)) (F0 m 193 ls []) := by
    intro C Z S H locs ls hC hZ hf hP hS hl
    unfold f_L_orders_193 at hf
    refine lv_aload_n hx hb dL_orders_193 rfl (lv_at hl 0 rfl) ?_
    refine lv_iconst (v := 1) hx hb dL_orders_194 (by decide) ?_
    refine lv_iconst (v := 3) hx hb dL_orders_195 (by decide) ?_
    obtain ⟨v1, S2, hv1, hf⟩ := xv_some hf
    refine lc_P (As := [.int 1, .int 3]) (rest := []) ⟨hx, hb, hml, hown, hts⟩ (k_X0_corner l dC dI cA a S 1 3 _ hv1 hap hfl) gL_orders_X0_corner rfl rfl rfl cd_X0_corner (Nat.le_of_ble_eq_true rfl) (Nat.le_of_ble_eq_true rfl) (preTsH hK hP hE hS hA) rfl hl.1 rfl (Nat.le_of_ble_eq_true rfl) (by show C + 2 ≤ 1343; omega) (by show Z + 12 ≤ 8058; omega) dL_orders_196 hS hA (fun H locs hP hS => ?_)
    refine lv_iconst (v := 2) hx hb dL_orders_199 (by decide) ?_
    refine lv_icmp_ne (tgt := 395) hx hb dL_orders_200 (by decide) (fun c3 => ?_) (fun c3 => ?_)
    · rw [if_neg c3] at hf; cases hf
    rw [if_pos c3] at hf
    refine lv_aload_n hx hb dL_orders_203 rfl (lv_at hl 0 rfl) ?_
    refine lv_bipush (v := 17) hx hb dL_orders_204 (by decide) ?_
    refine lv_iconst (v := 0) hx hb dL_orders_206 (by decide) ?_
    refine lv_iconst (v := 0) hx hb dL_orders_207 (by decide) ?_
    refine lv_iconst (v := 0) hx hb dL_orders_208 (by decide) ?_
    obtain ⟨q4, hq4, hf⟩ := ob_some hf
    refine lc_W (As := [.ref (a 0), .int 17, .int 0, .int 0, .int 0]) (rest := []) ⟨hx, hb, hml, hown, hts⟩ (k_L_act l hfl dC dI cA a S2 17 0 0 0 _ hq4 hap) gL_orders_L_act rfl rfl rfl cd_L_act (Nat.le_of_ble_eq_true rfl) (Nat.le_of_ble_eq_true rfl) (preLsH hK hP hE hN hS hA) rfl hl.1 rfl (Nat.le_of_ble_eq_true rfl) (by show (C + 2) + 3 ≤ 1343; omega) (by show (Z + 12) + 18 ≤ 8058; omega) dL_orders_209 hS hA (fun H locs hP hS => ?_)
    refine lv_ldc (v := (-7000003)) hx hb hown hw0 dL_orders_212 ?_
    refine lv_icmp_ne (tgt := 395) hx hb dL_orders_214 (by decide) (fun c5 => ?_) (fun c5 => ?_)
    · rw [if_neg c5] at hf; cases hf
    rw [if_pos c5] at hf
    refine lv_aload_n hx hb dL_orders_217 rfl (lv_at hl 0 rfl) ?_
    refine lv_iconst (v := 0) hx hb dL_orders_218 (by decide) ?_
    obtain ⟨v6, S7, hv6, hf⟩ := xv_some hf
    refine lc_P (As := [.int 0]) (rest := []) ⟨hx, hb, hml, hown, hts⟩ (k_X0_order l dC dI cA a q4.2 0 _ hv6 hap hfl) gL_orders_X0_order rfl rfl rfl cd_X0_order (Nat.le_of_ble_eq_true rfl) (Nat.le_of_ble_eq_true rfl) (preTsH hK hP hE hS hA) rfl hl.1 rfl (Nat.le_of_ble_eq_true rfl) (by show (C + 5) + 2 ≤ 1343; omega) (by show (Z + 30) + 12 ≤ 8058; omega) dL_orders_219 hS hA (fun H locs hP hS => ?_)
    refine lv_iconst (v := 2) hx hb dL_orders_222 (by decide) ?_
    refine lv_icmp_ne (tgt := 395) hx hb dL_orders_223 (by decide) (fun c8 => ?_) (fun c8 => ?_)
    · rw [if_neg c8] at hf; cases hf
    rw [if_pos c8] at hf
    refine lv_aload_n hx hb dL_orders_226 rfl (lv_at hl 0 rfl) ?_
    refine lv_iconst (v := 1) hx hb dL_orders_227 (by decide) ?_
    refine lv_iconst (v := 0) hx hb dL_orders_228 (by decide) ?_
    obtain ⟨v9, S10, hv9, hf⟩ := xv_some hf
    refine lc_P (As := [.int 1, .int 0]) (rest := []) ⟨hx, hb, hml, hown, hts⟩ (k_X0_corner l dC dI cA a S7 1 0 _ hv9 hap hfl) gL_orders_X0_corner rfl rfl rfl cd_X0_corner (Nat.le_of_ble_eq_true rfl) (Nat.le_of_ble_eq_true rfl) (preTsH hK hP hE hS hA) rfl hl.1 rfl (Nat.le_of_ble_eq_true rfl) (by show (C + 7) + 2 ≤ 1343; omega) (by show (Z + 42) + 12 ≤ 8058; omega) dL_orders_229 hS hA (fun H locs hP hS => ?_)
    refine lv_iconst (v := 3) hx hb dL_orders_232 (by decide) ?_
    refine lv_icmp_ne (tgt := 395) hx hb dL_orders_233 (by decide) (fun c11 => ?_) (fun c11 => ?_)
    · rw [if_neg c11] at hf; cases hf
    rw [if_pos c11] at hf
    refine lv_aload_n hx hb dL_orders_236 rfl (lv_at hl 0 rfl) ?_
    refine lv_iconst (v := 4) hx hb dL_orders_237 (by decide) ?_
    refine lv_bipush (v := 8) hx hb dL_orders_238 (by decide) ?_
    obtain ⟨q12, hq12, hf⟩ := ob_some hf
    refine lc_M (As := [.ref (a 0), .int 4, .int 8]) (rest := []) ⟨hx, hb, hml, hown, hts⟩ (k_L_refuses l hfl dC dI cA a S10 4 8 _ hq12 hap) gL_orders_L_refuses rfl rfl rfl cd_L_refuses (Nat.le_of_ble_eq_true rfl) (Nat.le_of_ble_eq_true rfl) (preLsH hK hP hE hN hS hA) rfl hl.1 rfl (Nat.le_of_ble_eq_true rfl) (by show (C + 9) + 633 ≤ 1343; omega) (by show (Z + 54) + 3798 ≤ 8058; omega) dL_orders_240 hS hA (fun H locs hP hS => ?_)
    refine lv_if_eq (tgt := 395) hx hb dL_orders_243 (by decide) (fun c13 => ?_) (fun c13 => ?_)
    · exact absurd c13 (by decide)
    refine lv_aload_n hx hb dL_orders_246 rfl (lv_at hl 0 rfl) ?_
    refine lv_iconst (v := 2) hx hb dL_orders_247 (by decide) ?_
    obtain ⟨v14, S15, hv14, hf⟩ := xv_some hf
    refine lc_P (As := [.int 2]) (rest := []) ⟨hx, hb, hml, hown, hts⟩ (k_X0_elements l dC dI cA a q12 2 _ hv14 hap hfl) gL_orders_X0_elements rfl rfl rfl cd_X0_elements (Nat.le_of_ble_eq_true rfl) (Nat.le_of_ble_eq_true rfl) (preTsH hK hP hE hS hA) rfl hl.1 rfl (Nat.le_of_ble_eq_true rfl) (by show (C + 642) + 1 ≤ 1343; omega) (by show (Z + 3852) + 6 ≤ 8058; omega) dL_orders_248 hS hA (fun H locs hP hS => ?_)
    refine lv_iconst (v := 4) hx hb dL_orders_251 (by decide) ?_
    refine lv_icmp_ne (tgt := 395) hx hb dL_orders_252 (by decide) (fun c16 => ?_) (fun c16 => ?_)
    · rw [if_neg c16] at hf; cases hf
    rw [if_pos c16] at hf
    refine lv_aload_n hx hb dL_orders_255 rfl (lv_at hl 0 rfl) ?_
    refine lv_iconst (v := 2) hx hb dL_orders_256 (by decide) ?_
    refine lv_iconst (v := 0) hx hb dL_orders_257 (by decide) ?_
    obtain ⟨q17, hq17, hf⟩ := ob_some hf
    refine lc_M (As := [.ref (a 0), .int 2, .int 0]) (rest := []) ⟨hx, hb, hml, hown, hts⟩ (k_L_refuses l hfl dC dI cA a S15 2 0 _ hq17 hap) gL_orders_L_refuses rfl rfl rfl cd_L_refuses (Nat.le_of_ble_eq_true rfl) (Nat.le_of_ble_eq_true rfl) (preLsH hK hP hE hN hS hA) rfl hl.1 rfl (Nat.le_of_ble_eq_true rfl) (by show (C + 643) + 633 ≤ 1343; omega) (by show (Z + 3858) + 3798 ≤ 8058; omega) dL_orders_258 hS hA (fun H locs hP hS => ?_)
    refine lv_if_eq (tgt := 395) hx hb dL_orders_261 (by decide) (fun c18 => ?_) (fun c18 => ?_)
    · exact absurd c18 (by decide)
    refine lv_aload_n hx hb dL_orders_264 rfl (lv_at hl 0 rfl) ?_
    refine lv_bipush (v := 17) hx hb dL_orders_265 (by decide) ?_
    refine lv_iconst (v := 0) hx hb dL_orders_267 (by decide) ?_
    refine lv_iconst (v := 0) hx hb dL_orders_268 (by decide) ?_
    refine lv_iconst (v := 0) hx hb dL_orders_269 (by decide) ?_
    obtain ⟨q19, hq19, hf⟩ := ob_some hf
    refine lc_W (As := [.ref (a 0), .int 17, .int 0, .int 0, .int 0]) (rest := []) ⟨hx, hb, hml, hown, hts⟩ (k_L_act l hfl dC dI cA a q17 17 0 0 0 _ hq19 hap) gL_orders_L_act rfl rfl rfl cd_L_act (Nat.le_of_ble_eq_true rfl) (Nat.le_of_ble_eq_true rfl) (preLsH hK hP hE hN hS hA) rfl hl.1 rfl (Nat.le_of_ble_eq_true rfl) (by show (C + 1276) + 3 ≤ 1343; omega) (by show (Z + 7656) + 18 ≤ 8058; omega) dL_orders_270 hS hA (fun H locs hP hS => ?_)
    refine lv_ldc (v := (-7000001)) hx hb hown hw1 dL_orders_273 ?_
    refine lv_icmp_ne (tgt := 395) hx hb dL_orders_275 (by decide) (fun c20 => ?_) (fun c20 => ?_)
    · rw [if_neg c20] at hf; cases hf
    rw [if_pos c20] at hf
    refine lv_aload_n hx hb dL_orders_278 rfl (lv_at hl 0 rfl) ?_
    refine lv_iconst (v := 0) hx hb dL_orders_279 (by decide) ?_
    obtain ⟨v21, S22, hv21, hf⟩ := xv_some hf
    refine lc_P (As := [.int 0]) (rest := []) ⟨hx, hb, hml, hown, hts⟩ (k_X0_make l dC dI cA a q19.2 0 _ hv21 hap hfl) gL_orders_X0_make rfl rfl rfl cd_X0_make (Nat.le_of_ble_eq_true rfl) (Nat.le_of_ble_eq_true rfl) (preTsH hK hP hE hS hA) rfl hl.1 rfl (Nat.le_of_ble_eq_true rfl) (by show (C + 1279) + 2 ≤ 1343; omega) (by show (Z + 7674) + 12 ≤ 8058; omega) dL_orders_280 hS hA (fun H locs hP hS => ?_)
    refine lv_if_ne (tgt := 395) hx hb dL_orders_283 (by decide) (fun c23 => ?_) (fun c23 => ?_)
    · rw [if_neg c23] at hf; cases hf
    rw [if_pos c23] at hf
    exact hW286 (C + 1281) (Z + 7686) S22 _ _ ls (by omega) (by omega) hf hP hS (lv_sub hl [0] rfl)
  have hW103 : ∀ (C Z : Nat) (S : St) (H : Heap) (locs : List Loc) (ls : Array Slot), C + (1321) ≤ 1343 → Z + (7926) ≤ 8058 → f_L_orders_103 S = some r → va_P (dC, dI) vwCl (wX cA a S) H → va_S (ad a 10) s.heap H locs → lv_has ls 1 [(0, .ref (a 0))] → W p l e (headSpec wsL_orders ({ frames := 15, cells := 1343, slots := 8058, locals := 421 })).room s m ([.ref (a 0)] : List Value).toArray below meth c H locs C Z (MQ below (mXi (dC, dI) cA a 1 r) ([.ref (a 0)] : List Value).toArray s 1343 8058 (ad a 10)) (F0 m 103 ls []) := by
    intro C Z S H locs ls hC hZ hf hP hS hl
    unfold f_L_orders_103 at hf
    refine lv_aload_n hx hb dL_orders_103 rfl (lv_at hl 0 rfl) ?_
    refine lv_iconst (v := 3) hx hb dL_orders_104 (by decide) ?_
    obtain ⟨v1, S2, hv1, hf⟩ := xv_some hf
    refine lc_P (As := [.int 3]) (rest := []) ⟨hx, hb, hml, hown, hts⟩ (k_X0_order l dC dI cA a S 3 _ hv1 hap hfl) gL_orders_X0_order rfl rfl rfl cd_X0_order (Nat.le_of_ble_eq_true rfl) (Nat.le_of_ble_eq_true rfl) (preTsH hK hP hE hS hA) rfl hl.1 rfl (Nat.le_of_ble_eq_true rfl) (by show C + 2 ≤ 1343; omega) (by show Z + 12 ≤ 8058; omega) dL_orders_105 hS hA (fun H locs hP hS => ?_)
    refine lv_iconst (v := 4) hx hb dL_orders_108 (by decide) ?_
    refine lv_icmp_ne (tgt := 395) hx hb dL_orders_109 (by decide) (fun c3 => ?_) (fun c3 => ?_)
    · rw [if_neg c3] at hf; cases hf
    rw [if_pos c3] at hf
    refine lv_aload_n hx hb dL_orders_112 rfl (lv_at hl 0 rfl) ?_
    refine lv_iconst (v := 0) hx hb dL_orders_113 (by decide) ?_
    refine lv_iconst (v := 1) hx hb dL_orders_114 (by decide) ?_
    obtain ⟨v4, S5, hv4, hf⟩ := xv_some hf
    refine lc_P (As := [.int 0, .int 1]) (rest := []) ⟨hx, hb, hml, hown, hts⟩ (k_X0_corner l dC dI cA a S2 0 1 _ hv4 hap hfl) gL_orders_X0_corner rfl rfl rfl cd_X0_corner (Nat.le_of_ble_eq_true rfl) (Nat.le_of_ble_eq_true rfl) (preTsH hK hP hE hS hA) rfl hl.1 rfl (Nat.le_of_ble_eq_true rfl) (by show (C + 2) + 2 ≤ 1343; omega) (by show (Z + 12) + 12 ≤ 8058; omega) dL_orders_115 hS hA (fun H locs hP hS => ?_)
    refine lv_if_ne (tgt := 395) hx hb dL_orders_118 (by decide) (fun c6 => ?_) (fun c6 => ?_)
    · rw [if_neg c6] at hf; cases hf
    rw [if_pos c6] at hf
    refine lv_aload_n hx hb dL_orders_121 rfl (lv_at hl 0 rfl) ?_
    refine lv_iconst (v := 0) hx hb dL_orders_122 (by decide) ?_
    refine lv_iconst (v := 3) hx hb dL_orders_123 (by decide) ?_
    obtain ⟨v7, S8, hv7, hf⟩ := xv_some hf
    refine lc_P (As := [.int 0, .int 3]) (rest := []) ⟨hx, hb, hml, hown, hts⟩ (k_X0_corner l dC dI cA a S5 0 3 _ hv7 hap hfl) gL_orders_X0_corner rfl rfl rfl cd_X0_corner (Nat.le_of_ble_eq_true rfl) (Nat.le_of_ble_eq_true rfl) (preTsH hK hP hE hS hA) rfl hl.1 rfl (Nat.le_of_ble_eq_true rfl) (by show (C + 4) + 2 ≤ 1343; omega) (by show (Z + 24) + 12 ≤ 8058; omega) dL_orders_124 hS hA (fun H locs hP hS => ?_)
    refine lv_iconst (v := 1) hx hb dL_orders_127 (by decide) ?_
    refine lv_icmp_ne (tgt := 395) hx hb dL_orders_128 (by decide) (fun c9 => ?_) (fun c9 => ?_)
    · rw [if_neg c9] at hf; cases hf
    rw [if_pos c9] at hf
    refine lv_aload_n hx hb dL_orders_131 rfl (lv_at hl 0 rfl) ?_
    refine lv_iconst (v := 1) hx hb dL_orders_132 (by decide) ?_
    refine lv_iconst (v := 2) hx hb dL_orders_133 (by decide) ?_
    obtain ⟨v10, S11, hv10, hf⟩ := xv_some hf
    refine lc_P (As := [.int 1, .int 2]) (rest := []) ⟨hx, hb, hml, hown, hts⟩ (k_X0_corner l dC dI cA a S8 1 2 _ hv10 hap hfl) gL_orders_X0_corner rfl rfl rfl cd_X0_corner (Nat.le_of_ble_eq_true rfl) (Nat.le_of_ble_eq_true rfl) (preTsH hK hP hE hS hA) rfl hl.1 rfl (Nat.le_of_ble_eq_true rfl) (by show (C + 6) + 2 ≤ 1343; omega) (by show (Z + 36) + 12 ≤ 8058; omega) dL_orders_134 hS hA (fun H locs hP hS => ?_)
    refine lv_iconst (v := 3) hx hb dL_orders_137 (by decide) ?_
    refine lv_icmp_ne (tgt := 395) hx hb dL_orders_138 (by decide) (fun c12 => ?_) (fun c12 => ?_)
    · rw [if_neg c12] at hf; cases hf
    rw [if_pos c12] at hf
    refine lv_aload_n hx hb dL_orders_141 rfl (lv_at hl 0 rfl) ?_
    refine lv_iconst (v := 1) hx hb dL_orders_142 (by decide) ?_
    refine lv_iconst (v := 0) hx hb dL_orders_143 (by decide) ?_
    obtain ⟨v13, S14, hv13, hf⟩ := xv_some hf
    refine lc_P (As := [.int 1, .int 0]) (rest := []) ⟨hx, hb, hml, hown, hts⟩ (k_X0_corner l dC dI cA a S11 1 0 _ hv13 hap hfl) gL_orders_X0_corner rfl rfl rfl cd_X0_corner (Nat.le_of_ble_eq_true rfl) (Nat.le_of_ble_eq_true rfl) (preTsH hK hP hE hS hA) rfl hl.1 rfl (Nat.le_of_ble_eq_true rfl) (by show (C + 8) + 2 ≤ 1343; omega) (by show (Z + 48) + 12 ≤ 8058; omega) dL_orders_144 hS hA (fun H locs hP hS => ?_)
    refine lv_bipush (v := 7) hx hb dL_orders_147 (by decide) ?_
    refine lv_icmp_ne (tgt := 395) hx hb dL_orders_149 (by decide) (fun c15 => ?_) (fun c15 => ?_)
    · rw [if_neg c15] at hf; cases hf
    rw [if_pos c15] at hf
    refine lv_aload_n hx hb dL_orders_152 rfl (lv_at hl 0 rfl) ?_
    refine lv_iconst (v := 1) hx hb dL_orders_153 (by decide) ?_
    refine lv_iconst (v := 1) hx hb dL_orders_154 (by decide) ?_
    obtain ⟨v16, S17, hv16, hf⟩ := xv_some hf
    refine lc_P (As := [.int 1, .int 1]) (rest := []) ⟨hx, hb, hml, hown, hts⟩ (k_X0_corner l dC dI cA a S14 1 1 _ hv16 hap hfl) gL_orders_X0_corner rfl rfl rfl cd_X0_corner (Nat.le_of_ble_eq_true rfl) (Nat.le_of_ble_eq_true rfl) (preTsH hK hP hE hS hA) rfl hl.1 rfl (Nat.le_of_ble_eq_true rfl) (by show (C + 10) + 2 ≤ 1343; omega) (by show (Z + 60) + 12 ≤ 8058; omega) dL_orders_155 hS hA (fun H locs hP hS => ?_)
    refine lv_bipush (v := (-8)) hx hb dL_orders_158 (by decide) ?_
    refine lv_icmp_ne (tgt := 395) hx hb dL_orders_160 (by decide) (fun c18 => ?_) (fun c18 => ?_)
    · rw [if_neg c18] at hf; cases hf
    rw [if_pos c18] at hf
    refine lv_aload_n hx hb dL_orders_163 rfl (lv_at hl 0 rfl) ?_
    refine lv_iconst (v := 1) hx hb dL_orders_164 (by decide) ?_
    refine lv_iconst (v := 3) hx hb dL_orders_165 (by decide) ?_
    obtain ⟨v19, S20, hv19, hf⟩ := xv_some hf
    refine lc_P (As := [.int 1, .int 3]) (rest := []) ⟨hx, hb, hml, hown, hts⟩ (k_X0_corner l dC dI cA a S17 1 3 _ hv19 hap hfl) gL_orders_X0_corner rfl rfl rfl cd_X0_corner (Nat.le_of_ble_eq_true rfl) (Nat.le_of_ble_eq_true rfl) (preTsH hK hP hE hS hA) rfl hl.1 rfl (Nat.le_of_ble_eq_true rfl) (by show (C + 12) + 2 ≤ 1343; omega) (by show (Z + 72) + 12 ≤ 8058; omega) dL_orders_166 hS hA (fun H locs hP hS => ?_)
    refine lv_bipush (v := (-2)) hx hb dL_orders_169 (by decide) ?_
    refine lv_icmp_ne (tgt := 395) hx hb dL_orders_171 (by decide) (fun c21 => ?_) (fun c21 => ?_)
    · rw [if_neg c21] at hf; cases hf
    rw [if_pos c21] at hf
    refine lv_aload_n hx hb dL_orders_174 rfl (lv_at hl 0 rfl) ?_
    refine lv_iconst (v := 3) hx hb dL_orders_175 (by decide) ?_
    obtain ⟨v22, S23, hv22, hf⟩ := xv_some hf
    refine lc_P (As := [.int 3]) (rest := []) ⟨hx, hb, hml, hown, hts⟩ (k_X0_order l dC dI cA a S20 3 _ hv22 hap hfl) gL_orders_X0_order rfl rfl rfl cd_X0_order (Nat.le_of_ble_eq_true rfl) (Nat.le_of_ble_eq_true rfl) (preTsH hK hP hE hS hA) rfl hl.1 rfl (Nat.le_of_ble_eq_true rfl) (by show (C + 14) + 2 ≤ 1343; omega) (by show (Z + 84) + 12 ≤ 8058; omega) dL_orders_176 hS hA (fun H locs hP hS => ?_)
    refine lv_iconst (v := 1) hx hb dL_orders_179 (by decide) ?_
    refine lv_icmp_ne (tgt := 395) hx hb dL_orders_180 (by decide) (fun c24 => ?_) (fun c24 => ?_)
    · rw [if_neg c24] at hf; cases hf
    rw [if_pos c24] at hf
    refine lv_aload_n hx hb dL_orders_183 rfl (lv_at hl 0 rfl) ?_
    refine lv_iconst (v := 0) hx hb dL_orders_184 (by decide) ?_
    refine lv_iconst (v := 3) hx hb dL_orders_185 (by decide) ?_
    obtain ⟨v25, S26, hv25, hf⟩ := xv_some hf
    refine lc_P (As := [.int 0, .int 3]) (rest := []) ⟨hx, hb, hml, hown, hts⟩ (k_X0_corner l dC dI cA a S23 0 3 _ hv25 hap hfl) gL_orders_X0_corner rfl rfl rfl cd_X0_corner (Nat.le_of_ble_eq_true rfl) (Nat.le_of_ble_eq_true rfl) (preTsH hK hP hE hS hA) rfl hl.1 rfl (Nat.le_of_ble_eq_true rfl) (by show (C + 16) + 2 ≤ 1343; omega) (by show (Z + 96) + 12 ≤ 8058; omega) dL_orders_186 hS hA (fun H locs hP hS => ?_)
    refine lv_iconst (v := 1) hx hb dL_orders_189 (by decide) ?_
    refine lv_icmp_ne (tgt := 395) hx hb dL_orders_190 (by decide) (fun c27 => ?_) (fun c27 => ?_)
    · rw [if_neg c27] at hf; cases hf
    rw [if_pos c27] at hf
    exact hW193 (C + 18) (Z + 108) S26 _ _ ls (by omega) (by omega) hf hP hS (lv_sub hl [0] rfl)
  unfold f_L_orders at hf
  refine lv_aload_n hx hb dL_orders_0 rfl (lv_at hl 0 rfl) ?_
  refine lv_bipush (v := 17) hx hb dL_orders_1 (by decide) ?_
  refine lv_iconst (v := 0) hx hb dL_orders_3 (by decide) ?_
  refine lv_iconst (v := 0) hx hb dL_orders_4 (by decide) ?_
  refine lv_iconst (v := 0) hx hb dL_orders_5 (by decide) ?_
  obtain ⟨q1, hq1, hf⟩ := ob_some hf
  refine lc_W (As := [.ref (a 0), .int 17, .int 0, .int 0, .int 0]) (rest := []) ⟨hx, hb, hml, hown, hts⟩ (k_L_act l hfl dC dI cA a S 17 0 0 0 _ hq1 hap) gL_orders_L_act rfl rfl rfl cd_L_act (Nat.le_of_ble_eq_true rfl) (Nat.le_of_ble_eq_true rfl) (preLsH hK hP hE hN hS hA) rfl hl.1 rfl (Nat.le_of_ble_eq_true rfl) (by show 0 + 3 ≤ 1343; omega) (by show 0 + 18 ≤ 8058; omega) dL_orders_6 hS hA (fun H locs hP hS => ?_)
  refine lv_ldc (v := (-7000003)) hx hb hown hw0 dL_orders_9 ?_
  refine lv_icmp_ne (tgt := 395) hx hb dL_orders_11 (by decide) (fun c2 => ?_) (fun c2 => ?_)
  · rw [if_neg c2] at hf; cases hf
  rw [if_pos c2] at hf
  refine lv_aload_n hx hb dL_orders_14 rfl (lv_at hl 0 rfl) ?_
  refine lv_iconst (v := 2) hx hb dL_orders_15 (by decide) ?_
  obtain ⟨v3, S4, hv3, hf⟩ := xv_some hf
  refine lc_P (As := [.int 2]) (rest := []) ⟨hx, hb, hml, hown, hts⟩ (k_X0_order l dC dI cA a q1.2 2 _ hv3 hap hfl) gL_orders_X0_order rfl rfl rfl cd_X0_order (Nat.le_of_ble_eq_true rfl) (Nat.le_of_ble_eq_true rfl) (preTsH hK hP hE hS hA) rfl hl.1 rfl (Nat.le_of_ble_eq_true rfl) (by show 3 + 2 ≤ 1343; omega) (by show 18 + 12 ≤ 8058; omega) dL_orders_16 hS hA (fun H locs hP hS => ?_)
  refine lv_iconst (v := 1) hx hb dL_orders_19 (by decide) ?_
  refine lv_icmp_ne (tgt := 395) hx hb dL_orders_20 (by decide) (fun c5 => ?_) (fun c5 => ?_)
  · rw [if_neg c5] at hf; cases hf
  rw [if_pos c5] at hf
  refine lv_aload_n hx hb dL_orders_23 rfl (lv_at hl 0 rfl) ?_
  refine lv_iconst (v := 0) hx hb dL_orders_24 (by decide) ?_
  obtain ⟨v6, S7, hv6, hf⟩ := xv_some hf
  refine lc_P (As := [.int 0]) (rest := []) ⟨hx, hb, hml, hown, hts⟩ (k_X0_order l dC dI cA a S4 0 _ hv6 hap hfl) gL_orders_X0_order rfl rfl rfl cd_X0_order (Nat.le_of_ble_eq_true rfl) (Nat.le_of_ble_eq_true rfl) (preTsH hK hP hE hS hA) rfl hl.1 rfl (Nat.le_of_ble_eq_true rfl) (by show 5 + 2 ≤ 1343; omega) (by show 30 + 12 ≤ 8058; omega) dL_orders_25 hS hA (fun H locs hP hS => ?_)
  refine lv_iconst (v := 2) hx hb dL_orders_28 (by decide) ?_
  refine lv_icmp_ne (tgt := 395) hx hb dL_orders_29 (by decide) (fun c8 => ?_) (fun c8 => ?_)
  · rw [if_neg c8] at hf; cases hf
  rw [if_pos c8] at hf
  refine lv_aload_n hx hb dL_orders_32 rfl (lv_at hl 0 rfl) ?_
  refine lv_bipush (v := 16) hx hb dL_orders_33 (by decide) ?_
  refine lv_iconst (v := 2) hx hb dL_orders_35 (by decide) ?_
  refine lv_iconst (v := 0) hx hb dL_orders_36 (by decide) ?_
  refine lv_iconst (v := 0) hx hb dL_orders_37 (by decide) ?_
  obtain ⟨q9, hq9, hf⟩ := ob_some hf
  refine lc_W (As := [.ref (a 0), .int 16, .int 2, .int 0, .int 0]) (rest := []) ⟨hx, hb, hml, hown, hts⟩ (k_L_act l hfl dC dI cA a S7 16 2 0 0 _ hq9 hap) gL_orders_L_act rfl rfl rfl cd_L_act (Nat.le_of_ble_eq_true rfl) (Nat.le_of_ble_eq_true rfl) (preLsH hK hP hE hN hS hA) rfl hl.1 rfl (Nat.le_of_ble_eq_true rfl) (by show 7 + 3 ≤ 1343; omega) (by show 42 + 18 ≤ 8058; omega) dL_orders_38 hS hA (fun H locs hP hS => ?_)
  refine lv_ldc (v := (-7000003)) hx hb hown hw0 dL_orders_41 ?_
  refine lv_icmp_ne (tgt := 395) hx hb dL_orders_43 (by decide) (fun c10 => ?_) (fun c10 => ?_)
  · rw [if_neg c10] at hf; cases hf
  rw [if_pos c10] at hf
  refine lv_aload_n hx hb dL_orders_46 rfl (lv_at hl 0 rfl) ?_
  refine lv_bipush (v := 16) hx hb dL_orders_47 (by decide) ?_
  refine lv_iconst (v := 0) hx hb dL_orders_49 (by decide) ?_
  refine lv_iconst (v := 0) hx hb dL_orders_50 (by decide) ?_
  refine lv_iconst (v := 0) hx hb dL_orders_51 (by decide) ?_
  obtain ⟨q11, hq11, hf⟩ := ob_some hf
  refine lc_W (As := [.ref (a 0), .int 16, .int 0, .int 0, .int 0]) (rest := []) ⟨hx, hb, hml, hown, hts⟩ (k_L_act l hfl dC dI cA a q9.2 16 0 0 0 _ hq11 hap) gL_orders_L_act rfl rfl rfl cd_L_act (Nat.le_of_ble_eq_true rfl) (Nat.le_of_ble_eq_true rfl) (preLsH hK hP hE hN hS hA) rfl hl.1 rfl (Nat.le_of_ble_eq_true rfl) (by show 10 + 3 ≤ 1343; omega) (by show 60 + 18 ≤ 8058; omega) dL_orders_52 hS hA (fun H locs hP hS => ?_)
  refine lv_ldc (v := (-7000003)) hx hb hown hw0 dL_orders_55 ?_
  refine lv_icmp_ne (tgt := 395) hx hb dL_orders_57 (by decide) (fun c12 => ?_) (fun c12 => ?_)
  · rw [if_neg c12] at hf; cases hf
  rw [if_pos c12] at hf
  refine lv_aload_n hx hb dL_orders_60 rfl (lv_at hl 0 rfl) ?_
  refine lv_iconst (v := 0) hx hb dL_orders_61 (by decide) ?_
  refine lv_iconst (v := 2) hx hb dL_orders_62 (by decide) ?_
  obtain ⟨v13, S14, hv13, hf⟩ := xv_some hf
  refine lc_P (As := [.int 0, .int 2]) (rest := []) ⟨hx, hb, hml, hown, hts⟩ (k_X0_corner l dC dI cA a q11.2 0 2 _ hv13 hap hfl) gL_orders_X0_corner rfl rfl rfl cd_X0_corner (Nat.le_of_ble_eq_true rfl) (Nat.le_of_ble_eq_true rfl) (preTsH hK hP hE hS hA) rfl hl.1 rfl (Nat.le_of_ble_eq_true rfl) (by show 13 + 2 ≤ 1343; omega) (by show 78 + 12 ≤ 8058; omega) dL_orders_63 hS hA (fun H locs hP hS => ?_)
  refine lv_iconst (v := 1) hx hb dL_orders_66 (by decide) ?_
  refine lv_icmp_ne (tgt := 395) hx hb dL_orders_67 (by decide) (fun c15 => ?_) (fun c15 => ?_)
  · rw [if_neg c15] at hf; cases hf
  rw [if_pos c15] at hf
  refine lv_aload_n hx hb dL_orders_70 rfl (lv_at hl 0 rfl) ?_
  refine lv_iconst (v := 0) hx hb dL_orders_71 (by decide) ?_
  refine lv_iconst (v := 0) hx hb dL_orders_72 (by decide) ?_
  obtain ⟨v16, S17, hv16, hf⟩ := xv_some hf
  refine lc_P (As := [.int 0, .int 0]) (rest := []) ⟨hx, hb, hml, hown, hts⟩ (k_X0_corner l dC dI cA a S14 0 0 _ hv16 hap hfl) gL_orders_X0_corner rfl rfl rfl cd_X0_corner (Nat.le_of_ble_eq_true rfl) (Nat.le_of_ble_eq_true rfl) (preTsH hK hP hE hS hA) rfl hl.1 rfl (Nat.le_of_ble_eq_true rfl) (by show 15 + 2 ≤ 1343; omega) (by show 90 + 12 ≤ 8058; omega) dL_orders_73 hS hA (fun H locs hP hS => ?_)
  refine lv_iconst (v := 2) hx hb dL_orders_76 (by decide) ?_
  refine lv_icmp_ne (tgt := 395) hx hb dL_orders_77 (by decide) (fun c18 => ?_) (fun c18 => ?_)
  · rw [if_neg c18] at hf; cases hf
  rw [if_pos c18] at hf
  refine lv_aload_n hx hb dL_orders_80 rfl (lv_at hl 0 rfl) ?_
  refine lv_bipush (v := 17) hx hb dL_orders_81 (by decide) ?_
  refine lv_iconst (v := 0) hx hb dL_orders_83 (by decide) ?_
  refine lv_iconst (v := 1) hx hb dL_orders_84 (by decide) ?_
  refine lv_iconst (v := 0) hx hb dL_orders_85 (by decide) ?_
  obtain ⟨q19, hq19, hf⟩ := ob_some hf
  refine lc_W (As := [.ref (a 0), .int 17, .int 0, .int 1, .int 0]) (rest := []) ⟨hx, hb, hml, hown, hts⟩ (k_L_act l hfl dC dI cA a S17 17 0 1 0 _ hq19 hap) gL_orders_L_act rfl rfl rfl cd_L_act (Nat.le_of_ble_eq_true rfl) (Nat.le_of_ble_eq_true rfl) (preLsH hK hP hE hN hS hA) rfl hl.1 rfl (Nat.le_of_ble_eq_true rfl) (by show 17 + 3 ≤ 1343; omega) (by show 102 + 18 ≤ 8058; omega) dL_orders_86 hS hA (fun H locs hP hS => ?_)
  refine lv_ldc (v := (-7000003)) hx hb hown hw0 dL_orders_89 ?_
  refine lv_icmp_ne (tgt := 395) hx hb dL_orders_91 (by decide) (fun c20 => ?_) (fun c20 => ?_)
  · rw [if_neg c20] at hf; cases hf
  rw [if_pos c20] at hf
  refine lv_aload_n hx hb dL_orders_94 rfl (lv_at hl 0 rfl) ?_
  refine lv_iconst (v := 1) hx hb dL_orders_95 (by decide) ?_
  obtain ⟨v21, S22, hv21, hf⟩ := xv_some hf
  refine lc_P (As := [.int 1]) (rest := []) ⟨hx, hb, hml, hown, hts⟩ (k_X0_order l dC dI cA a q19.2 1 _ hv21 hap hfl) gL_orders_X0_order rfl rfl rfl cd_X0_order (Nat.le_of_ble_eq_true rfl) (Nat.le_of_ble_eq_true rfl) (preTsH hK hP hE hS hA) rfl hl.1 rfl (Nat.le_of_ble_eq_true rfl) (by show 20 + 2 ≤ 1343; omega) (by show 120 + 12 ≤ 8058; omega) dL_orders_96 hS hA (fun H locs hP hS => ?_)
  refine lv_iconst (v := 3) hx hb dL_orders_99 (by decide) ?_
  refine lv_icmp_ne (tgt := 395) hx hb dL_orders_100 (by decide) (fun c23 => ?_) (fun c23 => ?_)
  · rw [if_neg c23] at hf; cases hf
  rw [if_pos c23] at hf
  exact hW103 22 132 S22 _ _ ls (by omega) (by omega) hf hP hS (lv_sub hl [0] rfl)

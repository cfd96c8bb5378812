def f_L_greed_363 (S : St) : Option St := ((f_L_share S 1 0 0).bind fun q1 => ((f_L_share q1 3 1 72).bind fun q3 => some q3))
def f_L_greed_269 (S : St) : Option St := (xv (f_X0_room S 1 3 0) fun v1 S2 => (if v1 = 1 then ((f_X0_common S2).bind fun q4 => (if q4.1 = 3 then ((f_L_share q4.2 0 0 36).bind fun q6 => ((f_L_share q6 0 1 24).bind fun q8 => ((f_L_share q8 0 2 12).bind fun q10 => ((f_L_share q10 0 3 24).bind fun q12 => ((f_L_share q12 2 0 (-96)).bind fun q14 => ((f_L_share q14 2 3 0).bind fun q16 => ((f_L_share q16 1 2 0).bind fun q18 => (f_L_greed_363 q18)))))))) else none)) else none))
def f_L_greed_187 (S : St) : Option St := (xv (f_X0_colour S 1 0 3) fun v1 S2 => (if v1 = 0 then (xv (f_X0_colour S2 1 2 4) fun v4 S5 => (if v4 = 0 then ((f_X0_common S5).bind fun q7 => (if q7.1 = 3 then ((f_X0_commonAnew q7.2).bind fun v9 => (if v9 = 3 then (xv (f_X0_room q7.2 1 0 2) fun v11 S12 => (if v11 = 1 then ((f_X0_common S12).bind fun q14 => (if q14.1 = 3 then (xv (f_X0_room q14.2 0 2 2) fun v16 S17 => (if v16 = 1 then ((f_X0_common S17).bind fun q19 => (if q19.1 = 4 then ((f_X0_commonAnew q19.2).bind fun v21 => (if v21 = 4 then (f_L_greed_269 q19.2) else none)) else none)) else none)) else none)) else none)) else none)) else none)) else none)) else none))
def f_L_greed_92 (S : St) : Option St := (xv (f_X0_best S 1 1) fun v1 S2 => (if v1 = 8 then (xv (f_X0_best S2 1 6) fun v4 S5 => (if v4 = 10 then (xv (f_X0_greedy S5 2 4) fun v7 S8 => (if v7 = 2 then (xv (f_X0_best S8 2 5) fun v10 S11 => (if v10 = 3 then (xv (f_X0_greedy S11 6 3) fun v13 S14 => (if v13 = 0 then (xv (f_X0_best S14 6 3) fun v16 S17 => (if v16 = 0 then (xv (f_X0_greedy S17 4 6) fun v19 S20 => (if v19 = 4 then (xv (f_X0_best S20 4 6) fun v22 S23 => (if v22 = 3 then ((f_X0_common S23).bind fun q25 => (if q25.1 = 1 then (f_L_greed_187 q25.2) else none)) else none)) else none)) else none)) else none)) else none)) else none)) else none)) else none))
def f_L_greed (S : St) : Option St := (xv (f_X0_greedy S 0 0) fun v1 S2 => (if v1 = 0 then (xv (f_X0_greedy S2 0 1) fun v4 S5 => (if v4 = 1 then (xv (f_X0_greedy S5 0 2) fun v7 S8 => (if v7 = 3 then (xv (f_X0_greedy S8 0 6) fun v10 S11 => (if v10 = 11 then (xv (f_X0_best S11 0 0) fun v13 S14 => (if v13 = 0 then (xv (f_X0_best S14 0 1) fun v16 S17 => (if v16 = 2 then (xv (f_X0_best S17 0 2) fun v19 S20 => (if v19 = 3 then (xv (f_X0_best S20 0 3) fun v22 S23 => (if v22 = 4 then (xv (f_X0_greedy S23 1 6) fun v25 S26 => (if v25 = 10 then (f_L_greed_92 S26) else none)) else none)) else none)) else none)) else none)) else none)) else none)) else none)) else none))
theorem cd_L_greed : yL_greed.cls ≠ "java/lang/invoke/MethodHandle" ∧ yL_greed.cls ≠ "java/lang/invoke/VarHandle" ∧ (parseMethodDescriptor yL_greed.desc).map (fun d => d.parameters.length) = some 1 := by decide +kernel
set_option maxHeartbeats 16000000 in
set_option maxRecDepth 100000 in
theorem k_L_greed (l : Launch) (hfl : l.stackTraces = false) (dC : Nat → ClassId) (dI : Nat → Nat → Nat) (cA : ClassId) (a : Nat → Nat) (S : St) (r : St) (hf : f_L_greed S = some r) (hap : apart a 10) : Met l yL_greed wsL_greed ({ frames := 13, cells := 60, slots := 360, locals := 335 }) (va_Pc [.ref (a 0)] (PLs (dC, dI) cA a S)) (mXi (dC, dI) cA a 1 r) 60 360 (ad a 10) := by
  refine Met.ofW (cc := cL_greed) (maxL := 1) (ret := (some .boolean)) (by decide) rfl ?_
  intro p e s m args below meth c s₁ B hml hv
  obtain ⟨rfl, hP, hK, hE, hN⟩ := hv
  have hx := B.exec
  have hb := B.bytes
  have hr := B.returns
  have hts := atoms_spec (ws := wsL_greed) B.pre
  have hown : s.vm.findClass RL = some m.cls := findClass_of_methodNamed B.named
  have hlocks := B.notSynchronized
  have hA : ∀ q, ad a 10 q → ad a 10 q := fun _ h => h
  have hS : va_S (ad a 10) s.heap s.heap [] := va_S.rf
  have hl := lv_entry ([.ref (a 0)]) (n := 1) (Nat.le_of_ble_eq_true rfl)
  rw [lg_entry_eq]
  generalize (lg_sl ([.ref (a 0)]) ++ List.replicate (1 - (lg_sl ([.ref (a 0)])).length) Slot.unset).toArray = ls at hl ⊢
  have hl : lv_has ls 1 [(0, .ref (a 0))] := hl
  have hW363 : ∀ (C Z : Nat) (S : St) (H : Heap) (locs : List Loc) (ls : Array Slot), C + (4) ≤ 60 → Z + (24) ≤ 360 → f_L_greed_363 S = some r → va_P (dC, dI) vwCl (wX cA a S) H → va_S (ad a 10) s.heap H locs → lv_has ls 1 [(0, .ref (a 0))] → W p l e (headSpec wsL_greed ({ frames := 13, cells := 60, slots := 360, locals := 335 })).room s m ([.ref (a 0)] : List Value).toArray below meth c H locs C Z (MQ below (mXi (dC, dI) cA a 1 r) ([.ref (a 0)] : List Value).toArray s 60 360 (ad a 10)) (F0 m 363 ls []) := by
    intro C Z S H locs ls hC hZ hf hP hS hl
    unfold f_L_greed_363 at hf
    refine lv_aload_n hx hb dL_greed_363 rfl (lv_at hl 0 rfl) ?_
    refine lv_iconst (v := 1) hx hb dL_greed_364 (by decide) ?_
    refine lv_iconst (v := 0) hx hb dL_greed_365 (by decide) ?_
    refine lv_iconst (v := 0) hx hb dL_greed_366 (by decide) ?_
    obtain ⟨q1, hq1, hf⟩ := ob_some hf
    refine lc_M (As := [.ref (a 0), .int 1, .int 0, .int 0]) (rest := []) ⟨hx, hb, hml, hown, hts⟩ (k_L_share l hfl dC dI cA a S 1 0 0 _ hq1 hap) gL_greed_L_share rfl rfl rfl cd_L_share (Nat.le_of_ble_eq_true rfl) (Nat.le_of_ble_eq_true rfl) (preLsH hK hP hE hN hS hA) rfl hl.1 rfl (Nat.le_of_ble_eq_true rfl) (by show C + 2 ≤ 60; omega) (by show Z + 12 ≤ 360; omega) dL_greed_367 hS hA (fun H locs hP hS => ?_)
    refine lv_if_eq (tgt := 388) hx hb dL_greed_370 (by decide) (fun c2 => ?_) (fun c2 => ?_)
    · exact absurd c2 (by decide)
    refine lv_aload_n hx hb dL_greed_373 rfl (lv_at hl 0 rfl) ?_
    refine lv_iconst (v := 3) hx hb dL_greed_374 (by decide) ?_
    refine lv_iconst (v := 1) hx hb dL_greed_375 (by decide) ?_
    refine lv_bipush (v := 72) hx hb dL_greed_376 (by decide) ?_
    obtain ⟨q3, hq3, hf⟩ := ob_some hf
    refine lc_M (As := [.ref (a 0), .int 3, .int 1, .int 72]) (rest := []) ⟨hx, hb, hml, hown, hts⟩ (k_L_share l hfl dC dI cA a q1 3 1 72 _ hq3 hap) gL_greed_L_share rfl rfl rfl cd_L_share (Nat.le_of_ble_eq_true rfl) (Nat.le_of_ble_eq_true rfl) (preLsH hK hP hE hN hS hA) rfl hl.1 rfl (Nat.le_of_ble_eq_true rfl) (by show (C + 2) + 2 ≤ 60; omega) (by show (Z + 12) + 12 ≤ 360; omega) dL_greed_378 hS hA (fun H locs hP hS => ?_)
    refine lv_if_eq (tgt := 388) hx hb dL_greed_381 (by decide) (fun c4 => ?_) (fun c4 => ?_)
    · exact absurd c4 (by decide)
    refine lv_iconst (v := 1) hx hb dL_greed_384 (by decide) ?_
    refine lv_goto (tgt := 389) hx hb dL_greed_385 (by decide) ?_
    have hf := Option.some.inj hf; subst hf
    refine W.widen (k := 60) (n := 360) (by omega) (by omega) ?_
    exact W.zret hx hb hr rfl (fun t ht hW => ⟨⟨rfl, by rw [ht]; exact hP⟩, hS.F ht⟩) hS.2.2 dL_greed_389
  have hW269 : ∀ (C Z : Nat) (S : St) (H : Heap) (locs : List Loc) (ls : Array Slot), C + (20) ≤ 60 → Z + (120) ≤ 360 → f_L_greed_269 S = some r → va_P (dC, dI) vwCl (wX cA a S) H → va_S (ad a 10) s.heap H locs → lv_has ls 1 [(0, .ref (a 0))] → W p l e (headSpec wsL_greed ({ frames := 13, cells := 60, slots := 360, locals := 335 })).room s m ([.ref (a 0)] : List Value).toArray below meth c H locs C Z (MQ below (mXi (dC, dI) cA a 1 r) ([.ref (a 0)] : List Value).toArray s 60 360 (ad a 10)) (F0 m 269 ls []) := by
    intro C Z S H locs ls hC hZ hf hP hS hl
    unfold f_L_greed_269 at hf
    refine lv_aload_n hx hb dL_greed_269 rfl (lv_at hl 0 rfl) ?_
    refine lv_iconst (v := 1) hx hb dL_greed_270 (by decide) ?_
    refine lv_iconst (v := 3) hx hb dL_greed_271 (by decide) ?_
    refine lv_iconst (v := 0) hx hb dL_greed_272 (by decide) ?_
    obtain ⟨v1, S2, hv1, hf⟩ := xv_some hf
    refine lc_P (As := [.int 1, .int 3, .int 0]) (rest := []) ⟨hx, hb, hml, hown, hts⟩ (k_X0_room l dC dI cA a S 1 3 0 _ hv1 hap hfl) gL_greed_X0_room rfl rfl rfl cd_X0_room (Nat.le_of_ble_eq_true rfl) (Nat.le_of_ble_eq_true rfl) (preTsH hK hP hE hS hA) rfl hl.1 rfl (Nat.le_of_ble_eq_true rfl) (by show C + 2 ≤ 60; omega) (by show Z + 12 ≤ 360; omega) dL_greed_273 hS hA (fun H locs hP hS => ?_)
    refine lv_iconst (v := 1) hx hb dL_greed_276 (by decide) ?_
    refine lv_icmp_ne (tgt := 388) hx hb dL_greed_277 (by decide) (fun c3 => ?_) (fun c3 => ?_)
    · rw [if_neg c3] at hf; cases hf
    rw [if_pos c3] at hf
    refine lv_aload_n hx hb dL_greed_280 rfl (lv_at hl 0 rfl) ?_
    obtain ⟨q4, hq4, hf⟩ := ob_some hf
    refine lc_V (mc := 0) (ms := 0) (As := []) (rest := []) ⟨hx, hb, hml, hown, hts⟩ (k_X0_common l dC dI cA a S2 _ hq4 hap) gL_greed_X0_common rfl rfl rfl cd_X0_common (Nat.le_of_ble_eq_true rfl) (Nat.le_of_ble_eq_true rfl) (preX hK hP) rfl hl.1 rfl (Nat.le_of_ble_eq_true rfl) (by show (C + 2) + 0 ≤ 60; omega) (by show (Z + 12) + 0 ≤ 360; omega) dL_greed_281 hS hA (fun H locs hP hS => ?_)
    refine lv_iconst (v := 3) hx hb dL_greed_284 (by decide) ?_
    refine lv_icmp_ne (tgt := 388) hx hb dL_greed_285 (by decide) (fun c5 => ?_) (fun c5 => ?_)
    · rw [if_neg c5] at hf; cases hf
    rw [if_pos c5] at hf
    refine lv_aload_n hx hb dL_greed_288 rfl (lv_at hl 0 rfl) ?_
    refine lv_iconst (v := 0) hx hb dL_greed_289 (by decide) ?_
    refine lv_iconst (v := 0) hx hb dL_greed_290 (by decide) ?_
    refine lv_bipush (v := 36) hx hb dL_greed_291 (by decide) ?_
    obtain ⟨q6, hq6, hf⟩ := ob_some hf
    refine lc_M (As := [.ref (a 0), .int 0, .int 0, .int 36]) (rest := []) ⟨hx, hb, hml, hown, hts⟩ (k_L_share l hfl dC dI cA a q4.2 0 0 36 _ hq6 hap) gL_greed_L_share rfl rfl rfl cd_L_share (Nat.le_of_ble_eq_true rfl) (Nat.le_of_ble_eq_true rfl) (preLsH hK hP hE hN hS hA) rfl hl.1 rfl (Nat.le_of_ble_eq_true rfl) (by show (C + 2) + 2 ≤ 60; omega) (by show (Z + 12) + 12 ≤ 360; omega) dL_greed_293 hS hA (fun H locs hP hS => ?_)
    refine lv_if_eq (tgt := 388) hx hb dL_greed_296 (by decide) (fun c7 => ?_) (fun c7 => ?_)
    · exact absurd c7 (by decide)
    refine lv_aload_n hx hb dL_greed_299 rfl (lv_at hl 0 rfl) ?_
    refine lv_iconst (v := 0) hx hb dL_greed_300 (by decide) ?_
    refine lv_iconst (v := 1) hx hb dL_greed_301 (by decide) ?_
    refine lv_bipush (v := 24) hx hb dL_greed_302 (by decide) ?_
    obtain ⟨q8, hq8, hf⟩ := ob_some hf
    refine lc_M (As := [.ref (a 0), .int 0, .int 1, .int 24]) (rest := []) ⟨hx, hb, hml, hown, hts⟩ (k_L_share l hfl dC dI cA a q6 0 1 24 _ hq8 hap) gL_greed_L_share rfl rfl rfl cd_L_share (Nat.le_of_ble_eq_true rfl) (Nat.le_of_ble_eq_true rfl) (preLsH hK hP hE hN hS hA) rfl hl.1 rfl (Nat.le_of_ble_eq_true rfl) (by show (C + 4) + 2 ≤ 60; omega) (by show (Z + 24) + 12 ≤ 360; omega) dL_greed_304 hS hA (fun H locs hP hS => ?_)
    refine lv_if_eq (tgt := 388) hx hb dL_greed_307 (by decide) (fun c9 => ?_) (fun c9 => ?_)
    · exact absurd c9 (by decide)
    refine lv_aload_n hx hb dL_greed_310 rfl (lv_at hl 0 rfl) ?_
    refine lv_iconst (v := 0) hx hb dL_greed_311 (by decide) ?_
    refine lv_iconst (v := 2) hx hb dL_greed_312 (by decide) ?_
    refine lv_bipush (v := 12) hx hb dL_greed_313 (by decide) ?_
    obtain ⟨q10, hq10, hf⟩ := ob_some hf
    refine lc_M (As := [.ref (a 0), .int 0, .int 2, .int 12]) (rest := []) ⟨hx, hb, hml, hown, hts⟩ (k_L_share l hfl dC dI cA a q8 0 2 12 _ hq10 hap) gL_greed_L_share rfl rfl rfl cd_L_share (Nat.le_of_ble_eq_true rfl) (Nat.le_of_ble_eq_true rfl) (preLsH hK hP hE hN hS hA) rfl hl.1 rfl (Nat.le_of_ble_eq_true rfl) (by show (C + 6) + 2 ≤ 60; omega) (by show (Z + 36) + 12 ≤ 360; omega) dL_greed_315 hS hA (fun H locs hP hS => ?_)
    refine lv_if_eq (tgt := 388) hx hb dL_greed_318 (by decide) (fun c11 => ?_) (fun c11 => ?_)
    · exact absurd c11 (by decide)
    refine lv_aload_n hx hb dL_greed_321 rfl (lv_at hl 0 rfl) ?_
    refine lv_iconst (v := 0) hx hb dL_greed_322 (by decide) ?_
    refine lv_iconst (v := 3) hx hb dL_greed_323 (by decide) ?_
    refine lv_bipush (v := 24) hx hb dL_greed_324 (by decide) ?_
    obtain ⟨q12, hq12, hf⟩ := ob_some hf
    refine lc_M (As := [.ref (a 0), .int 0, .int 3, .int 24]) (rest := []) ⟨hx, hb, hml, hown, hts⟩ (k_L_share l hfl dC dI cA a q10 0 3 24 _ hq12 hap) gL_greed_L_share rfl rfl rfl cd_L_share (Nat.le_of_ble_eq_true rfl) (Nat.le_of_ble_eq_true rfl) (preLsH hK hP hE hN hS hA) rfl hl.1 rfl (Nat.le_of_ble_eq_true rfl) (by show (C + 8) + 2 ≤ 60; omega) (by show (Z + 48) + 12 ≤ 360; omega) dL_greed_326 hS hA (fun H locs hP hS => ?_)
    refine lv_if_eq (tgt := 388) hx hb dL_greed_329 (by decide) (fun c13 => ?_) (fun c13 => ?_)
    · exact absurd c13 (by decide)
    refine lv_aload_n hx hb dL_greed_332 rfl (lv_at hl 0 rfl) ?_
    refine lv_iconst (v := 2) hx hb dL_greed_333 (by decide) ?_
    refine lv_iconst (v := 0) hx hb dL_greed_334 (by decide) ?_
    refine lv_bipush (v := (-96)) hx hb dL_greed_335 (by decide) ?_
    obtain ⟨q14, hq14, hf⟩ := ob_some hf
    refine lc_M (As := [.ref (a 0), .int 2, .int 0, .int (-96)]) (rest := []) ⟨hx, hb, hml, hown, hts⟩ (k_L_share l hfl dC dI cA a q12 2 0 (-96) _ hq14 hap) gL_greed_L_share rfl rfl rfl cd_L_share (Nat.le_of_ble_eq_true rfl) (Nat.le_of_ble_eq_true rfl) (preLsH hK hP hE hN hS hA) rfl hl.1 rfl (Nat.le_of_ble_eq_true rfl) (by show (C + 10) + 2 ≤ 60; omega) (by show (Z + 60) + 12 ≤ 360; omega) dL_greed_337 hS hA (fun H locs hP hS => ?_)
    refine lv_if_eq (tgt := 388) hx hb dL_greed_340 (by decide) (fun c15 => ?_) (fun c15 => ?_)
    · exact absurd c15 (by decide)
    refine lv_aload_n hx hb dL_greed_343 rfl (lv_at hl 0 rfl) ?_
    refine lv_iconst (v := 2) hx hb dL_greed_344 (by decide) ?_
    refine lv_iconst (v := 3) hx hb dL_greed_345 (by decide) ?_
    refine lv_iconst (v := 0) hx hb dL_greed_346 (by decide) ?_
    obtain ⟨q16, hq16, hf⟩ := ob_some hf
    refine lc_M (As := [.ref (a 0), .int 2, .int 3, .int 0]) (rest := []) ⟨hx, hb, hml, hown, hts⟩ (k_L_share l hfl dC dI cA a q14 2 3 0 _ hq16 hap) gL_greed_L_share rfl rfl rfl cd_L_share (Nat.le_of_ble_eq_true rfl) (Nat.le_of_ble_eq_true rfl) (preLsH hK hP hE hN hS hA) rfl hl.1 rfl (Nat.le_of_ble_eq_true rfl) (by show (C + 12) + 2 ≤ 60; omega) (by show (Z + 72) + 12 ≤ 360; omega) dL_greed_347 hS hA (fun H locs hP hS => ?_)
    refine lv_if_eq (tgt := 388) hx hb dL_greed_350 (by decide) (fun c17 => ?_) (fun c17 => ?_)
    · exact absurd c17 (by decide)
    refine lv_aload_n hx hb dL_greed_353 rfl (lv_at hl 0 rfl) ?_
    refine lv_iconst (v := 1) hx hb dL_greed_354 (by decide) ?_
    refine lv_iconst (v := 2) hx hb dL_greed_355 (by decide) ?_
    refine lv_iconst (v := 0) hx hb dL_greed_356 (by decide) ?_
    obtain ⟨q18, hq18, hf⟩ := ob_some hf
    refine lc_M (As := [.ref (a 0), .int 1, .int 2, .int 0]) (rest := []) ⟨hx, hb, hml, hown, hts⟩ (k_L_share l hfl dC dI cA a q16 1 2 0 _ hq18 hap) gL_greed_L_share rfl rfl rfl cd_L_share (Nat.le_of_ble_eq_true rfl) (Nat.le_of_ble_eq_true rfl) (preLsH hK hP hE hN hS hA) rfl hl.1 rfl (Nat.le_of_ble_eq_true rfl) (by show (C + 14) + 2 ≤ 60; omega) (by show (Z + 84) + 12 ≤ 360; omega) dL_greed_357 hS hA (fun H locs hP hS => ?_)
    refine lv_if_eq (tgt := 388) hx hb dL_greed_360 (by decide) (fun c19 => ?_) (fun c19 => ?_)
    · exact absurd c19 (by decide)
    exact hW363 (C + 16) (Z + 96) q18 _ _ ls (by omega) (by omega) hf hP hS (lv_sub hl [0] rfl)
  have hW187 : ∀ (C Z : Nat) (S : St) (H : Heap) (locs : List Loc) (ls : Array Slot), C + (26) ≤ 60 → Z + (156) ≤ 360 → f_L_greed_187 S = some r → va_P (dC, dI) vwCl (wX cA a S) H → va_S (ad a 10) s.heap H locs → lv_has ls 1 [(0, .ref (a 0))] → W p l e (headSpec wsL_greed ({ frames := 13, cells := 60, slots := 360, locals := 335 })).room s m ([.ref (a 0)] : List Value).toArray below meth c H locs C Z (MQ below (mXi (dC, dI) cA a 1 r) ([.ref (a 0)] : List Value).toArray s 60 360 (ad a 10)) (F0 m 187 ls []) := by
    intro C Z S H locs ls hC hZ hf hP hS hl
    unfold f_L_greed_187 at hf
    refine lv_aload_n hx hb dL_greed_187 rfl (lv_at hl 0 rfl) ?_
    refine lv_iconst (v := 1) hx hb dL_greed_188 (by decide) ?_
    refine lv_iconst (v := 0) hx hb dL_greed_189 (by decide) ?_
    refine lv_iconst (v := 3) hx hb dL_greed_190 (by decide) ?_
    obtain ⟨v1, S2, hv1, hf⟩ := xv_some hf
    refine lc_P (As := [.int 1, .int 0, .int 3]) (rest := []) ⟨hx, hb, hml, hown, hts⟩ (k_X0_colour l dC dI cA a S 1 0 3 _ hv1 hap hfl) gL_greed_X0_colour rfl rfl rfl cd_X0_colour (Nat.le_of_ble_eq_true rfl) (Nat.le_of_ble_eq_true rfl) (preTsH hK hP hE hS hA) rfl hl.1 rfl (Nat.le_of_ble_eq_true rfl) (by show C + 1 ≤ 60; omega) (by show Z + 6 ≤ 360; omega) dL_greed_191 hS hA (fun H locs hP hS => ?_)
    refine lv_if_ne (tgt := 388) hx hb dL_greed_194 (by decide) (fun c3 => ?_) (fun c3 => ?_)
    · rw [if_neg c3] at hf; cases hf
    rw [if_pos c3] at hf
    refine lv_aload_n hx hb dL_greed_197 rfl (lv_at hl 0 rfl) ?_
    refine lv_iconst (v := 1) hx hb dL_greed_198 (by decide) ?_
    refine lv_iconst (v := 2) hx hb dL_greed_199 (by decide) ?_
    refine lv_iconst (v := 4) hx hb dL_greed_200 (by decide) ?_
    obtain ⟨v4, S5, hv4, hf⟩ := xv_some hf
    refine lc_P (As := [.int 1, .int 2, .int 4]) (rest := []) ⟨hx, hb, hml, hown, hts⟩ (k_X0_colour l dC dI cA a S2 1 2 4 _ hv4 hap hfl) gL_greed_X0_colour rfl rfl rfl cd_X0_colour (Nat.le_of_ble_eq_true rfl) (Nat.le_of_ble_eq_true rfl) (preTsH hK hP hE hS hA) rfl hl.1 rfl (Nat.le_of_ble_eq_true rfl) (by show (C + 1) + 1 ≤ 60; omega) (by show (Z + 6) + 6 ≤ 360; omega) dL_greed_201 hS hA (fun H locs hP hS => ?_)
    refine lv_if_ne (tgt := 388) hx hb dL_greed_204 (by decide) (fun c6 => ?_) (fun c6 => ?_)
    · rw [if_neg c6] at hf; cases hf
    rw [if_pos c6] at hf
    refine lv_aload_n hx hb dL_greed_207 rfl (lv_at hl 0 rfl) ?_
    obtain ⟨q7, hq7, hf⟩ := ob_some hf
    refine lc_V (mc := 0) (ms := 0) (As := []) (rest := []) ⟨hx, hb, hml, hown, hts⟩ (k_X0_common l dC dI cA a S5 _ hq7 hap) gL_greed_X0_common rfl rfl rfl cd_X0_common (Nat.le_of_ble_eq_true rfl) (Nat.le_of_ble_eq_true rfl) (preX hK hP) rfl hl.1 rfl (Nat.le_of_ble_eq_true rfl) (by show (C + 2) + 0 ≤ 60; omega) (by show (Z + 12) + 0 ≤ 360; omega) dL_greed_208 hS hA (fun H locs hP hS => ?_)
    refine lv_iconst (v := 3) hx hb dL_greed_211 (by decide) ?_
    refine lv_icmp_ne (tgt := 388) hx hb dL_greed_212 (by decide) (fun c8 => ?_) (fun c8 => ?_)
    · rw [if_neg c8] at hf; cases hf
    rw [if_pos c8] at hf
    refine lv_aload_n hx hb dL_greed_215 rfl (lv_at hl 0 rfl) ?_
    obtain ⟨v9, hv9, hf⟩ := ob_some hf
    refine pu_V (As := []) (rest := []) ⟨hx, hb, hml, hown, hts⟩ (k_X0_commonAnew l dC dI cA a q7.2 _ hv9) gL_greed_X0_commonAnew rfl rfl rfl cd_X0_commonAnew (Nat.le_of_ble_eq_true rfl) (Nat.le_of_ble_eq_true rfl) (preX hK hP) rfl hl.1 rfl (Nat.le_of_ble_eq_true rfl) (by show (C + 2) ≤ 60; omega) (by show (Z + 12) ≤ 360; omega) dL_greed_216 ?_
    refine lv_iconst (v := 3) hx hb dL_greed_219 (by decide) ?_
    refine lv_icmp_ne (tgt := 388) hx hb dL_greed_220 (by decide) (fun c10 => ?_) (fun c10 => ?_)
    · rw [if_neg c10] at hf; cases hf
    rw [if_pos c10] at hf
    refine lv_aload_n hx hb dL_greed_223 rfl (lv_at hl 0 rfl) ?_
    refine lv_iconst (v := 1) hx hb dL_greed_224 (by decide) ?_
    refine lv_iconst (v := 0) hx hb dL_greed_225 (by decide) ?_
    refine lv_iconst (v := 2) hx hb dL_greed_226 (by decide) ?_
    obtain ⟨v11, S12, hv11, hf⟩ := xv_some hf
    refine lc_P (As := [.int 1, .int 0, .int 2]) (rest := []) ⟨hx, hb, hml, hown, hts⟩ (k_X0_room l dC dI cA a q7.2 1 0 2 _ hv11 hap hfl) gL_greed_X0_room rfl rfl rfl cd_X0_room (Nat.le_of_ble_eq_true rfl) (Nat.le_of_ble_eq_true rfl) (preTsH hK hP hE hS hA) rfl hl.1 rfl (Nat.le_of_ble_eq_true rfl) (by show (C + 2) + 2 ≤ 60; omega) (by show (Z + 12) + 12 ≤ 360; omega) dL_greed_227 hS hA (fun H locs hP hS => ?_)
    refine lv_iconst (v := 1) hx hb dL_greed_230 (by decide) ?_
    refine lv_icmp_ne (tgt := 388) hx hb dL_greed_231 (by decide) (fun c13 => ?_) (fun c13 => ?_)
    · rw [if_neg c13] at hf; cases hf
    rw [if_pos c13] at hf
    refine lv_aload_n hx hb dL_greed_234 rfl (lv_at hl 0 rfl) ?_
    obtain ⟨q14, hq14, hf⟩ := ob_some hf
    refine lc_V (mc := 0) (ms := 0) (As := []) (rest := []) ⟨hx, hb, hml, hown, hts⟩ (k_X0_common l dC dI cA a S12 _ hq14 hap) gL_greed_X0_common rfl rfl rfl cd_X0_common (Nat.le_of_ble_eq_true rfl) (Nat.le_of_ble_eq_true rfl) (preX hK hP) rfl hl.1 rfl (Nat.le_of_ble_eq_true rfl) (by show (C + 4) + 0 ≤ 60; omega) (by show (Z + 24) + 0 ≤ 360; omega) dL_greed_235 hS hA (fun H locs hP hS => ?_)
    refine lv_iconst (v := 3) hx hb dL_greed_238 (by decide) ?_
    refine lv_icmp_ne (tgt := 388) hx hb dL_greed_239 (by decide) (fun c15 => ?_) (fun c15 => ?_)
    · rw [if_neg c15] at hf; cases hf
    rw [if_pos c15] at hf
    refine lv_aload_n hx hb dL_greed_242 rfl (lv_at hl 0 rfl) ?_
    refine lv_iconst (v := 0) hx hb dL_greed_243 (by decide) ?_
    refine lv_iconst (v := 2) hx hb dL_greed_244 (by decide) ?_
    refine lv_iconst (v := 2) hx hb dL_greed_245 (by decide) ?_
    obtain ⟨v16, S17, hv16, hf⟩ := xv_some hf
    refine lc_P (As := [.int 0, .int 2, .int 2]) (rest := []) ⟨hx, hb, hml, hown, hts⟩ (k_X0_room l dC dI cA a q14.2 0 2 2 _ hv16 hap hfl) gL_greed_X0_room rfl rfl rfl cd_X0_room (Nat.le_of_ble_eq_true rfl) (Nat.le_of_ble_eq_true rfl) (preTsH hK hP hE hS hA) rfl hl.1 rfl (Nat.le_of_ble_eq_true rfl) (by show (C + 4) + 2 ≤ 60; omega) (by show (Z + 24) + 12 ≤ 360; omega) dL_greed_246 hS hA (fun H locs hP hS => ?_)
    refine lv_iconst (v := 1) hx hb dL_greed_249 (by decide) ?_
    refine lv_icmp_ne (tgt := 388) hx hb dL_greed_250 (by decide) (fun c18 => ?_) (fun c18 => ?_)
    · rw [if_neg c18] at hf; cases hf
    rw [if_pos c18] at hf
    refine lv_aload_n hx hb dL_greed_253 rfl (lv_at hl 0 rfl) ?_
    obtain ⟨q19, hq19, hf⟩ := ob_some hf
    refine lc_V (mc := 0) (ms := 0) (As := []) (rest := []) ⟨hx, hb, hml, hown, hts⟩ (k_X0_common l dC dI cA a S17 _ hq19 hap) gL_greed_X0_common rfl rfl rfl cd_X0_common (Nat.le_of_ble_eq_true rfl) (Nat.le_of_ble_eq_true rfl) (preX hK hP) rfl hl.1 rfl (Nat.le_of_ble_eq_true rfl) (by show (C + 6) + 0 ≤ 60; omega) (by show (Z + 36) + 0 ≤ 360; omega) dL_greed_254 hS hA (fun H locs hP hS => ?_)
    refine lv_iconst (v := 4) hx hb dL_greed_257 (by decide) ?_
    refine lv_icmp_ne (tgt := 388) hx hb dL_greed_258 (by decide) (fun c20 => ?_) (fun c20 => ?_)
    · rw [if_neg c20] at hf; cases hf
    rw [if_pos c20] at hf
    refine lv_aload_n hx hb dL_greed_261 rfl (lv_at hl 0 rfl) ?_
    obtain ⟨v21, hv21, hf⟩ := ob_some hf
    refine pu_V (As := []) (rest := []) ⟨hx, hb, hml, hown, hts⟩ (k_X0_commonAnew l dC dI cA a q19.2 _ hv21) gL_greed_X0_commonAnew rfl rfl rfl cd_X0_commonAnew (Nat.le_of_ble_eq_true rfl) (Nat.le_of_ble_eq_true rfl) (preX hK hP) rfl hl.1 rfl (Nat.le_of_ble_eq_true rfl) (by show (C + 6) ≤ 60; omega) (by show (Z + 36) ≤ 360; omega) dL_greed_262 ?_
    refine lv_iconst (v := 4) hx hb dL_greed_265 (by decide) ?_
    refine lv_icmp_ne (tgt := 388) hx hb dL_greed_266 (by decide) (fun c22 => ?_) (fun c22 => ?_)
    · rw [if_neg c22] at hf; cases hf
    rw [if_pos c22] at hf
    exact hW269 (C + 6) (Z + 36) q19.2 _ _ ls (by omega) (by omega) hf hP hS (lv_sub hl [0] rfl)
  have hW92 : ∀ (C Z : Nat) (S : St) (H : Heap) (locs : List Loc) (ls : Array Slot), C + (42) ≤ 60 → Z + (252) ≤ 360 → f_L_greed_92 S = some r → va_P (dC, dI) vwCl (wX cA a S) H → va_S (ad a 10) s.heap H locs → lv_has ls 1 [(0, .ref (a 0))] → W p l e (headSpec wsL_greed ({ frames := 13, cells := 60, slots := 360, locals := 335 })).room s m ([.ref (a 0)] : List Value).toArray below meth c H locs C Z (MQ below (mXi (dC, dI) cA a 1 r) ([.ref (a 0)] : List Value).toArray s 60 360 (ad a 10)) (F0 m 92 ls []) := by
    intro C Z S H locs ls hC hZ hf hP hS hl
    unfold f_L_greed_92 at hf
    refine lv_aload_n hx hb dL_greed_92 rfl (lv_at hl 0 rfl) ?_
    refine lv_iconst (v := 1) hx hb dL_greed_93 (by decide) ?_
    refine lv_iconst (v := 1) hx hb dL_greed_94 (by decide) ?_
    obtain ⟨v1, S2, hv1, hf⟩ := xv_some hf
    refine lc_P (As := [.int 1, .int 1]) (rest := []) ⟨hx, hb, hml, hown, hts⟩ (k_X0_best l dC dI cA a S 1 1 _ hv1 hap hfl) gL_greed_X0_best rfl rfl rfl cd_X0_best (Nat.le_of_ble_eq_true rfl) (Nat.le_of_ble_eq_true rfl) (preTsH hK hP hE hS hA) rfl hl.1 rfl (Nat.le_of_ble_eq_true rfl) (by show C + 2 ≤ 60; omega) (by show Z + 12 ≤ 360; omega) dL_greed_95 hS hA (fun H locs hP hS => ?_)
    refine lv_bipush (v := 8) hx hb dL_greed_98 (by decide) ?_
    refine lv_icmp_ne (tgt := 177) hx hb dL_greed_100 (by decide) (fun c3 => ?_) (fun c3 => ?_)
    · rw [if_neg c3] at hf; cases hf
    rw [if_pos c3] at hf
    refine lv_aload_n hx hb dL_greed_103 rfl (lv_at hl 0 rfl) ?_
    refine lv_iconst (v := 1) hx hb dL_greed_104 (by decide) ?_
    refine lv_bipush (v := 6) hx hb dL_greed_105 (by decide) ?_
    obtain ⟨v4, S5, hv4, hf⟩ := xv_some hf
    refine lc_P (As := [.int 1, .int 6]) (rest := []) ⟨hx, hb, hml, hown, hts⟩ (k_X0_best l dC dI cA a S2 1 6 _ hv4 hap hfl) gL_greed_X0_best rfl rfl rfl cd_X0_best (Nat.le_of_ble_eq_true rfl) (Nat.le_of_ble_eq_true rfl) (preTsH hK hP hE hS hA) rfl hl.1 rfl (Nat.le_of_ble_eq_true rfl) (by show (C + 2) + 2 ≤ 60; omega) (by show (Z + 12) + 12 ≤ 360; omega) dL_greed_107 hS hA (fun H locs hP hS => ?_)
    refine lv_bipush (v := 10) hx hb dL_greed_110 (by decide) ?_
    refine lv_icmp_ne (tgt := 177) hx hb dL_greed_112 (by decide) (fun c6 => ?_) (fun c6 => ?_)
    · rw [if_neg c6] at hf; cases hf
    rw [if_pos c6] at hf
    refine lv_aload_n hx hb dL_greed_115 rfl (lv_at hl 0 rfl) ?_
    refine lv_iconst (v := 2) hx hb dL_greed_116 (by decide) ?_
    refine lv_iconst (v := 4) hx hb dL_greed_117 (by decide) ?_
    obtain ⟨v7, S8, hv7, hf⟩ := xv_some hf
    refine lc_P (As := [.int 2, .int 4]) (rest := []) ⟨hx, hb, hml, hown, hts⟩ (k_X0_greedy l dC dI cA a S5 2 4 _ hv7 hap hfl) gL_greed_X0_greedy rfl rfl rfl cd_X0_greedy (Nat.le_of_ble_eq_true rfl) (Nat.le_of_ble_eq_true rfl) (preTsH hK hP hE hS hA) rfl hl.1 rfl (Nat.le_of_ble_eq_true rfl) (by show (C + 4) + 2 ≤ 60; omega) (by show (Z + 24) + 12 ≤ 360; omega) dL_greed_118 hS hA (fun H locs hP hS => ?_)
    refine lv_iconst (v := 2) hx hb dL_greed_121 (by decide) ?_
    refine lv_icmp_ne (tgt := 177) hx hb dL_greed_122 (by decide) (fun c9 => ?_) (fun c9 => ?_)
    · rw [if_neg c9] at hf; cases hf
    rw [if_pos c9] at hf
    refine lv_aload_n hx hb dL_greed_125 rfl (lv_at hl 0 rfl) ?_
    refine lv_iconst (v := 2) hx hb dL_greed_126 (by decide) ?_
    refine lv_iconst (v := 5) hx hb dL_greed_127 (by decide) ?_
    obtain ⟨v10, S11, hv10, hf⟩ := xv_some hf
    refine lc_P (As := [.int 2, .int 5]) (rest := []) ⟨hx, hb, hml, hown, hts⟩ (k_X0_best l dC dI cA a S8 2 5 _ hv10 hap hfl) gL_greed_X0_best rfl rfl rfl cd_X0_best (Nat.le_of_ble_eq_true rfl) (Nat.le_of_ble_eq_true rfl) (preTsH hK hP hE hS hA) rfl hl.1 rfl (Nat.le_of_ble_eq_true rfl) (by show (C + 6) + 2 ≤ 60; omega) (by show (Z + 36) + 12 ≤ 360; omega) dL_greed_128 hS hA (fun H locs hP hS => ?_)
    refine lv_iconst (v := 3) hx hb dL_greed_131 (by decide) ?_
    refine lv_icmp_ne (tgt := 177) hx hb dL_greed_132 (by decide) (fun c12 => ?_) (fun c12 => ?_)
    · rw [if_neg c12] at hf; cases hf
    rw [if_pos c12] at hf
    refine lv_aload_n hx hb dL_greed_135 rfl (lv_at hl 0 rfl) ?_
    refine lv_bipush (v := 6) hx hb dL_greed_136 (by decide) ?_
    refine lv_iconst (v := 3) hx hb dL_greed_138 (by decide) ?_
    obtain ⟨v13, S14, hv13, hf⟩ := xv_some hf
    refine lc_P (As := [.int 6, .int 3]) (rest := []) ⟨hx, hb, hml, hown, hts⟩ (k_X0_greedy l dC dI cA a S11 6 3 _ hv13 hap hfl) gL_greed_X0_greedy rfl rfl rfl cd_X0_greedy (Nat.le_of_ble_eq_true rfl) (Nat.le_of_ble_eq_true rfl) (preTsH hK hP hE hS hA) rfl hl.1 rfl (Nat.le_of_ble_eq_true rfl) (by show (C + 8) + 2 ≤ 60; omega) (by show (Z + 48) + 12 ≤ 360; omega) dL_greed_139 hS hA (fun H locs hP hS => ?_)
    refine lv_if_ne (tgt := 177) hx hb dL_greed_142 (by decide) (fun c15 => ?_) (fun c15 => ?_)
    · rw [if_neg c15] at hf; cases hf
    rw [if_pos c15] at hf
    refine lv_aload_n hx hb dL_greed_145 rfl (lv_at hl 0 rfl) ?_
    refine lv_bipush (v := 6) hx hb dL_greed_146 (by decide) ?_
    refine lv_iconst (v := 3) hx hb dL_greed_148 (by decide) ?_
    obtain ⟨v16, S17, hv16, hf⟩ := xv_some hf
    refine lc_P (As := [.int 6, .int 3]) (rest := []) ⟨hx, hb, hml, hown, hts⟩ (k_X0_best l dC dI cA a S14 6 3 _ hv16 hap hfl) gL_greed_X0_best rfl rfl rfl cd_X0_best (Nat.le_of_ble_eq_true rfl) (Nat.le_of_ble_eq_true rfl) (preTsH hK hP hE hS hA) rfl hl.1 rfl (Nat.le_of_ble_eq_true rfl) (by show (C + 10) + 2 ≤ 60; omega) (by show (Z + 60) + 12 ≤ 360; omega) dL_greed_149 hS hA (fun H locs hP hS => ?_)
    refine lv_if_ne (tgt := 177) hx hb dL_greed_152 (by decide) (fun c18 => ?_) (fun c18 => ?_)
    · rw [if_neg c18] at hf; cases hf
    rw [if_pos c18] at hf
    refine lv_aload_n hx hb dL_greed_155 rfl (lv_at hl 0 rfl) ?_
    refine lv_iconst (v := 4) hx hb dL_greed_156 (by decide) ?_
    refine lv_bipush (v := 6) hx hb dL_greed_157 (by decide) ?_
    obtain ⟨v19, S20, hv19, hf⟩ := xv_some hf
    refine lc_P (As := [.int 4, .int 6]) (rest := []) ⟨hx, hb, hml, hown, hts⟩ (k_X0_greedy l dC dI cA a S17 4 6 _ hv19 hap hfl) gL_greed_X0_greedy rfl rfl rfl cd_X0_greedy (Nat.le_of_ble_eq_true rfl) (Nat.le_of_ble_eq_true rfl) (preTsH hK hP hE hS hA) rfl hl.1 rfl (Nat.le_of_ble_eq_true rfl) (by show (C + 12) + 2 ≤ 60; omega) (by show (Z + 72) + 12 ≤ 360; omega) dL_greed_159 hS hA (fun H locs hP hS => ?_)
    refine lv_iconst (v := 4) hx hb dL_greed_162 (by decide) ?_
    refine lv_icmp_ne (tgt := 177) hx hb dL_greed_163 (by decide) (fun c21 => ?_) (fun c21 => ?_)
    · rw [if_neg c21] at hf; cases hf
    rw [if_pos c21] at hf
    refine lv_aload_n hx hb dL_greed_166 rfl (lv_at hl 0 rfl) ?_
    refine lv_iconst (v := 4) hx hb dL_greed_167 (by decide) ?_
    refine lv_bipush (v := 6) hx hb dL_greed_168 (by decide) ?_
    obtain ⟨v22, S23, hv22, hf⟩ := xv_some hf
    refine lc_P (As := [.int 4, .int 6]) (rest := []) ⟨hx, hb, hml, hown, hts⟩ (k_X0_best l dC dI cA a S20 4 6 _ hv22 hap hfl) gL_greed_X0_best rfl rfl rfl cd_X0_best (Nat.le_of_ble_eq_true rfl) (Nat.le_of_ble_eq_true rfl) (preTsH hK hP hE hS hA) rfl hl.1 rfl (Nat.le_of_ble_eq_true rfl) (by show (C + 14) + 2 ≤ 60; omega) (by show (Z + 84) + 12 ≤ 360; omega) dL_greed_170 hS hA (fun H locs hP hS => ?_)
    refine lv_iconst (v := 3) hx hb dL_greed_173 (by decide) ?_
    refine lv_icmp_eq (tgt := 179) hx hb dL_greed_174 (by decide) (fun c24 => ?_) (fun c24 => ?_)
    · rw [if_pos c24] at hf
      refine lv_aload_n hx hb dL_greed_179 rfl (lv_at hl 0 rfl) ?_
      obtain ⟨q25, hq25, hf⟩ := ob_some hf
      refine lc_V (mc := 0) (ms := 0) (As := []) (rest := []) ⟨hx, hb, hml, hown, hts⟩ (k_X0_common l dC dI cA a S23 _ hq25 hap) gL_greed_X0_common rfl rfl rfl cd_X0_common (Nat.le_of_ble_eq_true rfl) (Nat.le_of_ble_eq_true rfl) (preX hK hP) rfl hl.1 rfl (Nat.le_of_ble_eq_true rfl) (by show (C + 16) + 0 ≤ 60; omega) (by show (Z + 96) + 0 ≤ 360; omega) dL_greed_180 hS hA (fun H locs hP hS => ?_)
      refine lv_iconst (v := 1) hx hb dL_greed_183 (by decide) ?_
      refine lv_icmp_ne (tgt := 388) hx hb dL_greed_184 (by decide) (fun c26 => ?_) (fun c26 => ?_)
      · rw [if_neg c26] at hf; cases hf
      rw [if_pos c26] at hf
      exact hW187 (C + 16) (Z + 96) q25.2 _ _ ls (by omega) (by omega) hf hP hS (lv_sub hl [0] rfl)
    · rw [if_neg c24] at hf
      refine lv_iconst (v := 0) hx hb dL_greed_177 (by decide) ?_
      cases hf
  unfold f_L_greed at hf
  refine lv_aload_n hx hb dL_greed_0 rfl (lv_at hl 0 rfl) ?_
  refine lv_iconst (v := 0) hx hb dL_greed_1 (by decide) ?_
  refine lv_iconst (v := 0) hx hb dL_greed_2 (by decide) ?_
  obtain ⟨v1, S2, hv1, hf⟩ := xv_some hf
  refine lc_P (As := [.int 0, .int 0]) (rest := []) ⟨hx, hb, hml, hown, hts⟩ (k_X0_greedy l dC dI cA a S 0 0 _ hv1 hap hfl) gL_greed_X0_greedy rfl rfl rfl cd_X0_greedy (Nat.le_of_ble_eq_true rfl) (Nat.le_of_ble_eq_true rfl) (preTsH hK hP hE hS hA) rfl hl.1 rfl (Nat.le_of_ble_eq_true rfl) (by show 0 + 2 ≤ 60; omega) (by show 0 + 12 ≤ 360; omega) dL_greed_3 hS hA (fun H locs hP hS => ?_)
  refine lv_if_ne (tgt := 177) hx hb dL_greed_6 (by decide) (fun c3 => ?_) (fun c3 => ?_)
  · rw [if_neg c3] at hf; cases hf
  rw [if_pos c3] at hf
  refine lv_aload_n hx hb dL_greed_9 rfl (lv_at hl 0 rfl) ?_
  refine lv_iconst (v := 0) hx hb dL_greed_10 (by decide) ?_
  refine lv_iconst (v := 1) hx hb dL_greed_11 (by decide) ?_
  obtain ⟨v4, S5, hv4, hf⟩ := xv_some hf
  refine lc_P (As := [.int 0, .int 1]) (rest := []) ⟨hx, hb, hml, hown, hts⟩ (k_X0_greedy l dC dI cA a S2 0 1 _ hv4 hap hfl) gL_greed_X0_greedy rfl rfl rfl cd_X0_greedy (Nat.le_of_ble_eq_true rfl) (Nat.le_of_ble_eq_true rfl) (preTsH hK hP hE hS hA) rfl hl.1 rfl (Nat.le_of_ble_eq_true rfl) (by show 2 + 2 ≤ 60; omega) (by show 12 + 12 ≤ 360; omega) dL_greed_12 hS hA (fun H locs hP hS => ?_)
  refine lv_iconst (v := 1) hx hb dL_greed_15 (by decide) ?_
  refine lv_icmp_ne (tgt := 177) hx hb dL_greed_16 (by decide) (fun c6 => ?_) (fun c6 => ?_)
  · rw [if_neg c6] at hf; cases hf
  rw [if_pos c6] at hf
  refine lv_aload_n hx hb dL_greed_19 rfl (lv_at hl 0 rfl) ?_
  refine lv_iconst (v := 0) hx hb dL_greed_20 (by decide) ?_
  refine lv_iconst (v := 2) hx hb dL_greed_21 (by decide) ?_
  obtain ⟨v7, S8, hv7, hf⟩ := xv_some hf
  refine lc_P (As := [.int 0, .int 2]) (rest := []) ⟨hx, hb, hml, hown, hts⟩ (k_X0_greedy l dC dI cA a S5 0 2 _ hv7 hap hfl) gL_greed_X0_greedy rfl rfl rfl cd_X0_greedy (Nat.le_of_ble_eq_true rfl) (Nat.le_of_ble_eq_true rfl) (preTsH hK hP hE hS hA) rfl hl.1 rfl (Nat.le_of_ble_eq_true rfl) (by show 4 + 2 ≤ 60; omega) (by show 24 + 12 ≤ 360; omega) dL_greed_22 hS hA (fun H locs hP hS => ?_)
  refine lv_iconst (v := 3) hx hb dL_greed_25 (by decide) ?_
  refine lv_icmp_ne (tgt := 177) hx hb dL_greed_26 (by decide) (fun c9 => ?_) (fun c9 => ?_)
  · rw [if_neg c9] at hf; cases hf
  rw [if_pos c9] at hf
  refine lv_aload_n hx hb dL_greed_29 rfl (lv_at hl 0 rfl) ?_
  refine lv_iconst (v := 0) hx hb dL_greed_30 (by decide) ?_
  refine lv_bipush (v := 6) hx hb dL_greed_31 (by decide) ?_
  obtain ⟨v10, S11, hv10, hf⟩ := xv_some hf
  refine lc_P (As := [.int 0, .int 6]) (rest := []) ⟨hx, hb, hml, hown, hts⟩ (k_X0_greedy l dC dI cA a S8 0 6 _ hv10 hap hfl) gL_greed_X0_greedy rfl rfl rfl cd_X0_greedy (Nat.le_of_ble_eq_true rfl) (Nat.le_of_ble_eq_true rfl) (preTsH hK hP hE hS hA) rfl hl.1 rfl (Nat.le_of_ble_eq_true rfl) (by show 6 + 2 ≤ 60; omega) (by show 36 + 12 ≤ 360; omega) dL_greed_33 hS hA (fun H locs hP hS => ?_)
  refine lv_bipush (v := 11) hx hb dL_greed_36 (by decide) ?_
  refine lv_icmp_ne (tgt := 177) hx hb dL_greed_38 (by decide) (fun c12 => ?_) (fun c12 => ?_)
  · rw [if_neg c12] at hf; cases hf
  rw [if_pos c12] at hf
  refine lv_aload_n hx hb dL_greed_41 rfl (lv_at hl 0 rfl) ?_
  refine lv_iconst (v := 0) hx hb dL_greed_42 (by decide) ?_
  refine lv_iconst (v := 0) hx hb dL_greed_43 (by decide) ?_
  obtain ⟨v13, S14, hv13, hf⟩ := xv_some hf
  refine lc_P (As := [.int 0, .int 0]) (rest := []) ⟨hx, hb, hml, hown, hts⟩ (k_X0_best l dC dI cA a S11 0 0 _ hv13 hap hfl) gL_greed_X0_best rfl rfl rfl cd_X0_best (Nat.le_of_ble_eq_true rfl) (Nat.le_of_ble_eq_true rfl) (preTsH hK hP hE hS hA) rfl hl.1 rfl (Nat.le_of_ble_eq_true rfl) (by show 8 + 2 ≤ 60; omega) (by show 48 + 12 ≤ 360; omega) dL_greed_44 hS hA (fun H locs hP hS => ?_)
  refine lv_if_ne (tgt := 177) hx hb dL_greed_47 (by decide) (fun c15 => ?_) (fun c15 => ?_)
  · rw [if_neg c15] at hf; cases hf
  rw [if_pos c15] at hf
  refine lv_aload_n hx hb dL_greed_50 rfl (lv_at hl 0 rfl) ?_
  refine lv_iconst (v := 0) hx hb dL_greed_51 (by decide) ?_
  refine lv_iconst (v := 1) hx hb dL_greed_52 (by decide) ?_
  obtain ⟨v16, S17, hv16, hf⟩ := xv_some hf
  refine lc_P (As := [.int 0, .int 1]) (rest := []) ⟨hx, hb, hml, hown, hts⟩ (k_X0_best l dC dI cA a S14 0 1 _ hv16 hap hfl) gL_greed_X0_best rfl rfl rfl cd_X0_best (Nat.le_of_ble_eq_true rfl) (Nat.le_of_ble_eq_true rfl) (preTsH hK hP hE hS hA) rfl hl.1 rfl (Nat.le_of_ble_eq_true rfl) (by show 10 + 2 ≤ 60; omega) (by show 60 + 12 ≤ 360; omega) dL_greed_53 hS hA (fun H locs hP hS => ?_)
  refine lv_iconst (v := 2) hx hb dL_greed_56 (by decide) ?_
  refine lv_icmp_ne (tgt := 177) hx hb dL_greed_57 (by decide) (fun c18 => ?_) (fun c18 => ?_)
  · rw [if_neg c18] at hf; cases hf
  rw [if_pos c18] at hf
  refine lv_aload_n hx hb dL_greed_60 rfl (lv_at hl 0 rfl) ?_
  refine lv_iconst (v := 0) hx hb dL_greed_61 (by decide) ?_
  refine lv_iconst (v := 2) hx hb dL_greed_62 (by decide) ?_
  obtain ⟨v19, S20, hv19, hf⟩ := xv_some hf
  refine lc_P (As := [.int 0, .int 2]) (rest := []) ⟨hx, hb, hml, hown, hts⟩ (k_X0_best l dC dI cA a S17 0 2 _ hv19 hap hfl) gL_greed_X0_best rfl rfl rfl cd_X0_best (Nat.le_of_ble_eq_true rfl) (Nat.le_of_ble_eq_true rfl) (preTsH hK hP hE hS hA) rfl hl.1 rfl (Nat.le_of_ble_eq_true rfl) (by show 12 + 2 ≤ 60; omega) (by show 72 + 12 ≤ 360; omega) dL_greed_63 hS hA (fun H locs hP hS => ?_)
  refine lv_iconst (v := 3) hx hb dL_greed_66 (by decide) ?_
  refine lv_icmp_ne (tgt := 177) hx hb dL_greed_67 (by decide) (fun c21 => ?_) (fun c21 => ?_)
  · rw [if_neg c21] at hf; cases hf
  rw [if_pos c21] at hf
  refine lv_aload_n hx hb dL_greed_70 rfl (lv_at hl 0 rfl) ?_
  refine lv_iconst (v := 0) hx hb dL_greed_71 (by decide) ?_
  refine lv_iconst (v := 3) hx hb dL_greed_72 (by decide) ?_
  obtain ⟨v22, S23, hv22, hf⟩ := xv_some hf
  refine lc_P (As := [.int 0, .int 3]) (rest := []) ⟨hx, hb, hml, hown, hts⟩ (k_X0_best l dC dI cA a S20 0 3 _ hv22 hap hfl) gL_greed_X0_best rfl rfl rfl cd_X0_best (Nat.le_of_ble_eq_true rfl) (Nat.le_of_ble_eq_true rfl) (preTsH hK hP hE hS hA) rfl hl.1 rfl (Nat.le_of_ble_eq_true rfl) (by show 14 + 2 ≤ 60; omega) (by show 84 + 12 ≤ 360; omega) dL_greed_73 hS hA (fun H locs hP hS => ?_)
  refine lv_iconst (v := 4) hx hb dL_greed_76 (by decide) ?_
  refine lv_icmp_ne (tgt := 177) hx hb dL_greed_77 (by decide) (fun c24 => ?_) (fun c24 => ?_)
  · rw [if_neg c24] at hf; cases hf
  rw [if_pos c24] at hf
  refine lv_aload_n hx hb dL_greed_80 rfl (lv_at hl 0 rfl) ?_
  refine lv_iconst (v := 1) hx hb dL_greed_81 (by decide) ?_
  refine lv_bipush (v := 6) hx hb dL_greed_82 (by decide) ?_
  obtain ⟨v25, S26, hv25, hf⟩ := xv_some hf
  refine lc_P (As := [.int 1, .int 6]) (rest := []) ⟨hx, hb, hml, hown, hts⟩ (k_X0_greedy l dC dI cA a S23 1 6 _ hv25 hap hfl) gL_greed_X0_greedy rfl rfl rfl cd_X0_greedy (Nat.le_of_ble_eq_true rfl) (Nat.le_of_ble_eq_true rfl) (preTsH hK hP hE hS hA) rfl hl.1 rfl (Nat.le_of_ble_eq_true rfl) (by show 16 + 2 ≤ 60; omega) (by show 96 + 12 ≤ 360; omega) dL_greed_84 hS hA (fun H locs hP hS => ?_)
  refine lv_bipush (v := 10) hx hb dL_greed_87 (by decide) ?_
  refine lv_icmp_ne (tgt := 177) hx hb dL_greed_89 (by decide) (fun c27 => ?_) (fun c27 => ?_)
  · rw [if_neg c27] at hf; cases hf
  rw [if_pos c27] at hf
  exact hW92 18 108 S26 _ _ ls (by omega) (by omega) hf hP hS (lv_sub hl [0] rfl)

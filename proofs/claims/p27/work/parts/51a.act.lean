def f_L_act_281 (p1 p2 p3 p4 : Int32) (S : St) (s1 : Int32) (s2 : Int32) : Option (Int32 × St) := ((f_X0_leastSetAnew S s1 s2).bind fun q1 => if q1.1 = 0 then some (q1.2.1, q1.2.2) else hd S q1.1)
def f_L_act_257 (p1 p2 p3 p4 : Int32) (S : St) (s1 : Int32) (s2 : Int32) : Option (Int32 × St) := ((f_X0_leastSet S s1 s2).bind fun q1 => if q1.1 = 0 then some (q1.2.1, q1.2.2) else hd S q1.1)
def f_L_act_31 (p1 p2 p3 p4 : Int32) (S : St) (s1 : Int32) (s2 : Int32) (s3 : Int32) : Option (Int32 × St) := ((f_X0_cover S s1 s2 s3).bind fun q1 => if q1.1 = 0 then (if q1.2.1 = 0 then some (0, q1.2.2) else some (1, q1.2.2)) else hd S q1.1)
def f_L_act (S : St) (p1 : Int32) (p2 : Int32) (p3 : Int32) (p4 : Int32) : Option (Int32 × St) := (if p1 = 0 then ((f_X0_elements S p2).bind fun q45 => if q45.1 = 0 then some (q45.2.1, q45.2.2) else hd S q45.1) else (if p1 = 1 then (if p4 = 1 then (f_L_act_31 p1 p2 p3 p4 S p2 p3 1) else (f_L_act_31 p1 p2 p3 p4 S p2 p3 0)) else (if p1 = 2 then ((f_X0_edge S p2 p3 p4).bind fun q43 => if q43.1 = 0 then some (q43.2.1, q43.2.2) else hd S q43.1) else (if p1 = 3 then ((f_X0_colour S p2 p3 p4).bind fun q42 => if q42.1 = 0 then some (q42.2.1, q42.2.2) else hd S q42.1) else (if p1 = 4 then ((f_X0_room S p2 p3 p4).bind fun q41 => if q41.1 = 0 then some (q41.2.1, q41.2.2) else hd S q41.1) else (if p1 = 5 then ((f_X0_weigh S p2 p3).bind fun q40 => if q40.1 = 0 then some (q40.2.1, q40.2.2) else hd S q40.1) else (if p1 = 6 then ((f_X0_make S p2).bind fun q39 => if q39.1 = 0 then some (q39.2.1, q39.2.2) else hd S q39.1) else (if p1 = 7 then ((f_X0_sum S p2 p3).bind fun q38 => if q38.1 = 0 then some (q38.2.1, q38.2.2) else hd S q38.1) else (if p1 = 8 then ((f_X0_contract S p2 p3).bind fun q37 => if q37.1 = 0 then some (q37.2.1, q37.2.2) else hd S q37.1) else (if p1 = 9 then ((f_X0_cap S p2 p3).bind fun q36 => if q36.1 = 0 then some (q36.2.1, q36.2.2) else hd S q36.1) else (if p1 = 10 then ((f_X0_value S p2 p3).bind fun q35 => if q35.1 = 0 then some (q35.2.1, q35.2.2) else hd S q35.1) else (if p1 = 11 then ((f_X0_isLawful S p2).bind fun q33 => if q33.1 = 0 then (if q33.2.1 = 0 then some (0, q33.2.2) else some (1, q33.2.2)) else hd S q33.1) else (if p1 = 12 then ((f_X0_rises S p2).bind fun q31 => if q31.1 = 0 then (if q31.2.1 = 0 then some (0, q31.2.2) else some (1, q31.2.2)) else hd S q31.1) else (if p1 = 13 then ((f_X0_least S p2).bind fun q30 => if q30.1 = 0 then some (q30.2.1, q30.2.2) else hd S q30.1) else (if p1 = 14 then (if p3 = 1 then (f_L_act_257 p1 p2 p3 p4 S p2 1) else (f_L_act_257 p1 p2 p3 p4 S p2 0)) else (if p1 = 15 then (if p3 = 1 then (f_L_act_281 p1 p2 p3 p4 S p2 1) else (f_L_act_281 p1 p2 p3 p4 S p2 0)) else (if p1 = 16 then ((f_X0_order S p2).bind fun q27 => if q27.1 = 0 then some (q27.2.1, q27.2.2) else hd S q27.1) else (if p1 = 17 then ((f_X0_corner S p2 p3).bind fun q26 => if q26.1 = 0 then some (q26.2.1, q26.2.2) else hd S q26.1) else (if p1 = 18 then ((f_X0_greedy S p2 p3).bind fun q25 => if q25.1 = 0 then some (q25.2.1, q25.2.2) else hd S q25.1) else (if p1 = 19 then ((f_X0_best S p2 p3).bind fun q24 => if q24.1 = 0 then some (q24.2.1, q24.2.2) else hd S q24.1) else (if p1 = 20 then ((f_X0_share S p2 p3).bind fun q23 => if q23.1 = 0 then some (q23.2.1, q23.2.2) else hd S q23.1) else ((f_X0_shareAnew S p2 p3).bind fun q22 => if q22.1 = 0 then some (q22.2.1, q22.2.2) else hd S q22.1))))))))))))))))))))))
theorem cd_L_act : yL_act.cls ≠ "java/lang/invoke/MethodHandle" ∧ yL_act.cls ≠ "java/lang/invoke/VarHandle" ∧ (parseMethodDescriptor yL_act.desc).map (fun d => d.parameters.length) = some 5 := by decide +kernel
set_option maxHeartbeats 16000000 in
set_option maxRecDepth 100000 in
theorem k_L_act (l : Launch) (hfl : l.stackTraces = false) (dC : Nat → ClassId) (dI : Nat → Nat → Nat) (cA : ClassId) (a : Nat → Nat) (S : St) (p1 : Int32) (p2 : Int32) (p3 : Int32) (p4 : Int32) (r : Int32 × St) (hf : f_L_act S p1 p2 p3 p4 = some r) (hap : apart a 10) : Met l yL_act wsL_act ({ frames := 13, cells := 3, slots := 18, locals := 363 }) (va_Pc [.ref (a 0), .int p1, .int p2, .int p3, .int p4] (PLs (dC, dI) cA a S)) (mXi (dC, dI) cA a r.1 r.2) 3 18 (ad a 10) := by
  refine ofWH (cc := cL_act) (maxL := 6) (ret := (some .int)) (hh := [(0, 367, 368, 81), (0, 367, 373, 84), (0, 367, 378, 87)]) (by decide) rfl ?_
  intro p e s m args below meth c s₁ B hml hv
  obtain ⟨rfl, hP, hK, hE, hN⟩ := hv
  have hx := B.exec
  have hb := B.bytes
  have hr := B.returns
  have hts := atoms_spec (ws := wsL_act) B.pre
  have hown : s.vm.findClass RL = some m.cls := findClass_of_methodNamed B.named
  have hlocks := B.notSynchronized
  have hA : ∀ q, ad a 10 q → ad a 10 q := fun _ h => h
  have hS : va_S (ad a 10) s.heap s.heap [] := va_S.rf
  have hl := lv_entry ([.ref (a 0), .int p1, .int p2, .int p3, .int p4]) (n := 6) (Nat.le_of_ble_eq_true rfl)
  rw [lg_entry_eq]
  generalize (lg_sl ([.ref (a 0), .int p1, .int p2, .int p3, .int p4]) ++ List.replicate (6 - (lg_sl ([.ref (a 0), .int p1, .int p2, .int p3, .int p4])).length) Slot.unset).toArray = ls at hl ⊢
  have hl : lv_has ls 6 [(0, .ref (a 0)), (1, .int p1), (2, .int p2), (3, .int p3), (4, .int p4)] := hl
  have htb : c.exceptionTable.toList = tableOf [(0, 367, 368, 81), (0, 367, 373, 84), (0, 367, 378, 87)] := vx_table (x := yL_act) B (hts (.codeWith yL_act cL_act 6 (some .int) [(0, 367, 368, 81), (0, 367, 373, 84), (0, 367, 378, 87)]) List.mem_cons_self)
  have hcs := hE.2.2.2.2.2.1
  have hcatch : ∀ (pc : Nat) (h0 : 0 ≤ pc) (h1 : pc < 367) (k : Nat) (S : St) (E : String) (ce : Cell) (q9 : Addr) (H : Heap) (locs : List Loc) (rest : List Value) {cells slots : Nat} (ls : Array Slot), hd S k = some r → E = excN k → va_P (dC, dI) vwCl (wX cA a S) H → va_S (ad a 10) s.heap H locs → H[q9]? = some ce → ce.vm = .none → s.vm.findClass E = some ce.cls → cells ≤ 3 → slots ≤ 18 → lv_has ls 6 [(0, .ref (a 0)), (1, .int p1), (2, .int p2), (3, .int p3), (4, .int p4)] → vx_W p l e (headSpec wsL_act ({ frames := 13, cells := 3, slots := 18, locals := 363 })).room s m ([.ref (a 0), .int p1, .int p2, .int p3, .int p4] : List Value).toArray below meth c H locs cells slots (MQ below (mXi (dC, dI) cA a r.1 r.2) ([.ref (a 0), .int p1, .int p2, .int p3, .int p4] : List Value).toArray s 3 18 (ad a 10)) (F0 m pc ls rest) q9 := by
    intro pc h0 h1 k S E ce q9 H locs rest cells slots ls hf hEq hP hS hce hcv hcl hC hZ hl
    unfold hd at hf
    by_cases c1 : k = 1
    · rw [if_pos c1] at hf
      have hf := Option.some.inj hf; subst hf
      have hEe : E = "java/lang/IndexOutOfBoundsException" := by rw [hEq, c1]; rfl
      subst hEe
      refine vx_catch (own := RL) (name := "java/lang/IndexOutOfBoundsException") hown [] ⟨0, 367, 368, 81⟩ [⟨0, 367, 373, 84⟩, ⟨0, 367, 378, 87⟩] (by rw [htb]; rfl) (fun z hz => by cases hz) (by simp [covers]; omega) (by decide) (hts (.classLink RL 81 "java/lang/IndexOutOfBoundsException") (by decide +kernel)) (va_Nw.use rfl (hcs 1)) hce hcv hcl ?_
      refine lv_astore (lv' := [(5, .ref q9), (0, .ref (a 0)), (1, .int p1), (2, .int p2), (3, .int p3), (4, .int p4)]) hx hb dL_act_368 hl (by decide) rfl (fun ls hl => ?_)
      refine lv_ldc (v := (-7000001)) hx hb hown (hts (.constant RL 83 (-7000001)) (by decide +kernel)) dL_act_370 ?_
      refine W.widen (k := 3) (n := 18) (by omega) (by omega) ?_
      exact W.iret hx hb hr (fun t ht hW => ⟨⟨rfl, by rw [ht]; exact hP⟩, hS.F ht⟩) hS.2.2 dL_act_372
    rw [if_neg c1] at hf
    by_cases c2 : k = 2
    · rw [if_pos c2] at hf
      have hf := Option.some.inj hf; subst hf
      have hEe : E = "java/lang/IllegalArgumentException" := by rw [hEq, c2]; rfl
      subst hEe
      refine vx_catch (own := RL) (name := "java/lang/IllegalArgumentException") hown [⟨0, 367, 368, 81⟩] ⟨0, 367, 373, 84⟩ [⟨0, 367, 378, 87⟩] (by rw [htb]; rfl) (fun z hz => by
          rw [List.mem_singleton.mp hz]
          exact Or.inr ⟨by decide, "java/lang/IndexOutOfBoundsException", hts (.classLink RL 81 "java/lang/IndexOutOfBoundsException") (by decide +kernel), hN 2 1 (by decide)⟩) (by simp [covers]; omega) (by decide) (hts (.classLink RL 84 "java/lang/IllegalArgumentException") (by decide +kernel)) (va_Nw.use rfl (hcs 2)) hce hcv hcl ?_
      refine lv_astore (lv' := [(5, .ref q9), (0, .ref (a 0)), (1, .int p1), (2, .int p2), (3, .int p3), (4, .int p4)]) hx hb dL_act_373 hl (by decide) rfl (fun ls hl => ?_)
      refine lv_ldc (v := (-7000002)) hx hb hown (hts (.constant RL 86 (-7000002)) (by decide +kernel)) dL_act_375 ?_
      refine W.widen (k := 3) (n := 18) (by omega) (by omega) ?_
      exact W.iret hx hb hr (fun t ht hW => ⟨⟨rfl, by rw [ht]; exact hP⟩, hS.F ht⟩) hS.2.2 dL_act_377
    rw [if_neg c2] at hf
    by_cases c3 : k = 3
    · rw [if_pos c3] at hf
      have hf := Option.some.inj hf; subst hf
      have hEe : E = "java/lang/IllegalStateException" := by rw [hEq, c3]; rfl
      subst hEe
      refine vx_catch (own := RL) (name := "java/lang/IllegalStateException") hown [⟨0, 367, 368, 81⟩, ⟨0, 367, 373, 84⟩] ⟨0, 367, 378, 87⟩ [] (by rw [htb]; rfl) (fun z hz => by
          rcases List.mem_cons.mp hz with rfl | hz
          · exact Or.inr ⟨by decide, "java/lang/IndexOutOfBoundsException", hts (.classLink RL 81 "java/lang/IndexOutOfBoundsException") (by decide +kernel), hN 3 1 (by decide)⟩
          rw [List.mem_singleton.mp hz]
          exact Or.inr ⟨by decide, "java/lang/IllegalArgumentException", hts (.classLink RL 84 "java/lang/IllegalArgumentException") (by decide +kernel), hN 3 2 (by decide)⟩) (by simp [covers]; omega) (by decide) (hts (.classLink RL 87 "java/lang/IllegalStateException") (by decide +kernel)) (va_Nw.use rfl (hcs 3)) hce hcv hcl ?_
      refine lv_astore (lv' := [(5, .ref q9), (0, .ref (a 0)), (1, .int p1), (2, .int p2), (3, .int p3), (4, .int p4)]) hx hb dL_act_378 hl (by decide) rfl (fun ls hl => ?_)
      refine lv_ldc (v := (-7000003)) hx hb hown (hts (.constant RL 89 (-7000003)) (by decide +kernel)) dL_act_380 ?_
      refine W.widen (k := 3) (n := 18) (by omega) (by omega) ?_
      exact W.iret hx hb hr (fun t ht hW => ⟨⟨rfl, by rw [ht]; exact hP⟩, hS.F ht⟩) hS.2.2 dL_act_382
    rw [if_neg c3] at hf
    cases hf
  have hW281 : ∀ (C Z : Nat) (S : St) (s1 s2 : Int32) (H : Heap) (locs : List Loc) (ls : Array Slot), C + (2) ≤ 3 → Z + (12) ≤ 18 → f_L_act_281 p1 p2 p3 p4 S s1 s2 = some r → va_P (dC, dI) vwCl (wX cA a S) H → va_S (ad a 10) s.heap H locs → lv_has ls 6 [(0, .ref (a 0)), (1, .int p1), (2, .int p2), (3, .int p3), (4, .int p4)] → W p l e (headSpec wsL_act ({ frames := 13, cells := 3, slots := 18, locals := 363 })).room s m ([.ref (a 0), .int p1, .int p2, .int p3, .int p4] : List Value).toArray below meth c H locs C Z (MQ below (mXi (dC, dI) cA a r.1 r.2) ([.ref (a 0), .int p1, .int p2, .int p3, .int p4] : List Value).toArray s 3 18 (ad a 10)) (F0 m 281 ls [.int s2, .int s1, .ref (a 0)]) := by
    intro C Z S s1 s2 H locs ls hC hZ hf hP hS hl
    unfold f_L_act_281 at hf
    obtain ⟨q1, hq1, hf⟩ := ob_some hf
    refine xt_P (As := [.int s1, .int s2]) (rest := []) ⟨hx, hb, hml, hown, hts⟩ (k_X0_leastSetAnew l dC dI cA a S s1 s2 _ hq1 hap hfl) gL_act_X0_leastSetAnew rfl rfl rfl cd_X0_leastSetAnew (Nat.le_of_ble_eq_true rfl) (Nat.le_of_ble_eq_true rfl) (preTsH hK hP hE hS hA) rfl hl.1 rfl (Nat.le_of_ble_eq_true rfl) (by show C + 2 ≤ 3; omega) (by show Z + 12 ≤ 18; omega) dL_act_281 hS hA (fun hne E ce q9 H locs hEq hz hk hS hce hcv hcl => ?_) (fun hne H locs hP _ hS => ?_)
    · rw [if_neg hne] at hf
      exact hcatch 281 (by decide) (by decide) _ _ _ _ _ _ _ _ ls hf hEq (kept_all hP hk) hS hce hcv hcl (by show C + 2 ≤ 3; omega) (by show Z + 12 ≤ 18; omega) (lv_sub hl [0, 1, 2, 3, 4] rfl)
    rw [if_pos hne] at hf
    refine lv_goto (tgt := 367) hx hb dL_act_284 (by decide) ?_
    have hf := Option.some.inj hf; subst hf
    refine W.widen (k := 3) (n := 18) (by omega) (by omega) ?_
    exact W.iret hx hb hr (fun t ht hW => ⟨⟨rfl, by rw [ht]; exact hP⟩, hS.F ht⟩) hS.2.2 dL_act_367
  have hW257 : ∀ (C Z : Nat) (S : St) (s1 s2 : Int32) (H : Heap) (locs : List Loc) (ls : Array Slot), C + (2) ≤ 3 → Z + (12) ≤ 18 → f_L_act_257 p1 p2 p3 p4 S s1 s2 = some r → va_P (dC, dI) vwCl (wX cA a S) H → va_S (ad a 10) s.heap H locs → lv_has ls 6 [(0, .ref (a 0)), (1, .int p1), (2, .int p2), (3, .int p3), (4, .int p4)] → W p l e (headSpec wsL_act ({ frames := 13, cells := 3, slots := 18, locals := 363 })).room s m ([.ref (a 0), .int p1, .int p2, .int p3, .int p4] : List Value).toArray below meth c H locs C Z (MQ below (mXi (dC, dI) cA a r.1 r.2) ([.ref (a 0), .int p1, .int p2, .int p3, .int p4] : List Value).toArray s 3 18 (ad a 10)) (F0 m 257 ls [.int s2, .int s1, .ref (a 0)]) := by
    intro C Z S s1 s2 H locs ls hC hZ hf hP hS hl
    unfold f_L_act_257 at hf
    obtain ⟨q1, hq1, hf⟩ := ob_some hf
    refine xt_P (As := [.int s1, .int s2]) (rest := []) ⟨hx, hb, hml, hown, hts⟩ (k_X0_leastSet l dC dI cA a S s1 s2 _ hq1 hap hfl) gL_act_X0_leastSet rfl rfl rfl cd_X0_leastSet (Nat.le_of_ble_eq_true rfl) (Nat.le_of_ble_eq_true rfl) (preTsH hK hP hE hS hA) rfl hl.1 rfl (Nat.le_of_ble_eq_true rfl) (by show C + 2 ≤ 3; omega) (by show Z + 12 ≤ 18; omega) dL_act_257 hS hA (fun hne E ce q9 H locs hEq hz hk hS hce hcv hcl => ?_) (fun hne H locs hP _ hS => ?_)
    · rw [if_neg hne] at hf
      exact hcatch 257 (by decide) (by decide) _ _ _ _ _ _ _ _ ls hf hEq (kept_all hP hk) hS hce hcv hcl (by show C + 2 ≤ 3; omega) (by show Z + 12 ≤ 18; omega) (lv_sub hl [0, 1, 2, 3, 4] rfl)
    rw [if_pos hne] at hf
    refine lv_goto (tgt := 367) hx hb dL_act_260 (by decide) ?_
    have hf := Option.some.inj hf; subst hf
    refine W.widen (k := 3) (n := 18) (by omega) (by omega) ?_
    exact W.iret hx hb hr (fun t ht hW => ⟨⟨rfl, by rw [ht]; exact hP⟩, hS.F ht⟩) hS.2.2 dL_act_367
  have hW31 : ∀ (C Z : Nat) (S : St) (s1 s2 s3 : Int32) (H : Heap) (locs : List Loc) (ls : Array Slot), C + (1) ≤ 3 → Z + (6) ≤ 18 → f_L_act_31 p1 p2 p3 p4 S s1 s2 s3 = some r → va_P (dC, dI) vwCl (wX cA a S) H → va_S (ad a 10) s.heap H locs → lv_has ls 6 [(0, .ref (a 0)), (1, .int p1), (2, .int p2), (3, .int p3), (4, .int p4)] → W p l e (headSpec wsL_act ({ frames := 13, cells := 3, slots := 18, locals := 363 })).room s m ([.ref (a 0), .int p1, .int p2, .int p3, .int p4] : List Value).toArray below meth c H locs C Z (MQ below (mXi (dC, dI) cA a r.1 r.2) ([.ref (a 0), .int p1, .int p2, .int p3, .int p4] : List Value).toArray s 3 18 (ad a 10)) (F0 m 31 ls [.int s3, .int s2, .int s1, .ref (a 0)]) := by
    intro C Z S s1 s2 s3 H locs ls hC hZ hf hP hS hl
    unfold f_L_act_31 at hf
    obtain ⟨q1, hq1, hf⟩ := ob_some hf
    refine xt_P (As := [.int s1, .int s2, .int s3]) (rest := []) ⟨hx, hb, hml, hown, hts⟩ (k_X0_cover l dC dI cA a S s1 s2 s3 _ hq1 hap hfl) gL_act_X0_cover rfl rfl rfl cd_X0_cover (Nat.le_of_ble_eq_true rfl) (Nat.le_of_ble_eq_true rfl) (preTsH hK hP hE hS hA) rfl hl.1 rfl (Nat.le_of_ble_eq_true rfl) (by show C + 1 ≤ 3; omega) (by show Z + 6 ≤ 18; omega) dL_act_31 hS hA (fun hne E ce q9 H locs hEq hz hk hS hce hcv hcl => ?_) (fun hne H locs hP _ hS => ?_)
    · rw [if_neg hne] at hf
      exact hcatch 31 (by decide) (by decide) _ _ _ _ _ _ _ _ ls hf hEq (kept_all hP hk) hS hce hcv hcl (by show C + 1 ≤ 3; omega) (by show Z + 6 ≤ 18; omega) (lv_sub hl [0, 1, 2, 3, 4] rfl)
    rw [if_pos hne] at hf
    refine lv_if_eq (tgt := 41) hx hb dL_act_34 (by decide) (fun c2 => ?_) (fun c2 => ?_)
    · rw [if_pos c2] at hf
      refine lv_iconst (v := 0) hx hb dL_act_41 (by decide) ?_
      refine lv_goto (tgt := 367) hx hb dL_act_42 (by decide) ?_
      have hf := Option.some.inj hf; subst hf
      refine W.widen (k := 3) (n := 18) (by omega) (by omega) ?_
      exact W.iret hx hb hr (fun t ht hW => ⟨⟨rfl, by rw [ht]; exact hP⟩, hS.F ht⟩) hS.2.2 dL_act_367
    · rw [if_neg c2] at hf
      refine lv_iconst (v := 1) hx hb dL_act_37 (by decide) ?_
      refine lv_goto (tgt := 367) hx hb dL_act_38 (by decide) ?_
      have hf := Option.some.inj hf; subst hf
      refine W.widen (k := 3) (n := 18) (by omega) (by omega) ?_
      exact W.iret hx hb hr (fun t ht hW => ⟨⟨rfl, by rw [ht]; exact hP⟩, hS.F ht⟩) hS.2.2 dL_act_367
  unfold f_L_act at hf
  refine lv_iload_n hx hb dL_act_0 rfl (lv_at hl 1 rfl) ?_
  refine lv_if_ne (tgt := 12) hx hb dL_act_1 (by decide) (fun c1 => ?_) (fun c1 => ?_)
  · rw [if_neg c1] at hf
    refine lv_iload_n hx hb dL_act_12 rfl (lv_at hl 1 rfl) ?_
    refine lv_iconst (v := 1) hx hb dL_act_13 (by decide) ?_
    refine lv_icmp_ne (tgt := 45) hx hb dL_act_14 (by decide) (fun c2 => ?_) (fun c2 => ?_)
    · rw [if_neg c2] at hf
      refine lv_iload_n hx hb dL_act_45 rfl (lv_at hl 1 rfl) ?_
      refine lv_iconst (v := 2) hx hb dL_act_46 (by decide) ?_
      refine lv_icmp_ne (tgt := 61) hx hb dL_act_47 (by decide) (fun c3 => ?_) (fun c3 => ?_)
      · rw [if_neg c3] at hf
        refine lv_iload_n hx hb dL_act_61 rfl (lv_at hl 1 rfl) ?_
        refine lv_iconst (v := 3) hx hb dL_act_62 (by decide) ?_
        refine lv_icmp_ne (tgt := 77) hx hb dL_act_63 (by decide) (fun c4 => ?_) (fun c4 => ?_)
        · rw [if_neg c4] at hf
          refine lv_iload_n hx hb dL_act_77 rfl (lv_at hl 1 rfl) ?_
          refine lv_iconst (v := 4) hx hb dL_act_78 (by decide) ?_
          refine lv_icmp_ne (tgt := 93) hx hb dL_act_79 (by decide) (fun c5 => ?_) (fun c5 => ?_)
          · rw [if_neg c5] at hf
            refine lv_iload_n hx hb dL_act_93 rfl (lv_at hl 1 rfl) ?_
            refine lv_iconst (v := 5) hx hb dL_act_94 (by decide) ?_
            refine lv_icmp_ne (tgt := 107) hx hb dL_act_95 (by decide) (fun c6 => ?_) (fun c6 => ?_)
            · rw [if_neg c6] at hf
              refine lv_iload_n hx hb dL_act_107 rfl (lv_at hl 1 rfl) ?_
              refine lv_bipush (v := 6) hx hb dL_act_108 (by decide) ?_
              refine lv_icmp_ne (tgt := 121) hx hb dL_act_110 (by decide) (fun c7 => ?_) (fun c7 => ?_)
              · rw [if_neg c7] at hf
                refine lv_iload_n hx hb dL_act_121 rfl (lv_at hl 1 rfl) ?_
                refine lv_bipush (v := 7) hx hb dL_act_122 (by decide) ?_
                refine lv_icmp_ne (tgt := 136) hx hb dL_act_124 (by decide) (fun c8 => ?_) (fun c8 => ?_)
                · rw [if_neg c8] at hf
                  refine lv_iload_n hx hb dL_act_136 rfl (lv_at hl 1 rfl) ?_
                  refine lv_bipush (v := 8) hx hb dL_act_137 (by decide) ?_
                  refine lv_icmp_ne (tgt := 151) hx hb dL_act_139 (by decide) (fun c9 => ?_) (fun c9 => ?_)
                  · rw [if_neg c9] at hf
                    refine lv_iload_n hx hb dL_act_151 rfl (lv_at hl 1 rfl) ?_
                    refine lv_bipush (v := 9) hx hb dL_act_152 (by decide) ?_
                    refine lv_icmp_ne (tgt := 166) hx hb dL_act_154 (by decide) (fun c10 => ?_) (fun c10 => ?_)
                    · rw [if_neg c10] at hf
                      refine lv_iload_n hx hb dL_act_166 rfl (lv_at hl 1 rfl) ?_
                      refine lv_bipush (v := 10) hx hb dL_act_167 (by decide) ?_
                      refine lv_icmp_ne (tgt := 181) hx hb dL_act_169 (by decide) (fun c11 => ?_) (fun c11 => ?_)
                      · rw [if_neg c11] at hf
                        refine lv_iload_n hx hb dL_act_181 rfl (lv_at hl 1 rfl) ?_
                        refine lv_bipush (v := 11) hx hb dL_act_182 (by decide) ?_
                        refine lv_icmp_ne (tgt := 203) hx hb dL_act_184 (by decide) (fun c12 => ?_) (fun c12 => ?_)
                        · rw [if_neg c12] at hf
                          refine lv_iload_n hx hb dL_act_203 rfl (lv_at hl 1 rfl) ?_
                          refine lv_bipush (v := 12) hx hb dL_act_204 (by decide) ?_
                          refine lv_icmp_ne (tgt := 225) hx hb dL_act_206 (by decide) (fun c13 => ?_) (fun c13 => ?_)
                          · rw [if_neg c13] at hf
                            refine lv_iload_n hx hb dL_act_225 rfl (lv_at hl 1 rfl) ?_
                            refine lv_bipush (v := 13) hx hb dL_act_226 (by decide) ?_
                            refine lv_icmp_ne (tgt := 239) hx hb dL_act_228 (by decide) (fun c14 => ?_) (fun c14 => ?_)
                            · rw [if_neg c14] at hf
                              refine lv_iload_n hx hb dL_act_239 rfl (lv_at hl 1 rfl) ?_
                              refine lv_bipush (v := 14) hx hb dL_act_240 (by decide) ?_
                              refine lv_icmp_ne (tgt := 263) hx hb dL_act_242 (by decide) (fun c15 => ?_) (fun c15 => ?_)
                              · rw [if_neg c15] at hf
                                refine lv_iload_n hx hb dL_act_263 rfl (lv_at hl 1 rfl) ?_
                                refine lv_bipush (v := 15) hx hb dL_act_264 (by decide) ?_
                                refine lv_icmp_ne (tgt := 287) hx hb dL_act_266 (by decide) (fun c16 => ?_) (fun c16 => ?_)
                                · rw [if_neg c16] at hf
                                  refine lv_iload_n hx hb dL_act_287 rfl (lv_at hl 1 rfl) ?_
                                  refine lv_bipush (v := 16) hx hb dL_act_288 (by decide) ?_
                                  refine lv_icmp_ne (tgt := 301) hx hb dL_act_290 (by decide) (fun c17 => ?_) (fun c17 => ?_)
                                  · rw [if_neg c17] at hf
                                    refine lv_iload_n hx hb dL_act_301 rfl (lv_at hl 1 rfl) ?_
                                    refine lv_bipush (v := 17) hx hb dL_act_302 (by decide) ?_
                                    refine lv_icmp_ne (tgt := 316) hx hb dL_act_304 (by decide) (fun c18 => ?_) (fun c18 => ?_)
                                    · rw [if_neg c18] at hf
                                      refine lv_iload_n hx hb dL_act_316 rfl (lv_at hl 1 rfl) ?_
                                      refine lv_bipush (v := 18) hx hb dL_act_317 (by decide) ?_
                                      refine lv_icmp_ne (tgt := 331) hx hb dL_act_319 (by decide) (fun c19 => ?_) (fun c19 => ?_)
                                      · rw [if_neg c19] at hf
                                        refine lv_iload_n hx hb dL_act_331 rfl (lv_at hl 1 rfl) ?_
                                        refine lv_bipush (v := 19) hx hb dL_act_332 (by decide) ?_
                                        refine lv_icmp_ne (tgt := 346) hx hb dL_act_334 (by decide) (fun c20 => ?_) (fun c20 => ?_)
                                        · rw [if_neg c20] at hf
                                          refine lv_iload_n hx hb dL_act_346 rfl (lv_at hl 1 rfl) ?_
                                          refine lv_bipush (v := 20) hx hb dL_act_347 (by decide) ?_
                                          refine lv_icmp_ne (tgt := 361) hx hb dL_act_349 (by decide) (fun c21 => ?_) (fun c21 => ?_)
                                          · rw [if_neg c21] at hf
                                            refine lv_aload_n hx hb dL_act_361 rfl (lv_at hl 0 rfl) ?_
                                            refine lv_iload_n hx hb dL_act_362 rfl (lv_at hl 2 rfl) ?_
                                            refine lv_iload_n hx hb dL_act_363 rfl (lv_at hl 3 rfl) ?_
                                            obtain ⟨q22, hq22, hf⟩ := ob_some hf
                                            refine xt_P (As := [.int p2, .int p3]) (rest := []) ⟨hx, hb, hml, hown, hts⟩ (k_X0_shareAnew l dC dI cA a S p2 p3 _ hq22 hap hfl) gL_act_X0_shareAnew rfl rfl rfl cd_X0_shareAnew (Nat.le_of_ble_eq_true rfl) (Nat.le_of_ble_eq_true rfl) (preTsH hK hP hE hS hA) rfl hl.1 rfl (Nat.le_of_ble_eq_true rfl) (by show 0 + 1 ≤ 3; omega) (by show 0 + 6 ≤ 18; omega) dL_act_364 hS hA (fun hne E ce q9 H locs hEq hz hk hS hce hcv hcl => ?_) (fun hne H locs hP _ hS => ?_)
                                            · rw [if_neg hne] at hf
                                              exact hcatch 364 (by decide) (by decide) _ _ _ _ _ _ _ _ ls hf hEq (kept_all hP hk) hS hce hcv hcl (by show 0 + 1 ≤ 3; omega) (by show 0 + 6 ≤ 18; omega) (lv_sub hl [0, 1, 2, 3, 4] rfl)
                                            rw [if_pos hne] at hf
                                            have hf := Option.some.inj hf; subst hf
                                            refine W.widen (k := 3) (n := 18) (by omega) (by omega) ?_
                                            exact W.iret hx hb hr (fun t ht hW => ⟨⟨rfl, by rw [ht]; exact hP⟩, hS.F ht⟩) hS.2.2 dL_act_367
                                          · rw [if_pos c21] at hf
                                            refine lv_aload_n hx hb dL_act_352 rfl (lv_at hl 0 rfl) ?_
                                            refine lv_iload_n hx hb dL_act_353 rfl (lv_at hl 2 rfl) ?_
                                            refine lv_iload_n hx hb dL_act_354 rfl (lv_at hl 3 rfl) ?_
                                            obtain ⟨q23, hq23, hf⟩ := ob_some hf
                                            refine xt_P (As := [.int p2, .int p3]) (rest := []) ⟨hx, hb, hml, hown, hts⟩ (k_X0_share l dC dI cA a S p2 p3 _ hq23 hap hfl) gL_act_X0_share rfl rfl rfl cd_X0_share (Nat.le_of_ble_eq_true rfl) (Nat.le_of_ble_eq_true rfl) (preTsH hK hP hE hS hA) rfl hl.1 rfl (Nat.le_of_ble_eq_true rfl) (by show 0 + 1 ≤ 3; omega) (by show 0 + 6 ≤ 18; omega) dL_act_355 hS hA (fun hne E ce q9 H locs hEq hz hk hS hce hcv hcl => ?_) (fun hne H locs hP _ hS => ?_)
                                            · rw [if_neg hne] at hf
                                              exact hcatch 355 (by decide) (by decide) _ _ _ _ _ _ _ _ ls hf hEq (kept_all hP hk) hS hce hcv hcl (by show 0 + 1 ≤ 3; omega) (by show 0 + 6 ≤ 18; omega) (lv_sub hl [0, 1, 2, 3, 4] rfl)
                                            rw [if_pos hne] at hf
                                            refine lv_goto (tgt := 367) hx hb dL_act_358 (by decide) ?_
                                            have hf := Option.some.inj hf; subst hf
                                            refine W.widen (k := 3) (n := 18) (by omega) (by omega) ?_
                                            exact W.iret hx hb hr (fun t ht hW => ⟨⟨rfl, by rw [ht]; exact hP⟩, hS.F ht⟩) hS.2.2 dL_act_367
                                        · rw [if_pos c20] at hf
                                          refine lv_aload_n hx hb dL_act_337 rfl (lv_at hl 0 rfl) ?_
                                          refine lv_iload_n hx hb dL_act_338 rfl (lv_at hl 2 rfl) ?_
                                          refine lv_iload_n hx hb dL_act_339 rfl (lv_at hl 3 rfl) ?_
                                          obtain ⟨q24, hq24, hf⟩ := ob_some hf
                                          refine xt_P (As := [.int p2, .int p3]) (rest := []) ⟨hx, hb, hml, hown, hts⟩ (k_X0_best l dC dI cA a S p2 p3 _ hq24 hap hfl) gL_act_X0_best rfl rfl rfl cd_X0_best (Nat.le_of_ble_eq_true rfl) (Nat.le_of_ble_eq_true rfl) (preTsH hK hP hE hS hA) rfl hl.1 rfl (Nat.le_of_ble_eq_true rfl) (by show 0 + 2 ≤ 3; omega) (by show 0 + 12 ≤ 18; omega) dL_act_340 hS hA (fun hne E ce q9 H locs hEq hz hk hS hce hcv hcl => ?_) (fun hne H locs hP _ hS => ?_)
                                          · rw [if_neg hne] at hf
                                            exact hcatch 340 (by decide) (by decide) _ _ _ _ _ _ _ _ ls hf hEq (kept_all hP hk) hS hce hcv hcl (by show 0 + 2 ≤ 3; omega) (by show 0 + 12 ≤ 18; omega) (lv_sub hl [0, 1, 2, 3, 4] rfl)
                                          rw [if_pos hne] at hf
                                          refine lv_goto (tgt := 367) hx hb dL_act_343 (by decide) ?_
                                          have hf := Option.some.inj hf; subst hf
                                          refine W.widen (k := 3) (n := 18) (by omega) (by omega) ?_
                                          exact W.iret hx hb hr (fun t ht hW => ⟨⟨rfl, by rw [ht]; exact hP⟩, hS.F ht⟩) hS.2.2 dL_act_367
                                      · rw [if_pos c19] at hf
                                        refine lv_aload_n hx hb dL_act_322 rfl (lv_at hl 0 rfl) ?_
                                        refine lv_iload_n hx hb dL_act_323 rfl (lv_at hl 2 rfl) ?_
                                        refine lv_iload_n hx hb dL_act_324 rfl (lv_at hl 3 rfl) ?_
                                        obtain ⟨q25, hq25, hf⟩ := ob_some hf
                                        refine xt_P (As := [.int p2, .int p3]) (rest := []) ⟨hx, hb, hml, hown, hts⟩ (k_X0_greedy l dC dI cA a S p2 p3 _ hq25 hap hfl) gL_act_X0_greedy rfl rfl rfl cd_X0_greedy (Nat.le_of_ble_eq_true rfl) (Nat.le_of_ble_eq_true rfl) (preTsH hK hP hE hS hA) rfl hl.1 rfl (Nat.le_of_ble_eq_true rfl) (by show 0 + 2 ≤ 3; omega) (by show 0 + 12 ≤ 18; omega) dL_act_325 hS hA (fun hne E ce q9 H locs hEq hz hk hS hce hcv hcl => ?_) (fun hne H locs hP _ hS => ?_)
                                        · rw [if_neg hne] at hf
                                          exact hcatch 325 (by decide) (by decide) _ _ _ _ _ _ _ _ ls hf hEq (kept_all hP hk) hS hce hcv hcl (by show 0 + 2 ≤ 3; omega) (by show 0 + 12 ≤ 18; omega) (lv_sub hl [0, 1, 2, 3, 4] rfl)
                                        rw [if_pos hne] at hf
                                        refine lv_goto (tgt := 367) hx hb dL_act_328 (by decide) ?_
                                        have hf := Option.some.inj hf; subst hf
                                        refine W.widen (k := 3) (n := 18) (by omega) (by omega) ?_
                                        exact W.iret hx hb hr (fun t ht hW => ⟨⟨rfl, by rw [ht]; exact hP⟩, hS.F ht⟩) hS.2.2 dL_act_367
                                    · rw [if_pos c18] at hf
                                      refine lv_aload_n hx hb dL_act_307 rfl (lv_at hl 0 rfl) ?_
                                      refine lv_iload_n hx hb dL_act_308 rfl (lv_at hl 2 rfl) ?_
                                      refine lv_iload_n hx hb dL_act_309 rfl (lv_at hl 3 rfl) ?_
                                      obtain ⟨q26, hq26, hf⟩ := ob_some hf
                                      refine xt_P (As := [.int p2, .int p3]) (rest := []) ⟨hx, hb, hml, hown, hts⟩ (k_X0_corner l dC dI cA a S p2 p3 _ hq26 hap hfl) gL_act_X0_corner rfl rfl rfl cd_X0_corner (Nat.le_of_ble_eq_true rfl) (Nat.le_of_ble_eq_true rfl) (preTsH hK hP hE hS hA) rfl hl.1 rfl (Nat.le_of_ble_eq_true rfl) (by show 0 + 2 ≤ 3; omega) (by show 0 + 12 ≤ 18; omega) dL_act_310 hS hA (fun hne E ce q9 H locs hEq hz hk hS hce hcv hcl => ?_) (fun hne H locs hP _ hS => ?_)
                                      · rw [if_neg hne] at hf
                                        exact hcatch 310 (by decide) (by decide) _ _ _ _ _ _ _ _ ls hf hEq (kept_all hP hk) hS hce hcv hcl (by show 0 + 2 ≤ 3; omega) (by show 0 + 12 ≤ 18; omega) (lv_sub hl [0, 1, 2, 3, 4] rfl)
                                      rw [if_pos hne] at hf
                                      refine lv_goto (tgt := 367) hx hb dL_act_313 (by decide) ?_
                                      have hf := Option.some.inj hf; subst hf
                                      refine W.widen (k := 3) (n := 18) (by omega) (by omega) ?_
                                      exact W.iret hx hb hr (fun t ht hW => ⟨⟨rfl, by rw [ht]; exact hP⟩, hS.F ht⟩) hS.2.2 dL_act_367
                                  · rw [if_pos c17] at hf
                                    refine lv_aload_n hx hb dL_act_293 rfl (lv_at hl 0 rfl) ?_
                                    refine lv_iload_n hx hb dL_act_294 rfl (lv_at hl 2 rfl) ?_
                                    obtain ⟨q27, hq27, hf⟩ := ob_some hf
                                    refine xt_P (As := [.int p2]) (rest := []) ⟨hx, hb, hml, hown, hts⟩ (k_X0_order l dC dI cA a S p2 _ hq27 hap hfl) gL_act_X0_order rfl rfl rfl cd_X0_order (Nat.le_of_ble_eq_true rfl) (Nat.le_of_ble_eq_true rfl) (preTsH hK hP hE hS hA) rfl hl.1 rfl (Nat.le_of_ble_eq_true rfl) (by show 0 + 2 ≤ 3; omega) (by show 0 + 12 ≤ 18; omega) dL_act_295 hS hA (fun hne E ce q9 H locs hEq hz hk hS hce hcv hcl => ?_) (fun hne H locs hP _ hS => ?_)
                                    · rw [if_neg hne] at hf
                                      exact hcatch 295 (by decide) (by decide) _ _ _ _ _ _ _ _ ls hf hEq (kept_all hP hk) hS hce hcv hcl (by show 0 + 2 ≤ 3; omega) (by show 0 + 12 ≤ 18; omega) (lv_sub hl [0, 1, 2, 3, 4] rfl)
                                    rw [if_pos hne] at hf
                                    refine lv_goto (tgt := 367) hx hb dL_act_298 (by decide) ?_
                                    have hf := Option.some.inj hf; subst hf
                                    refine W.widen (k := 3) (n := 18) (by omega) (by omega) ?_
                                    exact W.iret hx hb hr (fun t ht hW => ⟨⟨rfl, by rw [ht]; exact hP⟩, hS.F ht⟩) hS.2.2 dL_act_367
                                · rw [if_pos c16] at hf
                                  refine lv_aload_n hx hb dL_act_269 rfl (lv_at hl 0 rfl) ?_
                                  refine lv_iload_n hx hb dL_act_270 rfl (lv_at hl 2 rfl) ?_
                                  refine lv_iload_n hx hb dL_act_271 rfl (lv_at hl 3 rfl) ?_
                                  refine lv_iconst (v := 1) hx hb dL_act_272 (by decide) ?_
                                  refine lv_icmp_ne (tgt := 280) hx hb dL_act_273 (by decide) (fun c28 => ?_) (fun c28 => ?_)
                                  · rw [if_neg c28] at hf
                                    refine lv_iconst (v := 0) hx hb dL_act_280 (by decide) ?_
                                    exact hW281 0 0 S p2 0 _ _ ls (by omega) (by omega) hf hP hS (lv_sub hl [0, 1, 2, 3, 4] rfl)
                                  · rw [if_pos c28] at hf
                                    refine lv_iconst (v := 1) hx hb dL_act_276 (by decide) ?_
                                    refine lv_goto (tgt := 281) hx hb dL_act_277 (by decide) ?_
                                    exact hW281 0 0 S p2 1 _ _ ls (by omega) (by omega) hf hP hS (lv_sub hl [0, 1, 2, 3, 4] rfl)
                              · rw [if_pos c15] at hf
                                refine lv_aload_n hx hb dL_act_245 rfl (lv_at hl 0 rfl) ?_
                                refine lv_iload_n hx hb dL_act_246 rfl (lv_at hl 2 rfl) ?_
                                refine lv_iload_n hx hb dL_act_247 rfl (lv_at hl 3 rfl) ?_
                                refine lv_iconst (v := 1) hx hb dL_act_248 (by decide) ?_
                                refine lv_icmp_ne (tgt := 256) hx hb dL_act_249 (by decide) (fun c29 => ?_) (fun c29 => ?_)
                                · rw [if_neg c29] at hf
                                  refine lv_iconst (v := 0) hx hb dL_act_256 (by decide) ?_
                                  exact hW257 0 0 S p2 0 _ _ ls (by omega) (by omega) hf hP hS (lv_sub hl [0, 1, 2, 3, 4] rfl)
                                · rw [if_pos c29] at hf
                                  refine lv_iconst (v := 1) hx hb dL_act_252 (by decide) ?_
                                  refine lv_goto (tgt := 257) hx hb dL_act_253 (by decide) ?_
                                  exact hW257 0 0 S p2 1 _ _ ls (by omega) (by omega) hf hP hS (lv_sub hl [0, 1, 2, 3, 4] rfl)
                            · rw [if_pos c14] at hf
                              refine lv_aload_n hx hb dL_act_231 rfl (lv_at hl 0 rfl) ?_
                              refine lv_iload_n hx hb dL_act_232 rfl (lv_at hl 2 rfl) ?_
                              obtain ⟨q30, hq30, hf⟩ := ob_some hf
                              refine xt_P (As := [.int p2]) (rest := []) ⟨hx, hb, hml, hown, hts⟩ (k_X0_least l dC dI cA a S p2 _ hq30 hap hfl) gL_act_X0_least rfl rfl rfl cd_X0_least (Nat.le_of_ble_eq_true rfl) (Nat.le_of_ble_eq_true rfl) (preTsH hK hP hE hS hA) rfl hl.1 rfl (Nat.le_of_ble_eq_true rfl) (by show 0 + 2 ≤ 3; omega) (by show 0 + 12 ≤ 18; omega) dL_act_233 hS hA (fun hne E ce q9 H locs hEq hz hk hS hce hcv hcl => ?_) (fun hne H locs hP _ hS => ?_)
                              · rw [if_neg hne] at hf
                                exact hcatch 233 (by decide) (by decide) _ _ _ _ _ _ _ _ ls hf hEq (kept_all hP hk) hS hce hcv hcl (by show 0 + 2 ≤ 3; omega) (by show 0 + 12 ≤ 18; omega) (lv_sub hl [0, 1, 2, 3, 4] rfl)
                              rw [if_pos hne] at hf
                              refine lv_goto (tgt := 367) hx hb dL_act_236 (by decide) ?_
                              have hf := Option.some.inj hf; subst hf
                              refine W.widen (k := 3) (n := 18) (by omega) (by omega) ?_
                              exact W.iret hx hb hr (fun t ht hW => ⟨⟨rfl, by rw [ht]; exact hP⟩, hS.F ht⟩) hS.2.2 dL_act_367
                          · rw [if_pos c13] at hf
                            refine lv_aload_n hx hb dL_act_209 rfl (lv_at hl 0 rfl) ?_
                            refine lv_iload_n hx hb dL_act_210 rfl (lv_at hl 2 rfl) ?_
                            obtain ⟨q31, hq31, hf⟩ := ob_some hf
                            refine xt_P (As := [.int p2]) (rest := []) ⟨hx, hb, hml, hown, hts⟩ (k_X0_rises l dC dI cA a S p2 _ hq31 hap hfl) gL_act_X0_rises rfl rfl rfl cd_X0_rises (Nat.le_of_ble_eq_true rfl) (Nat.le_of_ble_eq_true rfl) (preTsH hK hP hE hS hA) rfl hl.1 rfl (Nat.le_of_ble_eq_true rfl) (by show 0 + 1 ≤ 3; omega) (by show 0 + 6 ≤ 18; omega) dL_act_211 hS hA (fun hne E ce q9 H locs hEq hz hk hS hce hcv hcl => ?_) (fun hne H locs hP _ hS => ?_)
                            · rw [if_neg hne] at hf
                              exact hcatch 211 (by decide) (by decide) _ _ _ _ _ _ _ _ ls hf hEq (kept_all hP hk) hS hce hcv hcl (by show 0 + 1 ≤ 3; omega) (by show 0 + 6 ≤ 18; omega) (lv_sub hl [0, 1, 2, 3, 4] rfl)
                            rw [if_pos hne] at hf
                            refine lv_if_eq (tgt := 221) hx hb dL_act_214 (by decide) (fun c32 => ?_) (fun c32 => ?_)
                            · rw [if_pos c32] at hf
                              refine lv_iconst (v := 0) hx hb dL_act_221 (by decide) ?_
                              refine lv_goto (tgt := 367) hx hb dL_act_222 (by decide) ?_
                              have hf := Option.some.inj hf; subst hf
                              refine W.widen (k := 3) (n := 18) (by omega) (by omega) ?_
                              exact W.iret hx hb hr (fun t ht hW => ⟨⟨rfl, by rw [ht]; exact hP⟩, hS.F ht⟩) hS.2.2 dL_act_367
                            · rw [if_neg c32] at hf
                              refine lv_iconst (v := 1) hx hb dL_act_217 (by decide) ?_
                              refine lv_goto (tgt := 367) hx hb dL_act_218 (by decide) ?_
                              have hf := Option.some.inj hf; subst hf
                              refine W.widen (k := 3) (n := 18) (by omega) (by omega) ?_
                              exact W.iret hx hb hr (fun t ht hW => ⟨⟨rfl, by rw [ht]; exact hP⟩, hS.F ht⟩) hS.2.2 dL_act_367
                        · rw [if_pos c12] at hf
                          refine lv_aload_n hx hb dL_act_187 rfl (lv_at hl 0 rfl) ?_
                          refine lv_iload_n hx hb dL_act_188 rfl (lv_at hl 2 rfl) ?_
                          obtain ⟨q33, hq33, hf⟩ := ob_some hf
                          refine xt_P (As := [.int p2]) (rest := []) ⟨hx, hb, hml, hown, hts⟩ (k_X0_isLawful l dC dI cA a S p2 _ hq33 hap hfl) gL_act_X0_isLawful rfl rfl rfl cd_X0_isLawful (Nat.le_of_ble_eq_true rfl) (Nat.le_of_ble_eq_true rfl) (preTsH hK hP hE hS hA) rfl hl.1 rfl (Nat.le_of_ble_eq_true rfl) (by show 0 + 1 ≤ 3; omega) (by show 0 + 6 ≤ 18; omega) dL_act_189 hS hA (fun hne E ce q9 H locs hEq hz hk hS hce hcv hcl => ?_) (fun hne H locs hP _ hS => ?_)
                          · rw [if_neg hne] at hf
                            exact hcatch 189 (by decide) (by decide) _ _ _ _ _ _ _ _ ls hf hEq (kept_all hP hk) hS hce hcv hcl (by show 0 + 1 ≤ 3; omega) (by show 0 + 6 ≤ 18; omega) (lv_sub hl [0, 1, 2, 3, 4] rfl)
                          rw [if_pos hne] at hf
                          refine lv_if_eq (tgt := 199) hx hb dL_act_192 (by decide) (fun c34 => ?_) (fun c34 => ?_)
                          · rw [if_pos c34] at hf
                            refine lv_iconst (v := 0) hx hb dL_act_199 (by decide) ?_
                            refine lv_goto (tgt := 367) hx hb dL_act_200 (by decide) ?_
                            have hf := Option.some.inj hf; subst hf
                            refine W.widen (k := 3) (n := 18) (by omega) (by omega) ?_
                            exact W.iret hx hb hr (fun t ht hW => ⟨⟨rfl, by rw [ht]; exact hP⟩, hS.F ht⟩) hS.2.2 dL_act_367
                          · rw [if_neg c34] at hf
                            refine lv_iconst (v := 1) hx hb dL_act_195 (by decide) ?_
                            refine lv_goto (tgt := 367) hx hb dL_act_196 (by decide) ?_
                            have hf := Option.some.inj hf; subst hf
                            refine W.widen (k := 3) (n := 18) (by omega) (by omega) ?_
                            exact W.iret hx hb hr (fun t ht hW => ⟨⟨rfl, by rw [ht]; exact hP⟩, hS.F ht⟩) hS.2.2 dL_act_367
                      · rw [if_pos c11] at hf
                        refine lv_aload_n hx hb dL_act_172 rfl (lv_at hl 0 rfl) ?_
                        refine lv_iload_n hx hb dL_act_173 rfl (lv_at hl 2 rfl) ?_
                        refine lv_iload_n hx hb dL_act_174 rfl (lv_at hl 3 rfl) ?_
                        obtain ⟨q35, hq35, hf⟩ := ob_some hf
                        refine xt_P (As := [.int p2, .int p3]) (rest := []) ⟨hx, hb, hml, hown, hts⟩ (k_X0_value l dC dI cA a S p2 p3 _ hq35 hap hfl) gL_act_X0_value rfl rfl rfl cd_X0_value (Nat.le_of_ble_eq_true rfl) (Nat.le_of_ble_eq_true rfl) (preTsH hK hP hE hS hA) rfl hl.1 rfl (Nat.le_of_ble_eq_true rfl) (by show 0 + 2 ≤ 3; omega) (by show 0 + 12 ≤ 18; omega) dL_act_175 hS hA (fun hne E ce q9 H locs hEq hz hk hS hce hcv hcl => ?_) (fun hne H locs hP _ hS => ?_)
                        · rw [if_neg hne] at hf
                          exact hcatch 175 (by decide) (by decide) _ _ _ _ _ _ _ _ ls hf hEq (kept_all hP hk) hS hce hcv hcl (by show 0 + 2 ≤ 3; omega) (by show 0 + 12 ≤ 18; omega) (lv_sub hl [0, 1, 2, 3, 4] rfl)
                        rw [if_pos hne] at hf
                        refine lv_goto (tgt := 367) hx hb dL_act_178 (by decide) ?_
                        have hf := Option.some.inj hf; subst hf
                        refine W.widen (k := 3) (n := 18) (by omega) (by omega) ?_
                        exact W.iret hx hb hr (fun t ht hW => ⟨⟨rfl, by rw [ht]; exact hP⟩, hS.F ht⟩) hS.2.2 dL_act_367
                    · rw [if_pos c10] at hf
                      refine lv_aload_n hx hb dL_act_157 rfl (lv_at hl 0 rfl) ?_
                      refine lv_iload_n hx hb dL_act_158 rfl (lv_at hl 2 rfl) ?_
                      refine lv_iload_n hx hb dL_act_159 rfl (lv_at hl 3 rfl) ?_
                      obtain ⟨q36, hq36, hf⟩ := ob_some hf
                      refine xt_P (As := [.int p2, .int p3]) (rest := []) ⟨hx, hb, hml, hown, hts⟩ (k_X0_cap l dC dI cA a S p2 p3 _ hq36 hap hfl) gL_act_X0_cap rfl rfl rfl cd_X0_cap (Nat.le_of_ble_eq_true rfl) (Nat.le_of_ble_eq_true rfl) (preTsH hK hP hE hS hA) rfl hl.1 rfl (Nat.le_of_ble_eq_true rfl) (by show 0 + 3 ≤ 3; omega) (by show 0 + 18 ≤ 18; omega) dL_act_160 hS hA (fun hne E ce q9 H locs hEq hz hk hS hce hcv hcl => ?_) (fun hne H locs hP _ hS => ?_)
                      · rw [if_neg hne] at hf
                        exact hcatch 160 (by decide) (by decide) _ _ _ _ _ _ _ _ ls hf hEq (kept_all hP hk) hS hce hcv hcl (by show 0 + 3 ≤ 3; omega) (by show 0 + 18 ≤ 18; omega) (lv_sub hl [0, 1, 2, 3, 4] rfl)
                      rw [if_pos hne] at hf
                      refine lv_goto (tgt := 367) hx hb dL_act_163 (by decide) ?_
                      have hf := Option.some.inj hf; subst hf
                      refine W.widen (k := 3) (n := 18) (by omega) (by omega) ?_
                      exact W.iret hx hb hr (fun t ht hW => ⟨⟨rfl, by rw [ht]; exact hP⟩, hS.F ht⟩) hS.2.2 dL_act_367
                  · rw [if_pos c9] at hf
                    refine lv_aload_n hx hb dL_act_142 rfl (lv_at hl 0 rfl) ?_
                    refine lv_iload_n hx hb dL_act_143 rfl (lv_at hl 2 rfl) ?_
                    refine lv_iload_n hx hb dL_act_144 rfl (lv_at hl 3 rfl) ?_
                    obtain ⟨q37, hq37, hf⟩ := ob_some hf
                    refine xt_P (As := [.int p2, .int p3]) (rest := []) ⟨hx, hb, hml, hown, hts⟩ (k_X0_contract l dC dI cA a S p2 p3 _ hq37 hap hfl) gL_act_X0_contract rfl rfl rfl cd_X0_contract (Nat.le_of_ble_eq_true rfl) (Nat.le_of_ble_eq_true rfl) (preTsH hK hP hE hS hA) rfl hl.1 rfl (Nat.le_of_ble_eq_true rfl) (by show 0 + 3 ≤ 3; omega) (by show 0 + 18 ≤ 18; omega) dL_act_145 hS hA (fun hne E ce q9 H locs hEq hz hk hS hce hcv hcl => ?_) (fun hne H locs hP _ hS => ?_)
                    · rw [if_neg hne] at hf
                      exact hcatch 145 (by decide) (by decide) _ _ _ _ _ _ _ _ ls hf hEq (kept_all hP hk) hS hce hcv hcl (by show 0 + 3 ≤ 3; omega) (by show 0 + 18 ≤ 18; omega) (lv_sub hl [0, 1, 2, 3, 4] rfl)
                    rw [if_pos hne] at hf
                    refine lv_goto (tgt := 367) hx hb dL_act_148 (by decide) ?_
                    have hf := Option.some.inj hf; subst hf
                    refine W.widen (k := 3) (n := 18) (by omega) (by omega) ?_
                    exact W.iret hx hb hr (fun t ht hW => ⟨⟨rfl, by rw [ht]; exact hP⟩, hS.F ht⟩) hS.2.2 dL_act_367
                · rw [if_pos c8] at hf
                  refine lv_aload_n hx hb dL_act_127 rfl (lv_at hl 0 rfl) ?_
                  refine lv_iload_n hx hb dL_act_128 rfl (lv_at hl 2 rfl) ?_
                  refine lv_iload_n hx hb dL_act_129 rfl (lv_at hl 3 rfl) ?_
                  obtain ⟨q38, hq38, hf⟩ := ob_some hf
                  refine xt_P (As := [.int p2, .int p3]) (rest := []) ⟨hx, hb, hml, hown, hts⟩ (k_X0_sum l dC dI cA a S p2 p3 _ hq38 hap hfl) gL_act_X0_sum rfl rfl rfl cd_X0_sum (Nat.le_of_ble_eq_true rfl) (Nat.le_of_ble_eq_true rfl) (preTsH hK hP hE hS hA) rfl hl.1 rfl (Nat.le_of_ble_eq_true rfl) (by show 0 + 2 ≤ 3; omega) (by show 0 + 12 ≤ 18; omega) dL_act_130 hS hA (fun hne E ce q9 H locs hEq hz hk hS hce hcv hcl => ?_) (fun hne H locs hP _ hS => ?_)
                  · rw [if_neg hne] at hf
                    exact hcatch 130 (by decide) (by decide) _ _ _ _ _ _ _ _ ls hf hEq (kept_all hP hk) hS hce hcv hcl (by show 0 + 2 ≤ 3; omega) (by show 0 + 12 ≤ 18; omega) (lv_sub hl [0, 1, 2, 3, 4] rfl)
                  rw [if_pos hne] at hf
                  refine lv_goto (tgt := 367) hx hb dL_act_133 (by decide) ?_
                  have hf := Option.some.inj hf; subst hf
                  refine W.widen (k := 3) (n := 18) (by omega) (by omega) ?_
                  exact W.iret hx hb hr (fun t ht hW => ⟨⟨rfl, by rw [ht]; exact hP⟩, hS.F ht⟩) hS.2.2 dL_act_367
              · rw [if_pos c7] at hf
                refine lv_aload_n hx hb dL_act_113 rfl (lv_at hl 0 rfl) ?_
                refine lv_iload_n hx hb dL_act_114 rfl (lv_at hl 2 rfl) ?_
                obtain ⟨q39, hq39, hf⟩ := ob_some hf
                refine xt_P (As := [.int p2]) (rest := []) ⟨hx, hb, hml, hown, hts⟩ (k_X0_make l dC dI cA a S p2 _ hq39 hap hfl) gL_act_X0_make rfl rfl rfl cd_X0_make (Nat.le_of_ble_eq_true rfl) (Nat.le_of_ble_eq_true rfl) (preTsH hK hP hE hS hA) rfl hl.1 rfl (Nat.le_of_ble_eq_true rfl) (by show 0 + 2 ≤ 3; omega) (by show 0 + 12 ≤ 18; omega) dL_act_115 hS hA (fun hne E ce q9 H locs hEq hz hk hS hce hcv hcl => ?_) (fun hne H locs hP _ hS => ?_)
                · rw [if_neg hne] at hf
                  exact hcatch 115 (by decide) (by decide) _ _ _ _ _ _ _ _ ls hf hEq (kept_all hP hk) hS hce hcv hcl (by show 0 + 2 ≤ 3; omega) (by show 0 + 12 ≤ 18; omega) (lv_sub hl [0, 1, 2, 3, 4] rfl)
                rw [if_pos hne] at hf
                refine lv_goto (tgt := 367) hx hb dL_act_118 (by decide) ?_
                have hf := Option.some.inj hf; subst hf
                refine W.widen (k := 3) (n := 18) (by omega) (by omega) ?_
                exact W.iret hx hb hr (fun t ht hW => ⟨⟨rfl, by rw [ht]; exact hP⟩, hS.F ht⟩) hS.2.2 dL_act_367
            · rw [if_pos c6] at hf
              refine lv_aload_n hx hb dL_act_98 rfl (lv_at hl 0 rfl) ?_
              refine lv_iload_n hx hb dL_act_99 rfl (lv_at hl 2 rfl) ?_
              refine lv_iload_n hx hb dL_act_100 rfl (lv_at hl 3 rfl) ?_
              obtain ⟨q40, hq40, hf⟩ := ob_some hf
              refine xt_P (As := [.int p2, .int p3]) (rest := []) ⟨hx, hb, hml, hown, hts⟩ (k_X0_weigh l dC dI cA a S p2 p3 _ hq40 hap hfl) gL_act_X0_weigh rfl rfl rfl cd_X0_weigh (Nat.le_of_ble_eq_true rfl) (Nat.le_of_ble_eq_true rfl) (preTsH hK hP hE hS hA) rfl hl.1 rfl (Nat.le_of_ble_eq_true rfl) (by show 0 + 2 ≤ 3; omega) (by show 0 + 12 ≤ 18; omega) dL_act_101 hS hA (fun hne E ce q9 H locs hEq hz hk hS hce hcv hcl => ?_) (fun hne H locs hP _ hS => ?_)
              · rw [if_neg hne] at hf
                exact hcatch 101 (by decide) (by decide) _ _ _ _ _ _ _ _ ls hf hEq (kept_all hP hk) hS hce hcv hcl (by show 0 + 2 ≤ 3; omega) (by show 0 + 12 ≤ 18; omega) (lv_sub hl [0, 1, 2, 3, 4] rfl)
              rw [if_pos hne] at hf
              refine lv_goto (tgt := 367) hx hb dL_act_104 (by decide) ?_
              have hf := Option.some.inj hf; subst hf
              refine W.widen (k := 3) (n := 18) (by omega) (by omega) ?_
              exact W.iret hx hb hr (fun t ht hW => ⟨⟨rfl, by rw [ht]; exact hP⟩, hS.F ht⟩) hS.2.2 dL_act_367
          · rw [if_pos c5] at hf
            refine lv_aload_n hx hb dL_act_82 rfl (lv_at hl 0 rfl) ?_
            refine lv_iload_n hx hb dL_act_83 rfl (lv_at hl 2 rfl) ?_
            refine lv_iload_n hx hb dL_act_84 rfl (lv_at hl 3 rfl) ?_
            refine lv_iload hx hb dL_act_85 (lv_at hl 4 rfl) ?_
            obtain ⟨q41, hq41, hf⟩ := ob_some hf
            refine xt_P (As := [.int p2, .int p3, .int p4]) (rest := []) ⟨hx, hb, hml, hown, hts⟩ (k_X0_room l dC dI cA a S p2 p3 p4 _ hq41 hap hfl) gL_act_X0_room rfl rfl rfl cd_X0_room (Nat.le_of_ble_eq_true rfl) (Nat.le_of_ble_eq_true rfl) (preTsH hK hP hE hS hA) rfl hl.1 rfl (Nat.le_of_ble_eq_true rfl) (by show 0 + 2 ≤ 3; omega) (by show 0 + 12 ≤ 18; omega) dL_act_87 hS hA (fun hne E ce q9 H locs hEq hz hk hS hce hcv hcl => ?_) (fun hne H locs hP _ hS => ?_)
            · rw [if_neg hne] at hf
              exact hcatch 87 (by decide) (by decide) _ _ _ _ _ _ _ _ ls hf hEq (kept_all hP hk) hS hce hcv hcl (by show 0 + 2 ≤ 3; omega) (by show 0 + 12 ≤ 18; omega) (lv_sub hl [0, 1, 2, 3, 4] rfl)
            rw [if_pos hne] at hf
            refine lv_goto (tgt := 367) hx hb dL_act_90 (by decide) ?_
            have hf := Option.some.inj hf; subst hf
            refine W.widen (k := 3) (n := 18) (by omega) (by omega) ?_
            exact W.iret hx hb hr (fun t ht hW => ⟨⟨rfl, by rw [ht]; exact hP⟩, hS.F ht⟩) hS.2.2 dL_act_367
        · rw [if_pos c4] at hf
          refine lv_aload_n hx hb dL_act_66 rfl (lv_at hl 0 rfl) ?_
          refine lv_iload_n hx hb dL_act_67 rfl (lv_at hl 2 rfl) ?_
          refine lv_iload_n hx hb dL_act_68 rfl (lv_at hl 3 rfl) ?_
          refine lv_iload hx hb dL_act_69 (lv_at hl 4 rfl) ?_
          obtain ⟨q42, hq42, hf⟩ := ob_some hf
          refine xt_P (As := [.int p2, .int p3, .int p4]) (rest := []) ⟨hx, hb, hml, hown, hts⟩ (k_X0_colour l dC dI cA a S p2 p3 p4 _ hq42 hap hfl) gL_act_X0_colour rfl rfl rfl cd_X0_colour (Nat.le_of_ble_eq_true rfl) (Nat.le_of_ble_eq_true rfl) (preTsH hK hP hE hS hA) rfl hl.1 rfl (Nat.le_of_ble_eq_true rfl) (by show 0 + 1 ≤ 3; omega) (by show 0 + 6 ≤ 18; omega) dL_act_71 hS hA (fun hne E ce q9 H locs hEq hz hk hS hce hcv hcl => ?_) (fun hne H locs hP _ hS => ?_)
          · rw [if_neg hne] at hf
            exact hcatch 71 (by decide) (by decide) _ _ _ _ _ _ _ _ ls hf hEq (kept_all hP hk) hS hce hcv hcl (by show 0 + 1 ≤ 3; omega) (by show 0 + 6 ≤ 18; omega) (lv_sub hl [0, 1, 2, 3, 4] rfl)
          rw [if_pos hne] at hf
          refine lv_goto (tgt := 367) hx hb dL_act_74 (by decide) ?_
          have hf := Option.some.inj hf; subst hf
          refine W.widen (k := 3) (n := 18) (by omega) (by omega) ?_
          exact W.iret hx hb hr (fun t ht hW => ⟨⟨rfl, by rw [ht]; exact hP⟩, hS.F ht⟩) hS.2.2 dL_act_367
      · rw [if_pos c3] at hf
        refine lv_aload_n hx hb dL_act_50 rfl (lv_at hl 0 rfl) ?_
        refine lv_iload_n hx hb dL_act_51 rfl (lv_at hl 2 rfl) ?_
        refine lv_iload_n hx hb dL_act_52 rfl (lv_at hl 3 rfl) ?_
        refine lv_iload hx hb dL_act_53 (lv_at hl 4 rfl) ?_
        obtain ⟨q43, hq43, hf⟩ := ob_some hf
        refine xt_P (As := [.int p2, .int p3, .int p4]) (rest := []) ⟨hx, hb, hml, hown, hts⟩ (k_X0_edge l dC dI cA a S p2 p3 p4 _ hq43 hap hfl) gL_act_X0_edge rfl rfl rfl cd_X0_edge (Nat.le_of_ble_eq_true rfl) (Nat.le_of_ble_eq_true rfl) (preTsH hK hP hE hS hA) rfl hl.1 rfl (Nat.le_of_ble_eq_true rfl) (by show 0 + 2 ≤ 3; omega) (by show 0 + 12 ≤ 18; omega) dL_act_55 hS hA (fun hne E ce q9 H locs hEq hz hk hS hce hcv hcl => ?_) (fun hne H locs hP _ hS => ?_)
        · rw [if_neg hne] at hf
          exact hcatch 55 (by decide) (by decide) _ _ _ _ _ _ _ _ ls hf hEq (kept_all hP hk) hS hce hcv hcl (by show 0 + 2 ≤ 3; omega) (by show 0 + 12 ≤ 18; omega) (lv_sub hl [0, 1, 2, 3, 4] rfl)
        rw [if_pos hne] at hf
        refine lv_goto (tgt := 367) hx hb dL_act_58 (by decide) ?_
        have hf := Option.some.inj hf; subst hf
        refine W.widen (k := 3) (n := 18) (by omega) (by omega) ?_
        exact W.iret hx hb hr (fun t ht hW => ⟨⟨rfl, by rw [ht]; exact hP⟩, hS.F ht⟩) hS.2.2 dL_act_367
    · rw [if_pos c2] at hf
      refine lv_aload_n hx hb dL_act_17 rfl (lv_at hl 0 rfl) ?_
      refine lv_iload_n hx hb dL_act_18 rfl (lv_at hl 2 rfl) ?_
      refine lv_iload_n hx hb dL_act_19 rfl (lv_at hl 3 rfl) ?_
      refine lv_iload hx hb dL_act_20 (lv_at hl 4 rfl) ?_
      refine lv_iconst (v := 1) hx hb dL_act_22 (by decide) ?_
      refine lv_icmp_ne (tgt := 30) hx hb dL_act_23 (by decide) (fun c44 => ?_) (fun c44 => ?_)
      · rw [if_neg c44] at hf
        refine lv_iconst (v := 0) hx hb dL_act_30 (by decide) ?_
        exact hW31 0 0 S p2 p3 0 _ _ ls (by omega) (by omega) hf hP hS (lv_sub hl [0, 1, 2, 3, 4] rfl)
      · rw [if_pos c44] at hf
        refine lv_iconst (v := 1) hx hb dL_act_26 (by decide) ?_
        refine lv_goto (tgt := 31) hx hb dL_act_27 (by decide) ?_
        exact hW31 0 0 S p2 p3 1 _ _ ls (by omega) (by omega) hf hP hS (lv_sub hl [0, 1, 2, 3, 4] rfl)
  · rw [if_pos c1] at hf
    refine lv_aload_n hx hb dL_act_4 rfl (lv_at hl 0 rfl) ?_
    refine lv_iload_n hx hb dL_act_5 rfl (lv_at hl 2 rfl) ?_
    obtain ⟨q45, hq45, hf⟩ := ob_some hf
    refine xt_P (As := [.int p2]) (rest := []) ⟨hx, hb, hml, hown, hts⟩ (k_X0_elements l dC dI cA a S p2 _ hq45 hap hfl) gL_act_X0_elements rfl rfl rfl cd_X0_elements (Nat.le_of_ble_eq_true rfl) (Nat.le_of_ble_eq_true rfl) (preTsH hK hP hE hS hA) rfl hl.1 rfl (Nat.le_of_ble_eq_true rfl) (by show 0 + 1 ≤ 3; omega) (by show 0 + 6 ≤ 18; omega) dL_act_6 hS hA (fun hne E ce q9 H locs hEq hz hk hS hce hcv hcl => ?_) (fun hne H locs hP _ hS => ?_)
    · rw [if_neg hne] at hf
      exact hcatch 6 (by decide) (by decide) _ _ _ _ _ _ _ _ ls hf hEq (kept_all hP hk) hS hce hcv hcl (by show 0 + 1 ≤ 3; omega) (by show 0 + 6 ≤ 18; omega) (lv_sub hl [0, 1, 2, 3, 4] rfl)
    rw [if_pos hne] at hf
    refine lv_goto (tgt := 367) hx hb dL_act_9 (by decide) ?_
    have hf := Option.some.inj hf; subst hf
    refine W.widen (k := 3) (n := 18) (by omega) (by omega) ?_
    exact W.iret hx hb hr (fun t ht hW => ⟨⟨rfl, by rw [ht]; exact hP⟩, hS.F ht⟩) hS.2.2 dL_act_367

def f_L_elements (S : St) (o : Nat → Int64) (p1 : Int32) : Option (Int32 × St × (Nat → Int64)) := (f_X0_elements S p1).bind fun q => (if q.1 = 0 then some (0, q.2.2, vp_updL o (0 : Int32).toNatClampNeg q.2.1.toInt64) else (if q.1 = 2 then some (1, S, o) else none))
def f_L_cover (S : St) (o : Nat → Int64) (p1 : Int32) (p2 : Int32) (p3 : Int32) : Option (Int32 × St × (Nat → Int64)) := (f_X0_cover S p1 p2 p3).bind fun q => (if q.1 = 0 then (if q.2.1 = 0 then some (0, q.2.2, vp_updL o (0 : Int32).toNatClampNeg 0) else some (0, q.2.2, vp_updL o (0 : Int32).toNatClampNeg 1)) else (if q.1 = 1 then some (1, S, o) else none))
def f_L_edge (S : St) (o : Nat → Int64) (p1 : Int32) (p2 : Int32) (p3 : Int32) : Option (Int32 × St × (Nat → Int64)) := (f_X0_edge S p1 p2 p3).bind fun q => (if q.1 = 0 then some (0, q.2.2, vp_updL o (0 : Int32).toNatClampNeg q.2.1.toInt64) else (if q.1 = 1 then some (1, S, o) else (if q.1 = 2 then some (2, S, o) else none)))
def f_L_colour (S : St) (o : Nat → Int64) (p1 : Int32) (p2 : Int32) (p3 : Int32) : Option (Int32 × St × (Nat → Int64)) := (f_X0_colour S p1 p2 p3).bind fun q => (if q.1 = 0 then some (0, q.2.2, vp_updL o (0 : Int32).toNatClampNeg q.2.1.toInt64) else (if q.1 = 1 then some (1, S, o) else none))
def f_L_room (S : St) (o : Nat → Int64) (p1 : Int32) (p2 : Int32) (p3 : Int32) : Option (Int32 × St × (Nat → Int64)) := (f_X0_room S p1 p2 p3).bind fun q => (if q.1 = 0 then some (0, q.2.2, vp_updL o (0 : Int32).toNatClampNeg q.2.1.toInt64) else (if q.1 = 1 then some (1, S, o) else (if q.1 = 2 then some (2, S, o) else none)))
def f_L_weigh (S : St) (o : Nat → Int64) (p1 : Int32) (p2 : Int32) : Option (Int32 × St × (Nat → Int64)) := (f_X0_weigh S p1 p2).bind fun q => (if q.1 = 0 then some (0, q.2.2, vp_updL o (0 : Int32).toNatClampNeg q.2.1.toInt64) else (if q.1 = 1 then some (1, S, o) else (if q.1 = 2 then some (2, S, o) else none)))
def f_L_make (S : St) (o : Nat → Int64) (p1 : Int32) : Option (Int32 × St × (Nat → Int64)) := (f_X0_make S p1).bind fun q => (if q.1 = 0 then some (0, q.2.2, vp_updL o (0 : Int32).toNatClampNeg q.2.1.toInt64) else (if q.1 = 2 then some (1, S, o) else (if q.1 = 3 then some (2, S, o) else none)))
def f_L_sum (S : St) (o : Nat → Int64) (p1 : Int32) (p2 : Int32) : Option (Int32 × St × (Nat → Int64)) := (f_X0_sum S p1 p2).bind fun q => (if q.1 = 0 then some (0, q.2.2, vp_updL o (0 : Int32).toNatClampNeg q.2.1.toInt64) else (if q.1 = 1 then some (1, S, o) else (if q.1 = 3 then some (2, S, o) else none)))
def f_L_contract (S : St) (o : Nat → Int64) (p1 : Int32) (p2 : Int32) : Option (Int32 × St × (Nat → Int64)) := (f_X0_contract S p1 p2).bind fun q => (if q.1 = 0 then some (0, q.2.2, vp_updL o (0 : Int32).toNatClampNeg q.2.1.toInt64) else (if q.1 = 1 then some (1, S, o) else (if q.1 = 2 then some (2, S, o) else (if q.1 = 3 then some (3, S, o) else none))))
def f_L_cap (S : St) (o : Nat → Int64) (p1 : Int32) (p2 : Int32) : Option (Int32 × St × (Nat → Int64)) := (f_X0_cap S p1 p2).bind fun q => (if q.1 = 0 then some (0, q.2.2, vp_updL o (0 : Int32).toNatClampNeg q.2.1.toInt64) else (if q.1 = 1 then some (1, S, o) else (if q.1 = 2 then some (2, S, o) else (if q.1 = 3 then some (3, S, o) else none))))
def f_L_value (S : St) (o : Nat → Int64) (p1 : Int32) (p2 : Int32) : Option (Int32 × St × (Nat → Int64)) := (f_X0_value S p1 p2).bind fun q => (if q.1 = 0 then some (0, q.2.2, vp_updL o (0 : Int32).toNatClampNeg q.2.1.toInt64) else (if q.1 = 1 then some (1, S, o) else (if q.1 = 2 then some (2, S, o) else none)))
def f_L_isLawful (S : St) (o : Nat → Int64) (p1 : Int32) : Option (Int32 × St × (Nat → Int64)) := (f_X0_isLawful S p1).bind fun q => (if q.1 = 0 then (if q.2.1 = 0 then some (0, q.2.2, vp_updL o (0 : Int32).toNatClampNeg 0) else some (0, q.2.2, vp_updL o (0 : Int32).toNatClampNeg 1)) else (if q.1 = 1 then some (1, S, o) else none))
def f_L_rises (S : St) (o : Nat → Int64) (p1 : Int32) : Option (Int32 × St × (Nat → Int64)) := (f_X0_rises S p1).bind fun q => (if q.1 = 0 then (if q.2.1 = 0 then some (0, q.2.2, vp_updL o (0 : Int32).toNatClampNeg 0) else some (0, q.2.2, vp_updL o (0 : Int32).toNatClampNeg 1)) else (if q.1 = 1 then some (1, S, o) else none))
def f_L_least (S : St) (o : Nat → Int64) (p1 : Int32) : Option (Int32 × St × (Nat → Int64)) := (f_X0_least S p1).bind fun q => (if q.1 = 0 then some (0, q.2.2, vp_updL o (0 : Int32).toNatClampNeg q.2.1.toInt64) else (if q.1 = 1 then some (1, S, o) else (if q.1 = 3 then some (2, S, o) else none)))
def f_L_leastSet (S : St) (o : Nat → Int64) (p1 : Int32) (p2 : Int32) : Option (Int32 × St × (Nat → Int64)) := (f_X0_leastSet S p1 p2).bind fun q => (if q.1 = 0 then some (0, q.2.2, vp_updL o (0 : Int32).toNatClampNeg q.2.1.toInt64) else (if q.1 = 1 then some (1, S, o) else (if q.1 = 3 then some (2, S, o) else none)))
def f_L_leastSetAnew (S : St) (o : Nat → Int64) (p1 : Int32) (p2 : Int32) : Option (Int32 × St × (Nat → Int64)) := (f_X0_leastSetAnew S p1 p2).bind fun q => (if q.1 = 0 then some (0, q.2.2, vp_updL o (0 : Int32).toNatClampNeg q.2.1.toInt64) else (if q.1 = 1 then some (1, S, o) else (if q.1 = 3 then some (2, S, o) else none)))
def f_L_order (S : St) (o : Nat → Int64) (p1 : Int32) : Option (Int32 × St × (Nat → Int64)) := (f_X0_order S p1).bind fun q => (if q.1 = 0 then some (0, q.2.2, vp_updL o (0 : Int32).toNatClampNeg q.2.1.toInt64) else (if q.1 = 1 then some (1, S, o) else (if q.1 = 3 then some (2, S, o) else none)))
def f_L_corner (S : St) (o : Nat → Int64) (p1 : Int32) (p2 : Int32) : Option (Int32 × St × (Nat → Int64)) := (f_X0_corner S p1 p2).bind fun q => (if q.1 = 0 then some (0, q.2.2, vp_updL o (0 : Int32).toNatClampNeg q.2.1.toInt64) else (if q.1 = 1 then some (1, S, o) else (if q.1 = 3 then some (2, S, o) else none)))
def f_L_greedy (S : St) (o : Nat → Int64) (p1 : Int32) (p2 : Int32) : Option (Int32 × St × (Nat → Int64)) := (f_X0_greedy S p1 p2).bind fun q => (if q.1 = 0 then some (0, q.2.2, vp_updL o (0 : Int32).toNatClampNeg q.2.1.toInt64) else (if q.1 = 1 then some (1, S, o) else (if q.1 = 2 then some (2, S, o) else none)))
def f_L_best (S : St) (o : Nat → Int64) (p1 : Int32) (p2 : Int32) : Option (Int32 × St × (Nat → Int64)) := (f_X0_best S p1 p2).bind fun q => (if q.1 = 0 then some (0, q.2.2, vp_updL o (0 : Int32).toNatClampNeg q.2.1.toInt64) else (if q.1 = 1 then some (1, S, o) else (if q.1 = 2 then some (2, S, o) else none)))
def f_L_share (S : St) (o : Nat → Int64) (p1 : Int32) (p2 : Int32) : Option (Int32 × St × (Nat → Int64)) := (f_X0_share S p1 p2).bind fun q => (if q.1 = 0 then some (0, q.2.2, vp_updL o (0 : Int32).toNatClampNeg q.2.1.toInt64) else (if q.1 = 1 then some (1, S, o) else none))
def f_L_shareAnew (S : St) (o : Nat → Int64) (p1 : Int32) (p2 : Int32) : Option (Int32 × St × (Nat → Int64)) := (f_X0_shareAnew S p1 p2).bind fun q => (if q.1 = 0 then some (0, q.2.2, vp_updL o (0 : Int32).toNatClampNeg q.2.1.toInt64) else (if q.1 = 1 then some (1, S, o) else none))
theorem cd_L_elements : yL_elements.cls ≠ "java/lang/invoke/MethodHandle" ∧ yL_elements.cls ≠ "java/lang/invoke/VarHandle" ∧ (parseMethodDescriptor yL_elements.desc).map (fun d => d.parameters.length) = some 3 := by decide +kernel
set_option maxHeartbeats 4000000 in
set_option maxRecDepth 100000 in
theorem k_L_elements (l : Launch) (hfl : l.stackTraces = false) (dC : Nat → ClassId) (dI : Nat → Nat → Nat) (cA cL : ClassId) (a : Nat → Nat) (oa : Nat) (S : St) (o : Nat → Int64) (p1 : Int32) (r : Int32 × St × (Nat → Int64)) (hf : f_L_elements S o p1 = some r) (hap : apart a 10) (ho : ∀ k, k < 10 → a k ≠ oa) : Met l yL_elements wsL_elements ({ frames := 8, cells := 1, slots := 6, locals := 132 }) (va_Pc [.ref (a 0), .int p1, .ref oa] (PLs (dC, dI) cA cL a oa S o)) (qL (dC, dI) cA cL a oa r) 1 6 (adL a oa) := by
  refine ofWH (cc := cL_elements) (maxL := 4) (ret := (some .int)) (hh := [(0, 9, 12, 13)]) (by decide) rfl ?_
  intro p e s m args below meth c s₁ B hml hv
  obtain ⟨rfl, hP, hPo, hK, hEx, hNc⟩ := hv
  have hx := B.exec
  have hb := B.bytes
  have hr := B.returns
  have hts := atoms_spec (ws := wsL_elements) B.pre
  have hown : s.vm.findClass RL = some m.cls := findClass_of_methodNamed B.named
  have hlocks := B.notSynchronized
  have htb : c.exceptionTable.toList = tableOf [(0, 9, 12, 13)] := vx_table (x := yL_elements) B (hts (.codeWith yL_elements cL_elements 4 (some .int) [(0, 9, 12, 13)]) List.mem_cons_self)
  have hS : va_S (adL a oa) s.heap s.heap [] := va_S.rf
  have hK1 : va_K (dC, dI) vwCl [(cA, .int)] s := hK.sub [0] rfl
  have hEx1 : TXo (ad a 10) s := hEx.at rfl (State.WarmedH.refl s) (fun q h => Or.inl h)
  have hcs := hEx.2.2.2.2.2.1
  have hl := lv_entry ([.ref (a 0), .int p1, .ref oa]) (n := 4) (Nat.le_of_ble_eq_true rfl)
  rw [lg_entry_eq]
  generalize (lg_sl ([.ref (a 0), .int p1, .ref oa]) ++ List.replicate (4 - (lg_sl ([.ref (a 0), .int p1, .ref oa])).length) Slot.unset).toArray = ls at hl ⊢
  have hl : lv_has ls 4 [(0, .ref (a 0)), (1, .int p1), (2, .ref oa)] := hl
  unfold f_L_elements at hf
  obtain ⟨q, hq, hf⟩ := ob_some hf
  refine lv_aload_n hx hb dL_elements_0 rfl (lv_at hl 2 rfl) ?_
  refine lv_iconst (v := 0) hx hb dL_elements_1 (by decide) ?_
  refine lv_aload_n hx hb dL_elements_2 rfl (lv_at hl 0 rfl) ?_
  refine lv_iload_n hx hb dL_elements_3 rfl (lv_at hl 1 rfl) ?_
  refine xt_P (As := [.int p1]) (rest := [.int 0, .ref oa]) ⟨hx, hb, hml, hown, hts⟩ (k_X0_elements l dC dI cA a S p1 _ hq hap hfl) gL_elements_X0_elements rfl rfl rfl cd_X0_elements (Nat.le_of_ble_eq_true rfl) (Nat.le_of_ble_eq_true rfl) (preTs hK1 hP hEx1) rfl hl.1 rfl (Nat.le_of_ble_eq_true rfl) (Nat.le_of_ble_eq_true rfl) (Nat.le_of_ble_eq_true rfl) dL_elements_4 hS (fun q h => Or.inl h) (fun hne E ce q9 H locs hE hz hk hS hce hcv hcl => ?_) (fun hne H locs hP hk hS => ?_)
  · rw [if_neg hne] at hf
    have hP := kept_all hP hk
    have hPo := kept_all hPo hk
    by_cases c0 : q.1 = 2
    · rw [if_pos c0] at hf
      have hf := Option.some.inj hf; subst hf
      have hEe : E = "java/lang/IllegalArgumentException" := by rw [hE, c0]; rfl
      subst hEe
      refine vx_catch (own := RL) (name := "java/lang/IllegalArgumentException") hown [] ⟨0, 9, 12, 13⟩ [] (by rw [htb]; rfl) (fun z hz => by cases hz) (by decide) (by decide) (hts (.classLink RL 13 "java/lang/IllegalArgumentException") (by decide +kernel)) (va_Nw.use rfl (hcs 2)) hce hcv hcl ?_
      refine lv_astore_n (lv' := [(3, .ref q9), (0, .ref (a 0)), (1, .int p1), (2, .ref oa)]) hx hb dL_elements_12 rfl hl (by decide) rfl (fun ls hl => ?_)
      refine lv_iconst (v := 1) hx hb dL_elements_13 (by decide) ?_
      exact W.iret hx hb hr (fun t ht hW => ⟨⟨rfl, by rw [ht]; exact hP, by rw [ht]; exact hPo⟩, hS.F ht⟩) hS.2.2 dL_elements_14
    rw [if_neg c0] at hf
    cases hf
  · rw [if_pos hne] at hf
    have hPo := kept_but hPo (A := ad a 10) hk (fun k z hz h => by obtain ⟨i, hi, he⟩ := h; exact ho i hi (by rw [← he]; exact wO_at k z hz))
    refine lv_i2l (v := q.2.1.toInt64) hx hb dL_elements_7 rfl ?_
    refine putO hx hb hK hP hPo hap ho hS dL_elements_8 (fun H locs hP hPo hS => ?_)
    refine lv_goto (tgt := 15) hx hb dL_elements_9 (by decide) ?_
    refine lv_iconst (v := 0) hx hb dL_elements_15 (by decide) ?_
    have hf := Option.some.inj hf; subst hf
    exact W.iret hx hb hr (fun t ht hW => ⟨⟨rfl, by rw [ht]; exact hP, by rw [ht]; exact hPo⟩, hS.F ht⟩) hS.2.2 dL_elements_16
theorem cd_L_cover : yL_cover.cls ≠ "java/lang/invoke/MethodHandle" ∧ yL_cover.cls ≠ "java/lang/invoke/VarHandle" ∧ (parseMethodDescriptor yL_cover.desc).map (fun d => d.parameters.length) = some 5 := by decide +kernel
set_option maxHeartbeats 4000000 in
set_option maxRecDepth 100000 in
theorem k_L_cover (l : Launch) (hfl : l.stackTraces = false) (dC : Nat → ClassId) (dI : Nat → Nat → Nat) (cA cL : ClassId) (a : Nat → Nat) (oa : Nat) (S : St) (o : Nat → Int64) (p1 : Int32) (p2 : Int32) (p3 : Int32) (r : Int32 × St × (Nat → Int64)) (hf : f_L_cover S o p1 p2 p3 = some r) (hap : apart a 10) (ho : ∀ k, k < 10 → a k ≠ oa) : Met l yL_cover wsL_cover ({ frames := 8, cells := 1, slots := 6, locals := 134 }) (va_Pc [.ref (a 0), .int p1, .int p2, .int p3, .ref oa] (PLs (dC, dI) cA cL a oa S o)) (qL (dC, dI) cA cL a oa r) 1 6 (adL a oa) := by
  refine ofWH (cc := cL_cover) (maxL := 6) (ret := (some .int)) (hh := [(0, 19, 22, 19)]) (by decide) rfl ?_
  intro p e s m args below meth c s₁ B hml hv
  obtain ⟨rfl, hP, hPo, hK, hEx, hNc⟩ := hv
  have hx := B.exec
  have hb := B.bytes
  have hr := B.returns
  have hts := atoms_spec (ws := wsL_cover) B.pre
  have hown : s.vm.findClass RL = some m.cls := findClass_of_methodNamed B.named
  have hlocks := B.notSynchronized
  have htb : c.exceptionTable.toList = tableOf [(0, 19, 22, 19)] := vx_table (x := yL_elements) B (hts (.codeWith yL_cover cL_cover 6 (some .int) [(0, 19, 22, 19)]) List.mem_cons_self)
  have hS : va_S (adL a oa) s.heap s.heap [] := va_S.rf
  have hK1 : va_K (dC, dI) vwCl [(cA, .int)] s := hK.sub [0] rfl
  have hEx1 : TXo (ad a 10) s := hEx.at rfl (State.WarmedH.refl s) (fun q h => Or.inl h)
  have hcs := hEx.2.2.2.2.2.1
  have hl := lv_entry ([.ref (a 0), .int p1, .int p2, .int p3, .ref oa]) (n := 6) (Nat.le_of_ble_eq_true rfl)
  rw [lg_entry_eq]
  generalize (lg_sl ([.ref (a 0), .int p1, .int p2, .int p3, .ref oa]) ++ List.replicate (6 - (lg_sl ([.ref (a 0), .int p1, .int p2, .int p3, .ref oa])).length) Slot.unset).toArray = ls at hl ⊢
  have hl : lv_has ls 6 [(0, .ref (a 0)), (1, .int p1), (2, .int p2), (3, .int p3), (4, .ref oa)] := hl
  unfold f_L_cover at hf
  obtain ⟨q, hq, hf⟩ := ob_some hf
  refine lv_aload hx hb dL_cover_0 (lv_at hl 4 rfl) ?_
  refine lv_iconst (v := 0) hx hb dL_cover_2 (by decide) ?_
  refine lv_aload_n hx hb dL_cover_3 rfl (lv_at hl 0 rfl) ?_
  refine lv_iload_n hx hb dL_cover_4 rfl (lv_at hl 1 rfl) ?_
  refine lv_iload_n hx hb dL_cover_5 rfl (lv_at hl 2 rfl) ?_
  refine lv_iload_n hx hb dL_cover_6 rfl (lv_at hl 3 rfl) ?_
  refine xt_P (As := [.int p1, .int p2, .int p3]) (rest := [.int 0, .ref oa]) ⟨hx, hb, hml, hown, hts⟩ (k_X0_cover l dC dI cA a S p1 p2 p3 _ hq hap hfl) gL_cover_X0_cover rfl rfl rfl cd_X0_cover (Nat.le_of_ble_eq_true rfl) (Nat.le_of_ble_eq_true rfl) (preTs hK1 hP hEx1) rfl hl.1 rfl (Nat.le_of_ble_eq_true rfl) (Nat.le_of_ble_eq_true rfl) (Nat.le_of_ble_eq_true rfl) dL_cover_7 hS (fun q h => Or.inl h) (fun hne E ce q9 H locs hE hz hk hS hce hcv hcl => ?_) (fun hne H locs hP hk hS => ?_)
  · rw [if_neg hne] at hf
    have hP := kept_all hP hk
    have hPo := kept_all hPo hk
    by_cases c0 : q.1 = 1
    · rw [if_pos c0] at hf
      have hf := Option.some.inj hf; subst hf
      have hEe : E = "java/lang/IndexOutOfBoundsException" := by rw [hE, c0]; rfl
      subst hEe
      refine vx_catch (own := RL) (name := "java/lang/IndexOutOfBoundsException") hown [] ⟨0, 19, 22, 19⟩ [] (by rw [htb]; rfl) (fun z hz => by cases hz) (by decide) (by decide) (hts (.classLink RL 19 "java/lang/IndexOutOfBoundsException") (by decide +kernel)) (va_Nw.use rfl (hcs 1)) hce hcv hcl ?_
      refine lv_astore (lv' := [(5, .ref q9), (0, .ref (a 0)), (1, .int p1), (2, .int p2), (3, .int p3), (4, .ref oa)]) hx hb dL_cover_22 hl (by decide) rfl (fun ls hl => ?_)
      refine lv_iconst (v := 1) hx hb dL_cover_24 (by decide) ?_
      exact W.iret hx hb hr (fun t ht hW => ⟨⟨rfl, by rw [ht]; exact hP, by rw [ht]; exact hPo⟩, hS.F ht⟩) hS.2.2 dL_cover_25
    rw [if_neg c0] at hf
    cases hf
  · rw [if_pos hne] at hf
    have hPo := kept_but hPo (A := ad a 10) hk (fun k z hz h => by obtain ⟨i, hi, he⟩ := h; exact ho i hi (by rw [← he]; exact wO_at k z hz))
    refine lv_if_eq (tgt := 17) hx hb dL_cover_10 (by decide) (fun c9 => ?_) (fun c9 => ?_)
    · rw [if_pos c9] at hf
      refine lv_lconst (v := 0) hx hb dL_cover_17 (by decide) ?_
      refine putO hx hb hK hP hPo hap ho hS dL_cover_18 (fun H locs hP hPo hS => ?_)
      refine lv_goto (tgt := 26) hx hb dL_cover_19 (by decide) ?_
      refine lv_iconst (v := 0) hx hb dL_cover_26 (by decide) ?_
      have hf := Option.some.inj hf; subst hf
      exact W.iret hx hb hr (fun t ht hW => ⟨⟨rfl, by rw [ht]; exact hP, by rw [ht]; exact hPo⟩, hS.F ht⟩) hS.2.2 dL_cover_27
    · rw [if_neg c9] at hf
      refine lv_lconst (v := 1) hx hb dL_cover_13 (by decide) ?_
      refine lv_goto (tgt := 18) hx hb dL_cover_14 (by decide) ?_
      refine putO hx hb hK hP hPo hap ho hS dL_cover_18 (fun H locs hP hPo hS => ?_)
      refine lv_goto (tgt := 26) hx hb dL_cover_19 (by decide) ?_
      refine lv_iconst (v := 0) hx hb dL_cover_26 (by decide) ?_
      have hf := Option.some.inj hf; subst hf
      exact W.iret hx hb hr (fun t ht hW => ⟨⟨rfl, by rw [ht]; exact hP, by rw [ht]; exact hPo⟩, hS.F ht⟩) hS.2.2 dL_cover_27
theorem cd_L_edge : yL_edge.cls ≠ "java/lang/invoke/MethodHandle" ∧ yL_edge.cls ≠ "java/lang/invoke/VarHandle" ∧ (parseMethodDescriptor yL_edge.desc).map (fun d => d.parameters.length) = some 5 := by decide +kernel
set_option maxHeartbeats 4000000 in
set_option maxRecDepth 100000 in
theorem k_L_edge (l : Launch) (hfl : l.stackTraces = false) (dC : Nat → ClassId) (dI : Nat → Nat → Nat) (cA cL : ClassId) (a : Nat → Nat) (oa : Nat) (S : St) (o : Nat → Int64) (p1 : Int32) (p2 : Int32) (p3 : Int32) (r : Int32 × St × (Nat → Int64)) (hf : f_L_edge S o p1 p2 p3 = some r) (hap : apart a 10) (ho : ∀ k, k < 10 → a k ≠ oa) : Met l yL_edge wsL_edge ({ frames := 8, cells := 2, slots := 12, locals := 134 }) (va_Pc [.ref (a 0), .int p1, .int p2, .int p3, .ref oa] (PLs (dC, dI) cA cL a oa S o)) (qL (dC, dI) cA cL a oa r) 2 12 (adL a oa) := by
  refine ofWH (cc := cL_edge) (maxL := 6) (ret := (some .int)) (hh := [(0, 12, 15, 19), (0, 12, 19, 13)]) (by decide) rfl ?_
  intro p e s m args below meth c s₁ B hml hv
  obtain ⟨rfl, hP, hPo, hK, hEx, hNc⟩ := hv
  have hx := B.exec
  have hb := B.bytes
  have hr := B.returns
  have hts := atoms_spec (ws := wsL_edge) B.pre
  have hown : s.vm.findClass RL = some m.cls := findClass_of_methodNamed B.named
  have hlocks := B.notSynchronized
  have htb : c.exceptionTable.toList = tableOf [(0, 12, 15, 19), (0, 12, 19, 13)] := vx_table (x := yL_elements) B (hts (.codeWith yL_edge cL_edge 6 (some .int) [(0, 12, 15, 19), (0, 12, 19, 13)]) List.mem_cons_self)
  have hS : va_S (adL a oa) s.heap s.heap [] := va_S.rf
  have hK1 : va_K (dC, dI) vwCl [(cA, .int)] s := hK.sub [0] rfl
  have hEx1 : TXo (ad a 10) s := hEx.at rfl (State.WarmedH.refl s) (fun q h => Or.inl h)
  have hcs := hEx.2.2.2.2.2.1
  have hl := lv_entry ([.ref (a 0), .int p1, .int p2, .int p3, .ref oa]) (n := 6) (Nat.le_of_ble_eq_true rfl)
  rw [lg_entry_eq]
  generalize (lg_sl ([.ref (a 0), .int p1, .int p2, .int p3, .ref oa]) ++ List.replicate (6 - (lg_sl ([.ref (a 0), .int p1, .int p2, .int p3, .ref oa])).length) Slot.unset).toArray = ls at hl ⊢
  have hl : lv_has ls 6 [(0, .ref (a 0)), (1, .int p1), (2, .int p2), (3, .int p3), (4, .ref oa)] := hl
  unfold f_L_edge at hf
  obtain ⟨q, hq, hf⟩ := ob_some hf
  refine lv_aload hx hb dL_edge_0 (lv_at hl 4 rfl) ?_
  refine lv_iconst (v := 0) hx hb dL_edge_2 (by decide) ?_
  refine lv_aload_n hx hb dL_edge_3 rfl (lv_at hl 0 rfl) ?_
  refine lv_iload_n hx hb dL_edge_4 rfl (lv_at hl 1 rfl) ?_
  refine lv_iload_n hx hb dL_edge_5 rfl (lv_at hl 2 rfl) ?_
  refine lv_iload_n hx hb dL_edge_6 rfl (lv_at hl 3 rfl) ?_
  refine xt_P (As := [.int p1, .int p2, .int p3]) (rest := [.int 0, .ref oa]) ⟨hx, hb, hml, hown, hts⟩ (k_X0_edge l dC dI cA a S p1 p2 p3 _ hq hap hfl) gL_edge_X0_edge rfl rfl rfl cd_X0_edge (Nat.le_of_ble_eq_true rfl) (Nat.le_of_ble_eq_true rfl) (preTs hK1 hP hEx1) rfl hl.1 rfl (Nat.le_of_ble_eq_true rfl) (Nat.le_of_ble_eq_true rfl) (Nat.le_of_ble_eq_true rfl) dL_edge_7 hS (fun q h => Or.inl h) (fun hne E ce q9 H locs hE hz hk hS hce hcv hcl => ?_) (fun hne H locs hP hk hS => ?_)
  · rw [if_neg hne] at hf
    have hP := kept_all hP hk
    have hPo := kept_all hPo hk
    by_cases c0 : q.1 = 1
    · rw [if_pos c0] at hf
      have hf := Option.some.inj hf; subst hf
      have hEe : E = "java/lang/IndexOutOfBoundsException" := by rw [hE, c0]; rfl
      subst hEe
      refine vx_catch (own := RL) (name := "java/lang/IndexOutOfBoundsException") hown [] ⟨0, 12, 15, 19⟩ [⟨0, 12, 19, 13⟩] (by rw [htb]; rfl) (fun z hz => by cases hz) (by decide) (by decide) (hts (.classLink RL 19 "java/lang/IndexOutOfBoundsException") (by decide +kernel)) (va_Nw.use rfl (hcs 1)) hce hcv hcl ?_
      refine lv_astore (lv' := [(5, .ref q9), (0, .ref (a 0)), (1, .int p1), (2, .int p2), (3, .int p3), (4, .ref oa)]) hx hb dL_edge_15 hl (by decide) rfl (fun ls hl => ?_)
      refine lv_iconst (v := 1) hx hb dL_edge_17 (by decide) ?_
      exact W.iret hx hb hr (fun t ht hW => ⟨⟨rfl, by rw [ht]; exact hP, by rw [ht]; exact hPo⟩, hS.F ht⟩) hS.2.2 dL_edge_18
    rw [if_neg c0] at hf
    by_cases c1 : q.1 = 2
    · rw [if_pos c1] at hf
      have hf := Option.some.inj hf; subst hf
      have hEe : E = "java/lang/IllegalArgumentException" := by rw [hE, c1]; rfl
      subst hEe
      refine vx_catch (own := RL) (name := "java/lang/IllegalArgumentException") hown [⟨0, 12, 15, 19⟩] ⟨0, 12, 19, 13⟩ [] (by rw [htb]; rfl) (fun z hz => by
        rw [List.mem_singleton.mp hz]
        exact Or.inr ⟨by decide, "java/lang/IndexOutOfBoundsException", hts (.classLink RL 19 "java/lang/IndexOutOfBoundsException") (by decide +kernel), hNc 2 1 (by decide)⟩) (by decide) (by decide) (hts (.classLink RL 13 "java/lang/IllegalArgumentException") (by decide +kernel)) (va_Nw.use rfl (hcs 2)) hce hcv hcl ?_
      refine lv_astore (lv' := [(5, .ref q9), (0, .ref (a 0)), (1, .int p1), (2, .int p2), (3, .int p3), (4, .ref oa)]) hx hb dL_edge_19 hl (by decide) rfl (fun ls hl => ?_)
      refine lv_iconst (v := 2) hx hb dL_edge_21 (by decide) ?_
      exact W.iret hx hb hr (fun t ht hW => ⟨⟨rfl, by rw [ht]; exact hP, by rw [ht]; exact hPo⟩, hS.F ht⟩) hS.2.2 dL_edge_22
    rw [if_neg c1] at hf
    cases hf
  · rw [if_pos hne] at hf
    have hPo := kept_but hPo (A := ad a 10) hk (fun k z hz h => by obtain ⟨i, hi, he⟩ := h; exact ho i hi (by rw [← he]; exact wO_at k z hz))
    refine lv_i2l (v := q.2.1.toInt64) hx hb dL_edge_10 rfl ?_
    refine putO hx hb hK hP hPo hap ho hS dL_edge_11 (fun H locs hP hPo hS => ?_)
    refine lv_goto (tgt := 23) hx hb dL_edge_12 (by decide) ?_
    refine lv_iconst (v := 0) hx hb dL_edge_23 (by decide) ?_
    have hf := Option.some.inj hf; subst hf
    exact W.iret hx hb hr (fun t ht hW => ⟨⟨rfl, by rw [ht]; exact hP, by rw [ht]; exact hPo⟩, hS.F ht⟩) hS.2.2 dL_edge_24
theorem cd_L_colour : yL_colour.cls ≠ "java/lang/invoke/MethodHandle" ∧ yL_colour.cls ≠ "java/lang/invoke/VarHandle" ∧ (parseMethodDescriptor yL_colour.desc).map (fun d => d.parameters.length) = some 5 := by decide +kernel
set_option maxHeartbeats 4000000 in
set_option maxRecDepth 100000 in
theorem k_L_colour (l : Launch) (hfl : l.stackTraces = false) (dC : Nat → ClassId) (dI : Nat → Nat → Nat) (cA cL : ClassId) (a : Nat → Nat) (oa : Nat) (S : St) (o : Nat → Int64) (p1 : Int32) (p2 : Int32) (p3 : Int32) (r : Int32 × St × (Nat → Int64)) (hf : f_L_colour S o p1 p2 p3 = some r) (hap : apart a 10) (ho : ∀ k, k < 10 → a k ≠ oa) : Met l yL_colour wsL_colour ({ frames := 8, cells := 1, slots := 6, locals := 134 }) (va_Pc [.ref (a 0), .int p1, .int p2, .int p3, .ref oa] (PLs (dC, dI) cA cL a oa S o)) (qL (dC, dI) cA cL a oa r) 1 6 (adL a oa) := by
  refine ofWH (cc := cL_colour) (maxL := 6) (ret := (some .int)) (hh := [(0, 12, 15, 19)]) (by decide) rfl ?_
  intro p e s m args below meth c s₁ B hml hv
  obtain ⟨rfl, hP, hPo, hK, hEx, hNc⟩ := hv
  have hx := B.exec
  have hb := B.bytes
  have hr := B.returns
  have hts := atoms_spec (ws := wsL_colour) B.pre
  have hown : s.vm.findClass RL = some m.cls := findClass_of_methodNamed B.named
  have hlocks := B.notSynchronized
  have htb : c.exceptionTable.toList = tableOf [(0, 12, 15, 19)] := vx_table (x := yL_elements) B (hts (.codeWith yL_colour cL_colour 6 (some .int) [(0, 12, 15, 19)]) List.mem_cons_self)
  have hS : va_S (adL a oa) s.heap s.heap [] := va_S.rf
  have hK1 : va_K (dC, dI) vwCl [(cA, .int)] s := hK.sub [0] rfl
  have hEx1 : TXo (ad a 10) s := hEx.at rfl (State.WarmedH.refl s) (fun q h => Or.inl h)
  have hcs := hEx.2.2.2.2.2.1
  have hl := lv_entry ([.ref (a 0), .int p1, .int p2, .int p3, .ref oa]) (n := 6) (Nat.le_of_ble_eq_true rfl)
  rw [lg_entry_eq]
  generalize (lg_sl ([.ref (a 0), .int p1, .int p2, .int p3, .ref oa]) ++ List.replicate (6 - (lg_sl ([.ref (a 0), .int p1, .int p2, .int p3, .ref oa])).length) Slot.unset).toArray = ls at hl ⊢
  have hl : lv_has ls 6 [(0, .ref (a 0)), (1, .int p1), (2, .int p2), (3, .int p3), (4, .ref oa)] := hl
  unfold f_L_colour at hf
  obtain ⟨q, hq, hf⟩ := ob_some hf
  refine lv_aload hx hb dL_colour_0 (lv_at hl 4 rfl) ?_
  refine lv_iconst (v := 0) hx hb dL_colour_2 (by decide) ?_
  refine lv_aload_n hx hb dL_colour_3 rfl (lv_at hl 0 rfl) ?_
  refine lv_iload_n hx hb dL_colour_4 rfl (lv_at hl 1 rfl) ?_
  refine lv_iload_n hx hb dL_colour_5 rfl (lv_at hl 2 rfl) ?_
  refine lv_iload_n hx hb dL_colour_6 rfl (lv_at hl 3 rfl) ?_
  refine xt_P (As := [.int p1, .int p2, .int p3]) (rest := [.int 0, .ref oa]) ⟨hx, hb, hml, hown, hts⟩ (k_X0_colour l dC dI cA a S p1 p2 p3 _ hq hap hfl) gL_colour_X0_colour rfl rfl rfl cd_X0_colour (Nat.le_of_ble_eq_true rfl) (Nat.le_of_ble_eq_true rfl) (preTs hK1 hP hEx1) rfl hl.1 rfl (Nat.le_of_ble_eq_true rfl) (Nat.le_of_ble_eq_true rfl) (Nat.le_of_ble_eq_true rfl) dL_colour_7 hS (fun q h => Or.inl h) (fun hne E ce q9 H locs hE hz hk hS hce hcv hcl => ?_) (fun hne H locs hP hk hS => ?_)
  · rw [if_neg hne] at hf
    have hP := kept_all hP hk
    have hPo := kept_all hPo hk
    by_cases c0 : q.1 = 1
    · rw [if_pos c0] at hf
      have hf := Option.some.inj hf; subst hf
      have hEe : E = "java/lang/IndexOutOfBoundsException" := by rw [hE, c0]; rfl
      subst hEe
      refine vx_catch (own := RL) (name := "java/lang/IndexOutOfBoundsException") hown [] ⟨0, 12, 15, 19⟩ [] (by rw [htb]; rfl) (fun z hz => by cases hz) (by decide) (by decide) (hts (.classLink RL 19 "java/lang/IndexOutOfBoundsException") (by decide +kernel)) (va_Nw.use rfl (hcs 1)) hce hcv hcl ?_
      refine lv_astore (lv' := [(5, .ref q9), (0, .ref (a 0)), (1, .int p1), (2, .int p2), (3, .int p3), (4, .ref oa)]) hx hb dL_colour_15 hl (by decide) rfl (fun ls hl => ?_)
      refine lv_iconst (v := 1) hx hb dL_colour_17 (by decide) ?_
      exact W.iret hx hb hr (fun t ht hW => ⟨⟨rfl, by rw [ht]; exact hP, by rw [ht]; exact hPo⟩, hS.F ht⟩) hS.2.2 dL_colour_18
    rw [if_neg c0] at hf
    cases hf
  · rw [if_pos hne] at hf
    have hPo := kept_but hPo (A := ad a 10) hk (fun k z hz h => by obtain ⟨i, hi, he⟩ := h; exact ho i hi (by rw [← he]; exact wO_at k z hz))
    refine lv_i2l (v := q.2.1.toInt64) hx hb dL_colour_10 rfl ?_
    refine putO hx hb hK hP hPo hap ho hS dL_colour_11 (fun H locs hP hPo hS => ?_)
    refine lv_goto (tgt := 19) hx hb dL_colour_12 (by decide) ?_
    refine lv_iconst (v := 0) hx hb dL_colour_19 (by decide) ?_
    have hf := Option.some.inj hf; subst hf
    exact W.iret hx hb hr (fun t ht hW => ⟨⟨rfl, by rw [ht]; exact hP, by rw [ht]; exact hPo⟩, hS.F ht⟩) hS.2.2 dL_colour_20
theorem cd_L_room : yL_room.cls ≠ "java/lang/invoke/MethodHandle" ∧ yL_room.cls ≠ "java/lang/invoke/VarHandle" ∧ (parseMethodDescriptor yL_room.desc).map (fun d => d.parameters.length) = some 5 := by decide +kernel
set_option maxHeartbeats 4000000 in
set_option maxRecDepth 100000 in
theorem k_L_room (l : Launch) (hfl : l.stackTraces = false) (dC : Nat → ClassId) (dI : Nat → Nat → Nat) (cA cL : ClassId) (a : Nat → Nat) (oa : Nat) (S : St) (o : Nat → Int64) (p1 : Int32) (p2 : Int32) (p3 : Int32) (r : Int32 × St × (Nat → Int64)) (hf : f_L_room S o p1 p2 p3 = some r) (hap : apart a 10) (ho : ∀ k, k < 10 → a k ≠ oa) : Met l yL_room wsL_room ({ frames := 8, cells := 2, slots := 12, locals := 134 }) (va_Pc [.ref (a 0), .int p1, .int p2, .int p3, .ref oa] (PLs (dC, dI) cA cL a oa S o)) (qL (dC, dI) cA cL a oa r) 2 12 (adL a oa) := by
  refine ofWH (cc := cL_room) (maxL := 6) (ret := (some .int)) (hh := [(0, 12, 15, 19), (0, 12, 19, 13)]) (by decide) rfl ?_
  intro p e s m args below meth c s₁ B hml hv
  obtain ⟨rfl, hP, hPo, hK, hEx, hNc⟩ := hv
  have hx := B.exec
  have hb := B.bytes
  have hr := B.returns
  have hts := atoms_spec (ws := wsL_room) B.pre
  have hown : s.vm.findClass RL = some m.cls := findClass_of_methodNamed B.named
  have hlocks := B.notSynchronized
  have htb : c.exceptionTable.toList = tableOf [(0, 12, 15, 19), (0, 12, 19, 13)] := vx_table (x := yL_elements) B (hts (.codeWith yL_room cL_room 6 (some .int) [(0, 12, 15, 19), (0, 12, 19, 13)]) List.mem_cons_self)
  have hS : va_S (adL a oa) s.heap s.heap [] := va_S.rf
  have hK1 : va_K (dC, dI) vwCl [(cA, .int)] s := hK.sub [0] rfl
  have hEx1 : TXo (ad a 10) s := hEx.at rfl (State.WarmedH.refl s) (fun q h => Or.inl h)
  have hcs := hEx.2.2.2.2.2.1
  have hl := lv_entry ([.ref (a 0), .int p1, .int p2, .int p3, .ref oa]) (n := 6) (Nat.le_of_ble_eq_true rfl)
  rw [lg_entry_eq]
  generalize (lg_sl ([.ref (a 0), .int p1, .int p2, .int p3, .ref oa]) ++ List.replicate (6 - (lg_sl ([.ref (a 0), .int p1, .int p2, .int p3, .ref oa])).length) Slot.unset).toArray = ls at hl ⊢
  have hl : lv_has ls 6 [(0, .ref (a 0)), (1, .int p1), (2, .int p2), (3, .int p3), (4, .ref oa)] := hl
  unfold f_L_room at hf
  obtain ⟨q, hq, hf⟩ := ob_some hf
  refine lv_aload hx hb dL_room_0 (lv_at hl 4 rfl) ?_
  refine lv_iconst (v := 0) hx hb dL_room_2 (by decide) ?_
  refine lv_aload_n hx hb dL_room_3 rfl (lv_at hl 0 rfl) ?_
  refine lv_iload_n hx hb dL_room_4 rfl (lv_at hl 1 rfl) ?_
  refine lv_iload_n hx hb dL_room_5 rfl (lv_at hl 2 rfl) ?_
  refine lv_iload_n hx hb dL_room_6 rfl (lv_at hl 3 rfl) ?_
  refine xt_P (As := [.int p1, .int p2, .int p3]) (rest := [.int 0, .ref oa]) ⟨hx, hb, hml, hown, hts⟩ (k_X0_room l dC dI cA a S p1 p2 p3 _ hq hap hfl) gL_room_X0_room rfl rfl rfl cd_X0_room (Nat.le_of_ble_eq_true rfl) (Nat.le_of_ble_eq_true rfl) (preTs hK1 hP hEx1) rfl hl.1 rfl (Nat.le_of_ble_eq_true rfl) (Nat.le_of_ble_eq_true rfl) (Nat.le_of_ble_eq_true rfl) dL_room_7 hS (fun q h => Or.inl h) (fun hne E ce q9 H locs hE hz hk hS hce hcv hcl => ?_) (fun hne H locs hP hk hS => ?_)
  · rw [if_neg hne] at hf
    have hP := kept_all hP hk
    have hPo := kept_all hPo hk
    by_cases c0 : q.1 = 1
    · rw [if_pos c0] at hf
      have hf := Option.some.inj hf; subst hf
      have hEe : E = "java/lang/IndexOutOfBoundsException" := by rw [hE, c0]; rfl
      subst hEe
      refine vx_catch (own := RL) (name := "java/lang/IndexOutOfBoundsException") hown [] ⟨0, 12, 15, 19⟩ [⟨0, 12, 19, 13⟩] (by rw [htb]; rfl) (fun z hz => by cases hz) (by decide) (by decide) (hts (.classLink RL 19 "java/lang/IndexOutOfBoundsException") (by decide +kernel)) (va_Nw.use rfl (hcs 1)) hce hcv hcl ?_
      refine lv_astore (lv' := [(5, .ref q9), (0, .ref (a 0)), (1, .int p1), (2, .int p2), (3, .int p3), (4, .ref oa)]) hx hb dL_room_15 hl (by decide) rfl (fun ls hl => ?_)
      refine lv_iconst (v := 1) hx hb dL_room_17 (by decide) ?_
      exact W.iret hx hb hr (fun t ht hW => ⟨⟨rfl, by rw [ht]; exact hP, by rw [ht]; exact hPo⟩, hS.F ht⟩) hS.2.2 dL_room_18
    rw [if_neg c0] at hf
    by_cases c1 : q.1 = 2
    · rw [if_pos c1] at hf
      have hf := Option.some.inj hf; subst hf
      have hEe : E = "java/lang/IllegalArgumentException" := by rw [hE, c1]; rfl
      subst hEe
      refine vx_catch (own := RL) (name := "java/lang/IllegalArgumentException") hown [⟨0, 12, 15, 19⟩] ⟨0, 12, 19, 13⟩ [] (by rw [htb]; rfl) (fun z hz => by
        rw [List.mem_singleton.mp hz]
        exact Or.inr ⟨by decide, "java/lang/IndexOutOfBoundsException", hts (.classLink RL 19 "java/lang/IndexOutOfBoundsException") (by decide +kernel), hNc 2 1 (by decide)⟩) (by decide) (by decide) (hts (.classLink RL 13 "java/lang/IllegalArgumentException") (by decide +kernel)) (va_Nw.use rfl (hcs 2)) hce hcv hcl ?_
      refine lv_astore (lv' := [(5, .ref q9), (0, .ref (a 0)), (1, .int p1), (2, .int p2), (3, .int p3), (4, .ref oa)]) hx hb dL_room_19 hl (by decide) rfl (fun ls hl => ?_)
      refine lv_iconst (v := 2) hx hb dL_room_21 (by decide) ?_
      exact W.iret hx hb hr (fun t ht hW => ⟨⟨rfl, by rw [ht]; exact hP, by rw [ht]; exact hPo⟩, hS.F ht⟩) hS.2.2 dL_room_22
    rw [if_neg c1] at hf
    cases hf
  · rw [if_pos hne] at hf
    have hPo := kept_but hPo (A := ad a 10) hk (fun k z hz h => by obtain ⟨i, hi, he⟩ := h; exact ho i hi (by rw [← he]; exact wO_at k z hz))
    refine lv_i2l (v := q.2.1.toInt64) hx hb dL_room_10 rfl ?_
    refine putO hx hb hK hP hPo hap ho hS dL_room_11 (fun H locs hP hPo hS => ?_)
    refine lv_goto (tgt := 23) hx hb dL_room_12 (by decide) ?_
    refine lv_iconst (v := 0) hx hb dL_room_23 (by decide) ?_
    have hf := Option.some.inj hf; subst hf
    exact W.iret hx hb hr (fun t ht hW => ⟨⟨rfl, by rw [ht]; exact hP, by rw [ht]; exact hPo⟩, hS.F ht⟩) hS.2.2 dL_room_24
theorem cd_L_weigh : yL_weigh.cls ≠ "java/lang/invoke/MethodHandle" ∧ yL_weigh.cls ≠ "java/lang/invoke/VarHandle" ∧ (parseMethodDescriptor yL_weigh.desc).map (fun d => d.parameters.length) = some 4 := by decide +kernel
set_option maxHeartbeats 4000000 in
set_option maxRecDepth 100000 in
theorem k_L_weigh (l : Launch) (hfl : l.stackTraces = false) (dC : Nat → ClassId) (dI : Nat → Nat → Nat) (cA cL : ClassId) (a : Nat → Nat) (oa : Nat) (S : St) (o : Nat → Int64) (p1 : Int32) (p2 : Int32) (r : Int32 × St × (Nat → Int64)) (hf : f_L_weigh S o p1 p2 = some r) (hap : apart a 10) (ho : ∀ k, k < 10 → a k ≠ oa) : Met l yL_weigh wsL_weigh ({ frames := 8, cells := 2, slots := 12, locals := 133 }) (va_Pc [.ref (a 0), .int p1, .int p2, .ref oa] (PLs (dC, dI) cA cL a oa S o)) (qL (dC, dI) cA cL a oa r) 2 12 (adL a oa) := by
  refine ofWH (cc := cL_weigh) (maxL := 5) (ret := (some .int)) (hh := [(0, 10, 13, 19), (0, 10, 17, 13)]) (by decide) rfl ?_
  intro p e s m args below meth c s₁ B hml hv
  obtain ⟨rfl, hP, hPo, hK, hEx, hNc⟩ := hv
  have hx := B.exec
  have hb := B.bytes
  have hr := B.returns
  have hts := atoms_spec (ws := wsL_weigh) B.pre
  have hown : s.vm.findClass RL = some m.cls := findClass_of_methodNamed B.named
  have hlocks := B.notSynchronized
  have htb : c.exceptionTable.toList = tableOf [(0, 10, 13, 19), (0, 10, 17, 13)] := vx_table (x := yL_elements) B (hts (.codeWith yL_weigh cL_weigh 5 (some .int) [(0, 10, 13, 19), (0, 10, 17, 13)]) List.mem_cons_self)
  have hS : va_S (adL a oa) s.heap s.heap [] := va_S.rf
  have hK1 : va_K (dC, dI) vwCl [(cA, .int)] s := hK.sub [0] rfl
  have hEx1 : TXo (ad a 10) s := hEx.at rfl (State.WarmedH.refl s) (fun q h => Or.inl h)
  have hcs := hEx.2.2.2.2.2.1
  have hl := lv_entry ([.ref (a 0), .int p1, .int p2, .ref oa]) (n := 5) (Nat.le_of_ble_eq_true rfl)
  rw [lg_entry_eq]
  generalize (lg_sl ([.ref (a 0), .int p1, .int p2, .ref oa]) ++ List.replicate (5 - (lg_sl ([.ref (a 0), .int p1, .int p2, .ref oa])).length) Slot.unset).toArray = ls at hl ⊢
  have hl : lv_has ls 5 [(0, .ref (a 0)), (1, .int p1), (2, .int p2), (3, .ref oa)] := hl
  unfold f_L_weigh at hf
  obtain ⟨q, hq, hf⟩ := ob_some hf
  refine lv_aload_n hx hb dL_weigh_0 rfl (lv_at hl 3 rfl) ?_
  refine lv_iconst (v := 0) hx hb dL_weigh_1 (by decide) ?_
  refine lv_aload_n hx hb dL_weigh_2 rfl (lv_at hl 0 rfl) ?_
  refine lv_iload_n hx hb dL_weigh_3 rfl (lv_at hl 1 rfl) ?_
  refine lv_iload_n hx hb dL_weigh_4 rfl (lv_at hl 2 rfl) ?_
  refine xt_P (As := [.int p1, .int p2]) (rest := [.int 0, .ref oa]) ⟨hx, hb, hml, hown, hts⟩ (k_X0_weigh l dC dI cA a S p1 p2 _ hq hap hfl) gL_weigh_X0_weigh rfl rfl rfl cd_X0_weigh (Nat.le_of_ble_eq_true rfl) (Nat.le_of_ble_eq_true rfl) (preTs hK1 hP hEx1) rfl hl.1 rfl (Nat.le_of_ble_eq_true rfl) (Nat.le_of_ble_eq_true rfl) (Nat.le_of_ble_eq_true rfl) dL_weigh_5 hS (fun q h => Or.inl h) (fun hne E ce q9 H locs hE hz hk hS hce hcv hcl => ?_) (fun hne H locs hP hk hS => ?_)
  · rw [if_neg hne] at hf
    have hP := kept_all hP hk
    have hPo := kept_all hPo hk
    by_cases c0 : q.1 = 1
    · rw [if_pos c0] at hf
      have hf := Option.some.inj hf; subst hf
      have hEe : E = "java/lang/IndexOutOfBoundsException" := by rw [hE, c0]; rfl
      subst hEe
      refine vx_catch (own := RL) (name := "java/lang/IndexOutOfBoundsException") hown [] ⟨0, 10, 13, 19⟩ [⟨0, 10, 17, 13⟩] (by rw [htb]; rfl) (fun z hz => by cases hz) (by decide) (by decide) (hts (.classLink RL 19 "java/lang/IndexOutOfBoundsException") (by decide +kernel)) (va_Nw.use rfl (hcs 1)) hce hcv hcl ?_
      refine lv_astore (lv' := [(4, .ref q9), (0, .ref (a 0)), (1, .int p1), (2, .int p2), (3, .ref oa)]) hx hb dL_weigh_13 hl (by decide) rfl (fun ls hl => ?_)
      refine lv_iconst (v := 1) hx hb dL_weigh_15 (by decide) ?_
      exact W.iret hx hb hr (fun t ht hW => ⟨⟨rfl, by rw [ht]; exact hP, by rw [ht]; exact hPo⟩, hS.F ht⟩) hS.2.2 dL_weigh_16
    rw [if_neg c0] at hf
    by_cases c1 : q.1 = 2
    · rw [if_pos c1] at hf
      have hf := Option.some.inj hf; subst hf
      have hEe : E = "java/lang/IllegalArgumentException" := by rw [hE, c1]; rfl
      subst hEe
      refine vx_catch (own := RL) (name := "java/lang/IllegalArgumentException") hown [⟨0, 10, 13, 19⟩] ⟨0, 10, 17, 13⟩ [] (by rw [htb]; rfl) (fun z hz => by
        rw [List.mem_singleton.mp hz]
        exact Or.inr ⟨by decide, "java/lang/IndexOutOfBoundsException", hts (.classLink RL 19 "java/lang/IndexOutOfBoundsException") (by decide +kernel), hNc 2 1 (by decide)⟩) (by decide) (by decide) (hts (.classLink RL 13 "java/lang/IllegalArgumentException") (by decide +kernel)) (va_Nw.use rfl (hcs 2)) hce hcv hcl ?_
      refine lv_astore (lv' := [(4, .ref q9), (0, .ref (a 0)), (1, .int p1), (2, .int p2), (3, .ref oa)]) hx hb dL_weigh_17 hl (by decide) rfl (fun ls hl => ?_)
      refine lv_iconst (v := 2) hx hb dL_weigh_19 (by decide) ?_
      exact W.iret hx hb hr (fun t ht hW => ⟨⟨rfl, by rw [ht]; exact hP, by rw [ht]; exact hPo⟩, hS.F ht⟩) hS.2.2 dL_weigh_20
    rw [if_neg c1] at hf
    cases hf
  · rw [if_pos hne] at hf
    have hPo := kept_but hPo (A := ad a 10) hk (fun k z hz h => by obtain ⟨i, hi, he⟩ := h; exact ho i hi (by rw [← he]; exact wO_at k z hz))
    refine lv_i2l (v := q.2.1.toInt64) hx hb dL_weigh_8 rfl ?_
    refine putO hx hb hK hP hPo hap ho hS dL_weigh_9 (fun H locs hP hPo hS => ?_)
    refine lv_goto (tgt := 21) hx hb dL_weigh_10 (by decide) ?_
    refine lv_iconst (v := 0) hx hb dL_weigh_21 (by decide) ?_
    have hf := Option.some.inj hf; subst hf
    exact W.iret hx hb hr (fun t ht hW => ⟨⟨rfl, by rw [ht]; exact hP, by rw [ht]; exact hPo⟩, hS.F ht⟩) hS.2.2 dL_weigh_22
theorem cd_L_make : yL_make.cls ≠ "java/lang/invoke/MethodHandle" ∧ yL_make.cls ≠ "java/lang/invoke/VarHandle" ∧ (parseMethodDescriptor yL_make.desc).map (fun d => d.parameters.length) = some 3 := by decide +kernel
set_option maxHeartbeats 4000000 in
set_option maxRecDepth 100000 in
theorem k_L_make (l : Launch) (hfl : l.stackTraces = false) (dC : Nat → ClassId) (dI : Nat → Nat → Nat) (cA cL : ClassId) (a : Nat → Nat) (oa : Nat) (S : St) (o : Nat → Int64) (p1 : Int32) (r : Int32 × St × (Nat → Int64)) (hf : f_L_make S o p1 = some r) (hap : apart a 10) (ho : ∀ k, k < 10 → a k ≠ oa) : Met l yL_make wsL_make ({ frames := 9, cells := 2, slots := 12, locals := 152 }) (va_Pc [.ref (a 0), .int p1, .ref oa] (PLs (dC, dI) cA cL a oa S o)) (qL (dC, dI) cA cL a oa r) 2 12 (adL a oa) := by
  refine ofWH (cc := cL_make) (maxL := 4) (ret := (some .int)) (hh := [(0, 9, 12, 13), (0, 9, 15, 38)]) (by decide) rfl ?_
  intro p e s m args below meth c s₁ B hml hv
  obtain ⟨rfl, hP, hPo, hK, hEx, hNc⟩ := hv
  have hx := B.exec
  have hb := B.bytes
  have hr := B.returns
  have hts := atoms_spec (ws := wsL_make) B.pre
  have hown : s.vm.findClass RL = some m.cls := findClass_of_methodNamed B.named
  have hlocks := B.notSynchronized
  have htb : c.exceptionTable.toList = tableOf [(0, 9, 12, 13), (0, 9, 15, 38)] := vx_table (x := yL_elements) B (hts (.codeWith yL_make cL_make 4 (some .int) [(0, 9, 12, 13), (0, 9, 15, 38)]) List.mem_cons_self)
  have hS : va_S (adL a oa) s.heap s.heap [] := va_S.rf
  have hK1 : va_K (dC, dI) vwCl [(cA, .int)] s := hK.sub [0] rfl
  have hEx1 : TXo (ad a 10) s := hEx.at rfl (State.WarmedH.refl s) (fun q h => Or.inl h)
  have hcs := hEx.2.2.2.2.2.1
  have hl := lv_entry ([.ref (a 0), .int p1, .ref oa]) (n := 4) (Nat.le_of_ble_eq_true rfl)
  rw [lg_entry_eq]
  generalize (lg_sl ([.ref (a 0), .int p1, .ref oa]) ++ List.replicate (4 - (lg_sl ([.ref (a 0), .int p1, .ref oa])).length) Slot.unset).toArray = ls at hl ⊢
  have hl : lv_has ls 4 [(0, .ref (a 0)), (1, .int p1), (2, .ref oa)] := hl
  unfold f_L_make at hf
  obtain ⟨q, hq, hf⟩ := ob_some hf
  refine lv_aload_n hx hb dL_make_0 rfl (lv_at hl 2 rfl) ?_
  refine lv_iconst (v := 0) hx hb dL_make_1 (by decide) ?_
  refine lv_aload_n hx hb dL_make_2 rfl (lv_at hl 0 rfl) ?_
  refine lv_iload_n hx hb dL_make_3 rfl (lv_at hl 1 rfl) ?_
  refine xt_P (As := [.int p1]) (rest := [.int 0, .ref oa]) ⟨hx, hb, hml, hown, hts⟩ (k_X0_make l dC dI cA a S p1 _ hq hap hfl) gL_make_X0_make rfl rfl rfl cd_X0_make (Nat.le_of_ble_eq_true rfl) (Nat.le_of_ble_eq_true rfl) (preTs hK1 hP hEx1) rfl hl.1 rfl (Nat.le_of_ble_eq_true rfl) (Nat.le_of_ble_eq_true rfl) (Nat.le_of_ble_eq_true rfl) dL_make_4 hS (fun q h => Or.inl h) (fun hne E ce q9 H locs hE hz hk hS hce hcv hcl => ?_) (fun hne H locs hP hk hS => ?_)
  · rw [if_neg hne] at hf
    have hP := kept_all hP hk
    have hPo := kept_all hPo hk
    by_cases c0 : q.1 = 2
    · rw [if_pos c0] at hf
      have hf := Option.some.inj hf; subst hf
      have hEe : E = "java/lang/IllegalArgumentException" := by rw [hE, c0]; rfl
      subst hEe
      refine vx_catch (own := RL) (name := "java/lang/IllegalArgumentException") hown [] ⟨0, 9, 12, 13⟩ [⟨0, 9, 15, 38⟩] (by rw [htb]; rfl) (fun z hz => by cases hz) (by decide) (by decide) (hts (.classLink RL 13 "java/lang/IllegalArgumentException") (by decide +kernel)) (va_Nw.use rfl (hcs 2)) hce hcv hcl ?_
      refine lv_astore_n (lv' := [(3, .ref q9), (0, .ref (a 0)), (1, .int p1), (2, .ref oa)]) hx hb dL_make_12 rfl hl (by decide) rfl (fun ls hl => ?_)
      refine lv_iconst (v := 1) hx hb dL_make_13 (by decide) ?_
      exact W.iret hx hb hr (fun t ht hW => ⟨⟨rfl, by rw [ht]; exact hP, by rw [ht]; exact hPo⟩, hS.F ht⟩) hS.2.2 dL_make_14
    rw [if_neg c0] at hf
    by_cases c1 : q.1 = 3
    · rw [if_pos c1] at hf
      have hf := Option.some.inj hf; subst hf
      have hEe : E = "java/lang/IllegalStateException" := by rw [hE, c1]; rfl
      subst hEe
      refine vx_catch (own := RL) (name := "java/lang/IllegalStateException") hown [⟨0, 9, 12, 13⟩] ⟨0, 9, 15, 38⟩ [] (by rw [htb]; rfl) (fun z hz => by
        rw [List.mem_singleton.mp hz]
        exact Or.inr ⟨by decide, "java/lang/IllegalArgumentException", hts (.classLink RL 13 "java/lang/IllegalArgumentException") (by decide +kernel), hNc 3 2 (by decide)⟩) (by decide) (by decide) (hts (.classLink RL 38 "java/lang/IllegalStateException") (by decide +kernel)) (va_Nw.use rfl (hcs 3)) hce hcv hcl ?_
      refine lv_astore_n (lv' := [(3, .ref q9), (0, .ref (a 0)), (1, .int p1), (2, .ref oa)]) hx hb dL_make_15 rfl hl (by decide) rfl (fun ls hl => ?_)
      refine lv_iconst (v := 2) hx hb dL_make_16 (by decide) ?_
      exact W.iret hx hb hr (fun t ht hW => ⟨⟨rfl, by rw [ht]; exact hP, by rw [ht]; exact hPo⟩, hS.F ht⟩) hS.2.2 dL_make_17
    rw [if_neg c1] at hf
    cases hf
  · rw [if_pos hne] at hf
    have hPo := kept_but hPo (A := ad a 10) hk (fun k z hz h => by obtain ⟨i, hi, he⟩ := h; exact ho i hi (by rw [← he]; exact wO_at k z hz))
    refine lv_i2l (v := q.2.1.toInt64) hx hb dL_make_7 rfl ?_
    refine putO hx hb hK hP hPo hap ho hS dL_make_8 (fun H locs hP hPo hS => ?_)
    refine lv_goto (tgt := 18) hx hb dL_make_9 (by decide) ?_
    refine lv_iconst (v := 0) hx hb dL_make_18 (by decide) ?_
    have hf := Option.some.inj hf; subst hf
    exact W.iret hx hb hr (fun t ht hW => ⟨⟨rfl, by rw [ht]; exact hP, by rw [ht]; exact hPo⟩, hS.F ht⟩) hS.2.2 dL_make_19
theorem cd_L_sum : yL_sum.cls ≠ "java/lang/invoke/MethodHandle" ∧ yL_sum.cls ≠ "java/lang/invoke/VarHandle" ∧ (parseMethodDescriptor yL_sum.desc).map (fun d => d.parameters.length) = some 4 := by decide +kernel
set_option maxHeartbeats 4000000 in
set_option maxRecDepth 100000 in
theorem k_L_sum (l : Launch) (hfl : l.stackTraces = false) (dC : Nat → ClassId) (dI : Nat → Nat → Nat) (cA cL : ClassId) (a : Nat → Nat) (oa : Nat) (S : St) (o : Nat → Int64) (p1 : Int32) (p2 : Int32) (r : Int32 × St × (Nat → Int64)) (hf : f_L_sum S o p1 p2 = some r) (hap : apart a 10) (ho : ∀ k, k < 10 → a k ≠ oa) : Met l yL_sum wsL_sum ({ frames := 9, cells := 2, slots := 12, locals := 153 }) (va_Pc [.ref (a 0), .int p1, .int p2, .ref oa] (PLs (dC, dI) cA cL a oa S o)) (qL (dC, dI) cA cL a oa r) 2 12 (adL a oa) := by
  refine ofWH (cc := cL_sum) (maxL := 5) (ret := (some .int)) (hh := [(0, 10, 13, 19), (0, 10, 17, 38)]) (by decide) rfl ?_
  intro p e s m args below meth c s₁ B hml hv
  obtain ⟨rfl, hP, hPo, hK, hEx, hNc⟩ := hv
  have hx := B.exec
  have hb := B.bytes
  have hr := B.returns
  have hts := atoms_spec (ws := wsL_sum) B.pre
  have hown : s.vm.findClass RL = some m.cls := findClass_of_methodNamed B.named
  have hlocks := B.notSynchronized
  have htb : c.exceptionTable.toList = tableOf [(0, 10, 13, 19), (0, 10, 17, 38)] := vx_table (x := yL_elements) B (hts (.codeWith yL_sum cL_sum 5 (some .int) [(0, 10, 13, 19), (0, 10, 17, 38)]) List.mem_cons_self)
  have hS : va_S (adL a oa) s.heap s.heap [] := va_S.rf
  have hK1 : va_K (dC, dI) vwCl [(cA, .int)] s := hK.sub [0] rfl
  have hEx1 : TXo (ad a 10) s := hEx.at rfl (State.WarmedH.refl s) (fun q h => Or.inl h)
  have hcs := hEx.2.2.2.2.2.1
  have hl := lv_entry ([.ref (a 0), .int p1, .int p2, .ref oa]) (n := 5) (Nat.le_of_ble_eq_true rfl)
  rw [lg_entry_eq]
  generalize (lg_sl ([.ref (a 0), .int p1, .int p2, .ref oa]) ++ List.replicate (5 - (lg_sl ([.ref (a 0), .int p1, .int p2, .ref oa])).length) Slot.unset).toArray = ls at hl ⊢
  have hl : lv_has ls 5 [(0, .ref (a 0)), (1, .int p1), (2, .int p2), (3, .ref oa)] := hl
  unfold f_L_sum at hf
  obtain ⟨q, hq, hf⟩ := ob_some hf
  refine lv_aload_n hx hb dL_sum_0 rfl (lv_at hl 3 rfl) ?_
  refine lv_iconst (v := 0) hx hb dL_sum_1 (by decide) ?_
  refine lv_aload_n hx hb dL_sum_2 rfl (lv_at hl 0 rfl) ?_
  refine lv_iload_n hx hb dL_sum_3 rfl (lv_at hl 1 rfl) ?_
  refine lv_iload_n hx hb dL_sum_4 rfl (lv_at hl 2 rfl) ?_
  refine xt_P (As := [.int p1, .int p2]) (rest := [.int 0, .ref oa]) ⟨hx, hb, hml, hown, hts⟩ (k_X0_sum l dC dI cA a S p1 p2 _ hq hap hfl) gL_sum_X0_sum rfl rfl rfl cd_X0_sum (Nat.le_of_ble_eq_true rfl) (Nat.le_of_ble_eq_true rfl) (preTs hK1 hP hEx1) rfl hl.1 rfl (Nat.le_of_ble_eq_true rfl) (Nat.le_of_ble_eq_true rfl) (Nat.le_of_ble_eq_true rfl) dL_sum_5 hS (fun q h => Or.inl h) (fun hne E ce q9 H locs hE hz hk hS hce hcv hcl => ?_) (fun hne H locs hP hk hS => ?_)
  · rw [if_neg hne] at hf
    have hP := kept_all hP hk
    have hPo := kept_all hPo hk
    by_cases c0 : q.1 = 1
    · rw [if_pos c0] at hf
      have hf := Option.some.inj hf; subst hf
      have hEe : E = "java/lang/IndexOutOfBoundsException" := by rw [hE, c0]; rfl
      subst hEe
      refine vx_catch (own := RL) (name := "java/lang/IndexOutOfBoundsException") hown [] ⟨0, 10, 13, 19⟩ [⟨0, 10, 17, 38⟩] (by rw [htb]; rfl) (fun z hz => by cases hz) (by decide) (by decide) (hts (.classLink RL 19 "java/lang/IndexOutOfBoundsException") (by decide +kernel)) (va_Nw.use rfl (hcs 1)) hce hcv hcl ?_
      refine lv_astore (lv' := [(4, .ref q9), (0, .ref (a 0)), (1, .int p1), (2, .int p2), (3, .ref oa)]) hx hb dL_sum_13 hl (by decide) rfl (fun ls hl => ?_)
      refine lv_iconst (v := 1) hx hb dL_sum_15 (by decide) ?_
      exact W.iret hx hb hr (fun t ht hW => ⟨⟨rfl, by rw [ht]; exact hP, by rw [ht]; exact hPo⟩, hS.F ht⟩) hS.2.2 dL_sum_16
    rw [if_neg c0] at hf
    by_cases c1 : q.1 = 3
    · rw [if_pos c1] at hf
      have hf := Option.some.inj hf; subst hf
      have hEe : E = "java/lang/IllegalStateException" := by rw [hE, c1]; rfl
      subst hEe
      refine vx_catch (own := RL) (name := "java/lang/IllegalStateException") hown [⟨0, 10, 13, 19⟩] ⟨0, 10, 17, 38⟩ [] (by rw [htb]; rfl) (fun z hz => by
        rw [List.mem_singleton.mp hz]
        exact Or.inr ⟨by decide, "java/lang/IndexOutOfBoundsException", hts (.classLink RL 19 "java/lang/IndexOutOfBoundsException") (by decide +kernel), hNc 3 1 (by decide)⟩) (by decide) (by decide) (hts (.classLink RL 38 "java/lang/IllegalStateException") (by decide +kernel)) (va_Nw.use rfl (hcs 3)) hce hcv hcl ?_
      refine lv_astore (lv' := [(4, .ref q9), (0, .ref (a 0)), (1, .int p1), (2, .int p2), (3, .ref oa)]) hx hb dL_sum_17 hl (by decide) rfl (fun ls hl => ?_)
      refine lv_iconst (v := 2) hx hb dL_sum_19 (by decide) ?_
      exact W.iret hx hb hr (fun t ht hW => ⟨⟨rfl, by rw [ht]; exact hP, by rw [ht]; exact hPo⟩, hS.F ht⟩) hS.2.2 dL_sum_20
    rw [if_neg c1] at hf
    cases hf
  · rw [if_pos hne] at hf
    have hPo := kept_but hPo (A := ad a 10) hk (fun k z hz h => by obtain ⟨i, hi, he⟩ := h; exact ho i hi (by rw [← he]; exact wO_at k z hz))
    refine lv_i2l (v := q.2.1.toInt64) hx hb dL_sum_8 rfl ?_
    refine putO hx hb hK hP hPo hap ho hS dL_sum_9 (fun H locs hP hPo hS => ?_)
    refine lv_goto (tgt := 21) hx hb dL_sum_10 (by decide) ?_
    refine lv_iconst (v := 0) hx hb dL_sum_21 (by decide) ?_
    have hf := Option.some.inj hf; subst hf
    exact W.iret hx hb hr (fun t ht hW => ⟨⟨rfl, by rw [ht]; exact hP, by rw [ht]; exact hPo⟩, hS.F ht⟩) hS.2.2 dL_sum_22
theorem cd_L_contract : yL_contract.cls ≠ "java/lang/invoke/MethodHandle" ∧ yL_contract.cls ≠ "java/lang/invoke/VarHandle" ∧ (parseMethodDescriptor yL_contract.desc).map (fun d => d.parameters.length) = some 4 := by decide +kernel
set_option maxHeartbeats 4000000 in
set_option maxRecDepth 100000 in
theorem k_L_contract (l : Launch) (hfl : l.stackTraces = false) (dC : Nat → ClassId) (dI : Nat → Nat → Nat) (cA cL : ClassId) (a : Nat → Nat) (oa : Nat) (S : St) (o : Nat → Int64) (p1 : Int32) (p2 : Int32) (r : Int32 × St × (Nat → Int64)) (hf : f_L_contract S o p1 p2 = some r) (hap : apart a 10) (ho : ∀ k, k < 10 → a k ≠ oa) : Met l yL_contract wsL_contract ({ frames := 9, cells := 3, slots := 18, locals := 153 }) (va_Pc [.ref (a 0), .int p1, .int p2, .ref oa] (PLs (dC, dI) cA cL a oa S o)) (qL (dC, dI) cA cL a oa r) 3 18 (adL a oa) := by
  refine ofWH (cc := cL_contract) (maxL := 5) (ret := (some .int)) (hh := [(0, 10, 13, 19), (0, 10, 17, 13), (0, 10, 21, 38)]) (by decide) rfl ?_
  intro p e s m args below meth c s₁ B hml hv
  obtain ⟨rfl, hP, hPo, hK, hEx, hNc⟩ := hv
  have hx := B.exec
  have hb := B.bytes
  have hr := B.returns
  have hts := atoms_spec (ws := wsL_contract) B.pre
  have hown : s.vm.findClass RL = some m.cls := findClass_of_methodNamed B.named
  have hlocks := B.notSynchronized
  have htb : c.exceptionTable.toList = tableOf [(0, 10, 13, 19), (0, 10, 17, 13), (0, 10, 21, 38)] := vx_table (x := yL_elements) B (hts (.codeWith yL_contract cL_contract 5 (some .int) [(0, 10, 13, 19), (0, 10, 17, 13), (0, 10, 21, 38)]) List.mem_cons_self)
  have hS : va_S (adL a oa) s.heap s.heap [] := va_S.rf
  have hK1 : va_K (dC, dI) vwCl [(cA, .int)] s := hK.sub [0] rfl
  have hEx1 : TXo (ad a 10) s := hEx.at rfl (State.WarmedH.refl s) (fun q h => Or.inl h)
  have hcs := hEx.2.2.2.2.2.1
  have hl := lv_entry ([.ref (a 0), .int p1, .int p2, .ref oa]) (n := 5) (Nat.le_of_ble_eq_true rfl)
  rw [lg_entry_eq]
  generalize (lg_sl ([.ref (a 0), .int p1, .int p2, .ref oa]) ++ List.replicate (5 - (lg_sl ([.ref (a 0), .int p1, .int p2, .ref oa])).length) Slot.unset).toArray = ls at hl ⊢
  have hl : lv_has ls 5 [(0, .ref (a 0)), (1, .int p1), (2, .int p2), (3, .ref oa)] := hl
  unfold f_L_contract at hf
  obtain ⟨q, hq, hf⟩ := ob_some hf
  refine lv_aload_n hx hb dL_contract_0 rfl (lv_at hl 3 rfl) ?_
  refine lv_iconst (v := 0) hx hb dL_contract_1 (by decide) ?_
  refine lv_aload_n hx hb dL_contract_2 rfl (lv_at hl 0 rfl) ?_
  refine lv_iload_n hx hb dL_contract_3 rfl (lv_at hl 1 rfl) ?_
  refine lv_iload_n hx hb dL_contract_4 rfl (lv_at hl 2 rfl) ?_
  refine xt_P (As := [.int p1, .int p2]) (rest := [.int 0, .ref oa]) ⟨hx, hb, hml, hown, hts⟩ (k_X0_contract l dC dI cA a S p1 p2 _ hq hap hfl) gL_contract_X0_contract rfl rfl rfl cd_X0_contract (Nat.le_of_ble_eq_true rfl) (Nat.le_of_ble_eq_true rfl) (preTs hK1 hP hEx1) rfl hl.1 rfl (Nat.le_of_ble_eq_true rfl) (Nat.le_of_ble_eq_true rfl) (Nat.le_of_ble_eq_true rfl) dL_contract_5 hS (fun q h => Or.inl h) (fun hne E ce q9 H locs hE hz hk hS hce hcv hcl => ?_) (fun hne H locs hP hk hS => ?_)
  · rw [if_neg hne] at hf
    have hP := kept_all hP hk
    have hPo := kept_all hPo hk
    by_cases c0 : q.1 = 1
    · rw [if_pos c0] at hf
      have hf := Option.some.inj hf; subst hf
      have hEe : E = "java/lang/IndexOutOfBoundsException" := by rw [hE, c0]; rfl
      subst hEe
      refine vx_catch (own := RL) (name := "java/lang/IndexOutOfBoundsException") hown [] ⟨0, 10, 13, 19⟩ [⟨0, 10, 17, 13⟩, ⟨0, 10, 21, 38⟩] (by rw [htb]; rfl) (fun z hz => by cases hz) (by decide) (by decide) (hts (.classLink RL 19 "java/lang/IndexOutOfBoundsException") (by decide +kernel)) (va_Nw.use rfl (hcs 1)) hce hcv hcl ?_
      refine lv_astore (lv' := [(4, .ref q9), (0, .ref (a 0)), (1, .int p1), (2, .int p2), (3, .ref oa)]) hx hb dL_contract_13 hl (by decide) rfl (fun ls hl => ?_)
      refine lv_iconst (v := 1) hx hb dL_contract_15 (by decide) ?_
      exact W.iret hx hb hr (fun t ht hW => ⟨⟨rfl, by rw [ht]; exact hP, by rw [ht]; exact hPo⟩, hS.F ht⟩) hS.2.2 dL_contract_16
    rw [if_neg c0] at hf
    by_cases c1 : q.1 = 2
    · rw [if_pos c1] at hf
      have hf := Option.some.inj hf; subst hf
      have hEe : E = "java/lang/IllegalArgumentException" := by rw [hE, c1]; rfl
      subst hEe
      refine vx_catch (own := RL) (name := "java/lang/IllegalArgumentException") hown [⟨0, 10, 13, 19⟩] ⟨0, 10, 17, 13⟩ [⟨0, 10, 21, 38⟩] (by rw [htb]; rfl) (fun z hz => by
        rw [List.mem_singleton.mp hz]
        exact Or.inr ⟨by decide, "java/lang/IndexOutOfBoundsException", hts (.classLink RL 19 "java/lang/IndexOutOfBoundsException") (by decide +kernel), hNc 2 1 (by decide)⟩) (by decide) (by decide) (hts (.classLink RL 13 "java/lang/IllegalArgumentException") (by decide +kernel)) (va_Nw.use rfl (hcs 2)) hce hcv hcl ?_
      refine lv_astore (lv' := [(4, .ref q9), (0, .ref (a 0)), (1, .int p1), (2, .int p2), (3, .ref oa)]) hx hb dL_contract_17 hl (by decide) rfl (fun ls hl => ?_)
      refine lv_iconst (v := 2) hx hb dL_contract_19 (by decide) ?_
      exact W.iret hx hb hr (fun t ht hW => ⟨⟨rfl, by rw [ht]; exact hP, by rw [ht]; exact hPo⟩, hS.F ht⟩) hS.2.2 dL_contract_20
    rw [if_neg c1] at hf
    by_cases c2 : q.1 = 3
    · rw [if_pos c2] at hf
      have hf := Option.some.inj hf; subst hf
      have hEe : E = "java/lang/IllegalStateException" := by rw [hE, c2]; rfl
      subst hEe
      refine vx_catch (own := RL) (name := "java/lang/IllegalStateException") hown [⟨0, 10, 13, 19⟩, ⟨0, 10, 17, 13⟩] ⟨0, 10, 21, 38⟩ [] (by rw [htb]; rfl) (fun z hz => by
        rcases List.mem_cons.mp hz with rfl | hz
        · exact Or.inr ⟨by decide, "java/lang/IndexOutOfBoundsException", hts (.classLink RL 19 "java/lang/IndexOutOfBoundsException") (by decide +kernel), hNc 3 1 (by decide)⟩
        rw [List.mem_singleton.mp hz]
        exact Or.inr ⟨by decide, "java/lang/IllegalArgumentException", hts (.classLink RL 13 "java/lang/IllegalArgumentException") (by decide +kernel), hNc 3 2 (by decide)⟩) (by decide) (by decide) (hts (.classLink RL 38 "java/lang/IllegalStateException") (by decide +kernel)) (va_Nw.use rfl (hcs 3)) hce hcv hcl ?_
      refine lv_astore (lv' := [(4, .ref q9), (0, .ref (a 0)), (1, .int p1), (2, .int p2), (3, .ref oa)]) hx hb dL_contract_21 hl (by decide) rfl (fun ls hl => ?_)
      refine lv_iconst (v := 3) hx hb dL_contract_23 (by decide) ?_
      exact W.iret hx hb hr (fun t ht hW => ⟨⟨rfl, by rw [ht]; exact hP, by rw [ht]; exact hPo⟩, hS.F ht⟩) hS.2.2 dL_contract_24
    rw [if_neg c2] at hf
    cases hf
  · rw [if_pos hne] at hf
    have hPo := kept_but hPo (A := ad a 10) hk (fun k z hz h => by obtain ⟨i, hi, he⟩ := h; exact ho i hi (by rw [← he]; exact wO_at k z hz))
    refine lv_i2l (v := q.2.1.toInt64) hx hb dL_contract_8 rfl ?_
    refine putO hx hb hK hP hPo hap ho hS dL_contract_9 (fun H locs hP hPo hS => ?_)
    refine lv_goto (tgt := 25) hx hb dL_contract_10 (by decide) ?_
    refine lv_iconst (v := 0) hx hb dL_contract_25 (by decide) ?_
    have hf := Option.some.inj hf; subst hf
    exact W.iret hx hb hr (fun t ht hW => ⟨⟨rfl, by rw [ht]; exact hP, by rw [ht]; exact hPo⟩, hS.F ht⟩) hS.2.2 dL_contract_26
theorem cd_L_cap : yL_cap.cls ≠ "java/lang/invoke/MethodHandle" ∧ yL_cap.cls ≠ "java/lang/invoke/VarHandle" ∧ (parseMethodDescriptor yL_cap.desc).map (fun d => d.parameters.length) = some 4 := by decide +kernel
set_option maxHeartbeats 4000000 in
set_option maxRecDepth 100000 in
theorem k_L_cap (l : Launch) (hfl : l.stackTraces = false) (dC : Nat → ClassId) (dI : Nat → Nat → Nat) (cA cL : ClassId) (a : Nat → Nat) (oa : Nat) (S : St) (o : Nat → Int64) (p1 : Int32) (p2 : Int32) (r : Int32 × St × (Nat → Int64)) (hf : f_L_cap S o p1 p2 = some r) (hap : apart a 10) (ho : ∀ k, k < 10 → a k ≠ oa) : Met l yL_cap wsL_cap ({ frames := 9, cells := 3, slots := 18, locals := 153 }) (va_Pc [.ref (a 0), .int p1, .int p2, .ref oa] (PLs (dC, dI) cA cL a oa S o)) (qL (dC, dI) cA cL a oa r) 3 18 (adL a oa) := by
  refine ofWH (cc := cL_cap) (maxL := 5) (ret := (some .int)) (hh := [(0, 10, 13, 19), (0, 10, 17, 13), (0, 10, 21, 38)]) (by decide) rfl ?_
  intro p e s m args below meth c s₁ B hml hv
  obtain ⟨rfl, hP, hPo, hK, hEx, hNc⟩ := hv
  have hx := B.exec
  have hb := B.bytes
  have hr := B.returns
  have hts := atoms_spec (ws := wsL_cap) B.pre
  have hown : s.vm.findClass RL = some m.cls := findClass_of_methodNamed B.named
  have hlocks := B.notSynchronized
  have htb : c.exceptionTable.toList = tableOf [(0, 10, 13, 19), (0, 10, 17, 13), (0, 10, 21, 38)] := vx_table (x := yL_elements) B (hts (.codeWith yL_cap cL_cap 5 (some .int) [(0, 10, 13, 19), (0, 10, 17, 13), (0, 10, 21, 38)]) List.mem_cons_self)
  have hS : va_S (adL a oa) s.heap s.heap [] := va_S.rf
  have hK1 : va_K (dC, dI) vwCl [(cA, .int)] s := hK.sub [0] rfl
  have hEx1 : TXo (ad a 10) s := hEx.at rfl (State.WarmedH.refl s) (fun q h => Or.inl h)
  have hcs := hEx.2.2.2.2.2.1
  have hl := lv_entry ([.ref (a 0), .int p1, .int p2, .ref oa]) (n := 5) (Nat.le_of_ble_eq_true rfl)
  rw [lg_entry_eq]
  generalize (lg_sl ([.ref (a 0), .int p1, .int p2, .ref oa]) ++ List.replicate (5 - (lg_sl ([.ref (a 0), .int p1, .int p2, .ref oa])).length) Slot.unset).toArray = ls at hl ⊢
  have hl : lv_has ls 5 [(0, .ref (a 0)), (1, .int p1), (2, .int p2), (3, .ref oa)] := hl
  unfold f_L_cap at hf
  obtain ⟨q, hq, hf⟩ := ob_some hf
  refine lv_aload_n hx hb dL_cap_0 rfl (lv_at hl 3 rfl) ?_
  refine lv_iconst (v := 0) hx hb dL_cap_1 (by decide) ?_
  refine lv_aload_n hx hb dL_cap_2 rfl (lv_at hl 0 rfl) ?_
  refine lv_iload_n hx hb dL_cap_3 rfl (lv_at hl 1 rfl) ?_
  refine lv_iload_n hx hb dL_cap_4 rfl (lv_at hl 2 rfl) ?_
  refine xt_P (As := [.int p1, .int p2]) (rest := [.int 0, .ref oa]) ⟨hx, hb, hml, hown, hts⟩ (k_X0_cap l dC dI cA a S p1 p2 _ hq hap hfl) gL_cap_X0_cap rfl rfl rfl cd_X0_cap (Nat.le_of_ble_eq_true rfl) (Nat.le_of_ble_eq_true rfl) (preTs hK1 hP hEx1) rfl hl.1 rfl (Nat.le_of_ble_eq_true rfl) (Nat.le_of_ble_eq_true rfl) (Nat.le_of_ble_eq_true rfl) dL_cap_5 hS (fun q h => Or.inl h) (fun hne E ce q9 H locs hE hz hk hS hce hcv hcl => ?_) (fun hne H locs hP hk hS => ?_)
  · rw [if_neg hne] at hf
    have hP := kept_all hP hk
    have hPo := kept_all hPo hk
    by_cases c0 : q.1 = 1
    · rw [if_pos c0] at hf
      have hf := Option.some.inj hf; subst hf
      have hEe : E = "java/lang/IndexOutOfBoundsException" := by rw [hE, c0]; rfl
      subst hEe
      refine vx_catch (own := RL) (name := "java/lang/IndexOutOfBoundsException") hown [] ⟨0, 10, 13, 19⟩ [⟨0, 10, 17, 13⟩, ⟨0, 10, 21, 38⟩] (by rw [htb]; rfl) (fun z hz => by cases hz) (by decide) (by decide) (hts (.classLink RL 19 "java/lang/IndexOutOfBoundsException") (by decide +kernel)) (va_Nw.use rfl (hcs 1)) hce hcv hcl ?_
      refine lv_astore (lv' := [(4, .ref q9), (0, .ref (a 0)), (1, .int p1), (2, .int p2), (3, .ref oa)]) hx hb dL_cap_13 hl (by decide) rfl (fun ls hl => ?_)
      refine lv_iconst (v := 1) hx hb dL_cap_15 (by decide) ?_
      exact W.iret hx hb hr (fun t ht hW => ⟨⟨rfl, by rw [ht]; exact hP, by rw [ht]; exact hPo⟩, hS.F ht⟩) hS.2.2 dL_cap_16
    rw [if_neg c0] at hf
    by_cases c1 : q.1 = 2
    · rw [if_pos c1] at hf
      have hf := Option.some.inj hf; subst hf
      have hEe : E = "java/lang/IllegalArgumentException" := by rw [hE, c1]; rfl
      subst hEe
      refine vx_catch (own := RL) (name := "java/lang/IllegalArgumentException") hown [⟨0, 10, 13, 19⟩] ⟨0, 10, 17, 13⟩ [⟨0, 10, 21, 38⟩] (by rw [htb]; rfl) (fun z hz => by
        rw [List.mem_singleton.mp hz]
        exact Or.inr ⟨by decide, "java/lang/IndexOutOfBoundsException", hts (.classLink RL 19 "java/lang/IndexOutOfBoundsException") (by decide +kernel), hNc 2 1 (by decide)⟩) (by decide) (by decide) (hts (.classLink RL 13 "java/lang/IllegalArgumentException") (by decide +kernel)) (va_Nw.use rfl (hcs 2)) hce hcv hcl ?_
      refine lv_astore (lv' := [(4, .ref q9), (0, .ref (a 0)), (1, .int p1), (2, .int p2), (3, .ref oa)]) hx hb dL_cap_17 hl (by decide) rfl (fun ls hl => ?_)
      refine lv_iconst (v := 2) hx hb dL_cap_19 (by decide) ?_
      exact W.iret hx hb hr (fun t ht hW => ⟨⟨rfl, by rw [ht]; exact hP, by rw [ht]; exact hPo⟩, hS.F ht⟩) hS.2.2 dL_cap_20
    rw [if_neg c1] at hf
    by_cases c2 : q.1 = 3
    · rw [if_pos c2] at hf
      have hf := Option.some.inj hf; subst hf
      have hEe : E = "java/lang/IllegalStateException" := by rw [hE, c2]; rfl
      subst hEe
      refine vx_catch (own := RL) (name := "java/lang/IllegalStateException") hown [⟨0, 10, 13, 19⟩, ⟨0, 10, 17, 13⟩] ⟨0, 10, 21, 38⟩ [] (by rw [htb]; rfl) (fun z hz => by
        rcases List.mem_cons.mp hz with rfl | hz
        · exact Or.inr ⟨by decide, "java/lang/IndexOutOfBoundsException", hts (.classLink RL 19 "java/lang/IndexOutOfBoundsException") (by decide +kernel), hNc 3 1 (by decide)⟩
        rw [List.mem_singleton.mp hz]
        exact Or.inr ⟨by decide, "java/lang/IllegalArgumentException", hts (.classLink RL 13 "java/lang/IllegalArgumentException") (by decide +kernel), hNc 3 2 (by decide)⟩) (by decide) (by decide) (hts (.classLink RL 38 "java/lang/IllegalStateException") (by decide +kernel)) (va_Nw.use rfl (hcs 3)) hce hcv hcl ?_
      refine lv_astore (lv' := [(4, .ref q9), (0, .ref (a 0)), (1, .int p1), (2, .int p2), (3, .ref oa)]) hx hb dL_cap_21 hl (by decide) rfl (fun ls hl => ?_)
      refine lv_iconst (v := 3) hx hb dL_cap_23 (by decide) ?_
      exact W.iret hx hb hr (fun t ht hW => ⟨⟨rfl, by rw [ht]; exact hP, by rw [ht]; exact hPo⟩, hS.F ht⟩) hS.2.2 dL_cap_24
    rw [if_neg c2] at hf
    cases hf
  · rw [if_pos hne] at hf
    have hPo := kept_but hPo (A := ad a 10) hk (fun k z hz h => by obtain ⟨i, hi, he⟩ := h; exact ho i hi (by rw [← he]; exact wO_at k z hz))
    refine lv_i2l (v := q.2.1.toInt64) hx hb dL_cap_8 rfl ?_
    refine putO hx hb hK hP hPo hap ho hS dL_cap_9 (fun H locs hP hPo hS => ?_)
    refine lv_goto (tgt := 25) hx hb dL_cap_10 (by decide) ?_
    refine lv_iconst (v := 0) hx hb dL_cap_25 (by decide) ?_
    have hf := Option.some.inj hf; subst hf
    exact W.iret hx hb hr (fun t ht hW => ⟨⟨rfl, by rw [ht]; exact hP, by rw [ht]; exact hPo⟩, hS.F ht⟩) hS.2.2 dL_cap_26
theorem cd_L_value : yL_value.cls ≠ "java/lang/invoke/MethodHandle" ∧ yL_value.cls ≠ "java/lang/invoke/VarHandle" ∧ (parseMethodDescriptor yL_value.desc).map (fun d => d.parameters.length) = some 4 := by decide +kernel
set_option maxHeartbeats 4000000 in
set_option maxRecDepth 100000 in
theorem k_L_value (l : Launch) (hfl : l.stackTraces = false) (dC : Nat → ClassId) (dI : Nat → Nat → Nat) (cA cL : ClassId) (a : Nat → Nat) (oa : Nat) (S : St) (o : Nat → Int64) (p1 : Int32) (p2 : Int32) (r : Int32 × St × (Nat → Int64)) (hf : f_L_value S o p1 p2 = some r) (hap : apart a 10) (ho : ∀ k, k < 10 → a k ≠ oa) : Met l yL_value wsL_value ({ frames := 8, cells := 2, slots := 12, locals := 132 }) (va_Pc [.ref (a 0), .int p1, .int p2, .ref oa] (PLs (dC, dI) cA cL a oa S o)) (qL (dC, dI) cA cL a oa r) 2 12 (adL a oa) := by
  refine ofWH (cc := cL_value) (maxL := 5) (ret := (some .int)) (hh := [(0, 10, 13, 19), (0, 10, 17, 13)]) (by decide) rfl ?_
  intro p e s m args below meth c s₁ B hml hv
  obtain ⟨rfl, hP, hPo, hK, hEx, hNc⟩ := hv
  have hx := B.exec
  have hb := B.bytes
  have hr := B.returns
  have hts := atoms_spec (ws := wsL_value) B.pre
  have hown : s.vm.findClass RL = some m.cls := findClass_of_methodNamed B.named
  have hlocks := B.notSynchronized
  have htb : c.exceptionTable.toList = tableOf [(0, 10, 13, 19), (0, 10, 17, 13)] := vx_table (x := yL_elements) B (hts (.codeWith yL_value cL_value 5 (some .int) [(0, 10, 13, 19), (0, 10, 17, 13)]) List.mem_cons_self)
  have hS : va_S (adL a oa) s.heap s.heap [] := va_S.rf
  have hK1 : va_K (dC, dI) vwCl [(cA, .int)] s := hK.sub [0] rfl
  have hEx1 : TXo (ad a 10) s := hEx.at rfl (State.WarmedH.refl s) (fun q h => Or.inl h)
  have hcs := hEx.2.2.2.2.2.1
  have hl := lv_entry ([.ref (a 0), .int p1, .int p2, .ref oa]) (n := 5) (Nat.le_of_ble_eq_true rfl)
  rw [lg_entry_eq]
  generalize (lg_sl ([.ref (a 0), .int p1, .int p2, .ref oa]) ++ List.replicate (5 - (lg_sl ([.ref (a 0), .int p1, .int p2, .ref oa])).length) Slot.unset).toArray = ls at hl ⊢
  have hl : lv_has ls 5 [(0, .ref (a 0)), (1, .int p1), (2, .int p2), (3, .ref oa)] := hl
  unfold f_L_value at hf
  obtain ⟨q, hq, hf⟩ := ob_some hf
  refine lv_aload_n hx hb dL_value_0 rfl (lv_at hl 3 rfl) ?_
  refine lv_iconst (v := 0) hx hb dL_value_1 (by decide) ?_
  refine lv_aload_n hx hb dL_value_2 rfl (lv_at hl 0 rfl) ?_
  refine lv_iload_n hx hb dL_value_3 rfl (lv_at hl 1 rfl) ?_
  refine lv_iload_n hx hb dL_value_4 rfl (lv_at hl 2 rfl) ?_
  refine xt_P (As := [.int p1, .int p2]) (rest := [.int 0, .ref oa]) ⟨hx, hb, hml, hown, hts⟩ (k_X0_value l dC dI cA a S p1 p2 _ hq hap hfl) gL_value_X0_value rfl rfl rfl cd_X0_value (Nat.le_of_ble_eq_true rfl) (Nat.le_of_ble_eq_true rfl) (preTs hK1 hP hEx1) rfl hl.1 rfl (Nat.le_of_ble_eq_true rfl) (Nat.le_of_ble_eq_true rfl) (Nat.le_of_ble_eq_true rfl) dL_value_5 hS (fun q h => Or.inl h) (fun hne E ce q9 H locs hE hz hk hS hce hcv hcl => ?_) (fun hne H locs hP hk hS => ?_)
  · rw [if_neg hne] at hf
    have hP := kept_all hP hk
    have hPo := kept_all hPo hk
    by_cases c0 : q.1 = 1
    · rw [if_pos c0] at hf
      have hf := Option.some.inj hf; subst hf
      have hEe : E = "java/lang/IndexOutOfBoundsException" := by rw [hE, c0]; rfl
      subst hEe
      refine vx_catch (own := RL) (name := "java/lang/IndexOutOfBoundsException") hown [] ⟨0, 10, 13, 19⟩ [⟨0, 10, 17, 13⟩] (by rw [htb]; rfl) (fun z hz => by cases hz) (by decide) (by decide) (hts (.classLink RL 19 "java/lang/IndexOutOfBoundsException") (by decide +kernel)) (va_Nw.use rfl (hcs 1)) hce hcv hcl ?_
      refine lv_astore (lv' := [(4, .ref q9), (0, .ref (a 0)), (1, .int p1), (2, .int p2), (3, .ref oa)]) hx hb dL_value_13 hl (by decide) rfl (fun ls hl => ?_)
      refine lv_iconst (v := 1) hx hb dL_value_15 (by decide) ?_
      exact W.iret hx hb hr (fun t ht hW => ⟨⟨rfl, by rw [ht]; exact hP, by rw [ht]; exact hPo⟩, hS.F ht⟩) hS.2.2 dL_value_16
    rw [if_neg c0] at hf
    by_cases c1 : q.1 = 2
    · rw [if_pos c1] at hf
      have hf := Option.some.inj hf; subst hf
      have hEe : E = "java/lang/IllegalArgumentException" := by rw [hE, c1]; rfl
      subst hEe
      refine vx_catch (own := RL) (name := "java/lang/IllegalArgumentException") hown [⟨0, 10, 13, 19⟩] ⟨0, 10, 17, 13⟩ [] (by rw [htb]; rfl) (fun z hz => by
        rw [List.mem_singleton.mp hz]
        exact Or.inr ⟨by decide, "java/lang/IndexOutOfBoundsException", hts (.classLink RL 19 "java/lang/IndexOutOfBoundsException") (by decide +kernel), hNc 2 1 (by decide)⟩) (by decide) (by decide) (hts (.classLink RL 13 "java/lang/IllegalArgumentException") (by decide +kernel)) (va_Nw.use rfl (hcs 2)) hce hcv hcl ?_
      refine lv_astore (lv' := [(4, .ref q9), (0, .ref (a 0)), (1, .int p1), (2, .int p2), (3, .ref oa)]) hx hb dL_value_17 hl (by decide) rfl (fun ls hl => ?_)
      refine lv_iconst (v := 2) hx hb dL_value_19 (by decide) ?_
      exact W.iret hx hb hr (fun t ht hW => ⟨⟨rfl, by rw [ht]; exact hP, by rw [ht]; exact hPo⟩, hS.F ht⟩) hS.2.2 dL_value_20
    rw [if_neg c1] at hf
    cases hf
  · rw [if_pos hne] at hf
    have hPo := kept_but hPo (A := ad a 10) hk (fun k z hz h => by obtain ⟨i, hi, he⟩ := h; exact ho i hi (by rw [← he]; exact wO_at k z hz))
    refine lv_i2l (v := q.2.1.toInt64) hx hb dL_value_8 rfl ?_
    refine putO hx hb hK hP hPo hap ho hS dL_value_9 (fun H locs hP hPo hS => ?_)
    refine lv_goto (tgt := 21) hx hb dL_value_10 (by decide) ?_
    refine lv_iconst (v := 0) hx hb dL_value_21 (by decide) ?_
    have hf := Option.some.inj hf; subst hf
    exact W.iret hx hb hr (fun t ht hW => ⟨⟨rfl, by rw [ht]; exact hP, by rw [ht]; exact hPo⟩, hS.F ht⟩) hS.2.2 dL_value_22
theorem cd_L_isLawful : yL_isLawful.cls ≠ "java/lang/invoke/MethodHandle" ∧ yL_isLawful.cls ≠ "java/lang/invoke/VarHandle" ∧ (parseMethodDescriptor yL_isLawful.desc).map (fun d => d.parameters.length) = some 3 := by decide +kernel
set_option maxHeartbeats 4000000 in
set_option maxRecDepth 100000 in
theorem k_L_isLawful (l : Launch) (hfl : l.stackTraces = false) (dC : Nat → ClassId) (dI : Nat → Nat → Nat) (cA cL : ClassId) (a : Nat → Nat) (oa : Nat) (S : St) (o : Nat → Int64) (p1 : Int32) (r : Int32 × St × (Nat → Int64)) (hf : f_L_isLawful S o p1 = some r) (hap : apart a 10) (ho : ∀ k, k < 10 → a k ≠ oa) : Met l yL_isLawful wsL_isLawful ({ frames := 8, cells := 1, slots := 6, locals := 134 }) (va_Pc [.ref (a 0), .int p1, .ref oa] (PLs (dC, dI) cA cL a oa S o)) (qL (dC, dI) cA cL a oa r) 1 6 (adL a oa) := by
  refine ofWH (cc := cL_isLawful) (maxL := 4) (ret := (some .int)) (hh := [(0, 16, 19, 19)]) (by decide) rfl ?_
  intro p e s m args below meth c s₁ B hml hv
  obtain ⟨rfl, hP, hPo, hK, hEx, hNc⟩ := hv
  have hx := B.exec
  have hb := B.bytes
  have hr := B.returns
  have hts := atoms_spec (ws := wsL_isLawful) B.pre
  have hown : s.vm.findClass RL = some m.cls := findClass_of_methodNamed B.named
  have hlocks := B.notSynchronized
  have htb : c.exceptionTable.toList = tableOf [(0, 16, 19, 19)] := vx_table (x := yL_elements) B (hts (.codeWith yL_isLawful cL_isLawful 4 (some .int) [(0, 16, 19, 19)]) List.mem_cons_self)
  have hS : va_S (adL a oa) s.heap s.heap [] := va_S.rf
  have hK1 : va_K (dC, dI) vwCl [(cA, .int)] s := hK.sub [0] rfl
  have hEx1 : TXo (ad a 10) s := hEx.at rfl (State.WarmedH.refl s) (fun q h => Or.inl h)
  have hcs := hEx.2.2.2.2.2.1
  have hl := lv_entry ([.ref (a 0), .int p1, .ref oa]) (n := 4) (Nat.le_of_ble_eq_true rfl)
  rw [lg_entry_eq]
  generalize (lg_sl ([.ref (a 0), .int p1, .ref oa]) ++ List.replicate (4 - (lg_sl ([.ref (a 0), .int p1, .ref oa])).length) Slot.unset).toArray = ls at hl ⊢
  have hl : lv_has ls 4 [(0, .ref (a 0)), (1, .int p1), (2, .ref oa)] := hl
  unfold f_L_isLawful at hf
  obtain ⟨q, hq, hf⟩ := ob_some hf
  refine lv_aload_n hx hb dL_isLawful_0 rfl (lv_at hl 2 rfl) ?_
  refine lv_iconst (v := 0) hx hb dL_isLawful_1 (by decide) ?_
  refine lv_aload_n hx hb dL_isLawful_2 rfl (lv_at hl 0 rfl) ?_
  refine lv_iload_n hx hb dL_isLawful_3 rfl (lv_at hl 1 rfl) ?_
  refine xt_P (As := [.int p1]) (rest := [.int 0, .ref oa]) ⟨hx, hb, hml, hown, hts⟩ (k_X0_isLawful l dC dI cA a S p1 _ hq hap hfl) gL_isLawful_X0_isLawful rfl rfl rfl cd_X0_isLawful (Nat.le_of_ble_eq_true rfl) (Nat.le_of_ble_eq_true rfl) (preTs hK1 hP hEx1) rfl hl.1 rfl (Nat.le_of_ble_eq_true rfl) (Nat.le_of_ble_eq_true rfl) (Nat.le_of_ble_eq_true rfl) dL_isLawful_4 hS (fun q h => Or.inl h) (fun hne E ce q9 H locs hE hz hk hS hce hcv hcl => ?_) (fun hne H locs hP hk hS => ?_)
  · rw [if_neg hne] at hf
    have hP := kept_all hP hk
    have hPo := kept_all hPo hk
    by_cases c0 : q.1 = 1
    · rw [if_pos c0] at hf
      have hf := Option.some.inj hf; subst hf
      have hEe : E = "java/lang/IndexOutOfBoundsException" := by rw [hE, c0]; rfl
      subst hEe
      refine vx_catch (own := RL) (name := "java/lang/IndexOutOfBoundsException") hown [] ⟨0, 16, 19, 19⟩ [] (by rw [htb]; rfl) (fun z hz => by cases hz) (by decide) (by decide) (hts (.classLink RL 19 "java/lang/IndexOutOfBoundsException") (by decide +kernel)) (va_Nw.use rfl (hcs 1)) hce hcv hcl ?_
      refine lv_astore_n (lv' := [(3, .ref q9), (0, .ref (a 0)), (1, .int p1), (2, .ref oa)]) hx hb dL_isLawful_19 rfl hl (by decide) rfl (fun ls hl => ?_)
      refine lv_iconst (v := 1) hx hb dL_isLawful_20 (by decide) ?_
      exact W.iret hx hb hr (fun t ht hW => ⟨⟨rfl, by rw [ht]; exact hP, by rw [ht]; exact hPo⟩, hS.F ht⟩) hS.2.2 dL_isLawful_21
    rw [if_neg c0] at hf
    cases hf
  · rw [if_pos hne] at hf
    have hPo := kept_but hPo (A := ad a 10) hk (fun k z hz h => by obtain ⟨i, hi, he⟩ := h; exact ho i hi (by rw [← he]; exact wO_at k z hz))
    refine lv_if_eq (tgt := 14) hx hb dL_isLawful_7 (by decide) (fun c9 => ?_) (fun c9 => ?_)
    · rw [if_pos c9] at hf
      refine lv_lconst (v := 0) hx hb dL_isLawful_14 (by decide) ?_
      refine putO hx hb hK hP hPo hap ho hS dL_isLawful_15 (fun H locs hP hPo hS => ?_)
      refine lv_goto (tgt := 22) hx hb dL_isLawful_16 (by decide) ?_
      refine lv_iconst (v := 0) hx hb dL_isLawful_22 (by decide) ?_
      have hf := Option.some.inj hf; subst hf
      exact W.iret hx hb hr (fun t ht hW => ⟨⟨rfl, by rw [ht]; exact hP, by rw [ht]; exact hPo⟩, hS.F ht⟩) hS.2.2 dL_isLawful_23
    · rw [if_neg c9] at hf
      refine lv_lconst (v := 1) hx hb dL_isLawful_10 (by decide) ?_
      refine lv_goto (tgt := 15) hx hb dL_isLawful_11 (by decide) ?_
      refine putO hx hb hK hP hPo hap ho hS dL_isLawful_15 (fun H locs hP hPo hS => ?_)
      refine lv_goto (tgt := 22) hx hb dL_isLawful_16 (by decide) ?_
      refine lv_iconst (v := 0) hx hb dL_isLawful_22 (by decide) ?_
      have hf := Option.some.inj hf; subst hf
      exact W.iret hx hb hr (fun t ht hW => ⟨⟨rfl, by rw [ht]; exact hP, by rw [ht]; exact hPo⟩, hS.F ht⟩) hS.2.2 dL_isLawful_23
theorem cd_L_rises : yL_rises.cls ≠ "java/lang/invoke/MethodHandle" ∧ yL_rises.cls ≠ "java/lang/invoke/VarHandle" ∧ (parseMethodDescriptor yL_rises.desc).map (fun d => d.parameters.length) = some 3 := by decide +kernel
set_option maxHeartbeats 4000000 in
set_option maxRecDepth 100000 in
theorem k_L_rises (l : Launch) (hfl : l.stackTraces = false) (dC : Nat → ClassId) (dI : Nat → Nat → Nat) (cA cL : ClassId) (a : Nat → Nat) (oa : Nat) (S : St) (o : Nat → Int64) (p1 : Int32) (r : Int32 × St × (Nat → Int64)) (hf : f_L_rises S o p1 = some r) (hap : apart a 10) (ho : ∀ k, k < 10 → a k ≠ oa) : Met l yL_rises wsL_rises ({ frames := 8, cells := 1, slots := 6, locals := 133 }) (va_Pc [.ref (a 0), .int p1, .ref oa] (PLs (dC, dI) cA cL a oa S o)) (qL (dC, dI) cA cL a oa r) 1 6 (adL a oa) := by
  refine ofWH (cc := cL_rises) (maxL := 4) (ret := (some .int)) (hh := [(0, 16, 19, 19)]) (by decide) rfl ?_
  intro p e s m args below meth c s₁ B hml hv
  obtain ⟨rfl, hP, hPo, hK, hEx, hNc⟩ := hv
  have hx := B.exec
  have hb := B.bytes
  have hr := B.returns
  have hts := atoms_spec (ws := wsL_rises) B.pre
  have hown : s.vm.findClass RL = some m.cls := findClass_of_methodNamed B.named
  have hlocks := B.notSynchronized
  have htb : c.exceptionTable.toList = tableOf [(0, 16, 19, 19)] := vx_table (x := yL_elements) B (hts (.codeWith yL_rises cL_rises 4 (some .int) [(0, 16, 19, 19)]) List.mem_cons_self)
  have hS : va_S (adL a oa) s.heap s.heap [] := va_S.rf
  have hK1 : va_K (dC, dI) vwCl [(cA, .int)] s := hK.sub [0] rfl
  have hEx1 : TXo (ad a 10) s := hEx.at rfl (State.WarmedH.refl s) (fun q h => Or.inl h)
  have hcs := hEx.2.2.2.2.2.1
  have hl := lv_entry ([.ref (a 0), .int p1, .ref oa]) (n := 4) (Nat.le_of_ble_eq_true rfl)
  rw [lg_entry_eq]
  generalize (lg_sl ([.ref (a 0), .int p1, .ref oa]) ++ List.replicate (4 - (lg_sl ([.ref (a 0), .int p1, .ref oa])).length) Slot.unset).toArray = ls at hl ⊢
  have hl : lv_has ls 4 [(0, .ref (a 0)), (1, .int p1), (2, .ref oa)] := hl
  unfold f_L_rises at hf
  obtain ⟨q, hq, hf⟩ := ob_some hf
  refine lv_aload_n hx hb dL_rises_0 rfl (lv_at hl 2 rfl) ?_
  refine lv_iconst (v := 0) hx hb dL_rises_1 (by decide) ?_
  refine lv_aload_n hx hb dL_rises_2 rfl (lv_at hl 0 rfl) ?_
  refine lv_iload_n hx hb dL_rises_3 rfl (lv_at hl 1 rfl) ?_
  refine xt_P (As := [.int p1]) (rest := [.int 0, .ref oa]) ⟨hx, hb, hml, hown, hts⟩ (k_X0_rises l dC dI cA a S p1 _ hq hap hfl) gL_rises_X0_rises rfl rfl rfl cd_X0_rises (Nat.le_of_ble_eq_true rfl) (Nat.le_of_ble_eq_true rfl) (preTs hK1 hP hEx1) rfl hl.1 rfl (Nat.le_of_ble_eq_true rfl) (Nat.le_of_ble_eq_true rfl) (Nat.le_of_ble_eq_true rfl) dL_rises_4 hS (fun q h => Or.inl h) (fun hne E ce q9 H locs hE hz hk hS hce hcv hcl => ?_) (fun hne H locs hP hk hS => ?_)
  · rw [if_neg hne] at hf
    have hP := kept_all hP hk
    have hPo := kept_all hPo hk
    by_cases c0 : q.1 = 1
    · rw [if_pos c0] at hf
      have hf := Option.some.inj hf; subst hf
      have hEe : E = "java/lang/IndexOutOfBoundsException" := by rw [hE, c0]; rfl
      subst hEe
      refine vx_catch (own := RL) (name := "java/lang/IndexOutOfBoundsException") hown [] ⟨0, 16, 19, 19⟩ [] (by rw [htb]; rfl) (fun z hz => by cases hz) (by decide) (by decide) (hts (.classLink RL 19 "java/lang/IndexOutOfBoundsException") (by decide +kernel)) (va_Nw.use rfl (hcs 1)) hce hcv hcl ?_
      refine lv_astore_n (lv' := [(3, .ref q9), (0, .ref (a 0)), (1, .int p1), (2, .ref oa)]) hx hb dL_rises_19 rfl hl (by decide) rfl (fun ls hl => ?_)
      refine lv_iconst (v := 1) hx hb dL_rises_20 (by decide) ?_
      exact W.iret hx hb hr (fun t ht hW => ⟨⟨rfl, by rw [ht]; exact hP, by rw [ht]; exact hPo⟩, hS.F ht⟩) hS.2.2 dL_rises_21
    rw [if_neg c0] at hf
    cases hf
  · rw [if_pos hne] at hf
    have hPo := kept_but hPo (A := ad a 10) hk (fun k z hz h => by obtain ⟨i, hi, he⟩ := h; exact ho i hi (by rw [← he]; exact wO_at k z hz))
    refine lv_if_eq (tgt := 14) hx hb dL_rises_7 (by decide) (fun c9 => ?_) (fun c9 => ?_)
    · rw [if_pos c9] at hf
      refine lv_lconst (v := 0) hx hb dL_rises_14 (by decide) ?_
      refine putO hx hb hK hP hPo hap ho hS dL_rises_15 (fun H locs hP hPo hS => ?_)
      refine lv_goto (tgt := 22) hx hb dL_rises_16 (by decide) ?_
      refine lv_iconst (v := 0) hx hb dL_rises_22 (by decide) ?_
      have hf := Option.some.inj hf; subst hf
      exact W.iret hx hb hr (fun t ht hW => ⟨⟨rfl, by rw [ht]; exact hP, by rw [ht]; exact hPo⟩, hS.F ht⟩) hS.2.2 dL_rises_23
    · rw [if_neg c9] at hf
      refine lv_lconst (v := 1) hx hb dL_rises_10 (by decide) ?_
      refine lv_goto (tgt := 15) hx hb dL_rises_11 (by decide) ?_
      refine putO hx hb hK hP hPo hap ho hS dL_rises_15 (fun H locs hP hPo hS => ?_)
      refine lv_goto (tgt := 22) hx hb dL_rises_16 (by decide) ?_
      refine lv_iconst (v := 0) hx hb dL_rises_22 (by decide) ?_
      have hf := Option.some.inj hf; subst hf
      exact W.iret hx hb hr (fun t ht hW => ⟨⟨rfl, by rw [ht]; exact hP, by rw [ht]; exact hPo⟩, hS.F ht⟩) hS.2.2 dL_rises_23
theorem cd_L_least : yL_least.cls ≠ "java/lang/invoke/MethodHandle" ∧ yL_least.cls ≠ "java/lang/invoke/VarHandle" ∧ (parseMethodDescriptor yL_least.desc).map (fun d => d.parameters.length) = some 3 := by decide +kernel
set_option maxHeartbeats 4000000 in
set_option maxRecDepth 100000 in
theorem k_L_least (l : Launch) (hfl : l.stackTraces = false) (dC : Nat → ClassId) (dI : Nat → Nat → Nat) (cA cL : ClassId) (a : Nat → Nat) (oa : Nat) (S : St) (o : Nat → Int64) (p1 : Int32) (r : Int32 × St × (Nat → Int64)) (hf : f_L_least S o p1 = some r) (hap : apart a 10) (ho : ∀ k, k < 10 → a k ≠ oa) : Met l yL_least wsL_least ({ frames := 13, cells := 2, slots := 12, locals := 362 }) (va_Pc [.ref (a 0), .int p1, .ref oa] (PLs (dC, dI) cA cL a oa S o)) (qL (dC, dI) cA cL a oa r) 2 12 (adL a oa) := by
  refine ofWH (cc := cL_least) (maxL := 4) (ret := (some .int)) (hh := [(0, 9, 12, 19), (0, 9, 15, 38)]) (by decide) rfl ?_
  intro p e s m args below meth c s₁ B hml hv
  obtain ⟨rfl, hP, hPo, hK, hEx, hNc⟩ := hv
  have hx := B.exec
  have hb := B.bytes
  have hr := B.returns
  have hts := atoms_spec (ws := wsL_least) B.pre
  have hown : s.vm.findClass RL = some m.cls := findClass_of_methodNamed B.named
  have hlocks := B.notSynchronized
  have htb : c.exceptionTable.toList = tableOf [(0, 9, 12, 19), (0, 9, 15, 38)] := vx_table (x := yL_elements) B (hts (.codeWith yL_least cL_least 4 (some .int) [(0, 9, 12, 19), (0, 9, 15, 38)]) List.mem_cons_self)
  have hS : va_S (adL a oa) s.heap s.heap [] := va_S.rf
  have hK1 : va_K (dC, dI) vwCl [(cA, .int)] s := hK.sub [0] rfl
  have hEx1 : TXo (ad a 10) s := hEx.at rfl (State.WarmedH.refl s) (fun q h => Or.inl h)
  have hcs := hEx.2.2.2.2.2.1
  have hl := lv_entry ([.ref (a 0), .int p1, .ref oa]) (n := 4) (Nat.le_of_ble_eq_true rfl)
  rw [lg_entry_eq]
  generalize (lg_sl ([.ref (a 0), .int p1, .ref oa]) ++ List.replicate (4 - (lg_sl ([.ref (a 0), .int p1, .ref oa])).length) Slot.unset).toArray = ls at hl ⊢
  have hl : lv_has ls 4 [(0, .ref (a 0)), (1, .int p1), (2, .ref oa)] := hl
  unfold f_L_least at hf
  obtain ⟨q, hq, hf⟩ := ob_some hf
  refine lv_aload_n hx hb dL_least_0 rfl (lv_at hl 2 rfl) ?_
  refine lv_iconst (v := 0) hx hb dL_least_1 (by decide) ?_
  refine lv_aload_n hx hb dL_least_2 rfl (lv_at hl 0 rfl) ?_
  refine lv_iload_n hx hb dL_least_3 rfl (lv_at hl 1 rfl) ?_
  refine xt_P (As := [.int p1]) (rest := [.int 0, .ref oa]) ⟨hx, hb, hml, hown, hts⟩ (k_X0_least l dC dI cA a S p1 _ hq hap hfl) gL_least_X0_least rfl rfl rfl cd_X0_least (Nat.le_of_ble_eq_true rfl) (Nat.le_of_ble_eq_true rfl) (preTs hK1 hP hEx1) rfl hl.1 rfl (Nat.le_of_ble_eq_true rfl) (Nat.le_of_ble_eq_true rfl) (Nat.le_of_ble_eq_true rfl) dL_least_4 hS (fun q h => Or.inl h) (fun hne E ce q9 H locs hE hz hk hS hce hcv hcl => ?_) (fun hne H locs hP hk hS => ?_)
  · rw [if_neg hne] at hf
    have hP := kept_all hP hk
    have hPo := kept_all hPo hk
    by_cases c0 : q.1 = 1
    · rw [if_pos c0] at hf
      have hf := Option.some.inj hf; subst hf
      have hEe : E = "java/lang/IndexOutOfBoundsException" := by rw [hE, c0]; rfl
      subst hEe
      refine vx_catch (own := RL) (name := "java/lang/IndexOutOfBoundsException") hown [] ⟨0, 9, 12, 19⟩ [⟨0, 9, 15, 38⟩] (by rw [htb]; rfl) (fun z hz => by cases hz) (by decide) (by decide) (hts (.classLink RL 19 "java/lang/IndexOutOfBoundsException") (by decide +kernel)) (va_Nw.use rfl (hcs 1)) hce hcv hcl ?_
      refine lv_astore_n (lv' := [(3, .ref q9), (0, .ref (a 0)), (1, .int p1), (2, .ref oa)]) hx hb dL_least_12 rfl hl (by decide) rfl (fun ls hl => ?_)
      refine lv_iconst (v := 1) hx hb dL_least_13 (by decide) ?_
      exact W.iret hx hb hr (fun t ht hW => ⟨⟨rfl, by rw [ht]; exact hP, by rw [ht]; exact hPo⟩, hS.F ht⟩) hS.2.2 dL_least_14
    rw [if_neg c0] at hf
    by_cases c1 : q.1 = 3
    · rw [if_pos c1] at hf
      have hf := Option.some.inj hf; subst hf
      have hEe : E = "java/lang/IllegalStateException" := by rw [hE, c1]; rfl
      subst hEe
      refine vx_catch (own := RL) (name := "java/lang/IllegalStateException") hown [⟨0, 9, 12, 19⟩] ⟨0, 9, 15, 38⟩ [] (by rw [htb]; rfl) (fun z hz => by
        rw [List.mem_singleton.mp hz]
        exact Or.inr ⟨by decide, "java/lang/IndexOutOfBoundsException", hts (.classLink RL 19 "java/lang/IndexOutOfBoundsException") (by decide +kernel), hNc 3 1 (by decide)⟩) (by decide) (by decide) (hts (.classLink RL 38 "java/lang/IllegalStateException") (by decide +kernel)) (va_Nw.use rfl (hcs 3)) hce hcv hcl ?_
      refine lv_astore_n (lv' := [(3, .ref q9), (0, .ref (a 0)), (1, .int p1), (2, .ref oa)]) hx hb dL_least_15 rfl hl (by decide) rfl (fun ls hl => ?_)
      refine lv_iconst (v := 2) hx hb dL_least_16 (by decide) ?_
      exact W.iret hx hb hr (fun t ht hW => ⟨⟨rfl, by rw [ht]; exact hP, by rw [ht]; exact hPo⟩, hS.F ht⟩) hS.2.2 dL_least_17
    rw [if_neg c1] at hf
    cases hf
  · rw [if_pos hne] at hf
    have hPo := kept_but hPo (A := ad a 10) hk (fun k z hz h => by obtain ⟨i, hi, he⟩ := h; exact ho i hi (by rw [← he]; exact wO_at k z hz))
    refine lv_i2l (v := q.2.1.toInt64) hx hb dL_least_7 rfl ?_
    refine putO hx hb hK hP hPo hap ho hS dL_least_8 (fun H locs hP hPo hS => ?_)
    refine lv_goto (tgt := 18) hx hb dL_least_9 (by decide) ?_
    refine lv_iconst (v := 0) hx hb dL_least_18 (by decide) ?_
    have hf := Option.some.inj hf; subst hf
    exact W.iret hx hb hr (fun t ht hW => ⟨⟨rfl, by rw [ht]; exact hP, by rw [ht]; exact hPo⟩, hS.F ht⟩) hS.2.2 dL_least_19
theorem cd_L_leastSet : yL_leastSet.cls ≠ "java/lang/invoke/MethodHandle" ∧ yL_leastSet.cls ≠ "java/lang/invoke/VarHandle" ∧ (parseMethodDescriptor yL_leastSet.desc).map (fun d => d.parameters.length) = some 4 := by decide +kernel
set_option maxHeartbeats 4000000 in
set_option maxRecDepth 100000 in
theorem k_L_leastSet (l : Launch) (hfl : l.stackTraces = false) (dC : Nat → ClassId) (dI : Nat → Nat → Nat) (cA cL : ClassId) (a : Nat → Nat) (oa : Nat) (S : St) (o : Nat → Int64) (p1 : Int32) (p2 : Int32) (r : Int32 × St × (Nat → Int64)) (hf : f_L_leastSet S o p1 p2 = some r) (hap : apart a 10) (ho : ∀ k, k < 10 → a k ≠ oa) : Met l yL_leastSet wsL_leastSet ({ frames := 13, cells := 2, slots := 12, locals := 363 }) (va_Pc [.ref (a 0), .int p1, .int p2, .ref oa] (PLs (dC, dI) cA cL a oa S o)) (qL (dC, dI) cA cL a oa r) 2 12 (adL a oa) := by
  refine ofWH (cc := cL_leastSet) (maxL := 5) (ret := (some .int)) (hh := [(0, 10, 13, 19), (0, 10, 17, 38)]) (by decide) rfl ?_
  intro p e s m args below meth c s₁ B hml hv
  obtain ⟨rfl, hP, hPo, hK, hEx, hNc⟩ := hv
  have hx := B.exec
  have hb := B.bytes
  have hr := B.returns
  have hts := atoms_spec (ws := wsL_leastSet) B.pre
  have hown : s.vm.findClass RL = some m.cls := findClass_of_methodNamed B.named
  have hlocks := B.notSynchronized
  have htb : c.exceptionTable.toList = tableOf [(0, 10, 13, 19), (0, 10, 17, 38)] := vx_table (x := yL_elements) B (hts (.codeWith yL_leastSet cL_leastSet 5 (some .int) [(0, 10, 13, 19), (0, 10, 17, 38)]) List.mem_cons_self)
  have hS : va_S (adL a oa) s.heap s.heap [] := va_S.rf
  have hK1 : va_K (dC, dI) vwCl [(cA, .int)] s := hK.sub [0] rfl
  have hEx1 : TXo (ad a 10) s := hEx.at rfl (State.WarmedH.refl s) (fun q h => Or.inl h)
  have hcs := hEx.2.2.2.2.2.1
  have hl := lv_entry ([.ref (a 0), .int p1, .int p2, .ref oa]) (n := 5) (Nat.le_of_ble_eq_true rfl)
  rw [lg_entry_eq]
  generalize (lg_sl ([.ref (a 0), .int p1, .int p2, .ref oa]) ++ List.replicate (5 - (lg_sl ([.ref (a 0), .int p1, .int p2, .ref oa])).length) Slot.unset).toArray = ls at hl ⊢
  have hl : lv_has ls 5 [(0, .ref (a 0)), (1, .int p1), (2, .int p2), (3, .ref oa)] := hl
  unfold f_L_leastSet at hf
  obtain ⟨q, hq, hf⟩ := ob_some hf
  refine lv_aload_n hx hb dL_leastSet_0 rfl (lv_at hl 3 rfl) ?_
  refine lv_iconst (v := 0) hx hb dL_leastSet_1 (by decide) ?_
  refine lv_aload_n hx hb dL_leastSet_2 rfl (lv_at hl 0 rfl) ?_
  refine lv_iload_n hx hb dL_leastSet_3 rfl (lv_at hl 1 rfl) ?_
  refine lv_iload_n hx hb dL_leastSet_4 rfl (lv_at hl 2 rfl) ?_
  refine xt_P (As := [.int p1, .int p2]) (rest := [.int 0, .ref oa]) ⟨hx, hb, hml, hown, hts⟩ (k_X0_leastSet l dC dI cA a S p1 p2 _ hq hap hfl) gL_leastSet_X0_leastSet rfl rfl rfl cd_X0_leastSet (Nat.le_of_ble_eq_true rfl) (Nat.le_of_ble_eq_true rfl) (preTs hK1 hP hEx1) rfl hl.1 rfl (Nat.le_of_ble_eq_true rfl) (Nat.le_of_ble_eq_true rfl) (Nat.le_of_ble_eq_true rfl) dL_leastSet_5 hS (fun q h => Or.inl h) (fun hne E ce q9 H locs hE hz hk hS hce hcv hcl => ?_) (fun hne H locs hP hk hS => ?_)
  · rw [if_neg hne] at hf
    have hP := kept_all hP hk
    have hPo := kept_all hPo hk
    by_cases c0 : q.1 = 1
    · rw [if_pos c0] at hf
      have hf := Option.some.inj hf; subst hf
      have hEe : E = "java/lang/IndexOutOfBoundsException" := by rw [hE, c0]; rfl
      subst hEe
      refine vx_catch (own := RL) (name := "java/lang/IndexOutOfBoundsException") hown [] ⟨0, 10, 13, 19⟩ [⟨0, 10, 17, 38⟩] (by rw [htb]; rfl) (fun z hz => by cases hz) (by decide) (by decide) (hts (.classLink RL 19 "java/lang/IndexOutOfBoundsException") (by decide +kernel)) (va_Nw.use rfl (hcs 1)) hce hcv hcl ?_
      refine lv_astore (lv' := [(4, .ref q9), (0, .ref (a 0)), (1, .int p1), (2, .int p2), (3, .ref oa)]) hx hb dL_leastSet_13 hl (by decide) rfl (fun ls hl => ?_)
      refine lv_iconst (v := 1) hx hb dL_leastSet_15 (by decide) ?_
      exact W.iret hx hb hr (fun t ht hW => ⟨⟨rfl, by rw [ht]; exact hP, by rw [ht]; exact hPo⟩, hS.F ht⟩) hS.2.2 dL_leastSet_16
    rw [if_neg c0] at hf
    by_cases c1 : q.1 = 3
    · rw [if_pos c1] at hf
      have hf := Option.some.inj hf; subst hf
      have hEe : E = "java/lang/IllegalStateException" := by rw [hE, c1]; rfl
      subst hEe
      refine vx_catch (own := RL) (name := "java/lang/IllegalStateException") hown [⟨0, 10, 13, 19⟩] ⟨0, 10, 17, 38⟩ [] (by rw [htb]; rfl) (fun z hz => by
        rw [List.mem_singleton.mp hz]
        exact Or.inr ⟨by decide, "java/lang/IndexOutOfBoundsException", hts (.classLink RL 19 "java/lang/IndexOutOfBoundsException") (by decide +kernel), hNc 3 1 (by decide)⟩) (by decide) (by decide) (hts (.classLink RL 38 "java/lang/IllegalStateException") (by decide +kernel)) (va_Nw.use rfl (hcs 3)) hce hcv hcl ?_
      refine lv_astore (lv' := [(4, .ref q9), (0, .ref (a 0)), (1, .int p1), (2, .int p2), (3, .ref oa)]) hx hb dL_leastSet_17 hl (by decide) rfl (fun ls hl => ?_)
      refine lv_iconst (v := 2) hx hb dL_leastSet_19 (by decide) ?_
      exact W.iret hx hb hr (fun t ht hW => ⟨⟨rfl, by rw [ht]; exact hP, by rw [ht]; exact hPo⟩, hS.F ht⟩) hS.2.2 dL_leastSet_20
    rw [if_neg c1] at hf
    cases hf
  · rw [if_pos hne] at hf
    have hPo := kept_but hPo (A := ad a 10) hk (fun k z hz h => by obtain ⟨i, hi, he⟩ := h; exact ho i hi (by rw [← he]; exact wO_at k z hz))
    refine lv_i2l (v := q.2.1.toInt64) hx hb dL_leastSet_8 rfl ?_
    refine putO hx hb hK hP hPo hap ho hS dL_leastSet_9 (fun H locs hP hPo hS => ?_)
    refine lv_goto (tgt := 21) hx hb dL_leastSet_10 (by decide) ?_
    refine lv_iconst (v := 0) hx hb dL_leastSet_21 (by decide) ?_
    have hf := Option.some.inj hf; subst hf
    exact W.iret hx hb hr (fun t ht hW => ⟨⟨rfl, by rw [ht]; exact hP, by rw [ht]; exact hPo⟩, hS.F ht⟩) hS.2.2 dL_leastSet_22
theorem cd_L_leastSetAnew : yL_leastSetAnew.cls ≠ "java/lang/invoke/MethodHandle" ∧ yL_leastSetAnew.cls ≠ "java/lang/invoke/VarHandle" ∧ (parseMethodDescriptor yL_leastSetAnew.desc).map (fun d => d.parameters.length) = some 4 := by decide +kernel
set_option maxHeartbeats 4000000 in
set_option maxRecDepth 100000 in
theorem k_L_leastSetAnew (l : Launch) (hfl : l.stackTraces = false) (dC : Nat → ClassId) (dI : Nat → Nat → Nat) (cA cL : ClassId) (a : Nat → Nat) (oa : Nat) (S : St) (o : Nat → Int64) (p1 : Int32) (p2 : Int32) (r : Int32 × St × (Nat → Int64)) (hf : f_L_leastSetAnew S o p1 p2 = some r) (hap : apart a 10) (ho : ∀ k, k < 10 → a k ≠ oa) : Met l yL_leastSetAnew wsL_leastSetAnew ({ frames := 8, cells := 2, slots := 12, locals := 139 }) (va_Pc [.ref (a 0), .int p1, .int p2, .ref oa] (PLs (dC, dI) cA cL a oa S o)) (qL (dC, dI) cA cL a oa r) 2 12 (adL a oa) := by
  refine ofWH (cc := cL_leastSetAnew) (maxL := 5) (ret := (some .int)) (hh := [(0, 10, 13, 19), (0, 10, 17, 38)]) (by decide) rfl ?_
  intro p e s m args below meth c s₁ B hml hv
  obtain ⟨rfl, hP, hPo, hK, hEx, hNc⟩ := hv
  have hx := B.exec
  have hb := B.bytes
  have hr := B.returns
  have hts := atoms_spec (ws := wsL_leastSetAnew) B.pre
  have hown : s.vm.findClass RL = some m.cls := findClass_of_methodNamed B.named
  have hlocks := B.notSynchronized
  have htb : c.exceptionTable.toList = tableOf [(0, 10, 13, 19), (0, 10, 17, 38)] := vx_table (x := yL_elements) B (hts (.codeWith yL_leastSetAnew cL_leastSetAnew 5 (some .int) [(0, 10, 13, 19), (0, 10, 17, 38)]) List.mem_cons_self)
  have hS : va_S (adL a oa) s.heap s.heap [] := va_S.rf
  have hK1 : va_K (dC, dI) vwCl [(cA, .int)] s := hK.sub [0] rfl
  have hEx1 : TXo (ad a 10) s := hEx.at rfl (State.WarmedH.refl s) (fun q h => Or.inl h)
  have hcs := hEx.2.2.2.2.2.1
  have hl := lv_entry ([.ref (a 0), .int p1, .int p2, .ref oa]) (n := 5) (Nat.le_of_ble_eq_true rfl)
  rw [lg_entry_eq]
  generalize (lg_sl ([.ref (a 0), .int p1, .int p2, .ref oa]) ++ List.replicate (5 - (lg_sl ([.ref (a 0), .int p1, .int p2, .ref oa])).length) Slot.unset).toArray = ls at hl ⊢
  have hl : lv_has ls 5 [(0, .ref (a 0)), (1, .int p1), (2, .int p2), (3, .ref oa)] := hl
  unfold f_L_leastSetAnew at hf
  obtain ⟨q, hq, hf⟩ := ob_some hf
  refine lv_aload_n hx hb dL_leastSetAnew_0 rfl (lv_at hl 3 rfl) ?_
  refine lv_iconst (v := 0) hx hb dL_leastSetAnew_1 (by decide) ?_
  refine lv_aload_n hx hb dL_leastSetAnew_2 rfl (lv_at hl 0 rfl) ?_
  refine lv_iload_n hx hb dL_leastSetAnew_3 rfl (lv_at hl 1 rfl) ?_
  refine lv_iload_n hx hb dL_leastSetAnew_4 rfl (lv_at hl 2 rfl) ?_
  refine xt_P (As := [.int p1, .int p2]) (rest := [.int 0, .ref oa]) ⟨hx, hb, hml, hown, hts⟩ (k_X0_leastSetAnew l dC dI cA a S p1 p2 _ hq hap hfl) gL_leastSetAnew_X0_leastSetAnew rfl rfl rfl cd_X0_leastSetAnew (Nat.le_of_ble_eq_true rfl) (Nat.le_of_ble_eq_true rfl) (preTs hK1 hP hEx1) rfl hl.1 rfl (Nat.le_of_ble_eq_true rfl) (Nat.le_of_ble_eq_true rfl) (Nat.le_of_ble_eq_true rfl) dL_leastSetAnew_5 hS (fun q h => Or.inl h) (fun hne E ce q9 H locs hE hz hk hS hce hcv hcl => ?_) (fun hne H locs hP hk hS => ?_)
  · rw [if_neg hne] at hf
    have hP := kept_all hP hk
    have hPo := kept_all hPo hk
    by_cases c0 : q.1 = 1
    · rw [if_pos c0] at hf
      have hf := Option.some.inj hf; subst hf
      have hEe : E = "java/lang/IndexOutOfBoundsException" := by rw [hE, c0]; rfl
      subst hEe
      refine vx_catch (own := RL) (name := "java/lang/IndexOutOfBoundsException") hown [] ⟨0, 10, 13, 19⟩ [⟨0, 10, 17, 38⟩] (by rw [htb]; rfl) (fun z hz => by cases hz) (by decide) (by decide) (hts (.classLink RL 19 "java/lang/IndexOutOfBoundsException") (by decide +kernel)) (va_Nw.use rfl (hcs 1)) hce hcv hcl ?_
      refine lv_astore (lv' := [(4, .ref q9), (0, .ref (a 0)), (1, .int p1), (2, .int p2), (3, .ref oa)]) hx hb dL_leastSetAnew_13 hl (by decide) rfl (fun ls hl => ?_)
      refine lv_iconst (v := 1) hx hb dL_leastSetAnew_15 (by decide) ?_
      exact W.iret hx hb hr (fun t ht hW => ⟨⟨rfl, by rw [ht]; exact hP, by rw [ht]; exact hPo⟩, hS.F ht⟩) hS.2.2 dL_leastSetAnew_16
    rw [if_neg c0] at hf
    by_cases c1 : q.1 = 3
    · rw [if_pos c1] at hf
      have hf := Option.some.inj hf; subst hf
      have hEe : E = "java/lang/IllegalStateException" := by rw [hE, c1]; rfl
      subst hEe
      refine vx_catch (own := RL) (name := "java/lang/IllegalStateException") hown [⟨0, 10, 13, 19⟩] ⟨0, 10, 17, 38⟩ [] (by rw [htb]; rfl) (fun z hz => by
        rw [List.mem_singleton.mp hz]
        exact Or.inr ⟨by decide, "java/lang/IndexOutOfBoundsException", hts (.classLink RL 19 "java/lang/IndexOutOfBoundsException") (by decide +kernel), hNc 3 1 (by decide)⟩) (by decide) (by decide) (hts (.classLink RL 38 "java/lang/IllegalStateException") (by decide +kernel)) (va_Nw.use rfl (hcs 3)) hce hcv hcl ?_
      refine lv_astore (lv' := [(4, .ref q9), (0, .ref (a 0)), (1, .int p1), (2, .int p2), (3, .ref oa)]) hx hb dL_leastSetAnew_17 hl (by decide) rfl (fun ls hl => ?_)
      refine lv_iconst (v := 2) hx hb dL_leastSetAnew_19 (by decide) ?_
      exact W.iret hx hb hr (fun t ht hW => ⟨⟨rfl, by rw [ht]; exact hP, by rw [ht]; exact hPo⟩, hS.F ht⟩) hS.2.2 dL_leastSetAnew_20
    rw [if_neg c1] at hf
    cases hf
  · rw [if_pos hne] at hf
    have hPo := kept_but hPo (A := ad a 10) hk (fun k z hz h => by obtain ⟨i, hi, he⟩ := h; exact ho i hi (by rw [← he]; exact wO_at k z hz))
    refine lv_i2l (v := q.2.1.toInt64) hx hb dL_leastSetAnew_8 rfl ?_
    refine putO hx hb hK hP hPo hap ho hS dL_leastSetAnew_9 (fun H locs hP hPo hS => ?_)
    refine lv_goto (tgt := 21) hx hb dL_leastSetAnew_10 (by decide) ?_
    refine lv_iconst (v := 0) hx hb dL_leastSetAnew_21 (by decide) ?_
    have hf := Option.some.inj hf; subst hf
    exact W.iret hx hb hr (fun t ht hW => ⟨⟨rfl, by rw [ht]; exact hP, by rw [ht]; exact hPo⟩, hS.F ht⟩) hS.2.2 dL_leastSetAnew_22
theorem cd_L_order : yL_order.cls ≠ "java/lang/invoke/MethodHandle" ∧ yL_order.cls ≠ "java/lang/invoke/VarHandle" ∧ (parseMethodDescriptor yL_order.desc).map (fun d => d.parameters.length) = some 3 := by decide +kernel
set_option maxHeartbeats 4000000 in
set_option maxRecDepth 100000 in
theorem k_L_order (l : Launch) (hfl : l.stackTraces = false) (dC : Nat → ClassId) (dI : Nat → Nat → Nat) (cA cL : ClassId) (a : Nat → Nat) (oa : Nat) (S : St) (o : Nat → Int64) (p1 : Int32) (r : Int32 × St × (Nat → Int64)) (hf : f_L_order S o p1 = some r) (hap : apart a 10) (ho : ∀ k, k < 10 → a k ≠ oa) : Met l yL_order wsL_order ({ frames := 8, cells := 2, slots := 12, locals := 132 }) (va_Pc [.ref (a 0), .int p1, .ref oa] (PLs (dC, dI) cA cL a oa S o)) (qL (dC, dI) cA cL a oa r) 2 12 (adL a oa) := by
  refine ofWH (cc := cL_order) (maxL := 4) (ret := (some .int)) (hh := [(0, 9, 12, 19), (0, 9, 15, 38)]) (by decide) rfl ?_
  intro p e s m args below meth c s₁ B hml hv
  obtain ⟨rfl, hP, hPo, hK, hEx, hNc⟩ := hv
  have hx := B.exec
  have hb := B.bytes
  have hr := B.returns
  have hts := atoms_spec (ws := wsL_order) B.pre
  have hown : s.vm.findClass RL = some m.cls := findClass_of_methodNamed B.named
  have hlocks := B.notSynchronized
  have htb : c.exceptionTable.toList = tableOf [(0, 9, 12, 19), (0, 9, 15, 38)] := vx_table (x := yL_elements) B (hts (.codeWith yL_order cL_order 4 (some .int) [(0, 9, 12, 19), (0, 9, 15, 38)]) List.mem_cons_self)
  have hS : va_S (adL a oa) s.heap s.heap [] := va_S.rf
  have hK1 : va_K (dC, dI) vwCl [(cA, .int)] s := hK.sub [0] rfl
  have hEx1 : TXo (ad a 10) s := hEx.at rfl (State.WarmedH.refl s) (fun q h => Or.inl h)
  have hcs := hEx.2.2.2.2.2.1
  have hl := lv_entry ([.ref (a 0), .int p1, .ref oa]) (n := 4) (Nat.le_of_ble_eq_true rfl)
  rw [lg_entry_eq]
  generalize (lg_sl ([.ref (a 0), .int p1, .ref oa]) ++ List.replicate (4 - (lg_sl ([.ref (a 0), .int p1, .ref oa])).length) Slot.unset).toArray = ls at hl ⊢
  have hl : lv_has ls 4 [(0, .ref (a 0)), (1, .int p1), (2, .ref oa)] := hl
  unfold f_L_order at hf
  obtain ⟨q, hq, hf⟩ := ob_some hf
  refine lv_aload_n hx hb dL_order_0 rfl (lv_at hl 2 rfl) ?_
  refine lv_iconst (v := 0) hx hb dL_order_1 (by decide) ?_
  refine lv_aload_n hx hb dL_order_2 rfl (lv_at hl 0 rfl) ?_
  refine lv_iload_n hx hb dL_order_3 rfl (lv_at hl 1 rfl) ?_
  refine xt_P (As := [.int p1]) (rest := [.int 0, .ref oa]) ⟨hx, hb, hml, hown, hts⟩ (k_X0_order l dC dI cA a S p1 _ hq hap hfl) gL_order_X0_order rfl rfl rfl cd_X0_order (Nat.le_of_ble_eq_true rfl) (Nat.le_of_ble_eq_true rfl) (preTs hK1 hP hEx1) rfl hl.1 rfl (Nat.le_of_ble_eq_true rfl) (Nat.le_of_ble_eq_true rfl) (Nat.le_of_ble_eq_true rfl) dL_order_4 hS (fun q h => Or.inl h) (fun hne E ce q9 H locs hE hz hk hS hce hcv hcl => ?_) (fun hne H locs hP hk hS => ?_)
  · rw [if_neg hne] at hf
    have hP := kept_all hP hk
    have hPo := kept_all hPo hk
    by_cases c0 : q.1 = 1
    · rw [if_pos c0] at hf
      have hf := Option.some.inj hf; subst hf
      have hEe : E = "java/lang/IndexOutOfBoundsException" := by rw [hE, c0]; rfl
      subst hEe
      refine vx_catch (own := RL) (name := "java/lang/IndexOutOfBoundsException") hown [] ⟨0, 9, 12, 19⟩ [⟨0, 9, 15, 38⟩] (by rw [htb]; rfl) (fun z hz => by cases hz) (by decide) (by decide) (hts (.classLink RL 19 "java/lang/IndexOutOfBoundsException") (by decide +kernel)) (va_Nw.use rfl (hcs 1)) hce hcv hcl ?_
      refine lv_astore_n (lv' := [(3, .ref q9), (0, .ref (a 0)), (1, .int p1), (2, .ref oa)]) hx hb dL_order_12 rfl hl (by decide) rfl (fun ls hl => ?_)
      refine lv_iconst (v := 1) hx hb dL_order_13 (by decide) ?_
      exact W.iret hx hb hr (fun t ht hW => ⟨⟨rfl, by rw [ht]; exact hP, by rw [ht]; exact hPo⟩, hS.F ht⟩) hS.2.2 dL_order_14
    rw [if_neg c0] at hf
    by_cases c1 : q.1 = 3
    · rw [if_pos c1] at hf
      have hf := Option.some.inj hf; subst hf
      have hEe : E = "java/lang/IllegalStateException" := by rw [hE, c1]; rfl
      subst hEe
      refine vx_catch (own := RL) (name := "java/lang/IllegalStateException") hown [⟨0, 9, 12, 19⟩] ⟨0, 9, 15, 38⟩ [] (by rw [htb]; rfl) (fun z hz => by
        rw [List.mem_singleton.mp hz]
        exact Or.inr ⟨by decide, "java/lang/IndexOutOfBoundsException", hts (.classLink RL 19 "java/lang/IndexOutOfBoundsException") (by decide +kernel), hNc 3 1 (by decide)⟩) (by decide) (by decide) (hts (.classLink RL 38 "java/lang/IllegalStateException") (by decide +kernel)) (va_Nw.use rfl (hcs 3)) hce hcv hcl ?_
      refine lv_astore_n (lv' := [(3, .ref q9), (0, .ref (a 0)), (1, .int p1), (2, .ref oa)]) hx hb dL_order_15 rfl hl (by decide) rfl (fun ls hl => ?_)
      refine lv_iconst (v := 2) hx hb dL_order_16 (by decide) ?_
      exact W.iret hx hb hr (fun t ht hW => ⟨⟨rfl, by rw [ht]; exact hP, by rw [ht]; exact hPo⟩, hS.F ht⟩) hS.2.2 dL_order_17
    rw [if_neg c1] at hf
    cases hf
  · rw [if_pos hne] at hf
    have hPo := kept_but hPo (A := ad a 10) hk (fun k z hz h => by obtain ⟨i, hi, he⟩ := h; exact ho i hi (by rw [← he]; exact wO_at k z hz))
    refine lv_i2l (v := q.2.1.toInt64) hx hb dL_order_7 rfl ?_
    refine putO hx hb hK hP hPo hap ho hS dL_order_8 (fun H locs hP hPo hS => ?_)
    refine lv_goto (tgt := 18) hx hb dL_order_9 (by decide) ?_
    refine lv_iconst (v := 0) hx hb dL_order_18 (by decide) ?_
    have hf := Option.some.inj hf; subst hf
    exact W.iret hx hb hr (fun t ht hW => ⟨⟨rfl, by rw [ht]; exact hP, by rw [ht]; exact hPo⟩, hS.F ht⟩) hS.2.2 dL_order_19
theorem cd_L_corner : yL_corner.cls ≠ "java/lang/invoke/MethodHandle" ∧ yL_corner.cls ≠ "java/lang/invoke/VarHandle" ∧ (parseMethodDescriptor yL_corner.desc).map (fun d => d.parameters.length) = some 4 := by decide +kernel
set_option maxHeartbeats 4000000 in
set_option maxRecDepth 100000 in
theorem k_L_corner (l : Launch) (hfl : l.stackTraces = false) (dC : Nat → ClassId) (dI : Nat → Nat → Nat) (cA cL : ClassId) (a : Nat → Nat) (oa : Nat) (S : St) (o : Nat → Int64) (p1 : Int32) (p2 : Int32) (r : Int32 × St × (Nat → Int64)) (hf : f_L_corner S o p1 p2 = some r) (hap : apart a 10) (ho : ∀ k, k < 10 → a k ≠ oa) : Met l yL_corner wsL_corner ({ frames := 8, cells := 2, slots := 12, locals := 132 }) (va_Pc [.ref (a 0), .int p1, .int p2, .ref oa] (PLs (dC, dI) cA cL a oa S o)) (qL (dC, dI) cA cL a oa r) 2 12 (adL a oa) := by
  refine ofWH (cc := cL_corner) (maxL := 5) (ret := (some .int)) (hh := [(0, 10, 13, 19), (0, 10, 17, 38)]) (by decide) rfl ?_
  intro p e s m args below meth c s₁ B hml hv
  obtain ⟨rfl, hP, hPo, hK, hEx, hNc⟩ := hv
  have hx := B.exec
  have hb := B.bytes
  have hr := B.returns
  have hts := atoms_spec (ws := wsL_corner) B.pre
  have hown : s.vm.findClass RL = some m.cls := findClass_of_methodNamed B.named
  have hlocks := B.notSynchronized
  have htb : c.exceptionTable.toList = tableOf [(0, 10, 13, 19), (0, 10, 17, 38)] := vx_table (x := yL_elements) B (hts (.codeWith yL_corner cL_corner 5 (some .int) [(0, 10, 13, 19), (0, 10, 17, 38)]) List.mem_cons_self)
  have hS : va_S (adL a oa) s.heap s.heap [] := va_S.rf
  have hK1 : va_K (dC, dI) vwCl [(cA, .int)] s := hK.sub [0] rfl
  have hEx1 : TXo (ad a 10) s := hEx.at rfl (State.WarmedH.refl s) (fun q h => Or.inl h)
  have hcs := hEx.2.2.2.2.2.1
  have hl := lv_entry ([.ref (a 0), .int p1, .int p2, .ref oa]) (n := 5) (Nat.le_of_ble_eq_true rfl)
  rw [lg_entry_eq]
  generalize (lg_sl ([.ref (a 0), .int p1, .int p2, .ref oa]) ++ List.replicate (5 - (lg_sl ([.ref (a 0), .int p1, .int p2, .ref oa])).length) Slot.unset).toArray = ls at hl ⊢
  have hl : lv_has ls 5 [(0, .ref (a 0)), (1, .int p1), (2, .int p2), (3, .ref oa)] := hl
  unfold f_L_corner at hf
  obtain ⟨q, hq, hf⟩ := ob_some hf
  refine lv_aload_n hx hb dL_corner_0 rfl (lv_at hl 3 rfl) ?_
  refine lv_iconst (v := 0) hx hb dL_corner_1 (by decide) ?_
  refine lv_aload_n hx hb dL_corner_2 rfl (lv_at hl 0 rfl) ?_
  refine lv_iload_n hx hb dL_corner_3 rfl (lv_at hl 1 rfl) ?_
  refine lv_iload_n hx hb dL_corner_4 rfl (lv_at hl 2 rfl) ?_
  refine xt_P (As := [.int p1, .int p2]) (rest := [.int 0, .ref oa]) ⟨hx, hb, hml, hown, hts⟩ (k_X0_corner l dC dI cA a S p1 p2 _ hq hap hfl) gL_corner_X0_corner rfl rfl rfl cd_X0_corner (Nat.le_of_ble_eq_true rfl) (Nat.le_of_ble_eq_true rfl) (preTs hK1 hP hEx1) rfl hl.1 rfl (Nat.le_of_ble_eq_true rfl) (Nat.le_of_ble_eq_true rfl) (Nat.le_of_ble_eq_true rfl) dL_corner_5 hS (fun q h => Or.inl h) (fun hne E ce q9 H locs hE hz hk hS hce hcv hcl => ?_) (fun hne H locs hP hk hS => ?_)
  · rw [if_neg hne] at hf
    have hP := kept_all hP hk
    have hPo := kept_all hPo hk
    by_cases c0 : q.1 = 1
    · rw [if_pos c0] at hf
      have hf := Option.some.inj hf; subst hf
      have hEe : E = "java/lang/IndexOutOfBoundsException" := by rw [hE, c0]; rfl
      subst hEe
      refine vx_catch (own := RL) (name := "java/lang/IndexOutOfBoundsException") hown [] ⟨0, 10, 13, 19⟩ [⟨0, 10, 17, 38⟩] (by rw [htb]; rfl) (fun z hz => by cases hz) (by decide) (by decide) (hts (.classLink RL 19 "java/lang/IndexOutOfBoundsException") (by decide +kernel)) (va_Nw.use rfl (hcs 1)) hce hcv hcl ?_
      refine lv_astore (lv' := [(4, .ref q9), (0, .ref (a 0)), (1, .int p1), (2, .int p2), (3, .ref oa)]) hx hb dL_corner_13 hl (by decide) rfl (fun ls hl => ?_)
      refine lv_iconst (v := 1) hx hb dL_corner_15 (by decide) ?_
      exact W.iret hx hb hr (fun t ht hW => ⟨⟨rfl, by rw [ht]; exact hP, by rw [ht]; exact hPo⟩, hS.F ht⟩) hS.2.2 dL_corner_16
    rw [if_neg c0] at hf
    by_cases c1 : q.1 = 3
    · rw [if_pos c1] at hf
      have hf := Option.some.inj hf; subst hf
      have hEe : E = "java/lang/IllegalStateException" := by rw [hE, c1]; rfl
      subst hEe
      refine vx_catch (own := RL) (name := "java/lang/IllegalStateException") hown [⟨0, 10, 13, 19⟩] ⟨0, 10, 17, 38⟩ [] (by rw [htb]; rfl) (fun z hz => by
        rw [List.mem_singleton.mp hz]
        exact Or.inr ⟨by decide, "java/lang/IndexOutOfBoundsException", hts (.classLink RL 19 "java/lang/IndexOutOfBoundsException") (by decide +kernel), hNc 3 1 (by decide)⟩) (by decide) (by decide) (hts (.classLink RL 38 "java/lang/IllegalStateException") (by decide +kernel)) (va_Nw.use rfl (hcs 3)) hce hcv hcl ?_
      refine lv_astore (lv' := [(4, .ref q9), (0, .ref (a 0)), (1, .int p1), (2, .int p2), (3, .ref oa)]) hx hb dL_corner_17 hl (by decide) rfl (fun ls hl => ?_)
      refine lv_iconst (v := 2) hx hb dL_corner_19 (by decide) ?_
      exact W.iret hx hb hr (fun t ht hW => ⟨⟨rfl, by rw [ht]; exact hP, by rw [ht]; exact hPo⟩, hS.F ht⟩) hS.2.2 dL_corner_20
    rw [if_neg c1] at hf
    cases hf
  · rw [if_pos hne] at hf
    have hPo := kept_but hPo (A := ad a 10) hk (fun k z hz h => by obtain ⟨i, hi, he⟩ := h; exact ho i hi (by rw [← he]; exact wO_at k z hz))
    refine lv_i2l (v := q.2.1.toInt64) hx hb dL_corner_8 rfl ?_
    refine putO hx hb hK hP hPo hap ho hS dL_corner_9 (fun H locs hP hPo hS => ?_)
    refine lv_goto (tgt := 21) hx hb dL_corner_10 (by decide) ?_
    refine lv_iconst (v := 0) hx hb dL_corner_21 (by decide) ?_
    have hf := Option.some.inj hf; subst hf
    exact W.iret hx hb hr (fun t ht hW => ⟨⟨rfl, by rw [ht]; exact hP, by rw [ht]; exact hPo⟩, hS.F ht⟩) hS.2.2 dL_corner_22
theorem cd_L_greedy : yL_greedy.cls ≠ "java/lang/invoke/MethodHandle" ∧ yL_greedy.cls ≠ "java/lang/invoke/VarHandle" ∧ (parseMethodDescriptor yL_greedy.desc).map (fun d => d.parameters.length) = some 4 := by decide +kernel
set_option maxHeartbeats 4000000 in
set_option maxRecDepth 100000 in
theorem k_L_greedy (l : Launch) (hfl : l.stackTraces = false) (dC : Nat → ClassId) (dI : Nat → Nat → Nat) (cA cL : ClassId) (a : Nat → Nat) (oa : Nat) (S : St) (o : Nat → Int64) (p1 : Int32) (p2 : Int32) (r : Int32 × St × (Nat → Int64)) (hf : f_L_greedy S o p1 p2 = some r) (hap : apart a 10) (ho : ∀ k, k < 10 → a k ≠ oa) : Met l yL_greedy wsL_greedy ({ frames := 8, cells := 2, slots := 12, locals := 135 }) (va_Pc [.ref (a 0), .int p1, .int p2, .ref oa] (PLs (dC, dI) cA cL a oa S o)) (qL (dC, dI) cA cL a oa r) 2 12 (adL a oa) := by
  refine ofWH (cc := cL_greedy) (maxL := 5) (ret := (some .int)) (hh := [(0, 10, 13, 19), (0, 10, 17, 13)]) (by decide) rfl ?_
  intro p e s m args below meth c s₁ B hml hv
  obtain ⟨rfl, hP, hPo, hK, hEx, hNc⟩ := hv
  have hx := B.exec
  have hb := B.bytes
  have hr := B.returns
  have hts := atoms_spec (ws := wsL_greedy) B.pre
  have hown : s.vm.findClass RL = some m.cls := findClass_of_methodNamed B.named
  have hlocks := B.notSynchronized
  have htb : c.exceptionTable.toList = tableOf [(0, 10, 13, 19), (0, 10, 17, 13)] := vx_table (x := yL_elements) B (hts (.codeWith yL_greedy cL_greedy 5 (some .int) [(0, 10, 13, 19), (0, 10, 17, 13)]) List.mem_cons_self)
  have hS : va_S (adL a oa) s.heap s.heap [] := va_S.rf
  have hK1 : va_K (dC, dI) vwCl [(cA, .int)] s := hK.sub [0] rfl
  have hEx1 : TXo (ad a 10) s := hEx.at rfl (State.WarmedH.refl s) (fun q h => Or.inl h)
  have hcs := hEx.2.2.2.2.2.1
  have hl := lv_entry ([.ref (a 0), .int p1, .int p2, .ref oa]) (n := 5) (Nat.le_of_ble_eq_true rfl)
  rw [lg_entry_eq]
  generalize (lg_sl ([.ref (a 0), .int p1, .int p2, .ref oa]) ++ List.replicate (5 - (lg_sl ([.ref (a 0), .int p1, .int p2, .ref oa])).length) Slot.unset).toArray = ls at hl ⊢
  have hl : lv_has ls 5 [(0, .ref (a 0)), (1, .int p1), (2, .int p2), (3, .ref oa)] := hl
  unfold f_L_greedy at hf
  obtain ⟨q, hq, hf⟩ := ob_some hf
  refine lv_aload_n hx hb dL_greedy_0 rfl (lv_at hl 3 rfl) ?_
  refine lv_iconst (v := 0) hx hb dL_greedy_1 (by decide) ?_
  refine lv_aload_n hx hb dL_greedy_2 rfl (lv_at hl 0 rfl) ?_
  refine lv_iload_n hx hb dL_greedy_3 rfl (lv_at hl 1 rfl) ?_
  refine lv_iload_n hx hb dL_greedy_4 rfl (lv_at hl 2 rfl) ?_
  refine xt_P (As := [.int p1, .int p2]) (rest := [.int 0, .ref oa]) ⟨hx, hb, hml, hown, hts⟩ (k_X0_greedy l dC dI cA a S p1 p2 _ hq hap hfl) gL_greedy_X0_greedy rfl rfl rfl cd_X0_greedy (Nat.le_of_ble_eq_true rfl) (Nat.le_of_ble_eq_true rfl) (preTs hK1 hP hEx1) rfl hl.1 rfl (Nat.le_of_ble_eq_true rfl) (Nat.le_of_ble_eq_true rfl) (Nat.le_of_ble_eq_true rfl) dL_greedy_5 hS (fun q h => Or.inl h) (fun hne E ce q9 H locs hE hz hk hS hce hcv hcl => ?_) (fun hne H locs hP hk hS => ?_)
  · rw [if_neg hne] at hf
    have hP := kept_all hP hk
    have hPo := kept_all hPo hk
    by_cases c0 : q.1 = 1
    · rw [if_pos c0] at hf
      have hf := Option.some.inj hf; subst hf
      have hEe : E = "java/lang/IndexOutOfBoundsException" := by rw [hE, c0]; rfl
      subst hEe
      refine vx_catch (own := RL) (name := "java/lang/IndexOutOfBoundsException") hown [] ⟨0, 10, 13, 19⟩ [⟨0, 10, 17, 13⟩] (by rw [htb]; rfl) (fun z hz => by cases hz) (by decide) (by decide) (hts (.classLink RL 19 "java/lang/IndexOutOfBoundsException") (by decide +kernel)) (va_Nw.use rfl (hcs 1)) hce hcv hcl ?_
      refine lv_astore (lv' := [(4, .ref q9), (0, .ref (a 0)), (1, .int p1), (2, .int p2), (3, .ref oa)]) hx hb dL_greedy_13 hl (by decide) rfl (fun ls hl => ?_)
      refine lv_iconst (v := 1) hx hb dL_greedy_15 (by decide) ?_
      exact W.iret hx hb hr (fun t ht hW => ⟨⟨rfl, by rw [ht]; exact hP, by rw [ht]; exact hPo⟩, hS.F ht⟩) hS.2.2 dL_greedy_16
    rw [if_neg c0] at hf
    by_cases c1 : q.1 = 2
    · rw [if_pos c1] at hf
      have hf := Option.some.inj hf; subst hf
      have hEe : E = "java/lang/IllegalArgumentException" := by rw [hE, c1]; rfl
      subst hEe
      refine vx_catch (own := RL) (name := "java/lang/IllegalArgumentException") hown [⟨0, 10, 13, 19⟩] ⟨0, 10, 17, 13⟩ [] (by rw [htb]; rfl) (fun z hz => by
        rw [List.mem_singleton.mp hz]
        exact Or.inr ⟨by decide, "java/lang/IndexOutOfBoundsException", hts (.classLink RL 19 "java/lang/IndexOutOfBoundsException") (by decide +kernel), hNc 2 1 (by decide)⟩) (by decide) (by decide) (hts (.classLink RL 13 "java/lang/IllegalArgumentException") (by decide +kernel)) (va_Nw.use rfl (hcs 2)) hce hcv hcl ?_
      refine lv_astore (lv' := [(4, .ref q9), (0, .ref (a 0)), (1, .int p1), (2, .int p2), (3, .ref oa)]) hx hb dL_greedy_17 hl (by decide) rfl (fun ls hl => ?_)
      refine lv_iconst (v := 2) hx hb dL_greedy_19 (by decide) ?_
      exact W.iret hx hb hr (fun t ht hW => ⟨⟨rfl, by rw [ht]; exact hP, by rw [ht]; exact hPo⟩, hS.F ht⟩) hS.2.2 dL_greedy_20
    rw [if_neg c1] at hf
    cases hf
  · rw [if_pos hne] at hf
    have hPo := kept_but hPo (A := ad a 10) hk (fun k z hz h => by obtain ⟨i, hi, he⟩ := h; exact ho i hi (by rw [← he]; exact wO_at k z hz))
    refine lv_i2l (v := q.2.1.toInt64) hx hb dL_greedy_8 rfl ?_
    refine putO hx hb hK hP hPo hap ho hS dL_greedy_9 (fun H locs hP hPo hS => ?_)
    refine lv_goto (tgt := 21) hx hb dL_greedy_10 (by decide) ?_
    refine lv_iconst (v := 0) hx hb dL_greedy_21 (by decide) ?_
    have hf := Option.some.inj hf; subst hf
    exact W.iret hx hb hr (fun t ht hW => ⟨⟨rfl, by rw [ht]; exact hP, by rw [ht]; exact hPo⟩, hS.F ht⟩) hS.2.2 dL_greedy_22
theorem cd_L_best : yL_best.cls ≠ "java/lang/invoke/MethodHandle" ∧ yL_best.cls ≠ "java/lang/invoke/VarHandle" ∧ (parseMethodDescriptor yL_best.desc).map (fun d => d.parameters.length) = some 4 := by decide +kernel
set_option maxHeartbeats 4000000 in
set_option maxRecDepth 100000 in
theorem k_L_best (l : Launch) (hfl : l.stackTraces = false) (dC : Nat → ClassId) (dI : Nat → Nat → Nat) (cA cL : ClassId) (a : Nat → Nat) (oa : Nat) (S : St) (o : Nat → Int64) (p1 : Int32) (p2 : Int32) (r : Int32 × St × (Nat → Int64)) (hf : f_L_best S o p1 p2 = some r) (hap : apart a 10) (ho : ∀ k, k < 10 → a k ≠ oa) : Met l yL_best wsL_best ({ frames := 8, cells := 2, slots := 12, locals := 134 }) (va_Pc [.ref (a 0), .int p1, .int p2, .ref oa] (PLs (dC, dI) cA cL a oa S o)) (qL (dC, dI) cA cL a oa r) 2 12 (adL a oa) := by
  refine ofWH (cc := cL_best) (maxL := 5) (ret := (some .int)) (hh := [(0, 10, 13, 19), (0, 10, 17, 13)]) (by decide) rfl ?_
  intro p e s m args below meth c s₁ B hml hv
  obtain ⟨rfl, hP, hPo, hK, hEx, hNc⟩ := hv
  have hx := B.exec
  have hb := B.bytes
  have hr := B.returns
  have hts := atoms_spec (ws := wsL_best) B.pre
  have hown : s.vm.findClass RL = some m.cls := findClass_of_methodNamed B.named
  have hlocks := B.notSynchronized
  have htb : c.exceptionTable.toList = tableOf [(0, 10, 13, 19), (0, 10, 17, 13)] := vx_table (x := yL_elements) B (hts (.codeWith yL_best cL_best 5 (some .int) [(0, 10, 13, 19), (0, 10, 17, 13)]) List.mem_cons_self)
  have hS : va_S (adL a oa) s.heap s.heap [] := va_S.rf
  have hK1 : va_K (dC, dI) vwCl [(cA, .int)] s := hK.sub [0] rfl
  have hEx1 : TXo (ad a 10) s := hEx.at rfl (State.WarmedH.refl s) (fun q h => Or.inl h)
  have hcs := hEx.2.2.2.2.2.1
  have hl := lv_entry ([.ref (a 0), .int p1, .int p2, .ref oa]) (n := 5) (Nat.le_of_ble_eq_true rfl)
  rw [lg_entry_eq]
  generalize (lg_sl ([.ref (a 0), .int p1, .int p2, .ref oa]) ++ List.replicate (5 - (lg_sl ([.ref (a 0), .int p1, .int p2, .ref oa])).length) Slot.unset).toArray = ls at hl ⊢
  have hl : lv_has ls 5 [(0, .ref (a 0)), (1, .int p1), (2, .int p2), (3, .ref oa)] := hl
  unfold f_L_best at hf
  obtain ⟨q, hq, hf⟩ := ob_some hf
  refine lv_aload_n hx hb dL_best_0 rfl (lv_at hl 3 rfl) ?_
  refine lv_iconst (v := 0) hx hb dL_best_1 (by decide) ?_
  refine lv_aload_n hx hb dL_best_2 rfl (lv_at hl 0 rfl) ?_
  refine lv_iload_n hx hb dL_best_3 rfl (lv_at hl 1 rfl) ?_
  refine lv_iload_n hx hb dL_best_4 rfl (lv_at hl 2 rfl) ?_
  refine xt_P (As := [.int p1, .int p2]) (rest := [.int 0, .ref oa]) ⟨hx, hb, hml, hown, hts⟩ (k_X0_best l dC dI cA a S p1 p2 _ hq hap hfl) gL_best_X0_best rfl rfl rfl cd_X0_best (Nat.le_of_ble_eq_true rfl) (Nat.le_of_ble_eq_true rfl) (preTs hK1 hP hEx1) rfl hl.1 rfl (Nat.le_of_ble_eq_true rfl) (Nat.le_of_ble_eq_true rfl) (Nat.le_of_ble_eq_true rfl) dL_best_5 hS (fun q h => Or.inl h) (fun hne E ce q9 H locs hE hz hk hS hce hcv hcl => ?_) (fun hne H locs hP hk hS => ?_)
  · rw [if_neg hne] at hf
    have hP := kept_all hP hk
    have hPo := kept_all hPo hk
    by_cases c0 : q.1 = 1
    · rw [if_pos c0] at hf
      have hf := Option.some.inj hf; subst hf
      have hEe : E = "java/lang/IndexOutOfBoundsException" := by rw [hE, c0]; rfl
      subst hEe
      refine vx_catch (own := RL) (name := "java/lang/IndexOutOfBoundsException") hown [] ⟨0, 10, 13, 19⟩ [⟨0, 10, 17, 13⟩] (by rw [htb]; rfl) (fun z hz => by cases hz) (by decide) (by decide) (hts (.classLink RL 19 "java/lang/IndexOutOfBoundsException") (by decide +kernel)) (va_Nw.use rfl (hcs 1)) hce hcv hcl ?_
      refine lv_astore (lv' := [(4, .ref q9), (0, .ref (a 0)), (1, .int p1), (2, .int p2), (3, .ref oa)]) hx hb dL_best_13 hl (by decide) rfl (fun ls hl => ?_)
      refine lv_iconst (v := 1) hx hb dL_best_15 (by decide) ?_
      exact W.iret hx hb hr (fun t ht hW => ⟨⟨rfl, by rw [ht]; exact hP, by rw [ht]; exact hPo⟩, hS.F ht⟩) hS.2.2 dL_best_16
    rw [if_neg c0] at hf
    by_cases c1 : q.1 = 2
    · rw [if_pos c1] at hf
      have hf := Option.some.inj hf; subst hf
      have hEe : E = "java/lang/IllegalArgumentException" := by rw [hE, c1]; rfl
      subst hEe
      refine vx_catch (own := RL) (name := "java/lang/IllegalArgumentException") hown [⟨0, 10, 13, 19⟩] ⟨0, 10, 17, 13⟩ [] (by rw [htb]; rfl) (fun z hz => by
        rw [List.mem_singleton.mp hz]
        exact Or.inr ⟨by decide, "java/lang/IndexOutOfBoundsException", hts (.classLink RL 19 "java/lang/IndexOutOfBoundsException") (by decide +kernel), hNc 2 1 (by decide)⟩) (by decide) (by decide) (hts (.classLink RL 13 "java/lang/IllegalArgumentException") (by decide +kernel)) (va_Nw.use rfl (hcs 2)) hce hcv hcl ?_
      refine lv_astore (lv' := [(4, .ref q9), (0, .ref (a 0)), (1, .int p1), (2, .int p2), (3, .ref oa)]) hx hb dL_best_17 hl (by decide) rfl (fun ls hl => ?_)
      refine lv_iconst (v := 2) hx hb dL_best_19 (by decide) ?_
      exact W.iret hx hb hr (fun t ht hW => ⟨⟨rfl, by rw [ht]; exact hP, by rw [ht]; exact hPo⟩, hS.F ht⟩) hS.2.2 dL_best_20
    rw [if_neg c1] at hf
    cases hf
  · rw [if_pos hne] at hf
    have hPo := kept_but hPo (A := ad a 10) hk (fun k z hz h => by obtain ⟨i, hi, he⟩ := h; exact ho i hi (by rw [← he]; exact wO_at k z hz))
    refine lv_i2l (v := q.2.1.toInt64) hx hb dL_best_8 rfl ?_
    refine putO hx hb hK hP hPo hap ho hS dL_best_9 (fun H locs hP hPo hS => ?_)
    refine lv_goto (tgt := 21) hx hb dL_best_10 (by decide) ?_
    refine lv_iconst (v := 0) hx hb dL_best_21 (by decide) ?_
    have hf := Option.some.inj hf; subst hf
    exact W.iret hx hb hr (fun t ht hW => ⟨⟨rfl, by rw [ht]; exact hP, by rw [ht]; exact hPo⟩, hS.F ht⟩) hS.2.2 dL_best_22
theorem cd_L_share : yL_share.cls ≠ "java/lang/invoke/MethodHandle" ∧ yL_share.cls ≠ "java/lang/invoke/VarHandle" ∧ (parseMethodDescriptor yL_share.desc).map (fun d => d.parameters.length) = some 4 := by decide +kernel
set_option maxHeartbeats 4000000 in
set_option maxRecDepth 100000 in
theorem k_L_share (l : Launch) (hfl : l.stackTraces = false) (dC : Nat → ClassId) (dI : Nat → Nat → Nat) (cA cL : ClassId) (a : Nat → Nat) (oa : Nat) (S : St) (o : Nat → Int64) (p1 : Int32) (p2 : Int32) (r : Int32 × St × (Nat → Int64)) (hf : f_L_share S o p1 p2 = some r) (hap : apart a 10) (ho : ∀ k, k < 10 → a k ≠ oa) : Met l yL_share wsL_share ({ frames := 8, cells := 1, slots := 6, locals := 136 }) (va_Pc [.ref (a 0), .int p1, .int p2, .ref oa] (PLs (dC, dI) cA cL a oa S o)) (qL (dC, dI) cA cL a oa r) 1 6 (adL a oa) := by
  refine ofWH (cc := cL_share) (maxL := 5) (ret := (some .int)) (hh := [(0, 10, 13, 19)]) (by decide) rfl ?_
  intro p e s m args below meth c s₁ B hml hv
  obtain ⟨rfl, hP, hPo, hK, hEx, hNc⟩ := hv
  have hx := B.exec
  have hb := B.bytes
  have hr := B.returns
  have hts := atoms_spec (ws := wsL_share) B.pre
  have hown : s.vm.findClass RL = some m.cls := findClass_of_methodNamed B.named
  have hlocks := B.notSynchronized
  have htb : c.exceptionTable.toList = tableOf [(0, 10, 13, 19)] := vx_table (x := yL_elements) B (hts (.codeWith yL_share cL_share 5 (some .int) [(0, 10, 13, 19)]) List.mem_cons_self)
  have hS : va_S (adL a oa) s.heap s.heap [] := va_S.rf
  have hK1 : va_K (dC, dI) vwCl [(cA, .int)] s := hK.sub [0] rfl
  have hEx1 : TXo (ad a 10) s := hEx.at rfl (State.WarmedH.refl s) (fun q h => Or.inl h)
  have hcs := hEx.2.2.2.2.2.1
  have hl := lv_entry ([.ref (a 0), .int p1, .int p2, .ref oa]) (n := 5) (Nat.le_of_ble_eq_true rfl)
  rw [lg_entry_eq]
  generalize (lg_sl ([.ref (a 0), .int p1, .int p2, .ref oa]) ++ List.replicate (5 - (lg_sl ([.ref (a 0), .int p1, .int p2, .ref oa])).length) Slot.unset).toArray = ls at hl ⊢
  have hl : lv_has ls 5 [(0, .ref (a 0)), (1, .int p1), (2, .int p2), (3, .ref oa)] := hl
  unfold f_L_share at hf
  obtain ⟨q, hq, hf⟩ := ob_some hf
  refine lv_aload_n hx hb dL_share_0 rfl (lv_at hl 3 rfl) ?_
  refine lv_iconst (v := 0) hx hb dL_share_1 (by decide) ?_
  refine lv_aload_n hx hb dL_share_2 rfl (lv_at hl 0 rfl) ?_
  refine lv_iload_n hx hb dL_share_3 rfl (lv_at hl 1 rfl) ?_
  refine lv_iload_n hx hb dL_share_4 rfl (lv_at hl 2 rfl) ?_
  refine xt_P (As := [.int p1, .int p2]) (rest := [.int 0, .ref oa]) ⟨hx, hb, hml, hown, hts⟩ (k_X0_share l dC dI cA a S p1 p2 _ hq hap hfl) gL_share_X0_share rfl rfl rfl cd_X0_share (Nat.le_of_ble_eq_true rfl) (Nat.le_of_ble_eq_true rfl) (preTs hK1 hP hEx1) rfl hl.1 rfl (Nat.le_of_ble_eq_true rfl) (Nat.le_of_ble_eq_true rfl) (Nat.le_of_ble_eq_true rfl) dL_share_5 hS (fun q h => Or.inl h) (fun hne E ce q9 H locs hE hz hk hS hce hcv hcl => ?_) (fun hne H locs hP hk hS => ?_)
  · rw [if_neg hne] at hf
    have hP := kept_all hP hk
    have hPo := kept_all hPo hk
    by_cases c0 : q.1 = 1
    · rw [if_pos c0] at hf
      have hf := Option.some.inj hf; subst hf
      have hEe : E = "java/lang/IndexOutOfBoundsException" := by rw [hE, c0]; rfl
      subst hEe
      refine vx_catch (own := RL) (name := "java/lang/IndexOutOfBoundsException") hown [] ⟨0, 10, 13, 19⟩ [] (by rw [htb]; rfl) (fun z hz => by cases hz) (by decide) (by decide) (hts (.classLink RL 19 "java/lang/IndexOutOfBoundsException") (by decide +kernel)) (va_Nw.use rfl (hcs 1)) hce hcv hcl ?_
      refine lv_astore (lv' := [(4, .ref q9), (0, .ref (a 0)), (1, .int p1), (2, .int p2), (3, .ref oa)]) hx hb dL_share_13 hl (by decide) rfl (fun ls hl => ?_)
      refine lv_iconst (v := 1) hx hb dL_share_15 (by decide) ?_
      exact W.iret hx hb hr (fun t ht hW => ⟨⟨rfl, by rw [ht]; exact hP, by rw [ht]; exact hPo⟩, hS.F ht⟩) hS.2.2 dL_share_16
    rw [if_neg c0] at hf
    cases hf
  · rw [if_pos hne] at hf
    have hPo := kept_but hPo (A := ad a 10) hk (fun k z hz h => by obtain ⟨i, hi, he⟩ := h; exact ho i hi (by rw [← he]; exact wO_at k z hz))
    refine lv_i2l (v := q.2.1.toInt64) hx hb dL_share_8 rfl ?_
    refine putO hx hb hK hP hPo hap ho hS dL_share_9 (fun H locs hP hPo hS => ?_)
    refine lv_goto (tgt := 17) hx hb dL_share_10 (by decide) ?_
    refine lv_iconst (v := 0) hx hb dL_share_17 (by decide) ?_
    have hf := Option.some.inj hf; subst hf
    exact W.iret hx hb hr (fun t ht hW => ⟨⟨rfl, by rw [ht]; exact hP, by rw [ht]; exact hPo⟩, hS.F ht⟩) hS.2.2 dL_share_18
theorem cd_L_shareAnew : yL_shareAnew.cls ≠ "java/lang/invoke/MethodHandle" ∧ yL_shareAnew.cls ≠ "java/lang/invoke/VarHandle" ∧ (parseMethodDescriptor yL_shareAnew.desc).map (fun d => d.parameters.length) = some 4 := by decide +kernel
set_option maxHeartbeats 4000000 in
set_option maxRecDepth 100000 in
theorem k_L_shareAnew (l : Launch) (hfl : l.stackTraces = false) (dC : Nat → ClassId) (dI : Nat → Nat → Nat) (cA cL : ClassId) (a : Nat → Nat) (oa : Nat) (S : St) (o : Nat → Int64) (p1 : Int32) (p2 : Int32) (r : Int32 × St × (Nat → Int64)) (hf : f_L_shareAnew S o p1 p2 = some r) (hap : apart a 10) (ho : ∀ k, k < 10 → a k ≠ oa) : Met l yL_shareAnew wsL_shareAnew ({ frames := 12, cells := 1, slots := 6, locals := 312 }) (va_Pc [.ref (a 0), .int p1, .int p2, .ref oa] (PLs (dC, dI) cA cL a oa S o)) (qL (dC, dI) cA cL a oa r) 1 6 (adL a oa) := by
  refine ofWH (cc := cL_shareAnew) (maxL := 5) (ret := (some .int)) (hh := [(0, 10, 13, 19)]) (by decide) rfl ?_
  intro p e s m args below meth c s₁ B hml hv
  obtain ⟨rfl, hP, hPo, hK, hEx, hNc⟩ := hv
  have hx := B.exec
  have hb := B.bytes
  have hr := B.returns
  have hts := atoms_spec (ws := wsL_shareAnew) B.pre
  have hown : s.vm.findClass RL = some m.cls := findClass_of_methodNamed B.named
  have hlocks := B.notSynchronized
  have htb : c.exceptionTable.toList = tableOf [(0, 10, 13, 19)] := vx_table (x := yL_elements) B (hts (.codeWith yL_shareAnew cL_shareAnew 5 (some .int) [(0, 10, 13, 19)]) List.mem_cons_self)
  have hS : va_S (adL a oa) s.heap s.heap [] := va_S.rf
  have hK1 : va_K (dC, dI) vwCl [(cA, .int)] s := hK.sub [0] rfl
  have hEx1 : TXo (ad a 10) s := hEx.at rfl (State.WarmedH.refl s) (fun q h => Or.inl h)
  have hcs := hEx.2.2.2.2.2.1
  have hl := lv_entry ([.ref (a 0), .int p1, .int p2, .ref oa]) (n := 5) (Nat.le_of_ble_eq_true rfl)
  rw [lg_entry_eq]
  generalize (lg_sl ([.ref (a 0), .int p1, .int p2, .ref oa]) ++ List.replicate (5 - (lg_sl ([.ref (a 0), .int p1, .int p2, .ref oa])).length) Slot.unset).toArray = ls at hl ⊢
  have hl : lv_has ls 5 [(0, .ref (a 0)), (1, .int p1), (2, .int p2), (3, .ref oa)] := hl
  unfold f_L_shareAnew at hf
  obtain ⟨q, hq, hf⟩ := ob_some hf
  refine lv_aload_n hx hb dL_shareAnew_0 rfl (lv_at hl 3 rfl) ?_
  refine lv_iconst (v := 0) hx hb dL_shareAnew_1 (by decide) ?_
  refine lv_aload_n hx hb dL_shareAnew_2 rfl (lv_at hl 0 rfl) ?_
  refine lv_iload_n hx hb dL_shareAnew_3 rfl (lv_at hl 1 rfl) ?_
  refine lv_iload_n hx hb dL_shareAnew_4 rfl (lv_at hl 2 rfl) ?_
  refine xt_P (As := [.int p1, .int p2]) (rest := [.int 0, .ref oa]) ⟨hx, hb, hml, hown, hts⟩ (k_X0_shareAnew l dC dI cA a S p1 p2 _ hq hap hfl) gL_shareAnew_X0_shareAnew rfl rfl rfl cd_X0_shareAnew (Nat.le_of_ble_eq_true rfl) (Nat.le_of_ble_eq_true rfl) (preTs hK1 hP hEx1) rfl hl.1 rfl (Nat.le_of_ble_eq_true rfl) (Nat.le_of_ble_eq_true rfl) (Nat.le_of_ble_eq_true rfl) dL_shareAnew_5 hS (fun q h => Or.inl h) (fun hne E ce q9 H locs hE hz hk hS hce hcv hcl => ?_) (fun hne H locs hP hk hS => ?_)
  · rw [if_neg hne] at hf
    have hP := kept_all hP hk
    have hPo := kept_all hPo hk
    by_cases c0 : q.1 = 1
    · rw [if_pos c0] at hf
      have hf := Option.some.inj hf; subst hf
      have hEe : E = "java/lang/IndexOutOfBoundsException" := by rw [hE, c0]; rfl
      subst hEe
      refine vx_catch (own := RL) (name := "java/lang/IndexOutOfBoundsException") hown [] ⟨0, 10, 13, 19⟩ [] (by rw [htb]; rfl) (fun z hz => by cases hz) (by decide) (by decide) (hts (.classLink RL 19 "java/lang/IndexOutOfBoundsException") (by decide +kernel)) (va_Nw.use rfl (hcs 1)) hce hcv hcl ?_
      refine lv_astore (lv' := [(4, .ref q9), (0, .ref (a 0)), (1, .int p1), (2, .int p2), (3, .ref oa)]) hx hb dL_shareAnew_13 hl (by decide) rfl (fun ls hl => ?_)
      refine lv_iconst (v := 1) hx hb dL_shareAnew_15 (by decide) ?_
      exact W.iret hx hb hr (fun t ht hW => ⟨⟨rfl, by rw [ht]; exact hP, by rw [ht]; exact hPo⟩, hS.F ht⟩) hS.2.2 dL_shareAnew_16
    rw [if_neg c0] at hf
    cases hf
  · rw [if_pos hne] at hf
    have hPo := kept_but hPo (A := ad a 10) hk (fun k z hz h => by obtain ⟨i, hi, he⟩ := h; exact ho i hi (by rw [← he]; exact wO_at k z hz))
    refine lv_i2l (v := q.2.1.toInt64) hx hb dL_shareAnew_8 rfl ?_
    refine putO hx hb hK hP hPo hap ho hS dL_shareAnew_9 (fun H locs hP hPo hS => ?_)
    refine lv_goto (tgt := 17) hx hb dL_shareAnew_10 (by decide) ?_
    refine lv_iconst (v := 0) hx hb dL_shareAnew_17 (by decide) ?_
    have hf := Option.some.inj hf; subst hf
    exact W.iret hx hb hr (fun t ht hW => ⟨⟨rfl, by rw [ht]; exact hP, by rw [ht]; exact hPo⟩, hS.F ht⟩) hS.2.2 dL_shareAnew_18

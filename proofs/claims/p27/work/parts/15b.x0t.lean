def f_X0_isLawful (S : St) (p1 : Int32) : Option (Nat × Int32 × St) := (if (nx 1 (f_X0_isFunction S p1)) = 0 then ((f_X0_hasLaw S p1).bind fun v2 => (if v2 &&& 1 = v2 then some (0, v2, S) else none)) else some ((nx 1 (f_X0_isFunction S p1)), 0, S))
def f_X0_rises_20 (S : St) (p1 : Int32) (K10 : Int32 → Option (Nat × Int32 × St)) : Nat → Int32 → Int32 → Option (Nat × Int32 × St)
  | 0, _, _ => none
  | k + 1, x2, x3 => (if (S.1 0) ≤ x3 then (bnd (x2 + 1) fun y2 => (K10 y2)) else (if 0 ≤ (f_X0_gain S p1 x2 x3) then (bnd (x3 + 1) fun y4 => ((f_X0_rises_20 S p1 K10 k) x2 y4)) else some (0, 0, S)))
def f_X0_rises_10 (S : St) (p1 : Int32) : Nat → Int32 → Option (Nat × Int32 × St)
  | 0, _ => none
  | k + 1, x2 => (if (f_X0_sets S ) ≤ x2 then some (0, 1, S) else (f_X0_rises_20 S p1 (f_X0_rises_10 S p1 k) 70 x2 0))
def f_X0_rises (S : St) (p1 : Int32) : Option (Nat × Int32 × St) := (if (nx 1 (f_X0_isFunction S p1)) = 0 then (f_X0_rises_10 S p1 70 0) else some ((nx 1 (f_X0_isFunction S p1)), 0, S))
def f_X0_least (S : St) (p1 : Int32) : Option (Nat × Int32 × St) := (if (nx 1 (f_X0_isFunction S p1)) = 0 then ((f_X0_hasLaw S p1).bind fun v2 => (if (nx 3 v2) = 0 then ((f_X0_leastBetween S 7 p1 0 ((f_X0_sets S ) - 1) 0 0).bind fun v4 => some (0, (f_X0_valueOf S p1 v4), S)) else some ((nx 3 v2), 0, S))) else some ((nx 1 (f_X0_isFunction S p1)), 0, S))
def f_X0_leastSet (S : St) (p1 : Int32) (p2 : Int32) : Option (Nat × Int32 × St) := (if (nx 1 (f_X0_isFunction S p1)) = 0 then ((f_X0_hasLaw S p1).bind fun v2 => (if (nx 3 v2) = 0 then ((f_X0_leastBetween S 7 p1 0 ((f_X0_sets S ) - 1) p2 0).bind fun v4 => some (0, v4, S)) else some ((nx 3 v2), 0, S))) else some ((nx 1 (f_X0_isFunction S p1)), 0, S))
def f_X0_leastSetAnew_62 (S : St) (p1 p2 : Int32) : Nat → Int32 → Int32 → Int32 → Int32 → Option (Nat × Int32 × St)
  | 0, _, _, _, _ => none
  | k + 1, x3, x4, x5, x6 => (if (f_X0_sets S ) ≤ x6 then (if p2 = 0 then some (0, x4, S) else some (0, x5, S)) else (if (f_X0_valueOf S p1 x6) = x3 then (bnd (x4 &&& x6) fun y5 => (bnd (x5 ||| x6) fun y6 => (bnd (x6 + 1) fun y7 => ((f_X0_leastSetAnew_62 S p1 p2 k) x3 y5 y6 y7)))) else (bnd (x6 + 1) fun y4 => ((f_X0_leastSetAnew_62 S p1 p2 k) x3 x4 x5 y4))))
def f_X0_leastSetAnew_21 (S : St) (p1 p2 : Int32) : Nat → Int32 → Int32 → Option (Nat × Int32 × St)
  | 0, _, _ => none
  | k + 1, x3, x4 => (if (f_X0_sets S ) ≤ x4 then (bnd ((f_X0_sets S ) - 1) fun y2 => (f_X0_leastSetAnew_62 S p1 p2 70 x3 y2 0 0)) else (bnd (if (f_X0_valueOf S p1 x4) < x3 then (f_X0_valueOf S p1 x4) else x3) fun y3 => (bnd (x4 + 1) fun y4 => ((f_X0_leastSetAnew_21 S p1 p2 k) y3 y4))))
def f_X0_leastSetAnew (S : St) (p1 : Int32) (p2 : Int32) : Option (Nat × Int32 × St) := (if (nx 1 (f_X0_isFunction S p1)) = 0 then ((f_X0_hasLaw S p1).bind fun v2 => (if (nx 3 v2) = 0 then (f_X0_leastSetAnew_21 S p1 p2 70 0 0) else some ((nx 3 v2), 0, S))) else some ((nx 1 (f_X0_isFunction S p1)), 0, S))
def f_X0_order_54 (p1 : Int32) (S : St) : Option (Nat × Int32 × St) := some (0, ((sS (sA S 6 (putv 6 (S.2 6) (S.1 2) p1)) 2 (((sA S 6 (putv 6 (S.2 6) (S.1 2) p1)).1 2) + 1)).1 2), (sS (sA S 6 (putv 6 (S.2 6) (S.1 2) p1)) 2 (((sA S 6 (putv 6 (S.2 6) (S.1 2) p1)).1 2) + 1)))
def f_X0_order_42 (S : St) (p1 : Int32) (x2 : Int32) (s0 : Int32) : Option (Nat × Int32 × St) := (if (nx 3 s0) = 0 then (if x2 = 0 then (f_X0_order_54 p1 S) else (f_X0_order_54 p1 (sS S 2 0))) else some ((nx 3 s0), 0, S))
def f_X0_order_24 (S : St) (p1 : Int32) (s0 : Int32) : Option (Nat × Int32 × St) := (if s0 = 0 then ((f_X0_isTold S p1).bind fun v2 => (if v2 = 0 then (f_X0_order_42 S p1 s0 1) else (f_X0_order_42 S p1 s0 0))) else (f_X0_order_42 S p1 s0 1))
def f_X0_order (S : St) (p1 : Int32) : Option (Nat × Int32 × St) := (if (nx 1 (f_X0_isElement S p1)) = 0 then (if (S.1 2) < (S.1 0) then (f_X0_order_24 S p1 0) else (f_X0_order_24 S p1 1)) else some ((nx 1 (f_X0_isElement S p1)), 0, S))
def f_X0_corner_21 (S : St) (p1 p2 : Int32) (s0 : Int32) : Option (Nat × Int32 × St) := (if (nx 1 s0) = 0 then ((f_X0_isTold S p2).bind fun v2 => (if (nx 3 v2) = 0 then ((f_X0_aheadOf S p2).bind fun v4 => some (0, (f_X0_gain S p1 v4 p2), S)) else some ((nx 3 v2), 0, S))) else some ((nx 1 s0), 0, S))
def f_X0_corner (S : St) (p1 : Int32) (p2 : Int32) : Option (Nat × Int32 × St) := (if (f_X0_isFunction S p1) = 0 then (f_X0_corner_21 S p1 p2 0) else (if (f_X0_isElement S p2) = 0 then (f_X0_corner_21 S p1 p2 0) else (f_X0_corner_21 S p1 p2 1)))
def f_X0_greedy_23 (S : St) (p1 p2 : Int32) : Nat → Int32 → Int32 → Option (Nat × Int32 × St)
  | 0, _, _ => none
  | k + 1, x3, x4 => (if p2 ≤ x4 then some (0, x3, S) else ((f_X0_greediest S p1 x3).bind fun v2 => (if v2 = (-1) then some (0, x3, S) else (bnd (f_X0_with x3 v2) fun y4 => (bnd (x4 + 1) fun y5 => ((f_X0_greedy_23 S p1 p2 k) y4 y5))))))
def f_X0_greedy (S : St) (p1 : Int32) (p2 : Int32) : Option (Nat × Int32 × St) := (if (nx 1 (f_X0_isFunction S p1)) = 0 then (if (nx 2 (f_X0_isWithin p2 0 6)) = 0 then (f_X0_greedy_23 S p1 p2 70 0 0) else some ((nx 2 (f_X0_isWithin p2 0 6)), 0, S)) else some ((nx 1 (f_X0_isFunction S p1)), 0, S))
def f_X0_best_23 (S : St) (p1 p2 : Int32) : Nat → Int32 → Int32 → Option (Nat × Int32 × St)
  | 0, _, _ => none
  | k + 1, x3, x4 => (if (f_X0_sets S ) ≤ x4 then some (0, x3, S) else (if p2 < (f_J6_bitCount_0f7a4 x4) then (bnd (x4 + 1) fun y3 => ((f_X0_best_23 S p1 p2 k) x3 y3)) else (bnd (if x3 < (f_X0_valueOf S p1 x4) then (f_X0_valueOf S p1 x4) else x3) fun y4 => (bnd (x4 + 1) fun y5 => ((f_X0_best_23 S p1 p2 k) y4 y5)))))
def f_X0_best (S : St) (p1 : Int32) (p2 : Int32) : Option (Nat × Int32 × St) := (if (nx 1 (f_X0_isFunction S p1)) = 0 then (if (nx 2 (f_X0_isWithin p2 0 6)) = 0 then (f_X0_best_23 S p1 p2 70 0 0) else some ((nx 2 (f_X0_isWithin p2 0 6)), 0, S)) else some ((nx 1 (f_X0_isFunction S p1)), 0, S))
def f_X0_share_29 (S : St) (p1 p2 : Int32) : Nat → Int32 → Int32 → Option (Nat × Int32 × St)
  | 0, _, _ => none
  | k + 1, x3, x4 => (if (f_X0_sets S ) ≤ x4 then some (0, x3, S) else (if (f_X0_has x4 p2) = 0 then (bnd (f_J6_bitCount_0f7a4 x4) fun y4 => ((f_X0_ordersOf y4).bind fun v5 => ((f_X0_ordersOf (((S.1 0) - 1) - y4)).bind fun v6 => (bnd (v5 * v6) fun y7 => (bnd (x3 + (y7 * (f_X0_gain S p1 x4 p2))) fun y8 => (bnd (x4 + 1) fun y9 => ((f_X0_share_29 S p1 p2 k) y8 y9))))))) else (bnd (x4 + 1) fun y3 => ((f_X0_share_29 S p1 p2 k) x3 y3))))
def f_X0_share_21 (S : St) (p1 p2 : Int32) (s0 : Int32) : Option (Nat × Int32 × St) := (if (nx 1 s0) = 0 then (f_X0_share_29 S p1 p2 70 0 0) else some ((nx 1 s0), 0, S))
def f_X0_share (S : St) (p1 : Int32) (p2 : Int32) : Option (Nat × Int32 × St) := (if (f_X0_isFunction S p1) = 0 then (f_X0_share_21 S p1 p2 0) else (if (f_X0_isElement S p2) = 0 then (f_X0_share_21 S p1 p2 0) else (f_X0_share_21 S p1 p2 1)))
def f_X0_shareAnew_21 (S : St) (p1 p2 : Int32) (s0 : Int32) : Option (Nat × Int32 × St) := (if (nx 1 s0) = 0 then ((f_X0_gainsOverOrders S 7 p1 p2 0 0 0).bind fun v2 => some (0, v2, S)) else some ((nx 1 s0), 0, S))
def f_X0_shareAnew (S : St) (p1 : Int32) (p2 : Int32) : Option (Nat × Int32 × St) := (if (f_X0_isFunction S p1) = 0 then (f_X0_shareAnew_21 S p1 p2 0) else (if (f_X0_isElement S p2) = 0 then (f_X0_shareAnew_21 S p1 p2 0) else (f_X0_shareAnew_21 S p1 p2 1)))
theorem cd_X0_isLawful : yX0_isLawful.cls = RX0 ∧ yX0_isLawful.cls ≠ "java/lang/invoke/MethodHandle" ∧ yX0_isLawful.cls ≠ "java/lang/invoke/VarHandle" ∧ (parseMethodDescriptor yX0_isLawful.desc).map (fun d => d.parameters.length) = some 1 := by decide +kernel
set_option maxHeartbeats 4000000 in
set_option maxRecDepth 100000 in
theorem k_X0_isLawful (l : Launch) (dC : Nat → ClassId) (dI : Nat → Nat → Nat) (cA : ClassId) (a : Nat → Nat) (S : St) (p1 : Int32) (r : Nat × Int32 × St) (hf : f_X0_isLawful S p1 = some r) (hap : apart a 10) (hfl : l.stackTraces = false) : vx_Met l yX0_isLawful wsX0_isLawful ({ frames := 7, cells := 1, slots := 6, locals := 113 }) (va_Pc [.ref (a 0), .int p1] (PTs (dC, dI) cA a S)) (tQi (dC, dI) cA a r) (tX r.1) 1 6 (ad a 10) := by
  refine vx_ofW (cc := cX0_isLawful) (maxL := 2) (ret := (some .boolean)) (by decide) rfl ?_
  intro p e s m args below meth c s₁ B hml htab hv
  obtain ⟨rfl, hP, hK, hEx⟩ := hv
  have hx := B.exec
  have hb := B.bytes
  have hr := B.returns
  have hts := atoms_spec (ws := wsX0_isLawful) B.pre
  have hown : s.vm.findClass RX0 = some m.cls := findClass_of_methodNamed B.named
  have hlocks := B.notSynchronized
  have hS : va_S (ad a 10) s.heap s.heap [] := va_S.rf
  have hl := lv_entry ([.ref (a 0), .int p1]) (n := 2) (Nat.le_of_ble_eq_true rfl)
  rw [lg_entry_eq]
  generalize (lg_sl ([.ref (a 0), .int p1]) ++ List.replicate (2 - (lg_sl ([.ref (a 0), .int p1])).length) Slot.unset).toArray = ls at hl ⊢
  have hl : lv_has ls 2 [(0, .ref (a 0)), (1, .int p1)] := hl
  unfold f_X0_isLawful at hf
  refine lv_aload_n hx hb dX0_isLawful_0 rfl (lv_at hl 0 rfl) ?_
  refine lv_iload_n hx hb dX0_isLawful_1 rfl (lv_at hl 1 rfl) ?_
  refine pu_V (As := [.int p1]) (rest := []) ⟨hx, hb, hml, hown, hts⟩ (k_X0_isFunction l dC dI cA a S p1 _ rfl) gX0_isLawful_X0_isFunction rfl rfl rfl cd_X0_isFunction (Nat.le_of_ble_eq_true rfl) (Nat.le_of_ble_eq_true rfl) (preX hK hP) rfl hl.1 rfl (Nat.le_of_ble_eq_true rfl) (Nat.le_of_ble_eq_true rfl) (Nat.le_of_ble_eq_true rfl) dX0_isLawful_2 ?_
  refine xt_S (As := [.int (f_X0_isFunction S p1)]) (rest := []) ⟨hx, hb, hml, hown, hts⟩ (k_X0_needIndex l hfl (f_X0_isFunction S p1)) gX0_isLawful_X0_needIndex rfl rfl rfl cd_X0_needIndex (Nat.le_of_ble_eq_true rfl) (Nat.le_of_ble_eq_true rfl) (preE hEx) rfl hl.1 rfl (Nat.le_of_ble_eq_true rfl) (Nat.le_of_ble_eq_true rfl) (Nat.le_of_ble_eq_true rfl) dX0_isLawful_5 (fun c1 E ce q9 H1 hE hz hk hce hcv hcl => ?_) (fun c1 => ?_)
  · rw [if_neg c1] at hf
    have hf := Option.some.inj hf; subst hf
    exact xt_out htab hlocks c1 hE hz hk hce hcv hcl (Nat.le_of_ble_eq_true rfl) (Nat.le_of_ble_eq_true rfl)
  rw [if_pos c1] at hf
  refine lv_aload_n hx hb dX0_isLawful_8 rfl (lv_at hl 0 rfl) ?_
  refine lv_iload_n hx hb dX0_isLawful_9 rfl (lv_at hl 1 rfl) ?_
  obtain ⟨v2, hv2, hf⟩ := ob_some hf
  refine pu_V (As := [.int p1]) (rest := []) ⟨hx, hb, hml, hown, hts⟩ (k_X0_hasLaw l dC dI cA a S p1 _ hv2) gX0_isLawful_X0_hasLaw rfl rfl rfl cd_X0_hasLaw (Nat.le_of_ble_eq_true rfl) (Nat.le_of_ble_eq_true rfl) (preX hK hP) rfl hl.1 rfl (Nat.le_of_ble_eq_true rfl) (Nat.le_of_ble_eq_true rfl) (Nat.le_of_ble_eq_true rfl) dX0_isLawful_10 ?_
  by_cases c3 : v2 &&& 1 = v2
  · rw [if_pos c3] at hf
    have hf := Option.some.inj hf; subst hf
    refine vx_ret ?_
    refine W.widen (k := 1) (n := 6) (Nat.le_of_ble_eq_true rfl) (Nat.le_of_ble_eq_true rfl) ?_
    exact W.zret hx hb hr (by show Value.int (v2 &&& 1) = _; rw [c3]) (fun t ht hW => ⟨⟨rfl, rfl, by rw [ht]; exact hP⟩, hS.F ht⟩) hS.2.2 dX0_isLawful_13
  · rw [if_neg c3] at hf; cases hf
theorem cd_X0_rises : yX0_rises.cls = RX0 ∧ yX0_rises.cls ≠ "java/lang/invoke/MethodHandle" ∧ yX0_rises.cls ≠ "java/lang/invoke/VarHandle" ∧ (parseMethodDescriptor yX0_rises.desc).map (fun d => d.parameters.length) = some 1 := by decide +kernel
set_option maxHeartbeats 4000000 in
set_option maxRecDepth 100000 in
theorem k_X0_rises (l : Launch) (dC : Nat → ClassId) (dI : Nat → Nat → Nat) (cA : ClassId) (a : Nat → Nat) (S : St) (p1 : Int32) (r : Nat × Int32 × St) (hf : f_X0_rises S p1 = some r) (hap : apart a 10) (hfl : l.stackTraces = false) : vx_Met l yX0_rises wsX0_rises ({ frames := 7, cells := 1, slots := 6, locals := 110 }) (va_Pc [.ref (a 0), .int p1] (PTs (dC, dI) cA a S)) (tQi (dC, dI) cA a r) (tX r.1) 1 6 (ad a 10) := by
  refine vx_ofW (cc := cX0_rises) (maxL := 4) (ret := (some .boolean)) (by decide) rfl ?_
  intro p e s m args below meth c s₁ B hml htab hv
  obtain ⟨rfl, hP, hK, hEx⟩ := hv
  have hx := B.exec
  have hb := B.bytes
  have hr := B.returns
  have hts := atoms_spec (ws := wsX0_rises) B.pre
  have hown : s.vm.findClass RX0 = some m.cls := findClass_of_methodNamed B.named
  have hlocks := B.notSynchronized
  have hin : ∀ w ∈ u_ws RX0 TX0 12, w ∈ wsX0_rises := by decide +kernel
  have hw0 := hts (.fieldLink RX0 9 "Submodulary" "elements" "I") (by decide +kernel)
  have hS : va_S (ad a 10) s.heap s.heap [] := va_S.rf
  have hl := lv_entry ([.ref (a 0), .int p1]) (n := 4) (Nat.le_of_ble_eq_true rfl)
  rw [lg_entry_eq]
  generalize (lg_sl ([.ref (a 0), .int p1]) ++ List.replicate (4 - (lg_sl ([.ref (a 0), .int p1])).length) Slot.unset).toArray = ls at hl ⊢
  have hl : lv_has ls 4 [(0, .ref (a 0)), (1, .int p1)] := hl
  have hW10 : ∀ (k10 : Nat) (x2 : Int32) (ls : Array Slot), f_X0_rises_10 S p1 k10 x2 = some r → lv_has ls 4 [(0, .ref (a 0)), (1, .int p1), (2, .int x2)] → W p l e (headSpec wsX0_rises ({ frames := 7, cells := 1, slots := 6, locals := 110 })).room s m ([.ref (a 0), .int p1] : List Value).toArray below meth c s.heap [] 1 6 (vx_MQ below (tQi (dC, dI) cA a r) (tX r.1) ([.ref (a 0), .int p1] : List Value).toArray s 1 6 (ad a 10)) (F0 m 10 ls []) := by
    intro k10
    induction k10 with
    | zero =>
      intro x2 ls hf hl
      rw [f_X0_rises_10] at hf
      cases hf
    | succ k10 ih10 =>
      have hW20 : ∀ (k20 : Nat) (x2 x3 : Int32) (ls : Array Slot), f_X0_rises_20 S p1 (f_X0_rises_10 S p1 k10) k20 x2 x3 = some r → lv_has ls 4 [(0, .ref (a 0)), (1, .int p1), (2, .int x2), (3, .int x3)] → W p l e (headSpec wsX0_rises ({ frames := 7, cells := 1, slots := 6, locals := 110 })).room s m ([.ref (a 0), .int p1] : List Value).toArray below meth c s.heap [] 1 6 (vx_MQ below (tQi (dC, dI) cA a r) (tX r.1) ([.ref (a 0), .int p1] : List Value).toArray s 1 6 (ad a 10)) (F0 m 20 ls []) := by
        intro k20
        induction k20 with
        | zero =>
          intro x2 x3 ls hf hl
          rw [f_X0_rises_20] at hf
          cases hf
        | succ k20 ih20 =>
          intro x2 x3 ls hf hl
          rw [f_X0_rises_20] at hf
          refine lv_iload_n hx hb dX0_rises_20 rfl (lv_at hl 3 rfl) ?_
          refine lv_aload_n hx hb dX0_rises_21 rfl (lv_at hl 0 rfl) ?_
          refine gfX hx hb hts hin hown hK hP 0 (by decide) hw0 rfl rfl dX0_rises_22 ?_
          refine lv_icmp_ge (tgt := 46) hx hb dX0_rises_25 (by decide) (fun c1 => ?_) (fun c1 => ?_)
          · rw [if_pos c1] at hf
            obtain ⟨y2, ey2⟩ : ∃ y : Int32, y = (x2 + 1) := ⟨_, rfl⟩
            have hf := bnd_at hf ey2
            refine lv_iinc (v := y2) (lv' := [(2, .int y2), (0, .ref (a 0)), (1, .int p1), (3, .int x3)]) hx hb dX0_rises_46 hl (k := 2) rfl (by rw [ey2]; rfl) (by decide) rfl (fun ls hl => ?_)
            refine lv_goto (tgt := 10) hx hb dX0_rises_49 (by decide) ?_
            exact ih10 y2 ls hf (lv_sub hl [1, 2, 0] rfl)
          · rw [if_neg c1] at hf
            refine lv_aload_n hx hb dX0_rises_28 rfl (lv_at hl 0 rfl) ?_
            refine lv_iload_n hx hb dX0_rises_29 rfl (lv_at hl 1 rfl) ?_
            refine lv_iload_n hx hb dX0_rises_30 rfl (lv_at hl 2 rfl) ?_
            refine lv_iload_n hx hb dX0_rises_31 rfl (lv_at hl 3 rfl) ?_
            refine pu_V (As := [.int p1, .int x2, .int x3]) (rest := []) ⟨hx, hb, hml, hown, hts⟩ (k_X0_gain l dC dI cA a S p1 x2 x3 _ rfl) gX0_rises_X0_gain rfl rfl rfl cd_X0_gain (Nat.le_of_ble_eq_true rfl) (Nat.le_of_ble_eq_true rfl) (preX hK hP) rfl hl.1 rfl (Nat.le_of_ble_eq_true rfl) (Nat.le_of_ble_eq_true rfl) (Nat.le_of_ble_eq_true rfl) dX0_rises_32 ?_
            refine lv_if_ge (tgt := 40) hx hb dX0_rises_35 (by decide) (fun c3 => ?_) (fun c3 => ?_)
            · rw [if_pos c3] at hf
              obtain ⟨y4, ey4⟩ : ∃ y : Int32, y = (x3 + 1) := ⟨_, rfl⟩
              have hf := bnd_at hf ey4
              refine lv_iinc (v := y4) (lv' := [(3, .int y4), (0, .ref (a 0)), (1, .int p1), (2, .int x2)]) hx hb dX0_rises_40 hl (k := 3) rfl (by rw [ey4]; rfl) (by decide) rfl (fun ls hl => ?_)
              refine lv_goto (tgt := 20) hx hb dX0_rises_43 (by decide) ?_
              exact ih20 x2 y4 ls hf (lv_sub hl [1, 2, 3, 0] rfl)
            · rw [if_neg c3] at hf
              refine lv_iconst (v := 0) hx hb dX0_rises_38 (by decide) ?_
              have hf := Option.some.inj hf; subst hf
              refine vx_ret ?_
              refine W.widen (k := 1) (n := 6) (Nat.le_of_ble_eq_true rfl) (Nat.le_of_ble_eq_true rfl) ?_
              exact W.zret hx hb hr rfl (fun t ht hW => ⟨⟨rfl, rfl, by rw [ht]; exact hP⟩, hS.F ht⟩) hS.2.2 dX0_rises_39
      intro x2 ls hf hl
      rw [f_X0_rises_10] at hf
      refine lv_iload_n hx hb dX0_rises_10 rfl (lv_at hl 2 rfl) ?_
      refine lv_aload_n hx hb dX0_rises_11 rfl (lv_at hl 0 rfl) ?_
      refine pu_V (As := []) (rest := [.int x2]) ⟨hx, hb, hml, hown, hts⟩ (k_X0_sets l dC dI cA a S  _ rfl) gX0_rises_X0_sets rfl rfl rfl cd_X0_sets (Nat.le_of_ble_eq_true rfl) (Nat.le_of_ble_eq_true rfl) (preX hK hP) rfl hl.1 rfl (Nat.le_of_ble_eq_true rfl) (Nat.le_of_ble_eq_true rfl) (Nat.le_of_ble_eq_true rfl) dX0_rises_12 ?_
      refine lv_icmp_ge (tgt := 52) hx hb dX0_rises_15 (by decide) (fun c5 => ?_) (fun c5 => ?_)
      · rw [if_pos c5] at hf
        refine lv_iconst (v := 1) hx hb dX0_rises_52 (by decide) ?_
        have hf := Option.some.inj hf; subst hf
        refine vx_ret ?_
        refine W.widen (k := 1) (n := 6) (Nat.le_of_ble_eq_true rfl) (Nat.le_of_ble_eq_true rfl) ?_
        exact W.zret hx hb hr rfl (fun t ht hW => ⟨⟨rfl, rfl, by rw [ht]; exact hP⟩, hS.F ht⟩) hS.2.2 dX0_rises_53
      · rw [if_neg c5] at hf
        refine lv_iconst (v := 0) hx hb dX0_rises_18 (by decide) ?_
        refine lv_istore_n (lv' := [(3, .int 0), (0, .ref (a 0)), (1, .int p1), (2, .int x2)]) hx hb dX0_rises_19 rfl hl (by decide) rfl (fun ls hl => ?_)
        exact hW20 70 x2 0 ls hf (lv_sub hl [1, 2, 3, 0] rfl)
  unfold f_X0_rises at hf
  refine lv_aload_n hx hb dX0_rises_0 rfl (lv_at hl 0 rfl) ?_
  refine lv_iload_n hx hb dX0_rises_1 rfl (lv_at hl 1 rfl) ?_
  refine pu_V (As := [.int p1]) (rest := []) ⟨hx, hb, hml, hown, hts⟩ (k_X0_isFunction l dC dI cA a S p1 _ rfl) gX0_rises_X0_isFunction rfl rfl rfl cd_X0_isFunction (Nat.le_of_ble_eq_true rfl) (Nat.le_of_ble_eq_true rfl) (preX hK hP) rfl hl.1 rfl (Nat.le_of_ble_eq_true rfl) (Nat.le_of_ble_eq_true rfl) (Nat.le_of_ble_eq_true rfl) dX0_rises_2 ?_
  refine xt_S (As := [.int (f_X0_isFunction S p1)]) (rest := []) ⟨hx, hb, hml, hown, hts⟩ (k_X0_needIndex l hfl (f_X0_isFunction S p1)) gX0_rises_X0_needIndex rfl rfl rfl cd_X0_needIndex (Nat.le_of_ble_eq_true rfl) (Nat.le_of_ble_eq_true rfl) (preE hEx) rfl hl.1 rfl (Nat.le_of_ble_eq_true rfl) (Nat.le_of_ble_eq_true rfl) (Nat.le_of_ble_eq_true rfl) dX0_rises_5 (fun c6 E ce q9 H1 hE hz hk hce hcv hcl => ?_) (fun c6 => ?_)
  · rw [if_neg c6] at hf
    have hf := Option.some.inj hf; subst hf
    exact xt_out htab hlocks c6 hE hz hk hce hcv hcl (Nat.le_of_ble_eq_true rfl) (Nat.le_of_ble_eq_true rfl)
  rw [if_pos c6] at hf
  refine lv_iconst (v := 0) hx hb dX0_rises_8 (by decide) ?_
  refine lv_istore_n (lv' := [(2, .int 0), (0, .ref (a 0)), (1, .int p1)]) hx hb dX0_rises_9 rfl hl (by decide) rfl (fun ls hl => ?_)
  exact hW10 70 0 ls hf (lv_sub hl [1, 2, 0] rfl)
theorem cd_X0_least : yX0_least.cls = RX0 ∧ yX0_least.cls ≠ "java/lang/invoke/MethodHandle" ∧ yX0_least.cls ≠ "java/lang/invoke/VarHandle" ∧ (parseMethodDescriptor yX0_least.desc).map (fun d => d.parameters.length) = some 1 := by decide +kernel
set_option maxHeartbeats 4000000 in
set_option maxRecDepth 100000 in
theorem k_X0_least (l : Launch) (dC : Nat → ClassId) (dI : Nat → Nat → Nat) (cA : ClassId) (a : Nat → Nat) (S : St) (p1 : Int32) (r : Nat × Int32 × St) (hf : f_X0_least S p1 = some r) (hap : apart a 10) (hfl : l.stackTraces = false) : vx_Met l yX0_least wsX0_least ({ frames := 12, cells := 2, slots := 12, locals := 341 }) (va_Pc [.ref (a 0), .int p1] (PTs (dC, dI) cA a S)) (tQi (dC, dI) cA a r) (tX r.1) 2 12 (ad a 10) := by
  refine vx_ofW (cc := cX0_least) (maxL := 2) (ret := (some .int)) (by decide) rfl ?_
  intro p e s m args below meth c s₁ B hml htab hv
  obtain ⟨rfl, hP, hK, hEx⟩ := hv
  have hx := B.exec
  have hb := B.bytes
  have hr := B.returns
  have hts := atoms_spec (ws := wsX0_least) B.pre
  have hown : s.vm.findClass RX0 = some m.cls := findClass_of_methodNamed B.named
  have hlocks := B.notSynchronized
  have hS : va_S (ad a 10) s.heap s.heap [] := va_S.rf
  have hl := lv_entry ([.ref (a 0), .int p1]) (n := 2) (Nat.le_of_ble_eq_true rfl)
  rw [lg_entry_eq]
  generalize (lg_sl ([.ref (a 0), .int p1]) ++ List.replicate (2 - (lg_sl ([.ref (a 0), .int p1])).length) Slot.unset).toArray = ls at hl ⊢
  have hl : lv_has ls 2 [(0, .ref (a 0)), (1, .int p1)] := hl
  unfold f_X0_least at hf
  refine lv_aload_n hx hb dX0_least_0 rfl (lv_at hl 0 rfl) ?_
  refine lv_iload_n hx hb dX0_least_1 rfl (lv_at hl 1 rfl) ?_
  refine pu_V (As := [.int p1]) (rest := []) ⟨hx, hb, hml, hown, hts⟩ (k_X0_isFunction l dC dI cA a S p1 _ rfl) gX0_least_X0_isFunction rfl rfl rfl cd_X0_isFunction (Nat.le_of_ble_eq_true rfl) (Nat.le_of_ble_eq_true rfl) (preX hK hP) rfl hl.1 rfl (Nat.le_of_ble_eq_true rfl) (Nat.le_of_ble_eq_true rfl) (Nat.le_of_ble_eq_true rfl) dX0_least_2 ?_
  refine xt_S (As := [.int (f_X0_isFunction S p1)]) (rest := []) ⟨hx, hb, hml, hown, hts⟩ (k_X0_needIndex l hfl (f_X0_isFunction S p1)) gX0_least_X0_needIndex rfl rfl rfl cd_X0_needIndex (Nat.le_of_ble_eq_true rfl) (Nat.le_of_ble_eq_true rfl) (preE hEx) rfl hl.1 rfl (Nat.le_of_ble_eq_true rfl) (Nat.le_of_ble_eq_true rfl) (Nat.le_of_ble_eq_true rfl) dX0_least_5 (fun c1 E ce q9 H1 hE hz hk hce hcv hcl => ?_) (fun c1 => ?_)
  · rw [if_neg c1] at hf
    have hf := Option.some.inj hf; subst hf
    exact xt_out htab hlocks c1 hE hz hk hce hcv hcl (Nat.le_of_ble_eq_true rfl) (Nat.le_of_ble_eq_true rfl)
  rw [if_pos c1] at hf
  refine lv_aload_n hx hb dX0_least_8 rfl (lv_at hl 0 rfl) ?_
  refine lv_iload_n hx hb dX0_least_9 rfl (lv_at hl 1 rfl) ?_
  obtain ⟨v2, hv2, hf⟩ := ob_some hf
  refine pu_V (As := [.int p1]) (rest := []) ⟨hx, hb, hml, hown, hts⟩ (k_X0_hasLaw l dC dI cA a S p1 _ hv2) gX0_least_X0_hasLaw rfl rfl rfl cd_X0_hasLaw (Nat.le_of_ble_eq_true rfl) (Nat.le_of_ble_eq_true rfl) (preX hK hP) rfl hl.1 rfl (Nat.le_of_ble_eq_true rfl) (Nat.le_of_ble_eq_true rfl) (Nat.le_of_ble_eq_true rfl) dX0_least_10 ?_
  refine xt_S (As := [.int v2]) (rest := []) ⟨hx, hb, hml, hown, hts⟩ (k_X0_needState l hfl v2) gX0_least_X0_needState rfl rfl rfl cd_X0_needState (Nat.le_of_ble_eq_true rfl) (Nat.le_of_ble_eq_true rfl) (preE hEx) rfl hl.1 rfl (Nat.le_of_ble_eq_true rfl) (Nat.le_of_ble_eq_true rfl) (Nat.le_of_ble_eq_true rfl) dX0_least_13 (fun c3 E ce q9 H1 hE hz hk hce hcv hcl => ?_) (fun c3 => ?_)
  · rw [if_neg c3] at hf
    have hf := Option.some.inj hf; subst hf
    exact xt_out htab hlocks c3 hE hz hk hce hcv hcl (Nat.le_of_ble_eq_true rfl) (Nat.le_of_ble_eq_true rfl)
  rw [if_pos c3] at hf
  refine lv_aload_n hx hb dX0_least_16 rfl (lv_at hl 0 rfl) ?_
  refine lv_iload_n hx hb dX0_least_17 rfl (lv_at hl 1 rfl) ?_
  refine lv_aload_n hx hb dX0_least_18 rfl (lv_at hl 0 rfl) ?_
  refine lv_iload_n hx hb dX0_least_19 rfl (lv_at hl 1 rfl) ?_
  refine lv_iconst (v := 0) hx hb dX0_least_20 (by decide) ?_
  refine lv_aload_n hx hb dX0_least_21 rfl (lv_at hl 0 rfl) ?_
  refine pu_V (As := []) (rest := [.int 0, .int p1, .ref (a 0), .int p1, .ref (a 0)]) ⟨hx, hb, hml, hown, hts⟩ (k_X0_sets l dC dI cA a S  _ rfl) gX0_least_X0_sets rfl rfl rfl cd_X0_sets (Nat.le_of_ble_eq_true rfl) (Nat.le_of_ble_eq_true rfl) (preX hK hP) rfl hl.1 rfl (Nat.le_of_ble_eq_true rfl) (Nat.le_of_ble_eq_true rfl) (Nat.le_of_ble_eq_true rfl) dX0_least_22 ?_
  refine lv_iconst (v := 1) hx hb dX0_least_25 (by decide) ?_
  refine lv_isub hx hb dX0_least_26 ?_
  refine lv_iconst (v := 0) hx hb dX0_least_27 (by decide) ?_
  refine lv_iconst (v := 0) hx hb dX0_least_28 (by decide) ?_
  obtain ⟨v4, hv4, hf⟩ := ob_some hf
  refine pu_V (As := [.int p1, .int 0, .int ((f_X0_sets S ) - 1), .int 0, .int 0]) (rest := [.int p1, .ref (a 0)]) ⟨hx, hb, hml, hown, hts⟩ (k_X0_leastBetween l dC dI cA a S 7 p1 0 ((f_X0_sets S ) - 1) 0 0 _ hv4) gX0_least_X0_leastBetween rfl rfl rfl cd_X0_leastBetween (Nat.le_of_ble_eq_true rfl) (Nat.le_of_ble_eq_true rfl) (preX hK hP) rfl hl.1 rfl (Nat.le_of_ble_eq_true rfl) (Nat.le_of_ble_eq_true rfl) (Nat.le_of_ble_eq_true rfl) dX0_least_29 ?_
  refine pu_V (As := [.int p1, .int v4]) (rest := []) ⟨hx, hb, hml, hown, hts⟩ (k_X0_valueOf l dC dI cA a S p1 v4 _ rfl) gX0_least_X0_valueOf rfl rfl rfl cd_X0_valueOf (Nat.le_of_ble_eq_true rfl) (Nat.le_of_ble_eq_true rfl) (preX hK hP) rfl hl.1 rfl (Nat.le_of_ble_eq_true rfl) (Nat.le_of_ble_eq_true rfl) (Nat.le_of_ble_eq_true rfl) dX0_least_32 ?_
  have hf := Option.some.inj hf; subst hf
  refine vx_ret ?_
  refine W.widen (k := 2) (n := 12) (Nat.le_of_ble_eq_true rfl) (Nat.le_of_ble_eq_true rfl) ?_
  exact W.iret hx hb hr (fun t ht hW => ⟨⟨rfl, rfl, by rw [ht]; exact hP⟩, hS.F ht⟩) hS.2.2 dX0_least_35
theorem cd_X0_leastSet : yX0_leastSet.cls = RX0 ∧ yX0_leastSet.cls ≠ "java/lang/invoke/MethodHandle" ∧ yX0_leastSet.cls ≠ "java/lang/invoke/VarHandle" ∧ (parseMethodDescriptor yX0_leastSet.desc).map (fun d => d.parameters.length) = some 2 := by decide +kernel
set_option maxHeartbeats 4000000 in
set_option maxRecDepth 100000 in
theorem k_X0_leastSet (l : Launch) (dC : Nat → ClassId) (dI : Nat → Nat → Nat) (cA : ClassId) (a : Nat → Nat) (S : St) (p1 : Int32) (p2 : Int32) (r : Nat × Int32 × St) (hf : f_X0_leastSet S p1 p2 = some r) (hap : apart a 10) (hfl : l.stackTraces = false) : vx_Met l yX0_leastSet wsX0_leastSet ({ frames := 12, cells := 2, slots := 12, locals := 341 }) (va_Pc [.ref (a 0), .int p1, .int p2] (PTs (dC, dI) cA a S)) (tQi (dC, dI) cA a r) (tX r.1) 2 12 (ad a 10) := by
  refine vx_ofW (cc := cX0_leastSet) (maxL := 3) (ret := (some .int)) (by decide) rfl ?_
  intro p e s m args below meth c s₁ B hml htab hv
  obtain ⟨rfl, hP, hK, hEx⟩ := hv
  have hx := B.exec
  have hb := B.bytes
  have hr := B.returns
  have hts := atoms_spec (ws := wsX0_leastSet) B.pre
  have hown : s.vm.findClass RX0 = some m.cls := findClass_of_methodNamed B.named
  have hlocks := B.notSynchronized
  have hS : va_S (ad a 10) s.heap s.heap [] := va_S.rf
  have hl := lv_entry ([.ref (a 0), .int p1, .int p2]) (n := 3) (Nat.le_of_ble_eq_true rfl)
  rw [lg_entry_eq]
  generalize (lg_sl ([.ref (a 0), .int p1, .int p2]) ++ List.replicate (3 - (lg_sl ([.ref (a 0), .int p1, .int p2])).length) Slot.unset).toArray = ls at hl ⊢
  have hl : lv_has ls 3 [(0, .ref (a 0)), (1, .int p1), (2, .int p2)] := hl
  unfold f_X0_leastSet at hf
  refine lv_aload_n hx hb dX0_leastSet_0 rfl (lv_at hl 0 rfl) ?_
  refine lv_iload_n hx hb dX0_leastSet_1 rfl (lv_at hl 1 rfl) ?_
  refine pu_V (As := [.int p1]) (rest := []) ⟨hx, hb, hml, hown, hts⟩ (k_X0_isFunction l dC dI cA a S p1 _ rfl) gX0_leastSet_X0_isFunction rfl rfl rfl cd_X0_isFunction (Nat.le_of_ble_eq_true rfl) (Nat.le_of_ble_eq_true rfl) (preX hK hP) rfl hl.1 rfl (Nat.le_of_ble_eq_true rfl) (Nat.le_of_ble_eq_true rfl) (Nat.le_of_ble_eq_true rfl) dX0_leastSet_2 ?_
  refine xt_S (As := [.int (f_X0_isFunction S p1)]) (rest := []) ⟨hx, hb, hml, hown, hts⟩ (k_X0_needIndex l hfl (f_X0_isFunction S p1)) gX0_leastSet_X0_needIndex rfl rfl rfl cd_X0_needIndex (Nat.le_of_ble_eq_true rfl) (Nat.le_of_ble_eq_true rfl) (preE hEx) rfl hl.1 rfl (Nat.le_of_ble_eq_true rfl) (Nat.le_of_ble_eq_true rfl) (Nat.le_of_ble_eq_true rfl) dX0_leastSet_5 (fun c1 E ce q9 H1 hE hz hk hce hcv hcl => ?_) (fun c1 => ?_)
  · rw [if_neg c1] at hf
    have hf := Option.some.inj hf; subst hf
    exact xt_out htab hlocks c1 hE hz hk hce hcv hcl (Nat.le_of_ble_eq_true rfl) (Nat.le_of_ble_eq_true rfl)
  rw [if_pos c1] at hf
  refine lv_aload_n hx hb dX0_leastSet_8 rfl (lv_at hl 0 rfl) ?_
  refine lv_iload_n hx hb dX0_leastSet_9 rfl (lv_at hl 1 rfl) ?_
  obtain ⟨v2, hv2, hf⟩ := ob_some hf
  refine pu_V (As := [.int p1]) (rest := []) ⟨hx, hb, hml, hown, hts⟩ (k_X0_hasLaw l dC dI cA a S p1 _ hv2) gX0_leastSet_X0_hasLaw rfl rfl rfl cd_X0_hasLaw (Nat.le_of_ble_eq_true rfl) (Nat.le_of_ble_eq_true rfl) (preX hK hP) rfl hl.1 rfl (Nat.le_of_ble_eq_true rfl) (Nat.le_of_ble_eq_true rfl) (Nat.le_of_ble_eq_true rfl) dX0_leastSet_10 ?_
  refine xt_S (As := [.int v2]) (rest := []) ⟨hx, hb, hml, hown, hts⟩ (k_X0_needState l hfl v2) gX0_leastSet_X0_needState rfl rfl rfl cd_X0_needState (Nat.le_of_ble_eq_true rfl) (Nat.le_of_ble_eq_true rfl) (preE hEx) rfl hl.1 rfl (Nat.le_of_ble_eq_true rfl) (Nat.le_of_ble_eq_true rfl) (Nat.le_of_ble_eq_true rfl) dX0_leastSet_13 (fun c3 E ce q9 H1 hE hz hk hce hcv hcl => ?_) (fun c3 => ?_)
  · rw [if_neg c3] at hf
    have hf := Option.some.inj hf; subst hf
    exact xt_out htab hlocks c3 hE hz hk hce hcv hcl (Nat.le_of_ble_eq_true rfl) (Nat.le_of_ble_eq_true rfl)
  rw [if_pos c3] at hf
  refine lv_aload_n hx hb dX0_leastSet_16 rfl (lv_at hl 0 rfl) ?_
  refine lv_iload_n hx hb dX0_leastSet_17 rfl (lv_at hl 1 rfl) ?_
  refine lv_iconst (v := 0) hx hb dX0_leastSet_18 (by decide) ?_
  refine lv_aload_n hx hb dX0_leastSet_19 rfl (lv_at hl 0 rfl) ?_
  refine pu_V (As := []) (rest := [.int 0, .int p1, .ref (a 0)]) ⟨hx, hb, hml, hown, hts⟩ (k_X0_sets l dC dI cA a S  _ rfl) gX0_leastSet_X0_sets rfl rfl rfl cd_X0_sets (Nat.le_of_ble_eq_true rfl) (Nat.le_of_ble_eq_true rfl) (preX hK hP) rfl hl.1 rfl (Nat.le_of_ble_eq_true rfl) (Nat.le_of_ble_eq_true rfl) (Nat.le_of_ble_eq_true rfl) dX0_leastSet_20 ?_
  refine lv_iconst (v := 1) hx hb dX0_leastSet_23 (by decide) ?_
  refine lv_isub hx hb dX0_leastSet_24 ?_
  refine lv_iload_n hx hb dX0_leastSet_25 rfl (lv_at hl 2 rfl) ?_
  refine lv_iconst (v := 0) hx hb dX0_leastSet_26 (by decide) ?_
  obtain ⟨v4, hv4, hf⟩ := ob_some hf
  refine pu_V (As := [.int p1, .int 0, .int ((f_X0_sets S ) - 1), .int p2, .int 0]) (rest := []) ⟨hx, hb, hml, hown, hts⟩ (k_X0_leastBetween l dC dI cA a S 7 p1 0 ((f_X0_sets S ) - 1) p2 0 _ hv4) gX0_leastSet_X0_leastBetween rfl rfl rfl cd_X0_leastBetween (Nat.le_of_ble_eq_true rfl) (Nat.le_of_ble_eq_true rfl) (preX hK hP) rfl hl.1 rfl (Nat.le_of_ble_eq_true rfl) (Nat.le_of_ble_eq_true rfl) (Nat.le_of_ble_eq_true rfl) dX0_leastSet_27 ?_
  have hf := Option.some.inj hf; subst hf
  refine vx_ret ?_
  refine W.widen (k := 2) (n := 12) (Nat.le_of_ble_eq_true rfl) (Nat.le_of_ble_eq_true rfl) ?_
  exact W.iret hx hb hr (fun t ht hW => ⟨⟨rfl, rfl, by rw [ht]; exact hP⟩, hS.F ht⟩) hS.2.2 dX0_leastSet_30
theorem cd_X0_leastSetAnew : yX0_leastSetAnew.cls = RX0 ∧ yX0_leastSetAnew.cls ≠ "java/lang/invoke/MethodHandle" ∧ yX0_leastSetAnew.cls ≠ "java/lang/invoke/VarHandle" ∧ (parseMethodDescriptor yX0_leastSetAnew.desc).map (fun d => d.parameters.length) = some 2 := by decide +kernel
set_option maxHeartbeats 4000000 in
set_option maxRecDepth 100000 in
theorem k_X0_leastSetAnew (l : Launch) (dC : Nat → ClassId) (dI : Nat → Nat → Nat) (cA : ClassId) (a : Nat → Nat) (S : St) (p1 : Int32) (p2 : Int32) (r : Nat × Int32 × St) (hf : f_X0_leastSetAnew S p1 p2 = some r) (hap : apart a 10) (hfl : l.stackTraces = false) : vx_Met l yX0_leastSetAnew wsX0_leastSetAnew ({ frames := 7, cells := 2, slots := 12, locals := 113 }) (va_Pc [.ref (a 0), .int p1, .int p2] (PTs (dC, dI) cA a S)) (tQi (dC, dI) cA a r) (tX r.1) 2 12 (ad a 10) := by
  refine vx_ofW (cc := cX0_leastSetAnew) (maxL := 7) (ret := (some .int)) (by decide) rfl ?_
  intro p e s m args below meth c s₁ B hml htab hv
  obtain ⟨rfl, hP, hK, hEx⟩ := hv
  have hx := B.exec
  have hb := B.bytes
  have hr := B.returns
  have hts := atoms_spec (ws := wsX0_leastSetAnew) B.pre
  have hown : s.vm.findClass RX0 = some m.cls := findClass_of_methodNamed B.named
  have hlocks := B.notSynchronized
  have hw0 := hts (.methodLink RX0 128 Lib.Math.min.name) (by decide +kernel)
  have hw1 := hts (.static Lib.Math.min.name) (by decide +kernel)
  have hw2 := hts (.initialized "java/lang/Math") (by decide +kernel)
  have hw3 := hts (.code Lib.Math.min.name Lib.Math.min.code 2 (some .int)) (by decide +kernel)
  have hS : va_S (ad a 10) s.heap s.heap [] := va_S.rf
  have hl := lv_entry ([.ref (a 0), .int p1, .int p2]) (n := 7) (Nat.le_of_ble_eq_true rfl)
  rw [lg_entry_eq]
  generalize (lg_sl ([.ref (a 0), .int p1, .int p2]) ++ List.replicate (7 - (lg_sl ([.ref (a 0), .int p1, .int p2])).length) Slot.unset).toArray = ls at hl ⊢
  have hl : lv_has ls 7 [(0, .ref (a 0)), (1, .int p1), (2, .int p2)] := hl
  have hW62 : ∀ (k62 : Nat) (x3 x4 x5 x6 : Int32) (ls : Array Slot), f_X0_leastSetAnew_62 S p1 p2 k62 x3 x4 x5 x6 = some r → lv_has ls 7 [(0, .ref (a 0)), (1, .int p1), (2, .int p2), (3, .int x3), (4, .int x4), (5, .int x5), (6, .int x6)] → W p l e (headSpec wsX0_leastSetAnew ({ frames := 7, cells := 2, slots := 12, locals := 113 })).room s m ([.ref (a 0), .int p1, .int p2] : List Value).toArray below meth c s.heap [] 2 12 (vx_MQ below (tQi (dC, dI) cA a r) (tX r.1) ([.ref (a 0), .int p1, .int p2] : List Value).toArray s 2 12 (ad a 10)) (F0 m 62 ls []) := by
    intro k62
    induction k62 with
    | zero =>
      intro x3 x4 x5 x6 ls hf hl
      rw [f_X0_leastSetAnew_62] at hf
      cases hf
    | succ k62 ih62 =>
      intro x3 x4 x5 x6 ls hf hl
      rw [f_X0_leastSetAnew_62] at hf
      refine lv_iload hx hb dX0_leastSetAnew_62 (lv_at hl 6 rfl) ?_
      refine lv_aload_n hx hb dX0_leastSetAnew_64 rfl (lv_at hl 0 rfl) ?_
      refine pu_V (As := []) (rest := [.int x6]) ⟨hx, hb, hml, hown, hts⟩ (k_X0_sets l dC dI cA a S  _ rfl) gX0_leastSetAnew_X0_sets rfl rfl rfl cd_X0_sets (Nat.le_of_ble_eq_true rfl) (Nat.le_of_ble_eq_true rfl) (preX hK hP) rfl hl.1 rfl (Nat.le_of_ble_eq_true rfl) (Nat.le_of_ble_eq_true rfl) (Nat.le_of_ble_eq_true rfl) dX0_leastSetAnew_65 ?_
      refine lv_icmp_ge (tgt := 102) hx hb dX0_leastSetAnew_68 (by decide) (fun c1 => ?_) (fun c1 => ?_)
      · rw [if_pos c1] at hf
        refine lv_iload_n hx hb dX0_leastSetAnew_102 rfl (lv_at hl 2 rfl) ?_
        refine lv_if_eq (tgt := 111) hx hb dX0_leastSetAnew_103 (by decide) (fun c2 => ?_) (fun c2 => ?_)
        · rw [if_pos c2] at hf
          refine lv_iload hx hb dX0_leastSetAnew_111 (lv_at hl 4 rfl) ?_
          have hf := Option.some.inj hf; subst hf
          refine vx_ret ?_
          refine W.widen (k := 2) (n := 12) (Nat.le_of_ble_eq_true rfl) (Nat.le_of_ble_eq_true rfl) ?_
          exact W.iret hx hb hr (fun t ht hW => ⟨⟨rfl, rfl, by rw [ht]; exact hP⟩, hS.F ht⟩) hS.2.2 dX0_leastSetAnew_113
        · rw [if_neg c2] at hf
          refine lv_iload hx hb dX0_leastSetAnew_106 (lv_at hl 5 rfl) ?_
          refine lv_goto (tgt := 113) hx hb dX0_leastSetAnew_108 (by decide) ?_
          have hf := Option.some.inj hf; subst hf
          refine vx_ret ?_
          refine W.widen (k := 2) (n := 12) (Nat.le_of_ble_eq_true rfl) (Nat.le_of_ble_eq_true rfl) ?_
          exact W.iret hx hb hr (fun t ht hW => ⟨⟨rfl, rfl, by rw [ht]; exact hP⟩, hS.F ht⟩) hS.2.2 dX0_leastSetAnew_113
      · rw [if_neg c1] at hf
        refine lv_aload_n hx hb dX0_leastSetAnew_71 rfl (lv_at hl 0 rfl) ?_
        refine lv_iload_n hx hb dX0_leastSetAnew_72 rfl (lv_at hl 1 rfl) ?_
        refine lv_iload hx hb dX0_leastSetAnew_73 (lv_at hl 6 rfl) ?_
        refine pu_V (As := [.int p1, .int x6]) (rest := []) ⟨hx, hb, hml, hown, hts⟩ (k_X0_valueOf l dC dI cA a S p1 x6 _ rfl) gX0_leastSetAnew_X0_valueOf rfl rfl rfl cd_X0_valueOf (Nat.le_of_ble_eq_true rfl) (Nat.le_of_ble_eq_true rfl) (preX hK hP) rfl hl.1 rfl (Nat.le_of_ble_eq_true rfl) (Nat.le_of_ble_eq_true rfl) (Nat.le_of_ble_eq_true rfl) dX0_leastSetAnew_75 ?_
        refine lv_iload_n hx hb dX0_leastSetAnew_78 rfl (lv_at hl 3 rfl) ?_
        refine lv_icmp_ne (tgt := 96) hx hb dX0_leastSetAnew_79 (by decide) (fun c3 => ?_) (fun c3 => ?_)
        · rw [if_neg c3] at hf
          obtain ⟨y4, ey4⟩ : ∃ y : Int32, y = (x6 + 1) := ⟨_, rfl⟩
          have hf := bnd_at hf ey4
          refine lv_iinc (v := y4) (lv' := [(6, .int y4), (0, .ref (a 0)), (1, .int p1), (2, .int p2), (3, .int x3), (4, .int x4), (5, .int x5)]) hx hb dX0_leastSetAnew_96 hl (k := 6) rfl (by rw [ey4]; rfl) (by decide) rfl (fun ls hl => ?_)
          refine lv_goto (tgt := 62) hx hb dX0_leastSetAnew_99 (by decide) ?_
          exact ih62 x3 x4 x5 y4 ls hf (lv_sub hl [1, 2, 3, 4, 5, 6, 0] rfl)
        · rw [if_pos c3] at hf
          refine lv_iload hx hb dX0_leastSetAnew_82 (lv_at hl 4 rfl) ?_
          refine lv_iload hx hb dX0_leastSetAnew_84 (lv_at hl 6 rfl) ?_
          refine lv_iand hx hb dX0_leastSetAnew_86 ?_
          refine lv_topi (fun y5 ey5 => ?_)
          have hf := bnd_at hf ey5
          refine lv_istore (lv' := [(4, .int y5), (0, .ref (a 0)), (1, .int p1), (2, .int p2), (3, .int x3), (5, .int x5), (6, .int x6)]) hx hb dX0_leastSetAnew_87 hl (by decide) rfl (fun ls hl => ?_)
          refine lv_iload hx hb dX0_leastSetAnew_89 (lv_at hl 5 rfl) ?_
          refine lv_iload hx hb dX0_leastSetAnew_91 (lv_at hl 6 rfl) ?_
          refine lv_ior hx hb dX0_leastSetAnew_93 ?_
          refine lv_topi (fun y6 ey6 => ?_)
          have hf := bnd_at hf ey6
          refine lv_istore (lv' := [(5, .int y6), (4, .int y5), (0, .ref (a 0)), (1, .int p1), (2, .int p2), (3, .int x3), (6, .int x6)]) hx hb dX0_leastSetAnew_94 hl (by decide) rfl (fun ls hl => ?_)
          obtain ⟨y7, ey7⟩ : ∃ y : Int32, y = (x6 + 1) := ⟨_, rfl⟩
          have hf := bnd_at hf ey7
          refine lv_iinc (v := y7) (lv' := [(6, .int y7), (5, .int y6), (4, .int y5), (0, .ref (a 0)), (1, .int p1), (2, .int p2), (3, .int x3)]) hx hb dX0_leastSetAnew_96 hl (k := 6) rfl (by rw [ey7]; rfl) (by decide) rfl (fun ls hl => ?_)
          refine lv_goto (tgt := 62) hx hb dX0_leastSetAnew_99 (by decide) ?_
          exact ih62 x3 y5 y6 y7 ls hf (lv_sub hl [3, 4, 5, 6, 2, 1, 0] rfl)
  have hW21 : ∀ (k21 : Nat) (x3 x4 : Int32) (ls : Array Slot), f_X0_leastSetAnew_21 S p1 p2 k21 x3 x4 = some r → lv_has ls 7 [(0, .ref (a 0)), (1, .int p1), (2, .int p2), (3, .int x3), (4, .int x4)] → W p l e (headSpec wsX0_leastSetAnew ({ frames := 7, cells := 2, slots := 12, locals := 113 })).room s m ([.ref (a 0), .int p1, .int p2] : List Value).toArray below meth c s.heap [] 2 12 (vx_MQ below (tQi (dC, dI) cA a r) (tX r.1) ([.ref (a 0), .int p1, .int p2] : List Value).toArray s 2 12 (ad a 10)) (F0 m 21 ls []) := by
    intro k21
    induction k21 with
    | zero =>
      intro x3 x4 ls hf hl
      rw [f_X0_leastSetAnew_21] at hf
      cases hf
    | succ k21 ih21 =>
      intro x3 x4 ls hf hl
      rw [f_X0_leastSetAnew_21] at hf
      refine lv_iload hx hb dX0_leastSetAnew_21 (lv_at hl 4 rfl) ?_
      refine lv_aload_n hx hb dX0_leastSetAnew_23 rfl (lv_at hl 0 rfl) ?_
      refine pu_V (As := []) (rest := [.int x4]) ⟨hx, hb, hml, hown, hts⟩ (k_X0_sets l dC dI cA a S  _ rfl) gX0_leastSetAnew_X0_sets rfl rfl rfl cd_X0_sets (Nat.le_of_ble_eq_true rfl) (Nat.le_of_ble_eq_true rfl) (preX hK hP) rfl hl.1 rfl (Nat.le_of_ble_eq_true rfl) (Nat.le_of_ble_eq_true rfl) (Nat.le_of_ble_eq_true rfl) dX0_leastSetAnew_24 ?_
      refine lv_icmp_ge (tgt := 48) hx hb dX0_leastSetAnew_27 (by decide) (fun c8 => ?_) (fun c8 => ?_)
      · rw [if_pos c8] at hf
        refine lv_aload_n hx hb dX0_leastSetAnew_48 rfl (lv_at hl 0 rfl) ?_
        refine pu_V (As := []) (rest := []) ⟨hx, hb, hml, hown, hts⟩ (k_X0_sets l dC dI cA a S  _ rfl) gX0_leastSetAnew_X0_sets rfl rfl rfl cd_X0_sets (Nat.le_of_ble_eq_true rfl) (Nat.le_of_ble_eq_true rfl) (preX hK hP) rfl hl.1 rfl (Nat.le_of_ble_eq_true rfl) (Nat.le_of_ble_eq_true rfl) (Nat.le_of_ble_eq_true rfl) dX0_leastSetAnew_49 ?_
        refine lv_iconst (v := 1) hx hb dX0_leastSetAnew_52 (by decide) ?_
        refine lv_isub hx hb dX0_leastSetAnew_53 ?_
        refine lv_topi (fun y9 ey9 => ?_)
        have hf := bnd_at hf ey9
        refine lv_istore (lv' := [(4, .int y9), (0, .ref (a 0)), (1, .int p1), (2, .int p2), (3, .int x3)]) hx hb dX0_leastSetAnew_54 hl (by decide) rfl (fun ls hl => ?_)
        refine lv_iconst (v := 0) hx hb dX0_leastSetAnew_56 (by decide) ?_
        refine lv_istore (lv' := [(5, .int 0), (4, .int y9), (0, .ref (a 0)), (1, .int p1), (2, .int p2), (3, .int x3)]) hx hb dX0_leastSetAnew_57 hl (by decide) rfl (fun ls hl => ?_)
        refine lv_iconst (v := 0) hx hb dX0_leastSetAnew_59 (by decide) ?_
        refine lv_istore (lv' := [(6, .int 0), (5, .int 0), (4, .int y9), (0, .ref (a 0)), (1, .int p1), (2, .int p2), (3, .int x3)]) hx hb dX0_leastSetAnew_60 hl (by decide) rfl (fun ls hl => ?_)
        exact hW62 70 x3 y9 0 0 ls hf (lv_sub hl [3, 4, 5, 6, 2, 1, 0] rfl)
      · rw [if_neg c8] at hf
        refine lv_iload_n hx hb dX0_leastSetAnew_30 rfl (lv_at hl 3 rfl) ?_
        refine lv_aload_n hx hb dX0_leastSetAnew_31 rfl (lv_at hl 0 rfl) ?_
        refine lv_iload_n hx hb dX0_leastSetAnew_32 rfl (lv_at hl 1 rfl) ?_
        refine lv_iload hx hb dX0_leastSetAnew_33 (lv_at hl 4 rfl) ?_
        refine pu_V (As := [.int p1, .int x4]) (rest := [.int x3]) ⟨hx, hb, hml, hown, hts⟩ (k_X0_valueOf l dC dI cA a S p1 x4 _ rfl) gX0_leastSetAnew_X0_valueOf rfl rfl rfl cd_X0_valueOf (Nat.le_of_ble_eq_true rfl) (Nat.le_of_ble_eq_true rfl) (preX hK hP) rfl hl.1 rfl (Nat.le_of_ble_eq_true rfl) (Nat.le_of_ble_eq_true rfl) (Nat.le_of_ble_eq_true rfl) dX0_leastSetAnew_35 ?_
        refine va_mmin hx hb (hml.trans hl.1.symm) hown hw0 hw1 hw2 hw3 (Nat.le_of_ble_eq_true rfl) (Nat.le_of_ble_eq_true rfl) (Nat.le_of_ble_eq_true rfl) (Nat.le_of_ble_eq_true rfl) dX0_leastSetAnew_38 ?_
        refine lv_topi (fun y10 ey10 => ?_)
        have hf := bnd_at hf ey10
        refine lv_istore_n (lv' := [(3, .int y10), (0, .ref (a 0)), (1, .int p1), (2, .int p2), (4, .int x4)]) hx hb dX0_leastSetAnew_41 rfl hl (by decide) rfl (fun ls hl => ?_)
        obtain ⟨y11, ey11⟩ : ∃ y : Int32, y = (x4 + 1) := ⟨_, rfl⟩
        have hf := bnd_at hf ey11
        refine lv_iinc (v := y11) (lv' := [(4, .int y11), (3, .int y10), (0, .ref (a 0)), (1, .int p1), (2, .int p2)]) hx hb dX0_leastSetAnew_42 hl (k := 4) rfl (by rw [ey11]; rfl) (by decide) rfl (fun ls hl => ?_)
        refine lv_goto (tgt := 21) hx hb dX0_leastSetAnew_45 (by decide) ?_
        exact ih21 y10 y11 ls hf (lv_sub hl [2, 3, 4, 1, 0] rfl)
  unfold f_X0_leastSetAnew at hf
  refine lv_aload_n hx hb dX0_leastSetAnew_0 rfl (lv_at hl 0 rfl) ?_
  refine lv_iload_n hx hb dX0_leastSetAnew_1 rfl (lv_at hl 1 rfl) ?_
  refine pu_V (As := [.int p1]) (rest := []) ⟨hx, hb, hml, hown, hts⟩ (k_X0_isFunction l dC dI cA a S p1 _ rfl) gX0_leastSetAnew_X0_isFunction rfl rfl rfl cd_X0_isFunction (Nat.le_of_ble_eq_true rfl) (Nat.le_of_ble_eq_true rfl) (preX hK hP) rfl hl.1 rfl (Nat.le_of_ble_eq_true rfl) (Nat.le_of_ble_eq_true rfl) (Nat.le_of_ble_eq_true rfl) dX0_leastSetAnew_2 ?_
  refine xt_S (As := [.int (f_X0_isFunction S p1)]) (rest := []) ⟨hx, hb, hml, hown, hts⟩ (k_X0_needIndex l hfl (f_X0_isFunction S p1)) gX0_leastSetAnew_X0_needIndex rfl rfl rfl cd_X0_needIndex (Nat.le_of_ble_eq_true rfl) (Nat.le_of_ble_eq_true rfl) (preE hEx) rfl hl.1 rfl (Nat.le_of_ble_eq_true rfl) (Nat.le_of_ble_eq_true rfl) (Nat.le_of_ble_eq_true rfl) dX0_leastSetAnew_5 (fun c12 E ce q9 H1 hE hz hk hce hcv hcl => ?_) (fun c12 => ?_)
  · rw [if_neg c12] at hf
    have hf := Option.some.inj hf; subst hf
    exact xt_out htab hlocks c12 hE hz hk hce hcv hcl (Nat.le_of_ble_eq_true rfl) (Nat.le_of_ble_eq_true rfl)
  rw [if_pos c12] at hf
  refine lv_aload_n hx hb dX0_leastSetAnew_8 rfl (lv_at hl 0 rfl) ?_
  refine lv_iload_n hx hb dX0_leastSetAnew_9 rfl (lv_at hl 1 rfl) ?_
  obtain ⟨v13, hv13, hf⟩ := ob_some hf
  refine pu_V (As := [.int p1]) (rest := []) ⟨hx, hb, hml, hown, hts⟩ (k_X0_hasLaw l dC dI cA a S p1 _ hv13) gX0_leastSetAnew_X0_hasLaw rfl rfl rfl cd_X0_hasLaw (Nat.le_of_ble_eq_true rfl) (Nat.le_of_ble_eq_true rfl) (preX hK hP) rfl hl.1 rfl (Nat.le_of_ble_eq_true rfl) (Nat.le_of_ble_eq_true rfl) (Nat.le_of_ble_eq_true rfl) dX0_leastSetAnew_10 ?_
  refine xt_S (As := [.int v13]) (rest := []) ⟨hx, hb, hml, hown, hts⟩ (k_X0_needState l hfl v13) gX0_leastSetAnew_X0_needState rfl rfl rfl cd_X0_needState (Nat.le_of_ble_eq_true rfl) (Nat.le_of_ble_eq_true rfl) (preE hEx) rfl hl.1 rfl (Nat.le_of_ble_eq_true rfl) (Nat.le_of_ble_eq_true rfl) (Nat.le_of_ble_eq_true rfl) dX0_leastSetAnew_13 (fun c14 E ce q9 H1 hE hz hk hce hcv hcl => ?_) (fun c14 => ?_)
  · rw [if_neg c14] at hf
    have hf := Option.some.inj hf; subst hf
    exact xt_out htab hlocks c14 hE hz hk hce hcv hcl (Nat.le_of_ble_eq_true rfl) (Nat.le_of_ble_eq_true rfl)
  rw [if_pos c14] at hf
  refine lv_iconst (v := 0) hx hb dX0_leastSetAnew_16 (by decide) ?_
  refine lv_istore_n (lv' := [(3, .int 0), (0, .ref (a 0)), (1, .int p1), (2, .int p2)]) hx hb dX0_leastSetAnew_17 rfl hl (by decide) rfl (fun ls hl => ?_)
  refine lv_iconst (v := 0) hx hb dX0_leastSetAnew_18 (by decide) ?_
  refine lv_istore (lv' := [(4, .int 0), (3, .int 0), (0, .ref (a 0)), (1, .int p1), (2, .int p2)]) hx hb dX0_leastSetAnew_19 hl (by decide) rfl (fun ls hl => ?_)
  exact hW21 70 0 0 ls hf (lv_sub hl [2, 3, 4, 1, 0] rfl)
theorem cd_X0_order : yX0_order.cls = RX0 ∧ yX0_order.cls ≠ "java/lang/invoke/MethodHandle" ∧ yX0_order.cls ≠ "java/lang/invoke/VarHandle" ∧ (parseMethodDescriptor yX0_order.desc).map (fun d => d.parameters.length) = some 1 := by decide +kernel
set_option maxHeartbeats 4000000 in
set_option maxRecDepth 100000 in
theorem k_X0_order (l : Launch) (dC : Nat → ClassId) (dI : Nat → Nat → Nat) (cA : ClassId) (a : Nat → Nat) (S : St) (p1 : Int32) (r : Nat × Int32 × St) (hf : f_X0_order S p1 = some r) (hap : apart a 10) (hfl : l.stackTraces = false) : vx_Met l yX0_order wsX0_order ({ frames := 7, cells := 2, slots := 12, locals := 110 }) (va_Pc [.ref (a 0), .int p1] (PTs (dC, dI) cA a S)) (tQi (dC, dI) cA a r) (tX r.1) 2 12 (ad a 10) := by
  refine vx_ofW (cc := cX0_order) (maxL := 3) (ret := (some .int)) (by decide) rfl ?_
  intro p e s m args below meth c s₁ B hml htab hv
  obtain ⟨rfl, hP, hK, hEx⟩ := hv
  have hx := B.exec
  have hb := B.bytes
  have hr := B.returns
  have hts := atoms_spec (ws := wsX0_order) B.pre
  have hown : s.vm.findClass RX0 = some m.cls := findClass_of_methodNamed B.named
  have hlocks := B.notSynchronized
  have hin : ∀ w ∈ u_ws RX0 TX0 12, w ∈ wsX0_order := by decide +kernel
  have hw0 := hts (.fieldLink RX0 38 "Submodulary" "ordered" "[I") (by decide +kernel)
  have hw1 := hts (.fieldLink RX0 16 "Submodulary" "told" "I") (by decide +kernel)
  have hw2 := hts (.fieldLink RX0 9 "Submodulary" "elements" "I") (by decide +kernel)
  have hS : va_S (ad a 10) s.heap s.heap [] := va_S.rf
  have hl := lv_entry ([.ref (a 0), .int p1]) (n := 3) (Nat.le_of_ble_eq_true rfl)
  rw [lg_entry_eq]
  generalize (lg_sl ([.ref (a 0), .int p1]) ++ List.replicate (3 - (lg_sl ([.ref (a 0), .int p1])).length) Slot.unset).toArray = ls at hl ⊢
  have hl : lv_has ls 3 [(0, .ref (a 0)), (1, .int p1)] := hl
  have hW54 : ∀ (S : St) (H : Heap) (locs : List Loc) (ls : Array Slot), f_X0_order_54 p1 S = some r → va_P (dC, dI) vwCl (wX cA a S) H → va_S (ad a 10) s.heap H locs → lv_has ls 3 [(0, .ref (a 0)), (1, .int p1)] → W p l e (headSpec wsX0_order ({ frames := 7, cells := 2, slots := 12, locals := 110 })).room s m ([.ref (a 0), .int p1] : List Value).toArray below meth c H locs 2 12 (vx_MQ below (tQi (dC, dI) cA a r) (tX r.1) ([.ref (a 0), .int p1] : List Value).toArray s 2 12 (ad a 10)) (F0 m 54 ls []) := by
    intro S H locs ls hf hP hS hl
    unfold f_X0_order_54 at hf
    refine lv_aload_n hx hb dX0_order_54 rfl (lv_at hl 0 rfl) ?_
    refine gfX hx hb hts hin hown hK hP 9 (by decide) hw0 rfl rfl dX0_order_55 ?_
    refine lv_aload_n hx hb dX0_order_58 rfl (lv_at hl 0 rfl) ?_
    refine gfX hx hb hts hin hown hK hP 2 (by decide) hw1 rfl rfl dX0_order_59 ?_
    refine lv_iload_n hx hb dX0_order_62 rfl (lv_at hl 1 rfl) ?_
    refine mu_RX (As := [.ref (a 7), .int (S.1 2), .int p1]) (rest := []) ⟨hx, hb, hml, hown, hts⟩ (k_X0_put l dC dI cA (a 7) 6 (S.2 6) (S.1 2) p1 (by decide)) gX0_order_X0_put rfl rfl rfl cd_X0_put (Nat.le_of_ble_eq_true rfl) (Nat.le_of_ble_eq_true rfl) (preR hK (rowX hP 7 (wX_q6 cA a _))) rfl hl.1 rfl (Nat.le_of_ble_eq_true rfl) (Nat.le_of_ble_eq_true rfl) (Nat.le_of_ble_eq_true rfl) dX0_order_63 hP hap hS 6 (wX_q6 cA a _) (wX_s6 cA a _ _) (fun H locs hP hS => ?_)
    refine lv_aload_n hx hb dX0_order_66 rfl (lv_at hl 0 rfl) ?_
    refine lv_dup hx hb dX0_order_67 rfl ?_
    refine gfX hx hb hts hin hown hK hP 2 (by decide) hw1 rfl rfl dX0_order_68 ?_
    refine lv_iconst (v := 1) hx hb dX0_order_71 (by decide) ?_
    refine lv_iadd hx hb dX0_order_72 ?_
    refine pfX hx hb hts hin hown hK hP hap hS 2 (by decide) hw1 rfl rfl (by decide +kernel) (k2 := 2) (fun _ => rfl) dX0_order_73 (fun H locs hP hS => ?_)
    refine lv_aload_n hx hb dX0_order_76 rfl (lv_at hl 0 rfl) ?_
    refine gfX hx hb hts hin hown hK hP 2 (by decide) hw1 rfl rfl dX0_order_77 ?_
    have hf := Option.some.inj hf; subst hf
    refine vx_ret ?_
    refine W.widen (k := 2) (n := 12) (Nat.le_of_ble_eq_true rfl) (Nat.le_of_ble_eq_true rfl) ?_
    exact W.iret hx hb hr (fun t ht hW => ⟨⟨rfl, rfl, by rw [ht]; exact hP⟩, hS.F ht⟩) hS.2.2 dX0_order_80
  have hW42 : ∀ (x2 s0 : Int32) (ls : Array Slot), f_X0_order_42 S p1 x2 s0 = some r → lv_has ls 3 [(0, .ref (a 0)), (1, .int p1), (2, .int x2)] → W p l e (headSpec wsX0_order ({ frames := 7, cells := 2, slots := 12, locals := 110 })).room s m ([.ref (a 0), .int p1] : List Value).toArray below meth c s.heap [] 1 6 (vx_MQ below (tQi (dC, dI) cA a r) (tX r.1) ([.ref (a 0), .int p1] : List Value).toArray s 2 12 (ad a 10)) (F0 m 42 ls [.int s0]) := by
    intro x2 s0 ls hf hl
    unfold f_X0_order_42 at hf
    refine xt_S (As := [.int s0]) (rest := []) ⟨hx, hb, hml, hown, hts⟩ (k_X0_needState l hfl s0) gX0_order_X0_needState rfl rfl rfl cd_X0_needState (Nat.le_of_ble_eq_true rfl) (Nat.le_of_ble_eq_true rfl) (preE hEx) rfl hl.1 rfl (Nat.le_of_ble_eq_true rfl) (Nat.le_of_ble_eq_true rfl) (Nat.le_of_ble_eq_true rfl) dX0_order_42 (fun c1 E ce q9 H1 hE hz hk hce hcv hcl => ?_) (fun c1 => ?_)
    · rw [if_neg c1] at hf
      have hf := Option.some.inj hf; subst hf
      exact xt_out htab hlocks c1 hE hz hk hce hcv hcl (Nat.le_of_ble_eq_true rfl) (Nat.le_of_ble_eq_true rfl)
    rw [if_pos c1] at hf
    refine lv_iload_n hx hb dX0_order_45 rfl (lv_at hl 2 rfl) ?_
    refine lv_if_eq (tgt := 54) hx hb dX0_order_46 (by decide) (fun c2 => ?_) (fun c2 => ?_)
    · rw [if_pos c2] at hf
      exact hW54 S _ _ ls hf hP hS (lv_sub hl [0, 1] rfl)
    · rw [if_neg c2] at hf
      refine lv_aload_n hx hb dX0_order_49 rfl (lv_at hl 0 rfl) ?_
      refine lv_iconst (v := 0) hx hb dX0_order_50 (by decide) ?_
      refine pfX hx hb hts hin hown hK hP hap hS 2 (by decide) hw1 rfl rfl (by decide +kernel) (k2 := 2) (fun _ => rfl) dX0_order_51 (fun H locs hP hS => ?_)
      exact hW54 (sS S 2 0) _ _ ls hf hP hS (lv_sub hl [0, 1] rfl)
  have hW24 : ∀ (s0 : Int32) (ls : Array Slot), f_X0_order_24 S p1 s0 = some r → lv_has ls 3 [(0, .ref (a 0)), (1, .int p1)] → W p l e (headSpec wsX0_order ({ frames := 7, cells := 2, slots := 12, locals := 110 })).room s m ([.ref (a 0), .int p1] : List Value).toArray below meth c s.heap [] 1 6 (vx_MQ below (tQi (dC, dI) cA a r) (tX r.1) ([.ref (a 0), .int p1] : List Value).toArray s 2 12 (ad a 10)) (F0 m 24 ls [.int s0]) := by
    intro s0 ls hf hl
    unfold f_X0_order_24 at hf
    refine lv_istore_n (lv' := [(2, .int s0), (0, .ref (a 0)), (1, .int p1)]) hx hb dX0_order_24 rfl hl (by decide) rfl (fun ls hl => ?_)
    refine lv_iload_n hx hb dX0_order_25 rfl (lv_at hl 0 rfl) ?_
    refine lv_if_ne (tgt := 37) hx hb dX0_order_26 (by decide) (fun c3 => ?_) (fun c3 => ?_)
    · rw [if_neg c3] at hf
      refine lv_iconst (v := 1) hx hb dX0_order_37 (by decide) ?_
      refine lv_goto (tgt := 42) hx hb dX0_order_38 (by decide) ?_
      exact hW42 s0 1 ls hf (lv_sub hl [1, 2, 0] rfl)
    · rw [if_pos c3] at hf
      refine lv_aload_n hx hb dX0_order_29 rfl (lv_at hl 1 rfl) ?_
      refine lv_iload_n hx hb dX0_order_30 rfl (lv_at hl 2 rfl) ?_
      obtain ⟨v4, hv4, hf⟩ := ob_some hf
      refine pu_V (As := [.int p1]) (rest := []) ⟨hx, hb, hml, hown, hts⟩ (k_X0_isTold l dC dI cA a S p1 _ hv4) gX0_order_X0_isTold rfl rfl rfl cd_X0_isTold (Nat.le_of_ble_eq_true rfl) (Nat.le_of_ble_eq_true rfl) (preX hK hP) rfl hl.1 rfl (Nat.le_of_ble_eq_true rfl) (Nat.le_of_ble_eq_true rfl) (Nat.le_of_ble_eq_true rfl) dX0_order_31 ?_
      refine lv_if_ne (tgt := 41) hx hb dX0_order_34 (by decide) (fun c5 => ?_) (fun c5 => ?_)
      · rw [if_neg c5] at hf
        refine lv_iconst (v := 0) hx hb dX0_order_41 (by decide) ?_
        exact hW42 s0 0 ls hf (lv_sub hl [1, 2, 0] rfl)
      · rw [if_pos c5] at hf
        refine lv_iconst (v := 1) hx hb dX0_order_37 (by decide) ?_
        refine lv_goto (tgt := 42) hx hb dX0_order_38 (by decide) ?_
        exact hW42 s0 1 ls hf (lv_sub hl [1, 2, 0] rfl)
  unfold f_X0_order at hf
  refine lv_aload_n hx hb dX0_order_0 rfl (lv_at hl 0 rfl) ?_
  refine lv_iload_n hx hb dX0_order_1 rfl (lv_at hl 1 rfl) ?_
  refine pu_V (As := [.int p1]) (rest := []) ⟨hx, hb, hml, hown, hts⟩ (k_X0_isElement l dC dI cA a S p1 _ rfl) gX0_order_X0_isElement rfl rfl rfl cd_X0_isElement (Nat.le_of_ble_eq_true rfl) (Nat.le_of_ble_eq_true rfl) (preX hK hP) rfl hl.1 rfl (Nat.le_of_ble_eq_true rfl) (Nat.le_of_ble_eq_true rfl) (Nat.le_of_ble_eq_true rfl) dX0_order_2 ?_
  refine xt_S (As := [.int (f_X0_isElement S p1)]) (rest := []) ⟨hx, hb, hml, hown, hts⟩ (k_X0_needIndex l hfl (f_X0_isElement S p1)) gX0_order_X0_needIndex rfl rfl rfl cd_X0_needIndex (Nat.le_of_ble_eq_true rfl) (Nat.le_of_ble_eq_true rfl) (preE hEx) rfl hl.1 rfl (Nat.le_of_ble_eq_true rfl) (Nat.le_of_ble_eq_true rfl) (Nat.le_of_ble_eq_true rfl) dX0_order_5 (fun c6 E ce q9 H1 hE hz hk hce hcv hcl => ?_) (fun c6 => ?_)
  · rw [if_neg c6] at hf
    have hf := Option.some.inj hf; subst hf
    exact xt_out htab hlocks c6 hE hz hk hce hcv hcl (Nat.le_of_ble_eq_true rfl) (Nat.le_of_ble_eq_true rfl)
  rw [if_pos c6] at hf
  refine lv_aload_n hx hb dX0_order_8 rfl (lv_at hl 0 rfl) ?_
  refine gfX hx hb hts hin hown hK hP 2 (by decide) hw1 rfl rfl dX0_order_9 ?_
  refine lv_aload_n hx hb dX0_order_12 rfl (lv_at hl 0 rfl) ?_
  refine gfX hx hb hts hin hown hK hP 0 (by decide) hw2 rfl rfl dX0_order_13 ?_
  refine lv_icmp_lt (tgt := 23) hx hb dX0_order_16 (by decide) (fun c7 => ?_) (fun c7 => ?_)
  · rw [if_pos c7] at hf
    refine lv_iconst (v := 0) hx hb dX0_order_23 (by decide) ?_
    exact hW24 0 ls hf (lv_sub hl [0, 1] rfl)
  · rw [if_neg c7] at hf
    refine lv_iconst (v := 1) hx hb dX0_order_19 (by decide) ?_
    refine lv_goto (tgt := 24) hx hb dX0_order_20 (by decide) ?_
    exact hW24 1 ls hf (lv_sub hl [0, 1] rfl)
theorem cd_X0_corner : yX0_corner.cls = RX0 ∧ yX0_corner.cls ≠ "java/lang/invoke/MethodHandle" ∧ yX0_corner.cls ≠ "java/lang/invoke/VarHandle" ∧ (parseMethodDescriptor yX0_corner.desc).map (fun d => d.parameters.length) = some 2 := by decide +kernel
set_option maxHeartbeats 4000000 in
set_option maxRecDepth 100000 in
theorem k_X0_corner (l : Launch) (dC : Nat → ClassId) (dI : Nat → Nat → Nat) (cA : ClassId) (a : Nat → Nat) (S : St) (p1 : Int32) (p2 : Int32) (r : Nat × Int32 × St) (hf : f_X0_corner S p1 p2 = some r) (hap : apart a 10) (hfl : l.stackTraces = false) : vx_Met l yX0_corner wsX0_corner ({ frames := 7, cells := 2, slots := 12, locals := 110 }) (va_Pc [.ref (a 0), .int p1, .int p2] (PTs (dC, dI) cA a S)) (tQi (dC, dI) cA a r) (tX r.1) 2 12 (ad a 10) := by
  refine vx_ofW (cc := cX0_corner) (maxL := 3) (ret := (some .int)) (by decide) rfl ?_
  intro p e s m args below meth c s₁ B hml htab hv
  obtain ⟨rfl, hP, hK, hEx⟩ := hv
  have hx := B.exec
  have hb := B.bytes
  have hr := B.returns
  have hts := atoms_spec (ws := wsX0_corner) B.pre
  have hown : s.vm.findClass RX0 = some m.cls := findClass_of_methodNamed B.named
  have hlocks := B.notSynchronized
  have hS : va_S (ad a 10) s.heap s.heap [] := va_S.rf
  have hl := lv_entry ([.ref (a 0), .int p1, .int p2]) (n := 3) (Nat.le_of_ble_eq_true rfl)
  rw [lg_entry_eq]
  generalize (lg_sl ([.ref (a 0), .int p1, .int p2]) ++ List.replicate (3 - (lg_sl ([.ref (a 0), .int p1, .int p2])).length) Slot.unset).toArray = ls at hl ⊢
  have hl : lv_has ls 3 [(0, .ref (a 0)), (1, .int p1), (2, .int p2)] := hl
  have hW21 : ∀ (s0 : Int32) (ls : Array Slot), f_X0_corner_21 S p1 p2 s0 = some r → lv_has ls 3 [(0, .ref (a 0)), (1, .int p1), (2, .int p2)] → W p l e (headSpec wsX0_corner ({ frames := 7, cells := 2, slots := 12, locals := 110 })).room s m ([.ref (a 0), .int p1, .int p2] : List Value).toArray below meth c s.heap [] 0 0 (vx_MQ below (tQi (dC, dI) cA a r) (tX r.1) ([.ref (a 0), .int p1, .int p2] : List Value).toArray s 2 12 (ad a 10)) (F0 m 21 ls [.int s0]) := by
    intro s0 ls hf hl
    unfold f_X0_corner_21 at hf
    refine xt_S (As := [.int s0]) (rest := []) ⟨hx, hb, hml, hown, hts⟩ (k_X0_needIndex l hfl s0) gX0_corner_X0_needIndex rfl rfl rfl cd_X0_needIndex (Nat.le_of_ble_eq_true rfl) (Nat.le_of_ble_eq_true rfl) (preE hEx) rfl hl.1 rfl (Nat.le_of_ble_eq_true rfl) (Nat.le_of_ble_eq_true rfl) (Nat.le_of_ble_eq_true rfl) dX0_corner_21 (fun c1 E ce q9 H1 hE hz hk hce hcv hcl => ?_) (fun c1 => ?_)
    · rw [if_neg c1] at hf
      have hf := Option.some.inj hf; subst hf
      exact xt_out htab hlocks c1 hE hz hk hce hcv hcl (Nat.le_of_ble_eq_true rfl) (Nat.le_of_ble_eq_true rfl)
    rw [if_pos c1] at hf
    refine lv_aload_n hx hb dX0_corner_24 rfl (lv_at hl 0 rfl) ?_
    refine lv_iload_n hx hb dX0_corner_25 rfl (lv_at hl 2 rfl) ?_
    obtain ⟨v2, hv2, hf⟩ := ob_some hf
    refine pu_V (As := [.int p2]) (rest := []) ⟨hx, hb, hml, hown, hts⟩ (k_X0_isTold l dC dI cA a S p2 _ hv2) gX0_corner_X0_isTold rfl rfl rfl cd_X0_isTold (Nat.le_of_ble_eq_true rfl) (Nat.le_of_ble_eq_true rfl) (preX hK hP) rfl hl.1 rfl (Nat.le_of_ble_eq_true rfl) (Nat.le_of_ble_eq_true rfl) (Nat.le_of_ble_eq_true rfl) dX0_corner_26 ?_
    refine xt_S (As := [.int v2]) (rest := []) ⟨hx, hb, hml, hown, hts⟩ (k_X0_needState l hfl v2) gX0_corner_X0_needState rfl rfl rfl cd_X0_needState (Nat.le_of_ble_eq_true rfl) (Nat.le_of_ble_eq_true rfl) (preE hEx) rfl hl.1 rfl (Nat.le_of_ble_eq_true rfl) (Nat.le_of_ble_eq_true rfl) (Nat.le_of_ble_eq_true rfl) dX0_corner_29 (fun c3 E ce q9 H1 hE hz hk hce hcv hcl => ?_) (fun c3 => ?_)
    · rw [if_neg c3] at hf
      have hf := Option.some.inj hf; subst hf
      exact xt_out htab hlocks c3 hE hz hk hce hcv hcl (Nat.le_of_ble_eq_true rfl) (Nat.le_of_ble_eq_true rfl)
    rw [if_pos c3] at hf
    refine lv_aload_n hx hb dX0_corner_32 rfl (lv_at hl 0 rfl) ?_
    refine lv_iload_n hx hb dX0_corner_33 rfl (lv_at hl 1 rfl) ?_
    refine lv_aload_n hx hb dX0_corner_34 rfl (lv_at hl 0 rfl) ?_
    refine lv_iload_n hx hb dX0_corner_35 rfl (lv_at hl 2 rfl) ?_
    obtain ⟨v4, hv4, hf⟩ := ob_some hf
    refine pu_V (As := [.int p2]) (rest := [.int p1, .ref (a 0)]) ⟨hx, hb, hml, hown, hts⟩ (k_X0_aheadOf l dC dI cA a S p2 _ hv4) gX0_corner_X0_aheadOf rfl rfl rfl cd_X0_aheadOf (Nat.le_of_ble_eq_true rfl) (Nat.le_of_ble_eq_true rfl) (preX hK hP) rfl hl.1 rfl (Nat.le_of_ble_eq_true rfl) (Nat.le_of_ble_eq_true rfl) (Nat.le_of_ble_eq_true rfl) dX0_corner_36 ?_
    refine lv_iload_n hx hb dX0_corner_39 rfl (lv_at hl 2 rfl) ?_
    refine pu_V (As := [.int p1, .int v4, .int p2]) (rest := []) ⟨hx, hb, hml, hown, hts⟩ (k_X0_gain l dC dI cA a S p1 v4 p2 _ rfl) gX0_corner_X0_gain rfl rfl rfl cd_X0_gain (Nat.le_of_ble_eq_true rfl) (Nat.le_of_ble_eq_true rfl) (preX hK hP) rfl hl.1 rfl (Nat.le_of_ble_eq_true rfl) (Nat.le_of_ble_eq_true rfl) (Nat.le_of_ble_eq_true rfl) dX0_corner_40 ?_
    have hf := Option.some.inj hf; subst hf
    refine vx_ret ?_
    refine W.widen (k := 2) (n := 12) (Nat.le_of_ble_eq_true rfl) (Nat.le_of_ble_eq_true rfl) ?_
    exact W.iret hx hb hr (fun t ht hW => ⟨⟨rfl, rfl, by rw [ht]; exact hP⟩, hS.F ht⟩) hS.2.2 dX0_corner_43
  unfold f_X0_corner at hf
  refine lv_aload_n hx hb dX0_corner_0 rfl (lv_at hl 0 rfl) ?_
  refine lv_iload_n hx hb dX0_corner_1 rfl (lv_at hl 1 rfl) ?_
  refine pu_V (As := [.int p1]) (rest := []) ⟨hx, hb, hml, hown, hts⟩ (k_X0_isFunction l dC dI cA a S p1 _ rfl) gX0_corner_X0_isFunction rfl rfl rfl cd_X0_isFunction (Nat.le_of_ble_eq_true rfl) (Nat.le_of_ble_eq_true rfl) (preX hK hP) rfl hl.1 rfl (Nat.le_of_ble_eq_true rfl) (Nat.le_of_ble_eq_true rfl) (Nat.le_of_ble_eq_true rfl) dX0_corner_2 ?_
  refine lv_if_eq (tgt := 20) hx hb dX0_corner_5 (by decide) (fun c5 => ?_) (fun c5 => ?_)
  · rw [if_pos c5] at hf
    refine lv_iconst (v := 0) hx hb dX0_corner_20 (by decide) ?_
    exact hW21 0 ls hf (lv_sub hl [0, 1, 2] rfl)
  · rw [if_neg c5] at hf
    refine lv_aload_n hx hb dX0_corner_8 rfl (lv_at hl 0 rfl) ?_
    refine lv_iload_n hx hb dX0_corner_9 rfl (lv_at hl 2 rfl) ?_
    refine pu_V (As := [.int p2]) (rest := []) ⟨hx, hb, hml, hown, hts⟩ (k_X0_isElement l dC dI cA a S p2 _ rfl) gX0_corner_X0_isElement rfl rfl rfl cd_X0_isElement (Nat.le_of_ble_eq_true rfl) (Nat.le_of_ble_eq_true rfl) (preX hK hP) rfl hl.1 rfl (Nat.le_of_ble_eq_true rfl) (Nat.le_of_ble_eq_true rfl) (Nat.le_of_ble_eq_true rfl) dX0_corner_10 ?_
    refine lv_if_eq (tgt := 20) hx hb dX0_corner_13 (by decide) (fun c6 => ?_) (fun c6 => ?_)
    · rw [if_pos c6] at hf
      refine lv_iconst (v := 0) hx hb dX0_corner_20 (by decide) ?_
      exact hW21 0 ls hf (lv_sub hl [0, 1, 2] rfl)
    · rw [if_neg c6] at hf
      refine lv_iconst (v := 1) hx hb dX0_corner_16 (by decide) ?_
      refine lv_goto (tgt := 21) hx hb dX0_corner_17 (by decide) ?_
      exact hW21 1 ls hf (lv_sub hl [0, 1, 2] rfl)
theorem cd_X0_greedy : yX0_greedy.cls = RX0 ∧ yX0_greedy.cls ≠ "java/lang/invoke/MethodHandle" ∧ yX0_greedy.cls ≠ "java/lang/invoke/VarHandle" ∧ (parseMethodDescriptor yX0_greedy.desc).map (fun d => d.parameters.length) = some 2 := by decide +kernel
set_option maxHeartbeats 4000000 in
set_option maxRecDepth 100000 in
theorem k_X0_greedy (l : Launch) (dC : Nat → ClassId) (dI : Nat → Nat → Nat) (cA : ClassId) (a : Nat → Nat) (S : St) (p1 : Int32) (p2 : Int32) (r : Nat × Int32 × St) (hf : f_X0_greedy S p1 p2 = some r) (hap : apart a 10) (hfl : l.stackTraces = false) : vx_Met l yX0_greedy wsX0_greedy ({ frames := 7, cells := 2, slots := 12, locals := 110 }) (va_Pc [.ref (a 0), .int p1, .int p2] (PTs (dC, dI) cA a S)) (tQi (dC, dI) cA a r) (tX r.1) 2 12 (ad a 10) := by
  refine vx_ofW (cc := cX0_greedy) (maxL := 6) (ret := (some .int)) (by decide) rfl ?_
  intro p e s m args below meth c s₁ B hml htab hv
  obtain ⟨rfl, hP, hK, hEx⟩ := hv
  have hx := B.exec
  have hb := B.bytes
  have hr := B.returns
  have hts := atoms_spec (ws := wsX0_greedy) B.pre
  have hown : s.vm.findClass RX0 = some m.cls := findClass_of_methodNamed B.named
  have hlocks := B.notSynchronized
  have hS : va_S (ad a 10) s.heap s.heap [] := va_S.rf
  have hl := lv_entry ([.ref (a 0), .int p1, .int p2]) (n := 6) (Nat.le_of_ble_eq_true rfl)
  rw [lg_entry_eq]
  generalize (lg_sl ([.ref (a 0), .int p1, .int p2]) ++ List.replicate (6 - (lg_sl ([.ref (a 0), .int p1, .int p2])).length) Slot.unset).toArray = ls at hl ⊢
  have hl : lv_has ls 6 [(0, .ref (a 0)), (1, .int p1), (2, .int p2)] := hl
  have hW23 : ∀ (k23 : Nat) (x3 x4 : Int32) (ls : Array Slot), f_X0_greedy_23 S p1 p2 k23 x3 x4 = some r → lv_has ls 6 [(0, .ref (a 0)), (1, .int p1), (2, .int p2), (3, .int x3), (4, .int x4)] → W p l e (headSpec wsX0_greedy ({ frames := 7, cells := 2, slots := 12, locals := 110 })).room s m ([.ref (a 0), .int p1, .int p2] : List Value).toArray below meth c s.heap [] 2 12 (vx_MQ below (tQi (dC, dI) cA a r) (tX r.1) ([.ref (a 0), .int p1, .int p2] : List Value).toArray s 2 12 (ad a 10)) (F0 m 23 ls []) := by
    intro k23
    induction k23 with
    | zero =>
      intro x3 x4 ls hf hl
      rw [f_X0_greedy_23] at hf
      cases hf
    | succ k23 ih23 =>
      intro x3 x4 ls hf hl
      rw [f_X0_greedy_23] at hf
      refine lv_iload hx hb dX0_greedy_23 (lv_at hl 4 rfl) ?_
      refine lv_iload_n hx hb dX0_greedy_25 rfl (lv_at hl 2 rfl) ?_
      refine lv_icmp_ge (tgt := 58) hx hb dX0_greedy_26 (by decide) (fun c1 => ?_) (fun c1 => ?_)
      · rw [if_pos c1] at hf
        refine lv_iload_n hx hb dX0_greedy_58 rfl (lv_at hl 3 rfl) ?_
        have hf := Option.some.inj hf; subst hf
        refine vx_ret ?_
        refine W.widen (k := 2) (n := 12) (Nat.le_of_ble_eq_true rfl) (Nat.le_of_ble_eq_true rfl) ?_
        exact W.iret hx hb hr (fun t ht hW => ⟨⟨rfl, rfl, by rw [ht]; exact hP⟩, hS.F ht⟩) hS.2.2 dX0_greedy_59
      · rw [if_neg c1] at hf
        refine lv_aload_n hx hb dX0_greedy_29 rfl (lv_at hl 0 rfl) ?_
        refine lv_iload_n hx hb dX0_greedy_30 rfl (lv_at hl 1 rfl) ?_
        refine lv_iload_n hx hb dX0_greedy_31 rfl (lv_at hl 3 rfl) ?_
        obtain ⟨v2, hv2, hf⟩ := ob_some hf
        refine pu_V (As := [.int p1, .int x3]) (rest := []) ⟨hx, hb, hml, hown, hts⟩ (k_X0_greediest l dC dI cA a S p1 x3 _ hv2) gX0_greedy_X0_greediest rfl rfl rfl cd_X0_greediest (Nat.le_of_ble_eq_true rfl) (Nat.le_of_ble_eq_true rfl) (preX hK hP) rfl hl.1 rfl (Nat.le_of_ble_eq_true rfl) (Nat.le_of_ble_eq_true rfl) (Nat.le_of_ble_eq_true rfl) dX0_greedy_32 ?_
        refine lv_istore (lv' := [(5, .int v2), (0, .ref (a 0)), (1, .int p1), (2, .int p2), (3, .int x3), (4, .int x4)]) hx hb dX0_greedy_35 hl (by decide) rfl (fun ls hl => ?_)
        refine lv_iload hx hb dX0_greedy_37 (lv_at hl 0 rfl) ?_
        refine lv_iconst (v := (-1)) hx hb dX0_greedy_39 (by decide) ?_
        refine lv_icmp_ne (tgt := 45) hx hb dX0_greedy_40 (by decide) (fun c3 => ?_) (fun c3 => ?_)
        · rw [if_neg c3] at hf
          refine lv_iload_n hx hb dX0_greedy_45 rfl (lv_at hl 4 rfl) ?_
          refine lv_iload hx hb dX0_greedy_46 (lv_at hl 0 rfl) ?_
          refine pu_S (As := [.int x3, .int v2]) (rest := []) ⟨hx, hb, hml, hown, hts⟩ (k_X0_with l x3 v2 _ rfl) gX0_greedy_X0_with rfl rfl rfl cd_X0_with (Nat.le_of_ble_eq_true rfl) (Nat.le_of_ble_eq_true rfl) (preT) rfl hl.1 rfl (Nat.le_of_ble_eq_true rfl) (Nat.le_of_ble_eq_true rfl) (Nat.le_of_ble_eq_true rfl) dX0_greedy_48 ?_
          refine lv_topi (fun y4 ey4 => ?_)
          have hf := bnd_at hf ey4
          refine lv_istore_n (lv' := [(3, .int y4), (5, .int v2), (0, .ref (a 0)), (1, .int p1), (2, .int p2), (4, .int x4)]) hx hb dX0_greedy_51 rfl hl (by decide) rfl (fun ls hl => ?_)
          obtain ⟨y5, ey5⟩ : ∃ y : Int32, y = (x4 + 1) := ⟨_, rfl⟩
          have hf := bnd_at hf ey5
          refine lv_iinc (v := y5) (lv' := [(4, .int y5), (3, .int y4), (5, .int v2), (0, .ref (a 0)), (1, .int p1), (2, .int p2)]) hx hb dX0_greedy_52 hl (k := 5) rfl (by rw [ey5]; rfl) (by decide) rfl (fun ls hl => ?_)
          refine lv_goto (tgt := 23) hx hb dX0_greedy_55 (by decide) ?_
          exact ih23 y4 y5 ls hf (lv_sub hl [3, 4, 5, 1, 0] rfl)
        · rw [if_pos c3] at hf
          refine lv_iload_n hx hb dX0_greedy_43 rfl (lv_at hl 4 rfl) ?_
          have hf := Option.some.inj hf; subst hf
          refine vx_ret ?_
          refine W.widen (k := 2) (n := 12) (Nat.le_of_ble_eq_true rfl) (Nat.le_of_ble_eq_true rfl) ?_
          exact W.iret hx hb hr (fun t ht hW => ⟨⟨rfl, rfl, by rw [ht]; exact hP⟩, hS.F ht⟩) hS.2.2 dX0_greedy_44
  unfold f_X0_greedy at hf
  refine lv_aload_n hx hb dX0_greedy_0 rfl (lv_at hl 0 rfl) ?_
  refine lv_iload_n hx hb dX0_greedy_1 rfl (lv_at hl 1 rfl) ?_
  refine pu_V (As := [.int p1]) (rest := []) ⟨hx, hb, hml, hown, hts⟩ (k_X0_isFunction l dC dI cA a S p1 _ rfl) gX0_greedy_X0_isFunction rfl rfl rfl cd_X0_isFunction (Nat.le_of_ble_eq_true rfl) (Nat.le_of_ble_eq_true rfl) (preX hK hP) rfl hl.1 rfl (Nat.le_of_ble_eq_true rfl) (Nat.le_of_ble_eq_true rfl) (Nat.le_of_ble_eq_true rfl) dX0_greedy_2 ?_
  refine xt_S (As := [.int (f_X0_isFunction S p1)]) (rest := []) ⟨hx, hb, hml, hown, hts⟩ (k_X0_needIndex l hfl (f_X0_isFunction S p1)) gX0_greedy_X0_needIndex rfl rfl rfl cd_X0_needIndex (Nat.le_of_ble_eq_true rfl) (Nat.le_of_ble_eq_true rfl) (preE hEx) rfl hl.1 rfl (Nat.le_of_ble_eq_true rfl) (Nat.le_of_ble_eq_true rfl) (Nat.le_of_ble_eq_true rfl) dX0_greedy_5 (fun c6 E ce q9 H1 hE hz hk hce hcv hcl => ?_) (fun c6 => ?_)
  · rw [if_neg c6] at hf
    have hf := Option.some.inj hf; subst hf
    exact xt_out htab hlocks c6 hE hz hk hce hcv hcl (Nat.le_of_ble_eq_true rfl) (Nat.le_of_ble_eq_true rfl)
  rw [if_pos c6] at hf
  refine lv_iload_n hx hb dX0_greedy_8 rfl (lv_at hl 2 rfl) ?_
  refine lv_iconst (v := 0) hx hb dX0_greedy_9 (by decide) ?_
  refine lv_bipush (v := 6) hx hb dX0_greedy_10 (by decide) ?_
  refine pu_S (As := [.int p2, .int 0, .int 6]) (rest := []) ⟨hx, hb, hml, hown, hts⟩ (k_X0_isWithin l p2 0 6 _ rfl) gX0_greedy_X0_isWithin rfl rfl rfl cd_X0_isWithin (Nat.le_of_ble_eq_true rfl) (Nat.le_of_ble_eq_true rfl) (preT) rfl hl.1 rfl (Nat.le_of_ble_eq_true rfl) (Nat.le_of_ble_eq_true rfl) (Nat.le_of_ble_eq_true rfl) dX0_greedy_12 ?_
  refine xt_S (As := [.int (f_X0_isWithin p2 0 6)]) (rest := []) ⟨hx, hb, hml, hown, hts⟩ (k_X0_needArgument l hfl (f_X0_isWithin p2 0 6)) gX0_greedy_X0_needArgument rfl rfl rfl cd_X0_needArgument (Nat.le_of_ble_eq_true rfl) (Nat.le_of_ble_eq_true rfl) (preE hEx) rfl hl.1 rfl (Nat.le_of_ble_eq_true rfl) (Nat.le_of_ble_eq_true rfl) (Nat.le_of_ble_eq_true rfl) dX0_greedy_15 (fun c7 E ce q9 H1 hE hz hk hce hcv hcl => ?_) (fun c7 => ?_)
  · rw [if_neg c7] at hf
    have hf := Option.some.inj hf; subst hf
    exact xt_out htab hlocks c7 hE hz hk hce hcv hcl (Nat.le_of_ble_eq_true rfl) (Nat.le_of_ble_eq_true rfl)
  rw [if_pos c7] at hf
  refine lv_iconst (v := 0) hx hb dX0_greedy_18 (by decide) ?_
  refine lv_istore_n (lv' := [(3, .int 0), (0, .ref (a 0)), (1, .int p1), (2, .int p2)]) hx hb dX0_greedy_19 rfl hl (by decide) rfl (fun ls hl => ?_)
  refine lv_iconst (v := 0) hx hb dX0_greedy_20 (by decide) ?_
  refine lv_istore (lv' := [(4, .int 0), (3, .int 0), (0, .ref (a 0)), (1, .int p1), (2, .int p2)]) hx hb dX0_greedy_21 hl (by decide) rfl (fun ls hl => ?_)
  exact hW23 70 0 0 ls hf (lv_sub hl [2, 3, 4, 1, 0] rfl)
theorem cd_X0_best : yX0_best.cls = RX0 ∧ yX0_best.cls ≠ "java/lang/invoke/MethodHandle" ∧ yX0_best.cls ≠ "java/lang/invoke/VarHandle" ∧ (parseMethodDescriptor yX0_best.desc).map (fun d => d.parameters.length) = some 2 := by decide +kernel
set_option maxHeartbeats 4000000 in
set_option maxRecDepth 100000 in
theorem k_X0_best (l : Launch) (dC : Nat → ClassId) (dI : Nat → Nat → Nat) (cA : ClassId) (a : Nat → Nat) (S : St) (p1 : Int32) (p2 : Int32) (r : Nat × Int32 × St) (hf : f_X0_best S p1 p2 = some r) (hap : apart a 10) (hfl : l.stackTraces = false) : vx_Met l yX0_best wsX0_best ({ frames := 7, cells := 2, slots := 12, locals := 110 }) (va_Pc [.ref (a 0), .int p1, .int p2] (PTs (dC, dI) cA a S)) (tQi (dC, dI) cA a r) (tX r.1) 2 12 (ad a 10) := by
  refine vx_ofW (cc := cX0_best) (maxL := 5) (ret := (some .int)) (by decide) rfl ?_
  intro p e s m args below meth c s₁ B hml htab hv
  obtain ⟨rfl, hP, hK, hEx⟩ := hv
  have hx := B.exec
  have hb := B.bytes
  have hr := B.returns
  have hts := atoms_spec (ws := wsX0_best) B.pre
  have hown : s.vm.findClass RX0 = some m.cls := findClass_of_methodNamed B.named
  have hlocks := B.notSynchronized
  have hw0 := hts (.methodLink RX0 162 Lib.Math.max.name) (by decide +kernel)
  have hw1 := hts (.static Lib.Math.max.name) (by decide +kernel)
  have hw2 := hts (.initialized "java/lang/Math") (by decide +kernel)
  have hw3 := hts (.code Lib.Math.max.name Lib.Math.max.code 2 (some .int)) (by decide +kernel)
  have hS : va_S (ad a 10) s.heap s.heap [] := va_S.rf
  have hl := lv_entry ([.ref (a 0), .int p1, .int p2]) (n := 5) (Nat.le_of_ble_eq_true rfl)
  rw [lg_entry_eq]
  generalize (lg_sl ([.ref (a 0), .int p1, .int p2]) ++ List.replicate (5 - (lg_sl ([.ref (a 0), .int p1, .int p2])).length) Slot.unset).toArray = ls at hl ⊢
  have hl : lv_has ls 5 [(0, .ref (a 0)), (1, .int p1), (2, .int p2)] := hl
  have hW23 : ∀ (k23 : Nat) (x3 x4 : Int32) (ls : Array Slot), f_X0_best_23 S p1 p2 k23 x3 x4 = some r → lv_has ls 5 [(0, .ref (a 0)), (1, .int p1), (2, .int p2), (3, .int x3), (4, .int x4)] → W p l e (headSpec wsX0_best ({ frames := 7, cells := 2, slots := 12, locals := 110 })).room s m ([.ref (a 0), .int p1, .int p2] : List Value).toArray below meth c s.heap [] 2 12 (vx_MQ below (tQi (dC, dI) cA a r) (tX r.1) ([.ref (a 0), .int p1, .int p2] : List Value).toArray s 2 12 (ad a 10)) (F0 m 23 ls []) := by
    intro k23
    induction k23 with
    | zero =>
      intro x3 x4 ls hf hl
      rw [f_X0_best_23] at hf
      cases hf
    | succ k23 ih23 =>
      intro x3 x4 ls hf hl
      rw [f_X0_best_23] at hf
      refine lv_iload hx hb dX0_best_23 (lv_at hl 4 rfl) ?_
      refine lv_aload_n hx hb dX0_best_25 rfl (lv_at hl 0 rfl) ?_
      refine pu_V (As := []) (rest := [.int x4]) ⟨hx, hb, hml, hown, hts⟩ (k_X0_sets l dC dI cA a S  _ rfl) gX0_best_X0_sets rfl rfl rfl cd_X0_sets (Nat.le_of_ble_eq_true rfl) (Nat.le_of_ble_eq_true rfl) (preX hK hP) rfl hl.1 rfl (Nat.le_of_ble_eq_true rfl) (Nat.le_of_ble_eq_true rfl) (Nat.le_of_ble_eq_true rfl) dX0_best_26 ?_
      refine lv_icmp_ge (tgt := 59) hx hb dX0_best_29 (by decide) (fun c1 => ?_) (fun c1 => ?_)
      · rw [if_pos c1] at hf
        refine lv_iload_n hx hb dX0_best_59 rfl (lv_at hl 3 rfl) ?_
        have hf := Option.some.inj hf; subst hf
        refine vx_ret ?_
        refine W.widen (k := 2) (n := 12) (Nat.le_of_ble_eq_true rfl) (Nat.le_of_ble_eq_true rfl) ?_
        exact W.iret hx hb hr (fun t ht hW => ⟨⟨rfl, rfl, by rw [ht]; exact hP⟩, hS.F ht⟩) hS.2.2 dX0_best_60
      · rw [if_neg c1] at hf
        refine lv_iload hx hb dX0_best_32 (lv_at hl 4 rfl) ?_
        refine pu_S (As := [.int x4]) (rest := []) ⟨hx, hb, hml, hown, hts⟩ (k_J6_bitCount_0f7a4 l x4 _ rfl) gX0_best_J6_bitCount_0f7a4 rfl rfl rfl cd_J6_bitCount_0f7a4 (Nat.le_of_ble_eq_true rfl) (Nat.le_of_ble_eq_true rfl) (preT) rfl hl.1 rfl (Nat.le_of_ble_eq_true rfl) (Nat.le_of_ble_eq_true rfl) (Nat.le_of_ble_eq_true rfl) dX0_best_34 ?_
        refine lv_iload_n hx hb dX0_best_37 rfl (lv_at hl 2 rfl) ?_
        refine lv_icmp_gt (tgt := 53) hx hb dX0_best_38 (by decide) (fun c2 => ?_) (fun c2 => ?_)
        · rw [if_pos c2] at hf
          obtain ⟨y3, ey3⟩ : ∃ y : Int32, y = (x4 + 1) := ⟨_, rfl⟩
          have hf := bnd_at hf ey3
          refine lv_iinc (v := y3) (lv' := [(4, .int y3), (0, .ref (a 0)), (1, .int p1), (2, .int p2), (3, .int x3)]) hx hb dX0_best_53 hl (k := 4) rfl (by rw [ey3]; rfl) (by decide) rfl (fun ls hl => ?_)
          refine lv_goto (tgt := 23) hx hb dX0_best_56 (by decide) ?_
          exact ih23 x3 y3 ls hf (lv_sub hl [1, 2, 3, 4, 0] rfl)
        · rw [if_neg c2] at hf
          refine lv_iload_n hx hb dX0_best_41 rfl (lv_at hl 3 rfl) ?_
          refine lv_aload_n hx hb dX0_best_42 rfl (lv_at hl 0 rfl) ?_
          refine lv_iload_n hx hb dX0_best_43 rfl (lv_at hl 1 rfl) ?_
          refine lv_iload hx hb dX0_best_44 (lv_at hl 4 rfl) ?_
          refine pu_V (As := [.int p1, .int x4]) (rest := [.int x3]) ⟨hx, hb, hml, hown, hts⟩ (k_X0_valueOf l dC dI cA a S p1 x4 _ rfl) gX0_best_X0_valueOf rfl rfl rfl cd_X0_valueOf (Nat.le_of_ble_eq_true rfl) (Nat.le_of_ble_eq_true rfl) (preX hK hP) rfl hl.1 rfl (Nat.le_of_ble_eq_true rfl) (Nat.le_of_ble_eq_true rfl) (Nat.le_of_ble_eq_true rfl) dX0_best_46 ?_
          refine va_mmax hx hb (hml.trans hl.1.symm) hown hw0 hw1 hw2 hw3 (Nat.le_of_ble_eq_true rfl) (Nat.le_of_ble_eq_true rfl) (Nat.le_of_ble_eq_true rfl) (Nat.le_of_ble_eq_true rfl) dX0_best_49 ?_
          refine lv_topi (fun y4 ey4 => ?_)
          have hf := bnd_at hf ey4
          refine lv_istore_n (lv' := [(3, .int y4), (0, .ref (a 0)), (1, .int p1), (2, .int p2), (4, .int x4)]) hx hb dX0_best_52 rfl hl (by decide) rfl (fun ls hl => ?_)
          obtain ⟨y5, ey5⟩ : ∃ y : Int32, y = (x4 + 1) := ⟨_, rfl⟩
          have hf := bnd_at hf ey5
          refine lv_iinc (v := y5) (lv' := [(4, .int y5), (3, .int y4), (0, .ref (a 0)), (1, .int p1), (2, .int p2)]) hx hb dX0_best_53 hl (k := 4) rfl (by rw [ey5]; rfl) (by decide) rfl (fun ls hl => ?_)
          refine lv_goto (tgt := 23) hx hb dX0_best_56 (by decide) ?_
          exact ih23 y4 y5 ls hf (lv_sub hl [2, 3, 4, 1, 0] rfl)
  unfold f_X0_best at hf
  refine lv_aload_n hx hb dX0_best_0 rfl (lv_at hl 0 rfl) ?_
  refine lv_iload_n hx hb dX0_best_1 rfl (lv_at hl 1 rfl) ?_
  refine pu_V (As := [.int p1]) (rest := []) ⟨hx, hb, hml, hown, hts⟩ (k_X0_isFunction l dC dI cA a S p1 _ rfl) gX0_best_X0_isFunction rfl rfl rfl cd_X0_isFunction (Nat.le_of_ble_eq_true rfl) (Nat.le_of_ble_eq_true rfl) (preX hK hP) rfl hl.1 rfl (Nat.le_of_ble_eq_true rfl) (Nat.le_of_ble_eq_true rfl) (Nat.le_of_ble_eq_true rfl) dX0_best_2 ?_
  refine xt_S (As := [.int (f_X0_isFunction S p1)]) (rest := []) ⟨hx, hb, hml, hown, hts⟩ (k_X0_needIndex l hfl (f_X0_isFunction S p1)) gX0_best_X0_needIndex rfl rfl rfl cd_X0_needIndex (Nat.le_of_ble_eq_true rfl) (Nat.le_of_ble_eq_true rfl) (preE hEx) rfl hl.1 rfl (Nat.le_of_ble_eq_true rfl) (Nat.le_of_ble_eq_true rfl) (Nat.le_of_ble_eq_true rfl) dX0_best_5 (fun c6 E ce q9 H1 hE hz hk hce hcv hcl => ?_) (fun c6 => ?_)
  · rw [if_neg c6] at hf
    have hf := Option.some.inj hf; subst hf
    exact xt_out htab hlocks c6 hE hz hk hce hcv hcl (Nat.le_of_ble_eq_true rfl) (Nat.le_of_ble_eq_true rfl)
  rw [if_pos c6] at hf
  refine lv_iload_n hx hb dX0_best_8 rfl (lv_at hl 2 rfl) ?_
  refine lv_iconst (v := 0) hx hb dX0_best_9 (by decide) ?_
  refine lv_bipush (v := 6) hx hb dX0_best_10 (by decide) ?_
  refine pu_S (As := [.int p2, .int 0, .int 6]) (rest := []) ⟨hx, hb, hml, hown, hts⟩ (k_X0_isWithin l p2 0 6 _ rfl) gX0_best_X0_isWithin rfl rfl rfl cd_X0_isWithin (Nat.le_of_ble_eq_true rfl) (Nat.le_of_ble_eq_true rfl) (preT) rfl hl.1 rfl (Nat.le_of_ble_eq_true rfl) (Nat.le_of_ble_eq_true rfl) (Nat.le_of_ble_eq_true rfl) dX0_best_12 ?_
  refine xt_S (As := [.int (f_X0_isWithin p2 0 6)]) (rest := []) ⟨hx, hb, hml, hown, hts⟩ (k_X0_needArgument l hfl (f_X0_isWithin p2 0 6)) gX0_best_X0_needArgument rfl rfl rfl cd_X0_needArgument (Nat.le_of_ble_eq_true rfl) (Nat.le_of_ble_eq_true rfl) (preE hEx) rfl hl.1 rfl (Nat.le_of_ble_eq_true rfl) (Nat.le_of_ble_eq_true rfl) (Nat.le_of_ble_eq_true rfl) dX0_best_15 (fun c7 E ce q9 H1 hE hz hk hce hcv hcl => ?_) (fun c7 => ?_)
  · rw [if_neg c7] at hf
    have hf := Option.some.inj hf; subst hf
    exact xt_out htab hlocks c7 hE hz hk hce hcv hcl (Nat.le_of_ble_eq_true rfl) (Nat.le_of_ble_eq_true rfl)
  rw [if_pos c7] at hf
  refine lv_iconst (v := 0) hx hb dX0_best_18 (by decide) ?_
  refine lv_istore_n (lv' := [(3, .int 0), (0, .ref (a 0)), (1, .int p1), (2, .int p2)]) hx hb dX0_best_19 rfl hl (by decide) rfl (fun ls hl => ?_)
  refine lv_iconst (v := 0) hx hb dX0_best_20 (by decide) ?_
  refine lv_istore (lv' := [(4, .int 0), (3, .int 0), (0, .ref (a 0)), (1, .int p1), (2, .int p2)]) hx hb dX0_best_21 hl (by decide) rfl (fun ls hl => ?_)
  exact hW23 70 0 0 ls hf (lv_sub hl [2, 3, 4, 1, 0] rfl)
theorem cd_X0_share : yX0_share.cls = RX0 ∧ yX0_share.cls ≠ "java/lang/invoke/MethodHandle" ∧ yX0_share.cls ≠ "java/lang/invoke/VarHandle" ∧ (parseMethodDescriptor yX0_share.desc).map (fun d => d.parameters.length) = some 2 := by decide +kernel
set_option maxHeartbeats 4000000 in
set_option maxRecDepth 100000 in
theorem k_X0_share (l : Launch) (dC : Nat → ClassId) (dI : Nat → Nat → Nat) (cA : ClassId) (a : Nat → Nat) (S : St) (p1 : Int32) (p2 : Int32) (r : Nat × Int32 × St) (hf : f_X0_share S p1 p2 = some r) (hap : apart a 10) (hfl : l.stackTraces = false) : vx_Met l yX0_share wsX0_share ({ frames := 7, cells := 1, slots := 6, locals := 110 }) (va_Pc [.ref (a 0), .int p1, .int p2] (PTs (dC, dI) cA a S)) (tQi (dC, dI) cA a r) (tX r.1) 1 6 (ad a 10) := by
  refine vx_ofW (cc := cX0_share) (maxL := 7) (ret := (some .int)) (by decide) rfl ?_
  intro p e s m args below meth c s₁ B hml htab hv
  obtain ⟨rfl, hP, hK, hEx⟩ := hv
  have hx := B.exec
  have hb := B.bytes
  have hr := B.returns
  have hts := atoms_spec (ws := wsX0_share) B.pre
  have hown : s.vm.findClass RX0 = some m.cls := findClass_of_methodNamed B.named
  have hlocks := B.notSynchronized
  have hin : ∀ w ∈ u_ws RX0 TX0 12, w ∈ wsX0_share := by decide +kernel
  have hw0 := hts (.fieldLink RX0 9 "Submodulary" "elements" "I") (by decide +kernel)
  have hS : va_S (ad a 10) s.heap s.heap [] := va_S.rf
  have hl := lv_entry ([.ref (a 0), .int p1, .int p2]) (n := 7) (Nat.le_of_ble_eq_true rfl)
  rw [lg_entry_eq]
  generalize (lg_sl ([.ref (a 0), .int p1, .int p2]) ++ List.replicate (7 - (lg_sl ([.ref (a 0), .int p1, .int p2])).length) Slot.unset).toArray = ls at hl ⊢
  have hl : lv_has ls 7 [(0, .ref (a 0)), (1, .int p1), (2, .int p2)] := hl
  have hW29 : ∀ (k29 : Nat) (x3 x4 : Int32) (ls : Array Slot), f_X0_share_29 S p1 p2 k29 x3 x4 = some r → lv_has ls 7 [(0, .ref (a 0)), (1, .int p1), (2, .int p2), (3, .int x3), (4, .int x4)] → W p l e (headSpec wsX0_share ({ frames := 7, cells := 1, slots := 6, locals := 110 })).room s m ([.ref (a 0), .int p1, .int p2] : List Value).toArray below meth c s.heap [] 1 6 (vx_MQ below (tQi (dC, dI) cA a r) (tX r.1) ([.ref (a 0), .int p1, .int p2] : List Value).toArray s 1 6 (ad a 10)) (F0 m 29 ls []) := by
    intro k29
    induction k29 with
    | zero =>
      intro x3 x4 ls hf hl
      rw [f_X0_share_29] at hf
      cases hf
    | succ k29 ih29 =>
      intro x3 x4 ls hf hl
      rw [f_X0_share_29] at hf
      refine lv_iload hx hb dX0_share_29 (lv_at hl 4 rfl) ?_
      refine lv_aload_n hx hb dX0_share_31 rfl (lv_at hl 0 rfl) ?_
      refine pu_V (As := []) (rest := [.int x4]) ⟨hx, hb, hml, hown, hts⟩ (k_X0_sets l dC dI cA a S  _ rfl) gX0_share_X0_sets rfl rfl rfl cd_X0_sets (Nat.le_of_ble_eq_true rfl) (Nat.le_of_ble_eq_true rfl) (preX hK hP) rfl hl.1 rfl (Nat.le_of_ble_eq_true rfl) (Nat.le_of_ble_eq_true rfl) (Nat.le_of_ble_eq_true rfl) dX0_share_32 ?_
      refine lv_icmp_ge (tgt := 94) hx hb dX0_share_35 (by decide) (fun c1 => ?_) (fun c1 => ?_)
      · rw [if_pos c1] at hf
        refine lv_iload_n hx hb dX0_share_94 rfl (lv_at hl 3 rfl) ?_
        have hf := Option.some.inj hf; subst hf
        refine vx_ret ?_
        refine W.widen (k := 1) (n := 6) (Nat.le_of_ble_eq_true rfl) (Nat.le_of_ble_eq_true rfl) ?_
        exact W.iret hx hb hr (fun t ht hW => ⟨⟨rfl, rfl, by rw [ht]; exact hP⟩, hS.F ht⟩) hS.2.2 dX0_share_95
      · rw [if_neg c1] at hf
        refine lv_iload hx hb dX0_share_38 (lv_at hl 4 rfl) ?_
        refine lv_iload_n hx hb dX0_share_40 rfl (lv_at hl 2 rfl) ?_
        refine pu_S (As := [.int x4, .int p2]) (rest := []) ⟨hx, hb, hml, hown, hts⟩ (k_X0_has l x4 p2 _ rfl) gX0_share_X0_has rfl rfl rfl cd_X0_has (Nat.le_of_ble_eq_true rfl) (Nat.le_of_ble_eq_true rfl) (preT) rfl hl.1 rfl (Nat.le_of_ble_eq_true rfl) (Nat.le_of_ble_eq_true rfl) (Nat.le_of_ble_eq_true rfl) dX0_share_41 ?_
        refine lv_if_ne (tgt := 88) hx hb dX0_share_44 (by decide) (fun c2 => ?_) (fun c2 => ?_)
        · rw [if_neg c2] at hf
          obtain ⟨y3, ey3⟩ : ∃ y : Int32, y = (x4 + 1) := ⟨_, rfl⟩
          have hf := bnd_at hf ey3
          refine lv_iinc (v := y3) (lv' := [(4, .int y3), (0, .ref (a 0)), (1, .int p1), (2, .int p2), (3, .int x3)]) hx hb dX0_share_88 hl (k := 4) rfl (by rw [ey3]; rfl) (by decide) rfl (fun ls hl => ?_)
          refine lv_goto (tgt := 29) hx hb dX0_share_91 (by decide) ?_
          exact ih29 x3 y3 ls hf (lv_sub hl [1, 2, 3, 4, 0] rfl)
        · rw [if_pos c2] at hf
          refine lv_iload hx hb dX0_share_47 (lv_at hl 4 rfl) ?_
          refine pu_S (As := [.int x4]) (rest := []) ⟨hx, hb, hml, hown, hts⟩ (k_J6_bitCount_0f7a4 l x4 _ rfl) gX0_share_J6_bitCount_0f7a4 rfl rfl rfl cd_J6_bitCount_0f7a4 (Nat.le_of_ble_eq_true rfl) (Nat.le_of_ble_eq_true rfl) (preT) rfl hl.1 rfl (Nat.le_of_ble_eq_true rfl) (Nat.le_of_ble_eq_true rfl) (Nat.le_of_ble_eq_true rfl) dX0_share_49 ?_
          refine lv_topi (fun y4 ey4 => ?_)
          have hf := bnd_at hf ey4
          refine lv_istore (lv' := [(5, .int y4), (0, .ref (a 0)), (1, .int p1), (2, .int p2), (3, .int x3), (4, .int x4)]) hx hb dX0_share_52 hl (by decide) rfl (fun ls hl => ?_)
          refine lv_iload hx hb dX0_share_54 (lv_at hl 0 rfl) ?_
          obtain ⟨v5, hv5, hf⟩ := ob_some hf
          refine pu_S (As := [.int y4]) (rest := []) ⟨hx, hb, hml, hown, hts⟩ (k_X0_ordersOf l y4 _ hv5) gX0_share_X0_ordersOf rfl rfl rfl cd_X0_ordersOf (Nat.le_of_ble_eq_true rfl) (Nat.le_of_ble_eq_true rfl) (preT) rfl hl.1 rfl (Nat.le_of_ble_eq_true rfl) (Nat.le_of_ble_eq_true rfl) (Nat.le_of_ble_eq_true rfl) dX0_share_56 ?_
          refine lv_aload_n hx hb dX0_share_59 rfl (lv_at hl 1 rfl) ?_
          refine gfX hx hb hts hin hown hK hP 0 (by decide) hw0 rfl rfl dX0_share_60 ?_
          refine lv_iconst (v := 1) hx hb dX0_share_63 (by decide) ?_
          refine lv_isub hx hb dX0_share_64 ?_
          refine lv_iload hx hb dX0_share_65 (lv_at hl 0 rfl) ?_
          refine lv_isub hx hb dX0_share_67 ?_
          obtain ⟨v6, hv6, hf⟩ := ob_some hf
          refine pu_S (As := [.int (((S.1 0) - 1) - y4)]) (rest := [.int v5]) ⟨hx, hb, hml, hown, hts⟩ (k_X0_ordersOf l (((S.1 0) - 1) - y4) _ hv6) gX0_share_X0_ordersOf rfl rfl rfl cd_X0_ordersOf (Nat.le_of_ble_eq_true rfl) (Nat.le_of_ble_eq_true rfl) (preT) rfl hl.1 rfl (Nat.le_of_ble_eq_true rfl) (Nat.le_of_ble_eq_true rfl) (Nat.le_of_ble_eq_true rfl) dX0_share_68 ?_
          refine lv_imul hx hb dX0_share_71 ?_
          refine lv_topi (fun y7 ey7 => ?_)
          have hf := bnd_at hf ey7
          refine lv_istore (lv' := [(6, .int y7), (5, .int y4), (0, .ref (a 0)), (1, .int p1), (2, .int p2), (3, .int x3), (4, .int x4)]) hx hb dX0_share_72 hl (by decide) rfl (fun ls hl => ?_)
          refine lv_iload_n hx hb dX0_share_74 rfl (lv_at hl 5 rfl) ?_
          refine lv_iload hx hb dX0_share_75 (lv_at hl 0 rfl) ?_
          refine lv_aload_n hx hb dX0_share_77 rfl (lv_at hl 2 rfl) ?_
          refine lv_iload_n hx hb dX0_share_78 rfl (lv_at hl 3 rfl) ?_
          refine lv_iload hx hb dX0_share_79 (lv_at hl 6 rfl) ?_
          refine lv_iload_n hx hb dX0_share_81 rfl (lv_at hl 4 rfl) ?_
          refine pu_V (As := [.int p1, .int x4, .int p2]) (rest := [.int y7, .int x3]) ⟨hx, hb, hml, hown, hts⟩ (k_X0_gain l dC dI cA a S p1 x4 p2 _ rfl) gX0_share_X0_gain rfl rfl rfl cd_X0_gain (Nat.le_of_ble_eq_true rfl) (Nat.le_of_ble_eq_true rfl) (preX hK hP) rfl hl.1 rfl (Nat.le_of_ble_eq_true rfl) (Nat.le_of_ble_eq_true rfl) (Nat.le_of_ble_eq_true rfl) dX0_share_82 ?_
          refine lv_imul hx hb dX0_share_85 ?_
          refine lv_iadd hx hb dX0_share_86 ?_
          refine lv_topi (fun y8 ey8 => ?_)
          have hf := bnd_at hf ey8
          refine lv_istore_n (lv' := [(3, .int y8), (6, .int y7), (5, .int y4), (0, .ref (a 0)), (1, .int p1), (2, .int p2), (4, .int x4)]) hx hb dX0_share_87 rfl hl (by decide) rfl (fun ls hl => ?_)
          obtain ⟨y9, ey9⟩ : ∃ y : Int32, y = (x4 + 1) := ⟨_, rfl⟩
          have hf := bnd_at hf ey9
          refine lv_iinc (v := y9) (lv' := [(4, .int y9), (3, .int y8), (6, .int y7), (5, .int y4), (0, .ref (a 0)), (1, .int p1), (2, .int p2)]) hx hb dX0_share_88 hl (k := 6) rfl (by rw [ey9]; rfl) (by decide) rfl (fun ls hl => ?_)
          refine lv_goto (tgt := 29) hx hb dX0_share_91 (by decide) ?_
          exact ih29 y8 y9 ls hf (lv_sub hl [4, 5, 6, 1, 0] rfl)
  have hW21 : ∀ (s0 : Int32) (ls : Array Slot), f_X0_share_21 S p1 p2 s0 = some r → lv_has ls 7 [(0, .ref (a 0)), (1, .int p1), (2, .int p2)] → W p l e (headSpec wsX0_share ({ frames := 7, cells := 1, slots := 6, locals := 110 })).room s m ([.ref (a 0), .int p1, .int p2] : List Value).toArray below meth c s.heap [] 0 0 (vx_MQ below (tQi (dC, dI) cA a r) (tX r.1) ([.ref (a 0), .int p1, .int p2] : List Value).toArray s 1 6 (ad a 10)) (F0 m 21 ls [.int s0]) := by
    intro s0 ls hf hl
    unfold f_X0_share_21 at hf
    refine xt_S (As := [.int s0]) (rest := []) ⟨hx, hb, hml, hown, hts⟩ (k_X0_needIndex l hfl s0) gX0_share_X0_needIndex rfl rfl rfl cd_X0_needIndex (Nat.le_of_ble_eq_true rfl) (Nat.le_of_ble_eq_true rfl) (preE hEx) rfl hl.1 rfl (Nat.le_of_ble_eq_true rfl) (Nat.le_of_ble_eq_true rfl) (Nat.le_of_ble_eq_true rfl) dX0_share_21 (fun c10 E ce q9 H1 hE hz hk hce hcv hcl => ?_) (fun c10 => ?_)
    · rw [if_neg c10] at hf
      have hf := Option.some.inj hf; subst hf
      exact xt_out htab hlocks c10 hE hz hk hce hcv hcl (Nat.le_of_ble_eq_true rfl) (Nat.le_of_ble_eq_true rfl)
    rw [if_pos c10] at hf
    refine lv_iconst (v := 0) hx hb dX0_share_24 (by decide) ?_
    refine lv_istore_n (lv' := [(3, .int 0), (0, .ref (a 0)), (1, .int p1), (2, .int p2)]) hx hb dX0_share_25 rfl hl (by decide) rfl (fun ls hl => ?_)
    refine lv_iconst (v := 0) hx hb dX0_share_26 (by decide) ?_
    refine lv_istore (lv' := [(4, .int 0), (3, .int 0), (0, .ref (a 0)), (1, .int p1), (2, .int p2)]) hx hb dX0_share_27 hl (by decide) rfl (fun ls hl => ?_)
    exact hW29 70 0 0 ls hf (lv_sub hl [2, 3, 4, 1, 0] rfl)
  unfold f_X0_share at hf
  refine lv_aload_n hx hb dX0_share_0 rfl (lv_at hl 0 rfl) ?_
  refine lv_iload_n hx hb dX0_share_1 rfl (lv_at hl 1 rfl) ?_
  refine pu_V (As := [.int p1]) (rest := []) ⟨hx, hb, hml, hown, hts⟩ (k_X0_isFunction l dC dI cA a S p1 _ rfl) gX0_share_X0_isFunction rfl rfl rfl cd_X0_isFunction (Nat.le_of_ble_eq_true rfl) (Nat.le_of_ble_eq_true rfl) (preX hK hP) rfl hl.1 rfl (Nat.le_of_ble_eq_true rfl) (Nat.le_of_ble_eq_true rfl) (Nat.le_of_ble_eq_true rfl) dX0_share_2 ?_
  refine lv_if_eq (tgt := 20) hx hb dX0_share_5 (by decide) (fun c11 => ?_) (fun c11 => ?_)
  · rw [if_pos c11] at hf
    refine lv_iconst (v := 0) hx hb dX0_share_20 (by decide) ?_
    exact hW21 0 ls hf (lv_sub hl [0, 1, 2] rfl)
  · rw [if_neg c11] at hf
    refine lv_aload_n hx hb dX0_share_8 rfl (lv_at hl 0 rfl) ?_
    refine lv_iload_n hx hb dX0_share_9 rfl (lv_at hl 2 rfl) ?_
    refine pu_V (As := [.int p2]) (rest := []) ⟨hx, hb, hml, hown, hts⟩ (k_X0_isElement l dC dI cA a S p2 _ rfl) gX0_share_X0_isElement rfl rfl rfl cd_X0_isElement (Nat.le_of_ble_eq_true rfl) (Nat.le_of_ble_eq_true rfl) (preX hK hP) rfl hl.1 rfl (Nat.le_of_ble_eq_true rfl) (Nat.le_of_ble_eq_true rfl) (Nat.le_of_ble_eq_true rfl) dX0_share_10 ?_
    refine lv_if_eq (tgt := 20) hx hb dX0_share_13 (by decide) (fun c12 => ?_) (fun c12 => ?_)
    · rw [if_pos c12] at hf
      refine lv_iconst (v := 0) hx hb dX0_share_20 (by decide) ?_
      exact hW21 0 ls hf (lv_sub hl [0, 1, 2] rfl)
    · rw [if_neg c12] at hf
      refine lv_iconst (v := 1) hx hb dX0_share_16 (by decide) ?_
      refine lv_goto (tgt := 21) hx hb dX0_share_17 (by decide) ?_
      exact hW21 1 ls hf (lv_sub hl [0, 1, 2] rfl)
theorem cd_X0_shareAnew : yX0_shareAnew.cls = RX0 ∧ yX0_shareAnew.cls ≠ "java/lang/invoke/MethodHandle" ∧ yX0_shareAnew.cls ≠ "java/lang/invoke/VarHandle" ∧ (parseMethodDescriptor yX0_shareAnew.desc).map (fun d => d.parameters.length) = some 2 := by decide +kernel
set_option maxHeartbeats 4000000 in
set_option maxRecDepth 100000 in
theorem k_X0_shareAnew (l : Launch) (dC : Nat → ClassId) (dI : Nat → Nat → Nat) (cA : ClassId) (a : Nat → Nat) (S : St) (p1 : Int32) (p2 : Int32) (r : Nat × Int32 × St) (hf : f_X0_shareAnew S p1 p2 = some r) (hap : apart a 10) (hfl : l.stackTraces = false) : vx_Met l yX0_shareAnew wsX0_shareAnew ({ frames := 11, cells := 1, slots := 6, locals := 290 }) (va_Pc [.ref (a 0), .int p1, .int p2] (PTs (dC, dI) cA a S)) (tQi (dC, dI) cA a r) (tX r.1) 1 6 (ad a 10) := by
  refine vx_ofW (cc := cX0_shareAnew) (maxL := 3) (ret := (some .int)) (by decide) rfl ?_
  intro p e s m args below meth c s₁ B hml htab hv
  obtain ⟨rfl, hP, hK, hEx⟩ := hv
  have hx := B.exec
  have hb := B.bytes
  have hr := B.returns
  have hts := atoms_spec (ws := wsX0_shareAnew) B.pre
  have hown : s.vm.findClass RX0 = some m.cls := findClass_of_methodNamed B.named
  have hlocks := B.notSynchronized
  have hS : va_S (ad a 10) s.heap s.heap [] := va_S.rf
  have hl := lv_entry ([.ref (a 0), .int p1, .int p2]) (n := 3) (Nat.le_of_ble_eq_true rfl)
  rw [lg_entry_eq]
  generalize (lg_sl ([.ref (a 0), .int p1, .int p2]) ++ List.replicate (3 - (lg_sl ([.ref (a 0), .int p1, .int p2])).length) Slot.unset).toArray = ls at hl ⊢
  have hl : lv_has ls 3 [(0, .ref (a 0)), (1, .int p1), (2, .int p2)] := hl
  have hW21 : ∀ (s0 : Int32) (ls : Array Slot), f_X0_shareAnew_21 S p1 p2 s0 = some r → lv_has ls 3 [(0, .ref (a 0)), (1, .int p1), (2, .int p2)] → W p l e (headSpec wsX0_shareAnew ({ frames := 11, cells := 1, slots := 6, locals := 290 })).room s m ([.ref (a 0), .int p1, .int p2] : List Value).toArray below meth c s.heap [] 0 0 (vx_MQ below (tQi (dC, dI) cA a r) (tX r.1) ([.ref (a 0), .int p1, .int p2] : List Value).toArray s 1 6 (ad a 10)) (F0 m 21 ls [.int s0]) := by
    intro s0 ls hf hl
    unfold f_X0_shareAnew_21 at hf
    refine xt_S (As := [.int s0]) (rest := []) ⟨hx, hb, hml, hown, hts⟩ (k_X0_needIndex l hfl s0) gX0_shareAnew_X0_needIndex rfl rfl rfl cd_X0_needIndex (Nat.le_of_ble_eq_true rfl) (Nat.le_of_ble_eq_true rfl) (preE hEx) rfl hl.1 rfl (Nat.le_of_ble_eq_true rfl) (Nat.le_of_ble_eq_true rfl) (Nat.le_of_ble_eq_true rfl) dX0_shareAnew_21 (fun c1 E ce q9 H1 hE hz hk hce hcv hcl => ?_) (fun c1 => ?_)
    · rw [if_neg c1] at hf
      have hf := Option.some.inj hf; subst hf
      exact xt_out htab hlocks c1 hE hz hk hce hcv hcl (Nat.le_of_ble_eq_true rfl) (Nat.le_of_ble_eq_true rfl)
    rw [if_pos c1] at hf
    refine lv_aload_n hx hb dX0_shareAnew_24 rfl (lv_at hl 0 rfl) ?_
    refine lv_iload_n hx hb dX0_shareAnew_25 rfl (lv_at hl 1 rfl) ?_
    refine lv_iload_n hx hb dX0_shareAnew_26 rfl (lv_at hl 2 rfl) ?_
    refine lv_iconst (v := 0) hx hb dX0_shareAnew_27 (by decide) ?_
    refine lv_iconst (v := 0) hx hb dX0_shareAnew_28 (by decide) ?_
    refine lv_iconst (v := 0) hx hb dX0_shareAnew_29 (by decide) ?_
    obtain ⟨v2, hv2, hf⟩ := ob_some hf
    refine pu_V (As := [.int p1, .int p2, .int 0, .int 0, .int 0]) (rest := []) ⟨hx, hb, hml, hown, hts⟩ (k_X0_gainsOverOrders l dC dI cA a S 7 p1 p2 0 0 0 _ hv2) gX0_shareAnew_X0_gainsOverOrders rfl rfl rfl cd_X0_gainsOverOrders (Nat.le_of_ble_eq_true rfl) (Nat.le_of_ble_eq_true rfl) (preX hK hP) rfl hl.1 rfl (Nat.le_of_ble_eq_true rfl) (Nat.le_of_ble_eq_true rfl) (Nat.le_of_ble_eq_true rfl) dX0_shareAnew_30 ?_
    have hf := Option.some.inj hf; subst hf
    refine vx_ret ?_
    refine W.widen (k := 1) (n := 6) (Nat.le_of_ble_eq_true rfl) (Nat.le_of_ble_eq_true rfl) ?_
    exact W.iret hx hb hr (fun t ht hW => ⟨⟨rfl, rfl, by rw [ht]; exact hP⟩, hS.F ht⟩) hS.2.2 dX0_shareAnew_33
  unfold f_X0_shareAnew at hf
  refine lv_aload_n hx hb dX0_shareAnew_0 rfl (lv_at hl 0 rfl) ?_
  refine lv_iload_n hx hb dX0_shareAnew_1 rfl (lv_at hl 1 rfl) ?_
  refine pu_V (As := [.int p1]) (rest := []) ⟨hx, hb, hml, hown, hts⟩ (k_X0_isFunction l dC dI cA a S p1 _ rfl) gX0_shareAnew_X0_isFunction rfl rfl rfl cd_X0_isFunction (Nat.le_of_ble_eq_true rfl) (Nat.le_of_ble_eq_true rfl) (preX hK hP) rfl hl.1 rfl (Nat.le_of_ble_eq_true rfl) (Nat.le_of_ble_eq_true rfl) (Nat.le_of_ble_eq_true rfl) dX0_shareAnew_2 ?_
  refine lv_if_eq (tgt := 20) hx hb dX0_shareAnew_5 (by decide) (fun c3 => ?_) (fun c3 => ?_)
  · rw [if_pos c3] at hf
    refine lv_iconst (v := 0) hx hb dX0_shareAnew_20 (by decide) ?_
    exact hW21 0 ls hf (lv_sub hl [0, 1, 2] rfl)
  · rw [if_neg c3] at hf
    refine lv_aload_n hx hb dX0_shareAnew_8 rfl (lv_at hl 0 rfl) ?_
    refine lv_iload_n hx hb dX0_shareAnew_9 rfl (lv_at hl 2 rfl) ?_
    refine pu_V (As := [.int p2]) (rest := []) ⟨hx, hb, hml, hown, hts⟩ (k_X0_isElement l dC dI cA a S p2 _ rfl) gX0_shareAnew_X0_isElement rfl rfl rfl cd_X0_isElement (Nat.le_of_ble_eq_true rfl) (Nat.le_of_ble_eq_true rfl) (preX hK hP) rfl hl.1 rfl (Nat.le_of_ble_eq_true rfl) (Nat.le_of_ble_eq_true rfl) (Nat.le_of_ble_eq_true rfl) dX0_shareAnew_10 ?_
    refine lv_if_eq (tgt := 20) hx hb dX0_shareAnew_13 (by decide) (fun c4 => ?_) (fun c4 => ?_)
    · rw [if_pos c4] at hf
      refine lv_iconst (v := 0) hx hb dX0_shareAnew_20 (by decide) ?_
      exact hW21 0 ls hf (lv_sub hl [0, 1, 2] rfl)
    · rw [if_neg c4] at hf
      refine lv_iconst (v := 1) hx hb dX0_shareAnew_16 (by decide) ?_
      refine lv_goto (tgt := 21) hx hb dX0_shareAnew_17 (by decide) ?_
      exact hW21 1 ls hf (lv_sub hl [0, 1, 2] rfl)

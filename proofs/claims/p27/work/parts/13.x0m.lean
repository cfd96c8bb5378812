def f_X0_reachFirst_13 (p1 : Int32) : Nat → St → Int32 → Int32 → Option (Int32 × St)
  | 0, _, _, _ => none
  | k + 1, S, x2, x3 => (if (S.1 0) ≤ x3 then some (x2, S) else ((f_X0_hasRoom S 0 x3 p1).bind fun v2 => (if v2 = 0 then (bnd (x3 + 1) fun y4 => ((f_X0_reachFirst_13 p1 k) S x2 y4)) else (bnd (x2 + 1) fun y5 => (bnd (x3 + 1) fun y6 => ((f_X0_reachFirst_13 p1 k) (sA (sA S 7 (putv 6 (S.2 7) x3 (-1))) 8 (putv 6 ((sA S 7 (putv 6 (S.2 7) x3 (-1))).2 8) x2 x3)) y5 y6))))))
def f_X0_reachFirst (S : St) (p1 : Int32) : Option (Int32 × St) := (f_X0_reachFirst_13 p1 70 (sA S 7 (filv 6 (S.2 7) (-2))) 0 0)
def f_X0_reachFrom_6 (p1 p2 p3 : Int32) : Nat → St → Int32 → Int32 → Option (Int32 × St)
  | 0, _, _, _ => none
  | k + 1, S, x4, x5 => (if (S.1 0) ≤ x5 then some (x4, S) else (if (atv 6 (S.2 7) x5) = (-2) then (if (f_X0_isStep S p1 x5 p2) = 0 then (bnd (x5 + 1) fun y5 => ((f_X0_reachFrom_6 p1 p2 p3 k) S x4 y5)) else (bnd (x4 + 1) fun y6 => (bnd (x5 + 1) fun y7 => ((f_X0_reachFrom_6 p1 p2 p3 k) (sA (sA S 7 (putv 6 (S.2 7) x5 p1)) 8 (putv 6 ((sA S 7 (putv 6 (S.2 7) x5 p1)).2 8) x4 x5)) y6 y7)))) else (bnd (x5 + 1) fun y3 => ((f_X0_reachFrom_6 p1 p2 p3 k) S x4 y3))))
def f_X0_reachFrom (S : St) (p1 : Int32) (p2 : Int32) (p3 : Int32) : Option (Int32 × St) := (f_X0_reachFrom_6 p1 p2 p3 70 S p3 0)
def f_X0_endOfPath_8 (p1 : Int32) : Nat → St → Int32 → Int32 → Option (Int32 × St)
  | 0, _, _, _ => none
  | k + 1, S, x2, x3 => (if x2 ≤ x3 then some ((-1), S) else (if 6 ≤ x3 then some ((-1), S) else (bnd (atv 6 (S.2 8) x3) fun y3 => ((f_X0_hasRoom S 1 y3 p1).bind fun v4 => (if v4 = 0 then ((f_X0_reachFrom S y3 p1 x2).bind fun q6 => (bnd q6.1 fun y7 => (bnd (x3 + 1) fun y8 => ((f_X0_endOfPath_8 p1 k) q6.2 y7 y8)))) else some (y3, S))))))
def f_X0_endOfPath (S : St) (p1 : Int32) : Option (Int32 × St) := ((f_X0_reachFirst S p1).bind fun q1 => (bnd q1.1 fun y2 => (f_X0_endOfPath_8 p1 70 q1.2 y2 0)))
def f_X0_common_4 : Nat → St → Int32 → Int32 → Option (Int32 × St)
  | 0, _, _, _ => none
  | k + 1, S, x1, x2 => (if (S.1 0) ≤ x2 then some ((f_J6_bitCount_0f7a4 x1), S) else ((f_X0_endOfPath S x1).bind fun q2 => (bnd q2.1 fun y3 => (if y3 = (-1) then some ((f_J6_bitCount_0f7a4 x1), q2.2) else ((f_X0_flippedAlong q2.2 x1 y3).bind fun v5 => (bnd (x2 + 1) fun y6 => ((f_X0_common_4 k) q2.2 v5 y6)))))))
def f_X0_common (S : St) : Option (Int32 × St) := (f_X0_common_4 70 S 0 0)
def f_X0_putNew (S : St) (p1 : Int32) (p2 : Int32) : Option St := some (sA S 5 (putv 512 (S.2 5) (((S.1 1) * 64) + p1) p2))
def f_X0_countNew (S : St) : Option (Int32 × St) := (bnd (S.1 1) fun y1 => some (y1, (sS S 1 ((S.1 1) + 1))))
theorem cd_X0_reachFirst : yX0_reachFirst.cls = RX0 ∧ yX0_reachFirst.cls ≠ "java/lang/invoke/MethodHandle" ∧ yX0_reachFirst.cls ≠ "java/lang/invoke/VarHandle" ∧ (parseMethodDescriptor yX0_reachFirst.desc).map (fun d => d.parameters.length) = some 1 := by decide +kernel
set_option maxHeartbeats 4000000 in
set_option maxRecDepth 100000 in
theorem k_X0_reachFirst (l : Launch) (dC : Nat → ClassId) (dI : Nat → Nat → Nat) (cA : ClassId) (a : Nat → Nat) (S : St) (p1 : Int32) (r : Int32 × St) (hf : f_X0_reachFirst S p1 = some r) (hap : apart a 10) : Met l yX0_reachFirst wsX0_reachFirst ({ frames := 4, cells := 0, slots := 0, locals := 92 }) (va_Pc [.ref (a 0), .int p1] (PXs (dC, dI) cA a S)) (mXi (dC, dI) cA a r.1 r.2) 0 0 (ad a 10) := by
  refine Met.ofW (cc := cX0_reachFirst) (maxL := 4) (ret := (some .int)) (by decide) rfl ?_
  intro p e s m args below meth c s₁ B hml hv
  obtain ⟨rfl, hP, hK⟩ := hv
  have hx := B.exec
  have hb := B.bytes
  have hr := B.returns
  have hts := atoms_spec (ws := wsX0_reachFirst) B.pre
  have hown : s.vm.findClass RX0 = some m.cls := findClass_of_methodNamed B.named
  have hlocks := B.notSynchronized
  have hin : ∀ w ∈ u_ws RX0 TX0 12, w ∈ wsX0_reachFirst := by decide +kernel
  have hw0 := hts (.fieldLink RX0 9 "Submodulary" "elements" "I") (by decide +kernel)
  have hw1 := hts (.fieldLink RX0 41 "Submodulary" "cameFrom" "[I") (by decide +kernel)
  have hw2 := hts (.fieldLink RX0 44 "Submodulary" "reached" "[I") (by decide +kernel)
  have hS : va_S (ad a 10) s.heap s.heap [] := va_S.rf
  have hl := lv_entry ([.ref (a 0), .int p1]) (n := 4) (Nat.le_of_ble_eq_true rfl)
  rw [lg_entry_eq]
  generalize (lg_sl ([.ref (a 0), .int p1]) ++ List.replicate (4 - (lg_sl ([.ref (a 0), .int p1])).length) Slot.unset).toArray = ls at hl ⊢
  have hl : lv_has ls 4 [(0, .ref (a 0)), (1, .int p1)] := hl
  have hW13 : ∀ (k13 : Nat) (S : St) (x2 x3 : Int32) (H : Heap) (locs : List Loc) (ls : Array Slot), f_X0_reachFirst_13 p1 k13 S x2 x3 = some r → va_P (dC, dI) vwCl (wX cA a S) H → va_S (ad a 10) s.heap H locs → lv_has ls 4 [(0, .ref (a 0)), (1, .int p1), (2, .int x2), (3, .int x3)] → W p l e (headSpec wsX0_reachFirst ({ frames := 4, cells := 0, slots := 0, locals := 92 })).room s m ([.ref (a 0), .int p1] : List Value).toArray below meth c H locs 0 0 (MQ below (mXi (dC, dI) cA a r.1 r.2) ([.ref (a 0), .int p1] : List Value).toArray s 0 0 (ad a 10)) (F0 m 13 ls []) := by
    intro k13
    induction k13 with
    | zero =>
      intro S x2 x3 H locs ls hf hP hS hl
      rw [f_X0_reachFirst_13] at hf
      cases hf
    | succ k13 ih13 =>
      intro S x2 x3 H locs ls hf hP hS hl
      rw [f_X0_reachFirst_13] at hf
      refine lv_iload_n hx hb dX0_reachFirst_13 rfl (lv_at hl 3 rfl) ?_
      refine lv_aload_n hx hb dX0_reachFirst_14 rfl (lv_at hl 0 rfl) ?_
      refine gfX hx hb hts hin hown hK hP 0 (by decide) hw0 rfl rfl dX0_reachFirst_15 ?_
      refine lv_icmp_ge (tgt := 58) hx hb dX0_reachFirst_18 (by decide) (fun c1 => ?_) (fun c1 => ?_)
      · rw [if_pos c1] at hf
        refine lv_iload_n hx hb dX0_reachFirst_58 rfl (lv_at hl 2 rfl) ?_
        have hf := Option.some.inj hf; subst hf
        exact W.iret hx hb hr (fun t ht hW => ⟨⟨rfl, by rw [ht]; exact hP⟩, hS.F ht⟩) hS.2.2 dX0_reachFirst_59
      · rw [if_neg c1] at hf
        refine lv_aload_n hx hb dX0_reachFirst_21 rfl (lv_at hl 0 rfl) ?_
        refine lv_iconst (v := 0) hx hb dX0_reachFirst_22 (by decide) ?_
        refine lv_iload_n hx hb dX0_reachFirst_23 rfl (lv_at hl 3 rfl) ?_
        refine lv_iload_n hx hb dX0_reachFirst_24 rfl (lv_at hl 1 rfl) ?_
        obtain ⟨v2, hv2, hf⟩ := ob_some hf
        refine pu_V (As := [.int 0, .int x3, .int p1]) (rest := []) ⟨hx, hb, hml, hown, hts⟩ (k_X0_hasRoom l dC dI cA a S 0 x3 p1 _ hv2) gX0_reachFirst_X0_hasRoom rfl rfl rfl cd_X0_hasRoom (Nat.le_of_ble_eq_true rfl) (Nat.le_of_ble_eq_true rfl) (preX hK hP) rfl hl.1 rfl (Nat.le_of_ble_eq_true rfl) (Nat.zero_le _) (Nat.zero_le _) dX0_reachFirst_25 ?_
        refine lv_if_eq (tgt := 52) hx hb dX0_reachFirst_28 (by decide) (fun c3 => ?_) (fun c3 => ?_)
        · rw [if_pos c3] at hf
          obtain ⟨y4, ey4⟩ : ∃ y : Int32, y = (x3 + 1) := ⟨_, rfl⟩
          have hf := bnd_at hf ey4
          refine lv_iinc (v := y4) (lv' := [(3, .int y4), (0, .ref (a 0)), (1, .int p1), (2, .int x2)]) hx hb dX0_reachFirst_52 hl (k := 3) rfl (by rw [ey4]; rfl) (by decide) rfl (fun ls hl => ?_)
          refine lv_goto (tgt := 13) hx hb dX0_reachFirst_55 (by decide) ?_
          exact ih13 S x2 y4 _ _ ls hf hP hS (lv_sub hl [1, 2, 3, 0] rfl)
        · rw [if_neg c3] at hf
          refine lv_aload_n hx hb dX0_reachFirst_31 rfl (lv_at hl 0 rfl) ?_
          refine gfX hx hb hts hin hown hK hP 10 (by decide) hw1 rfl rfl dX0_reachFirst_32 ?_
          refine lv_iload_n hx hb dX0_reachFirst_35 rfl (lv_at hl 3 rfl) ?_
          refine lv_iconst (v := (-1)) hx hb dX0_reachFirst_36 (by decide) ?_
          refine mu_RX (As := [.ref (a 8), .int x3, .int (-1)]) (rest := []) ⟨hx, hb, hml, hown, hts⟩ (k_X0_put l dC dI cA (a 8) 6 (S.2 7) x3 (-1) (by decide)) gX0_reachFirst_X0_put rfl rfl rfl cd_X0_put (Nat.le_of_ble_eq_true rfl) (Nat.le_of_ble_eq_true rfl) (preR hK (rowX hP 8 (wX_q7 cA a _))) rfl hl.1 rfl (Nat.le_of_ble_eq_true rfl) (Nat.zero_le _) (Nat.zero_le _) dX0_reachFirst_37 hP hap hS 7 (wX_q7 cA a _) (wX_s7 cA a _ _) (fun H locs hP hS => ?_)
          refine lv_aload_n hx hb dX0_reachFirst_40 rfl (lv_at hl 0 rfl) ?_
          refine gfX hx hb hts hin hown hK hP 11 (by decide) hw2 rfl rfl dX0_reachFirst_41 ?_
          refine lv_iload_n hx hb dX0_reachFirst_44 rfl (lv_at hl 2 rfl) ?_
          refine lv_iload_n hx hb dX0_reachFirst_45 rfl (lv_at hl 3 rfl) ?_
          refine mu_RX (As := [.ref (a 9), .int x2, .int x3]) (rest := []) ⟨hx, hb, hml, hown, hts⟩ (k_X0_put l dC dI cA (a 9) 6 ((sA S 7 (putv 6 (S.2 7) x3 (-1))).2 8) x2 x3 (by decide)) gX0_reachFirst_X0_put rfl rfl rfl cd_X0_put (Nat.le_of_ble_eq_true rfl) (Nat.le_of_ble_eq_true rfl) (preR hK (rowX hP 9 (wX_q8 cA a _))) rfl hl.1 rfl (Nat.le_of_ble_eq_true rfl) (Nat.zero_le _) (Nat.zero_le _) dX0_reachFirst_46 hP hap hS 8 (wX_q8 cA a _) (wX_s8 cA a _ _) (fun H locs hP hS => ?_)
          obtain ⟨y5, ey5⟩ : ∃ y : Int32, y = (x2 + 1) := ⟨_, rfl⟩
          have hf := bnd_at hf ey5
          refine lv_iinc (v := y5) (lv' := [(2, .int y5), (0, .ref (a 0)), (1, .int p1), (3, .int x3)]) hx hb dX0_reachFirst_49 hl (k := 2) rfl (by rw [ey5]; rfl) (by decide) rfl (fun ls hl => ?_)
          obtain ⟨y6, ey6⟩ : ∃ y : Int32, y = (x3 + 1) := ⟨_, rfl⟩
          have hf := bnd_at hf ey6
          refine lv_iinc (v := y6) (lv' := [(3, .int y6), (2, .int y5), (0, .ref (a 0)), (1, .int p1)]) hx hb dX0_reachFirst_52 hl (k := 3) rfl (by rw [ey6]; rfl) (by decide) rfl (fun ls hl => ?_)
          refine lv_goto (tgt := 13) hx hb dX0_reachFirst_55 (by decide) ?_
          exact ih13 (sA (sA S 7 (putv 6 (S.2 7) x3 (-1))) 8 (putv 6 ((sA S 7 (putv 6 (S.2 7) x3 (-1))).2 8) x2 x3)) y5 y6 _ _ ls hf hP hS (lv_sub hl [2, 3, 1, 0] rfl)
  unfold f_X0_reachFirst at hf
  refine lv_iconst (v := 0) hx hb dX0_reachFirst_0 (by decide) ?_
  refine lv_istore_n (lv' := [(2, .int 0), (0, .ref (a 0)), (1, .int p1)]) hx hb dX0_reachFirst_1 rfl hl (by decide) rfl (fun ls hl => ?_)
  refine lv_aload_n hx hb dX0_reachFirst_2 rfl (lv_at hl 1 rfl) ?_
  refine gfX hx hb hts hin hown hK hP 10 (by decide) hw1 rfl rfl dX0_reachFirst_3 ?_
  refine lv_bipush (v := (-2)) hx hb dX0_reachFirst_6 (by decide) ?_
  refine mu_RX (As := [.ref (a 8), .int (-2)]) (rest := []) ⟨hx, hb, hml, hown, hts⟩ (k_J7_fill_53178 l dC dI cA (a 8) 6 (S.2 7) (-2) (by decide)) gX0_reachFirst_J7_fill_53178 rfl rfl rfl cd_J7_fill_53178 (Nat.le_of_ble_eq_true rfl) (Nat.le_of_ble_eq_true rfl) (preR hK (rowX hP 8 (wX_q7 cA a _))) rfl hl.1 rfl (Nat.le_of_ble_eq_true rfl) (Nat.zero_le _) (Nat.zero_le _) dX0_reachFirst_8 hP hap hS 7 (wX_q7 cA a _) (wX_s7 cA a _ _) (fun H locs hP hS => ?_)
  refine lv_iconst (v := 0) hx hb dX0_reachFirst_11 (by decide) ?_
  refine lv_istore_n (lv' := [(3, .int 0), (2, .int 0), (0, .ref (a 0)), (1, .int p1)]) hx hb dX0_reachFirst_12 rfl hl (by decide) rfl (fun ls hl => ?_)
  exact hW13 70 (sA S 7 (filv 6 (S.2 7) (-2))) 0 0 _ _ ls hf hP hS (lv_sub hl [2, 3, 1, 0] rfl)
theorem cd_X0_reachFrom : yX0_reachFrom.cls = RX0 ∧ yX0_reachFrom.cls ≠ "java/lang/invoke/MethodHandle" ∧ yX0_reachFrom.cls ≠ "java/lang/invoke/VarHandle" ∧ (parseMethodDescriptor yX0_reachFrom.desc).map (fun d => d.parameters.length) = some 3 := by decide +kernel
set_option maxHeartbeats 4000000 in
set_option maxRecDepth 100000 in
theorem k_X0_reachFrom (l : Launch) (dC : Nat → ClassId) (dI : Nat → Nat → Nat) (cA : ClassId) (a : Nat → Nat) (S : St) (p1 : Int32) (p2 : Int32) (p3 : Int32) (r : Int32 × St) (hf : f_X0_reachFrom S p1 p2 p3 = some r) (hap : apart a 10) : Met l yX0_reachFrom wsX0_reachFrom ({ frames := 3, cells := 0, slots := 0, locals := 67 }) (va_Pc [.ref (a 0), .int p1, .int p2, .int p3] (PXs (dC, dI) cA a S)) (mXi (dC, dI) cA a r.1 r.2) 0 0 (ad a 10) := by
  refine Met.ofW (cc := cX0_reachFrom) (maxL := 6) (ret := (some .int)) (by decide) rfl ?_
  intro p e s m args below meth c s₁ B hml hv
  obtain ⟨rfl, hP, hK⟩ := hv
  have hx := B.exec
  have hb := B.bytes
  have hr := B.returns
  have hts := atoms_spec (ws := wsX0_reachFrom) B.pre
  have hown : s.vm.findClass RX0 = some m.cls := findClass_of_methodNamed B.named
  have hlocks := B.notSynchronized
  have hin : ∀ w ∈ u_ws RX0 TX0 12, w ∈ wsX0_reachFrom := by decide +kernel
  have hw0 := hts (.fieldLink RX0 9 "Submodulary" "elements" "I") (by decide +kernel)
  have hw1 := hts (.fieldLink RX0 41 "Submodulary" "cameFrom" "[I") (by decide +kernel)
  have hw2 := hts (.fieldLink RX0 44 "Submodulary" "reached" "[I") (by decide +kernel)
  have hS : va_S (ad a 10) s.heap s.heap [] := va_S.rf
  have hl := lv_entry ([.ref (a 0), .int p1, .int p2, .int p3]) (n := 6) (Nat.le_of_ble_eq_true rfl)
  rw [lg_entry_eq]
  generalize (lg_sl ([.ref (a 0), .int p1, .int p2, .int p3]) ++ List.replicate (6 - (lg_sl ([.ref (a 0), .int p1, .int p2, .int p3])).length) Slot.unset).toArray = ls at hl ⊢
  have hl : lv_has ls 6 [(0, .ref (a 0)), (1, .int p1), (2, .int p2), (3, .int p3)] := hl
  have hW6 : ∀ (k6 : Nat) (S : St) (x4 x5 : Int32) (H : Heap) (locs : List Loc) (ls : Array Slot), f_X0_reachFrom_6 p1 p2 p3 k6 S x4 x5 = some r → va_P (dC, dI) vwCl (wX cA a S) H → va_S (ad a 10) s.heap H locs → lv_has ls 6 [(0, .ref (a 0)), (1, .int p1), (2, .int p2), (3, .int p3), (4, .int x4), (5, .int x5)] → W p l e (headSpec wsX0_reachFrom ({ frames := 3, cells := 0, slots := 0, locals := 67 })).room s m ([.ref (a 0), .int p1, .int p2, .int p3] : List Value).toArray below meth c H locs 0 0 (MQ below (mXi (dC, dI) cA a r.1 r.2) ([.ref (a 0), .int p1, .int p2, .int p3] : List Value).toArray s 0 0 (ad a 10)) (F0 m 6 ls []) := by
    intro k6
    induction k6 with
    | zero =>
      intro S x4 x5 H locs ls hf hP hS hl
      rw [f_X0_reachFrom_6] at hf
      cases hf
    | succ k6 ih6 =>
      intro S x4 x5 H locs ls hf hP hS hl
      rw [f_X0_reachFrom_6] at hf
      refine lv_iload hx hb dX0_reachFrom_6 (lv_at hl 5 rfl) ?_
      refine lv_aload_n hx hb dX0_reachFrom_8 rfl (lv_at hl 0 rfl) ?_
      refine gfX hx hb hts hin hown hK hP 0 (by decide) hw0 rfl rfl dX0_reachFrom_9 ?_
      refine lv_icmp_ge (tgt := 70) hx hb dX0_reachFrom_12 (by decide) (fun c1 => ?_) (fun c1 => ?_)
      · rw [if_pos c1] at hf
        refine lv_iload hx hb dX0_reachFrom_70 (lv_at hl 4 rfl) ?_
        have hf := Option.some.inj hf; subst hf
        exact W.iret hx hb hr (fun t ht hW => ⟨⟨rfl, by rw [ht]; exact hP⟩, hS.F ht⟩) hS.2.2 dX0_reachFrom_72
      · rw [if_neg c1] at hf
        refine lv_aload_n hx hb dX0_reachFrom_15 rfl (lv_at hl 0 rfl) ?_
        refine gfX hx hb hts hin hown hK hP 10 (by decide) hw1 rfl rfl dX0_reachFrom_16 ?_
        refine lv_iload hx hb dX0_reachFrom_19 (lv_at hl 5 rfl) ?_
        refine pu_S (As := [.ref (a 8), .int x5]) (rest := []) ⟨hx, hb, hml, hown, hts⟩ (k_X0_at l dC dI cA (a 8) 6 (S.2 7) x5 (by decide)) gX0_reachFrom_X0_at rfl rfl rfl cd_X0_at (Nat.le_of_ble_eq_true rfl) (Nat.le_of_ble_eq_true rfl) (preR hK (rowX hP 8 rfl)) rfl hl.1 rfl (Nat.le_of_ble_eq_true rfl) (Nat.zero_le _) (Nat.zero_le _) dX0_reachFrom_21 ?_
        refine lv_bipush (v := (-2)) hx hb dX0_reachFrom_24 (by decide) ?_
        refine lv_icmp_ne (tgt := 64) hx hb dX0_reachFrom_26 (by decide) (fun c2 => ?_) (fun c2 => ?_)
        · rw [if_neg c2] at hf
          obtain ⟨y3, ey3⟩ : ∃ y : Int32, y = (x5 + 1) := ⟨_, rfl⟩
          have hf := bnd_at hf ey3
          refine lv_iinc (v := y3) (lv' := [(5, .int y3), (0, .ref (a 0)), (1, .int p1), (2, .int p2), (3, .int p3), (4, .int x4)]) hx hb dX0_reachFrom_64 hl (k := 5) rfl (by rw [ey3]; rfl) (by decide) rfl (fun ls hl => ?_)
          refine lv_goto (tgt := 6) hx hb dX0_reachFrom_67 (by decide) ?_
          exact ih6 S x4 y3 _ _ ls hf hP hS (lv_sub hl [1, 2, 3, 4, 5, 0] rfl)
        · rw [if_pos c2] at hf
          refine lv_aload_n hx hb dX0_reachFrom_29 rfl (lv_at hl 0 rfl) ?_
          refine lv_iload_n hx hb dX0_reachFrom_30 rfl (lv_at hl 1 rfl) ?_
          refine lv_iload hx hb dX0_reachFrom_31 (lv_at hl 5 rfl) ?_
          refine lv_iload_n hx hb dX0_reachFrom_33 rfl (lv_at hl 2 rfl) ?_
          refine pu_V (As := [.int p1, .int x5, .int p2]) (rest := []) ⟨hx, hb, hml, hown, hts⟩ (k_X0_isStep l dC dI cA a S p1 x5 p2 _ rfl) gX0_reachFrom_X0_isStep rfl rfl rfl cd_X0_isStep (Nat.le_of_ble_eq_true rfl) (Nat.le_of_ble_eq_true rfl) (preX hK hP) rfl hl.1 rfl (Nat.le_of_ble_eq_true rfl) (Nat.zero_le _) (Nat.zero_le _) dX0_reachFrom_34 ?_
          refine lv_if_eq (tgt := 64) hx hb dX0_reachFrom_37 (by decide) (fun c4 => ?_) (fun c4 => ?_)
          · rw [if_pos c4] at hf
            obtain ⟨y5, ey5⟩ : ∃ y : Int32, y = (x5 + 1) := ⟨_, rfl⟩
            have hf := bnd_at hf ey5
            refine lv_iinc (v := y5) (lv' := [(5, .int y5), (0, .ref (a 0)), (1, .int p1), (2, .int p2), (3, .int p3), (4, .int x4)]) hx hb dX0_reachFrom_64 hl (k := 5) rfl (by rw [ey5]; rfl) (by decide) rfl (fun ls hl => ?_)
            refine lv_goto (tgt := 6) hx hb dX0_reachFrom_67 (by decide) ?_
            exact ih6 S x4 y5 _ _ ls hf hP hS (lv_sub hl [1, 2, 3, 4, 5, 0] rfl)
          · rw [if_neg c4] at hf
            refine lv_aload_n hx hb dX0_reachFrom_40 rfl (lv_at hl 0 rfl) ?_
            refine gfX hx hb hts hin hown hK hP 10 (by decide) hw1 rfl rfl dX0_reachFrom_41 ?_
            refine lv_iload hx hb dX0_reachFrom_44 (lv_at hl 5 rfl) ?_
            refine lv_iload_n hx hb dX0_reachFrom_46 rfl (lv_at hl 1 rfl) ?_
            refine mu_RX (As := [.ref (a 8), .int x5, .int p1]) (rest := []) ⟨hx, hb, hml, hown, hts⟩ (k_X0_put l dC dI cA (a 8) 6 (S.2 7) x5 p1 (by decide)) gX0_reachFrom_X0_put rfl rfl rfl cd_X0_put (Nat.le_of_ble_eq_true rfl) (Nat.le_of_ble_eq_true rfl) (preR hK (rowX hP 8 (wX_q7 cA a _))) rfl hl.1 rfl (Nat.le_of_ble_eq_true rfl) (Nat.zero_le _) (Nat.zero_le _) dX0_reachFrom_47 hP hap hS 7 (wX_q7 cA a _) (wX_s7 cA a _ _) (fun H locs hP hS => ?_)
            refine lv_aload_n hx hb dX0_reachFrom_50 rfl (lv_at hl 0 rfl) ?_
            refine gfX hx hb hts hin hown hK hP 11 (by decide) hw2 rfl rfl dX0_reachFrom_51 ?_
            refine lv_iload hx hb dX0_reachFrom_54 (lv_at hl 4 rfl) ?_
            refine lv_iload hx hb dX0_reachFrom_56 (lv_at hl 5 rfl) ?_
            refine mu_RX (As := [.ref (a 9), .int x4, .int x5]) (rest := []) ⟨hx, hb, hml, hown, hts⟩ (k_X0_put l dC dI cA (a 9) 6 ((sA S 7 (putv 6 (S.2 7) x5 p1)).2 8) x4 x5 (by decide)) gX0_reachFrom_X0_put rfl rfl rfl cd_X0_put (Nat.le_of_ble_eq_true rfl) (Nat.le_of_ble_eq_true rfl) (preR hK (rowX hP 9 (wX_q8 cA a _))) rfl hl.1 rfl (Nat.le_of_ble_eq_true rfl) (Nat.zero_le _) (Nat.zero_le _) dX0_reachFrom_58 hP hap hS 8 (wX_q8 cA a _) (wX_s8 cA a _ _) (fun H locs hP hS => ?_)
            obtain ⟨y6, ey6⟩ : ∃ y : Int32, y = (x4 + 1) := ⟨_, rfl⟩
            have hf := bnd_at hf ey6
            refine lv_iinc (v := y6) (lv' := [(4, .int y6), (0, .ref (a 0)), (1, .int p1), (2, .int p2), (3, .int p3), (5, .int x5)]) hx hb dX0_reachFrom_61 hl (k := 4) rfl (by rw [ey6]; rfl) (by decide) rfl (fun ls hl => ?_)
            obtain ⟨y7, ey7⟩ : ∃ y : Int32, y = (x5 + 1) := ⟨_, rfl⟩
            have hf := bnd_at hf ey7
            refine lv_iinc (v := y7) (lv' := [(5, .int y7), (4, .int y6), (0, .ref (a 0)), (1, .int p1), (2, .int p2), (3, .int p3)]) hx hb dX0_reachFrom_64 hl (k := 5) rfl (by rw [ey7]; rfl) (by decide) rfl (fun ls hl => ?_)
            refine lv_goto (tgt := 6) hx hb dX0_reachFrom_67 (by decide) ?_
            exact ih6 (sA (sA S 7 (putv 6 (S.2 7) x5 p1)) 8 (putv 6 ((sA S 7 (putv 6 (S.2 7) x5 p1)).2 8) x4 x5)) y6 y7 _ _ ls hf hP hS (lv_sub hl [2, 3, 4, 5, 1, 0] rfl)
  unfold f_X0_reachFrom at hf
  refine lv_iload_n hx hb dX0_reachFrom_0 rfl (lv_at hl 3 rfl) ?_
  refine lv_istore (lv' := [(4, .int p3), (0, .ref (a 0)), (1, .int p1), (2, .int p2), (3, .int p3)]) hx hb dX0_reachFrom_1 hl (by decide) rfl (fun ls hl => ?_)
  refine lv_iconst (v := 0) hx hb dX0_reachFrom_3 (by decide) ?_
  refine lv_istore (lv' := [(5, .int 0), (4, .int p3), (0, .ref (a 0)), (1, .int p1), (2, .int p2), (3, .int p3)]) hx hb dX0_reachFrom_4 hl (by decide) rfl (fun ls hl => ?_)
  exact hW6 70 S p3 0 _ _ ls hf hP hS (lv_sub hl [2, 3, 4, 5, 1, 0] rfl)
theorem cd_X0_endOfPath : yX0_endOfPath.cls = RX0 ∧ yX0_endOfPath.cls ≠ "java/lang/invoke/MethodHandle" ∧ yX0_endOfPath.cls ≠ "java/lang/invoke/VarHandle" ∧ (parseMethodDescriptor yX0_endOfPath.desc).map (fun d => d.parameters.length) = some 1 := by decide +kernel
set_option maxHeartbeats 4000000 in
set_option maxRecDepth 100000 in
theorem k_X0_endOfPath (l : Launch) (dC : Nat → ClassId) (dI : Nat → Nat → Nat) (cA : ClassId) (a : Nat → Nat) (S : St) (p1 : Int32) (r : Int32 × St) (hf : f_X0_endOfPath S p1 = some r) (hap : apart a 10) : Met l yX0_endOfPath wsX0_endOfPath ({ frames := 5, cells := 0, slots := 0, locals := 115 }) (va_Pc [.ref (a 0), .int p1] (PXs (dC, dI) cA a S)) (mXi (dC, dI) cA a r.1 r.2) 0 0 (ad a 10) := by
  refine Met.ofW (cc := cX0_endOfPath) (maxL := 5) (ret := (some .int)) (by decide) rfl ?_
  intro p e s m args below meth c s₁ B hml hv
  obtain ⟨rfl, hP, hK⟩ := hv
  have hx := B.exec
  have hb := B.bytes
  have hr := B.returns
  have hts := atoms_spec (ws := wsX0_endOfPath) B.pre
  have hown : s.vm.findClass RX0 = some m.cls := findClass_of_methodNamed B.named
  have hlocks := B.notSynchronized
  have hin : ∀ w ∈ u_ws RX0 TX0 12, w ∈ wsX0_endOfPath := by decide +kernel
  have hw0 := hts (.fieldLink RX0 44 "Submodulary" "reached" "[I") (by decide +kernel)
  have hS : va_S (ad a 10) s.heap s.heap [] := va_S.rf
  have hl := lv_entry ([.ref (a 0), .int p1]) (n := 5) (Nat.le_of_ble_eq_true rfl)
  rw [lg_entry_eq]
  generalize (lg_sl ([.ref (a 0), .int p1]) ++ List.replicate (5 - (lg_sl ([.ref (a 0), .int p1])).length) Slot.unset).toArray = ls at hl ⊢
  have hl : lv_has ls 5 [(0, .ref (a 0)), (1, .int p1)] := hl
  have hW8 : ∀ (k8 : Nat) (S : St) (x2 x3 : Int32) (H : Heap) (locs : List Loc) (ls : Array Slot), f_X0_endOfPath_8 p1 k8 S x2 x3 = some r → va_P (dC, dI) vwCl (wX cA a S) H → va_S (ad a 10) s.heap H locs → lv_has ls 5 [(0, .ref (a 0)), (1, .int p1), (2, .int x2), (3, .int x3)] → W p l e (headSpec wsX0_endOfPath ({ frames := 5, cells := 0, slots := 0, locals := 115 })).room s m ([.ref (a 0), .int p1] : List Value).toArray below meth c H locs 0 0 (MQ below (mXi (dC, dI) cA a r.1 r.2) ([.ref (a 0), .int p1] : List Value).toArray s 0 0 (ad a 10)) (F0 m 8 ls []) := by
    intro k8
    induction k8 with
    | zero =>
      intro S x2 x3 H locs ls hf hP hS hl
      rw [f_X0_endOfPath_8] at hf
      cases hf
    | succ k8 ih8 =>
      intro S x2 x3 H locs ls hf hP hS hl
      rw [f_X0_endOfPath_8] at hf
      refine lv_iload_n hx hb dX0_endOfPath_8 rfl (lv_at hl 3 rfl) ?_
      refine lv_iload_n hx hb dX0_endOfPath_9 rfl (lv_at hl 2 rfl) ?_
      refine lv_icmp_ge (tgt := 58) hx hb dX0_endOfPath_10 (by decide) (fun c1 => ?_) (fun c1 => ?_)
      · rw [if_pos c1] at hf
        refine lv_iconst (v := (-1)) hx hb dX0_endOfPath_58 (by decide) ?_
        have hf := Option.some.inj hf; subst hf
        exact W.iret hx hb hr (fun t ht hW => ⟨⟨rfl, by rw [ht]; exact hP⟩, hS.F ht⟩) hS.2.2 dX0_endOfPath_59
      · rw [if_neg c1] at hf
        refine lv_iload_n hx hb dX0_endOfPath_13 rfl (lv_at hl 3 rfl) ?_
        refine lv_bipush (v := 6) hx hb dX0_endOfPath_14 (by decide) ?_
        refine lv_icmp_ge (tgt := 58) hx hb dX0_endOfPath_16 (by decide) (fun c2 => ?_) (fun c2 => ?_)
        · rw [if_pos c2] at hf
          refine lv_iconst (v := (-1)) hx hb dX0_endOfPath_58 (by decide) ?_
          have hf := Option.some.inj hf; subst hf
          exact W.iret hx hb hr (fun t ht hW => ⟨⟨rfl, by rw [ht]; exact hP⟩, hS.F ht⟩) hS.2.2 dX0_endOfPath_59
        · rw [if_neg c2] at hf
          refine lv_aload_n hx hb dX0_endOfPath_19 rfl (lv_at hl 0 rfl) ?_
          refine gfX hx hb hts hin hown hK hP 11 (by decide) hw0 rfl rfl dX0_endOfPath_20 ?_
          refine lv_iload_n hx hb dX0_endOfPath_23 rfl (lv_at hl 3 rfl) ?_
          refine pu_S (As := [.ref (a 9), .int x3]) (rest := []) ⟨hx, hb, hml, hown, hts⟩ (k_X0_at l dC dI cA (a 9) 6 (S.2 8) x3 (by decide)) gX0_endOfPath_X0_at rfl rfl rfl cd_X0_at (Nat.le_of_ble_eq_true rfl) (Nat.le_of_ble_eq_true rfl) (preR hK (rowX hP 9 rfl)) rfl hl.1 rfl (Nat.le_of_ble_eq_true rfl) (Nat.zero_le _) (Nat.zero_le _) dX0_endOfPath_24 ?_
          refine lv_topi (fun y3 ey3 => ?_)
          have hf := bnd_at hf ey3
          refine lv_istore (lv' := [(4, .int y3), (0, .ref (a 0)), (1, .int p1), (2, .int x2), (3, .int x3)]) hx hb dX0_endOfPath_27 hl (by decide) rfl (fun ls hl => ?_)
          refine lv_aload_n hx hb dX0_endOfPath_29 rfl (lv_at hl 1 rfl) ?_
          refine lv_iconst (v := 1) hx hb dX0_endOfPath_30 (by decide) ?_
          refine lv_iload hx hb dX0_endOfPath_31 (lv_at hl 0 rfl) ?_
          refine lv_iload_n hx hb dX0_endOfPath_33 rfl (lv_at hl 2 rfl) ?_
          obtain ⟨v4, hv4, hf⟩ := ob_some hf
          refine pu_V (As := [.int 1, .int y3, .int p1]) (rest := []) ⟨hx, hb, hml, hown, hts⟩ (k_X0_hasRoom l dC dI cA a S 1 y3 p1 _ hv4) gX0_endOfPath_X0_hasRoom rfl rfl rfl cd_X0_hasRoom (Nat.le_of_ble_eq_true rfl) (Nat.le_of_ble_eq_true rfl) (preX hK hP) rfl hl.1 rfl (Nat.le_of_ble_eq_true rfl) (Nat.zero_le _) (Nat.zero_le _) dX0_endOfPath_34 ?_
          refine lv_if_eq (tgt := 43) hx hb dX0_endOfPath_37 (by decide) (fun c5 => ?_) (fun c5 => ?_)
          · rw [if_pos c5] at hf
            refine lv_aload_n hx hb dX0_endOfPath_43 rfl (lv_at hl 1 rfl) ?_
            refine lv_iload hx hb dX0_endOfPath_44 (lv_at hl 0 rfl) ?_
            refine lv_iload_n hx hb dX0_endOfPath_46 rfl (lv_at hl 2 rfl) ?_
            refine lv_iload_n hx hb dX0_endOfPath_47 rfl (lv_at hl 3 rfl) ?_
            obtain ⟨q6, hq6, hf⟩ := ob_some hf
            refine mu_Xi (As := [.int y3, .int p1, .int x2]) (rest := []) ⟨hx, hb, hml, hown, hts⟩ (k_X0_reachFrom l dC dI cA a S y3 p1 x2 _ hq6 hap) gX0_endOfPath_X0_reachFrom rfl rfl rfl cd_X0_reachFrom (Nat.le_of_ble_eq_true rfl) (Nat.le_of_ble_eq_true rfl) (preX hK hP) rfl hl.1 rfl (Nat.le_of_ble_eq_true rfl) (Nat.zero_le _) (Nat.zero_le _) dX0_endOfPath_48 hS (fun H locs hP hS => ?_)
            refine lv_topi (fun y7 ey7 => ?_)
            have hf := bnd_at hf ey7
            refine lv_istore_n (lv' := [(2, .int y7), (4, .int y3), (0, .ref (a 0)), (1, .int p1), (3, .int x3)]) hx hb dX0_endOfPath_51 rfl hl (by decide) rfl (fun ls hl => ?_)
            obtain ⟨y8, ey8⟩ : ∃ y : Int32, y = (x3 + 1) := ⟨_, rfl⟩
            have hf := bnd_at hf ey8
            refine lv_iinc (v := y8) (lv' := [(3, .int y8), (2, .int y7), (4, .int y3), (0, .ref (a 0)), (1, .int p1)]) hx hb dX0_endOfPath_52 hl (k := 4) rfl (by rw [ey8]; rfl) (by decide) rfl (fun ls hl => ?_)
            refine lv_goto (tgt := 8) hx hb dX0_endOfPath_55 (by decide) ?_
            exact ih8 q6.2 y7 y8 _ _ ls hf hP hS (lv_sub hl [3, 4, 1, 0] rfl)
          · rw [if_neg c5] at hf
            refine lv_iload hx hb dX0_endOfPath_40 (lv_at hl 0 rfl) ?_
            have hf := Option.some.inj hf; subst hf
            exact W.iret hx hb hr (fun t ht hW => ⟨⟨rfl, by rw [ht]; exact hP⟩, hS.F ht⟩) hS.2.2 dX0_endOfPath_42
  unfold f_X0_endOfPath at hf
  refine lv_aload_n hx hb dX0_endOfPath_0 rfl (lv_at hl 0 rfl) ?_
  refine lv_iload_n hx hb dX0_endOfPath_1 rfl (lv_at hl 1 rfl) ?_
  obtain ⟨q9, hq9, hf⟩ := ob_some hf
  refine mu_Xi (As := [.int p1]) (rest := []) ⟨hx, hb, hml, hown, hts⟩ (k_X0_reachFirst l dC dI cA a S p1 _ hq9 hap) gX0_endOfPath_X0_reachFirst rfl rfl rfl cd_X0_reachFirst (Nat.le_of_ble_eq_true rfl) (Nat.le_of_ble_eq_true rfl) (preX hK hP) rfl hl.1 rfl (Nat.le_of_ble_eq_true rfl) (Nat.zero_le _) (Nat.zero_le _) dX0_endOfPath_2 hS (fun H locs hP hS => ?_)
  refine lv_topi (fun y10 ey10 => ?_)
  have hf := bnd_at hf ey10
  refine lv_istore_n (lv' := [(2, .int y10), (0, .ref (a 0)), (1, .int p1)]) hx hb dX0_endOfPath_5 rfl hl (by decide) rfl (fun ls hl => ?_)
  refine lv_iconst (v := 0) hx hb dX0_endOfPath_6 (by decide) ?_
  refine lv_istore_n (lv' := [(3, .int 0), (2, .int y10), (0, .ref (a 0)), (1, .int p1)]) hx hb dX0_endOfPath_7 rfl hl (by decide) rfl (fun ls hl => ?_)
  exact hW8 70 q9.2 y10 0 _ _ ls hf hP hS (lv_sub hl [2, 3, 1, 0] rfl)
theorem cd_X0_common : yX0_common.cls = RX0 ∧ yX0_common.cls ≠ "java/lang/invoke/MethodHandle" ∧ yX0_common.cls ≠ "java/lang/invoke/VarHandle" ∧ (parseMethodDescriptor yX0_common.desc).map (fun d => d.parameters.length) = some 0 := by decide +kernel
set_option maxHeartbeats 4000000 in
set_option maxRecDepth 100000 in
theorem k_X0_common (l : Launch) (dC : Nat → ClassId) (dI : Nat → Nat → Nat) (cA : ClassId) (a : Nat → Nat) (S : St) (r : Int32 × St) (hf : f_X0_common S = some r) (hap : apart a 10) : Met l yX0_common wsX0_common ({ frames := 6, cells := 0, slots := 0, locals := 139 }) (va_Pc [.ref (a 0)] (PXs (dC, dI) cA a S)) (mXi (dC, dI) cA a r.1 r.2) 0 0 (ad a 10) := by
  refine Met.ofW (cc := cX0_common) (maxL := 4) (ret := (some .int)) (by decide) rfl ?_
  intro p e s m args below meth c s₁ B hml hv
  obtain ⟨rfl, hP, hK⟩ := hv
  have hx := B.exec
  have hb := B.bytes
  have hr := B.returns
  have hts := atoms_spec (ws := wsX0_common) B.pre
  have hown : s.vm.findClass RX0 = some m.cls := findClass_of_methodNamed B.named
  have hlocks := B.notSynchronized
  have hin : ∀ w ∈ u_ws RX0 TX0 12, w ∈ wsX0_common := by decide +kernel
  have hw0 := hts (.fieldLink RX0 9 "Submodulary" "elements" "I") (by decide +kernel)
  have hS : va_S (ad a 10) s.heap s.heap [] := va_S.rf
  have hl := lv_entry ([.ref (a 0)]) (n := 4) (Nat.le_of_ble_eq_true rfl)
  rw [lg_entry_eq]
  generalize (lg_sl ([.ref (a 0)]) ++ List.replicate (4 - (lg_sl ([.ref (a 0)])).length) Slot.unset).toArray = ls at hl ⊢
  have hl : lv_has ls 4 [(0, .ref (a 0))] := hl
  have hW4 : ∀ (k4 : Nat) (S : St) (x1 x2 : Int32) (H : Heap) (locs : List Loc) (ls : Array Slot), f_X0_common_4 k4 S x1 x2 = some r → va_P (dC, dI) vwCl (wX cA a S) H → va_S (ad a 10) s.heap H locs → lv_has ls 4 [(0, .ref (a 0)), (1, .int x1), (2, .int x2)] → W p l e (headSpec wsX0_common ({ frames := 6, cells := 0, slots := 0, locals := 139 })).room s m ([.ref (a 0)] : List Value).toArray below meth c H locs 0 0 (MQ below (mXi (dC, dI) cA a r.1 r.2) ([.ref (a 0)] : List Value).toArray s 0 0 (ad a 10)) (F0 m 4 ls []) := by
    intro k4
    induction k4 with
    | zero =>
      intro S x1 x2 H locs ls hf hP hS hl
      rw [f_X0_common_4] at hf
      cases hf
    | succ k4 ih4 =>
      intro S x1 x2 H locs ls hf hP hS hl
      rw [f_X0_common_4] at hf
      refine lv_iload_n hx hb dX0_common_4 rfl (lv_at hl 2 rfl) ?_
      refine lv_aload_n hx hb dX0_common_5 rfl (lv_at hl 0 rfl) ?_
      refine gfX hx hb hts hin hown hK hP 0 (by decide) hw0 rfl rfl dX0_common_6 ?_
      refine lv_icmp_ge (tgt := 41) hx hb dX0_common_9 (by decide) (fun c1 => ?_) (fun c1 => ?_)
      · rw [if_pos c1] at hf
        refine lv_iload_n hx hb dX0_common_41 rfl (lv_at hl 1 rfl) ?_
        refine pu_S (As := [.int x1]) (rest := []) ⟨hx, hb, hml, hown, hts⟩ (k_J6_bitCount_0f7a4 l x1 _ rfl) gX0_common_J6_bitCount_0f7a4 rfl rfl rfl cd_J6_bitCount_0f7a4 (Nat.le_of_ble_eq_true rfl) (Nat.le_of_ble_eq_true rfl) (preT) rfl hl.1 rfl (Nat.le_of_ble_eq_true rfl) (Nat.zero_le _) (Nat.zero_le _) dX0_common_42 ?_
        have hf := Option.some.inj hf; subst hf
        exact W.iret hx hb hr (fun t ht hW => ⟨⟨rfl, by rw [ht]; exact hP⟩, hS.F ht⟩) hS.2.2 dX0_common_45
      · rw [if_neg c1] at hf
        refine lv_aload_n hx hb dX0_common_12 rfl (lv_at hl 0 rfl) ?_
        refine lv_iload_n hx hb dX0_common_13 rfl (lv_at hl 1 rfl) ?_
        obtain ⟨q2, hq2, hf⟩ := ob_some hf
        refine mu_Xi (As := [.int x1]) (rest := []) ⟨hx, hb, hml, hown, hts⟩ (k_X0_endOfPath l dC dI cA a S x1 _ hq2 hap) gX0_common_X0_endOfPath rfl rfl rfl cd_X0_endOfPath (Nat.le_of_ble_eq_true rfl) (Nat.le_of_ble_eq_true rfl) (preX hK hP) rfl hl.1 rfl (Nat.le_of_ble_eq_true rfl) (Nat.zero_le _) (Nat.zero_le _) dX0_common_14 hS (fun H locs hP hS => ?_)
        refine lv_topi (fun y3 ey3 => ?_)
        have hf := bnd_at hf ey3
        refine lv_istore_n (lv' := [(3, .int y3), (0, .ref (a 0)), (1, .int x1), (2, .int x2)]) hx hb dX0_common_17 rfl hl (by decide) rfl (fun ls hl => ?_)
        refine lv_iload_n hx hb dX0_common_18 rfl (lv_at hl 0 rfl) ?_
        refine lv_iconst (v := (-1)) hx hb dX0_common_19 (by decide) ?_
        refine lv_icmp_ne (tgt := 28) hx hb dX0_common_20 (by decide) (fun c4 => ?_) (fun c4 => ?_)
        · rw [if_neg c4] at hf
          refine lv_aload_n hx hb dX0_common_28 rfl (lv_at hl 1 rfl) ?_
          refine lv_iload_n hx hb dX0_common_29 rfl (lv_at hl 2 rfl) ?_
          refine lv_iload_n hx hb dX0_common_30 rfl (lv_at hl 0 rfl) ?_
          obtain ⟨v5, hv5, hf⟩ := ob_some hf
          refine pu_V (As := [.int x1, .int y3]) (rest := []) ⟨hx, hb, hml, hown, hts⟩ (k_X0_flippedAlong l dC dI cA a q2.2 x1 y3 _ hv5) gX0_common_X0_flippedAlong rfl rfl rfl cd_X0_flippedAlong (Nat.le_of_ble_eq_true rfl) (Nat.le_of_ble_eq_true rfl) (preX hK hP) rfl hl.1 rfl (Nat.le_of_ble_eq_true rfl) (Nat.zero_le _) (Nat.zero_le _) dX0_common_31 ?_
          refine lv_istore_n (lv' := [(1, .int v5), (3, .int y3), (0, .ref (a 0)), (2, .int x2)]) hx hb dX0_common_34 rfl hl (by decide) rfl (fun ls hl => ?_)
          obtain ⟨y6, ey6⟩ : ∃ y : Int32, y = (x2 + 1) := ⟨_, rfl⟩
          have hf := bnd_at hf ey6
          refine lv_iinc (v := y6) (lv' := [(2, .int y6), (1, .int v5), (3, .int y3), (0, .ref (a 0))]) hx hb dX0_common_35 hl (k := 3) rfl (by rw [ey6]; rfl) (by decide) rfl (fun ls hl => ?_)
          refine lv_goto (tgt := 4) hx hb dX0_common_38 (by decide) ?_
          exact ih4 q2.2 v5 y6 _ _ ls hf hP hS (lv_sub hl [3, 1, 0] rfl)
        · rw [if_pos c4] at hf
          refine lv_iload_n hx hb dX0_common_23 rfl (lv_at hl 2 rfl) ?_
          refine pu_S (As := [.int x1]) (rest := []) ⟨hx, hb, hml, hown, hts⟩ (k_J6_bitCount_0f7a4 l x1 _ rfl) gX0_common_J6_bitCount_0f7a4 rfl rfl rfl cd_J6_bitCount_0f7a4 (Nat.le_of_ble_eq_true rfl) (Nat.le_of_ble_eq_true rfl) (preT) rfl hl.1 rfl (Nat.le_of_ble_eq_true rfl) (Nat.zero_le _) (Nat.zero_le _) dX0_common_24 ?_
          have hf := Option.some.inj hf; subst hf
          exact W.iret hx hb hr (fun t ht hW => ⟨⟨rfl, by rw [ht]; exact hP⟩, hS.F ht⟩) hS.2.2 dX0_common_27
  unfold f_X0_common at hf
  refine lv_iconst (v := 0) hx hb dX0_common_0 (by decide) ?_
  refine lv_istore_n (lv' := [(1, .int 0), (0, .ref (a 0))]) hx hb dX0_common_1 rfl hl (by decide) rfl (fun ls hl => ?_)
  refine lv_iconst (v := 0) hx hb dX0_common_2 (by decide) ?_
  refine lv_istore_n (lv' := [(2, .int 0), (1, .int 0), (0, .ref (a 0))]) hx hb dX0_common_3 rfl hl (by decide) rfl (fun ls hl => ?_)
  exact hW4 70 S 0 0 _ _ ls hf hP hS (lv_sub hl [2, 1, 0] rfl)
theorem cd_X0_putNew : yX0_putNew.cls = RX0 ∧ yX0_putNew.cls ≠ "java/lang/invoke/MethodHandle" ∧ yX0_putNew.cls ≠ "java/lang/invoke/VarHandle" ∧ (parseMethodDescriptor yX0_putNew.desc).map (fun d => d.parameters.length) = some 2 := by decide +kernel
set_option maxHeartbeats 4000000 in
set_option maxRecDepth 100000 in
theorem k_X0_putNew (l : Launch) (dC : Nat → ClassId) (dI : Nat → Nat → Nat) (cA : ClassId) (a : Nat → Nat) (S : St) (p1 : Int32) (p2 : Int32) (r : St) (hf : f_X0_putNew S p1 p2 = some r) (hap : apart a 10) : Met l yX0_putNew wsX0_putNew ({ frames := 1, cells := 0, slots := 0, locals := 22 }) (va_Pc [.ref (a 0), .int p1, .int p2] (PXs (dC, dI) cA a S)) (mXv (dC, dI) cA a r) 0 0 (ad a 10) := by
  refine Met.ofW (cc := cX0_putNew) (maxL := 3) (ret := none) (by decide) rfl ?_
  intro p e s m args below meth c s₁ B hml hv
  obtain ⟨rfl, hP, hK⟩ := hv
  have hx := B.exec
  have hb := B.bytes
  have hr := B.returns
  have hts := atoms_spec (ws := wsX0_putNew) B.pre
  have hown : s.vm.findClass RX0 = some m.cls := findClass_of_methodNamed B.named
  have hlocks := B.notSynchronized
  have hin : ∀ w ∈ u_ws RX0 TX0 12, w ∈ wsX0_putNew := by decide +kernel
  have hw0 := hts (.fieldLink RX0 35 "Submodulary" "values" "[I") (by decide +kernel)
  have hw1 := hts (.fieldLink RX0 13 "Submodulary" "functions" "I") (by decide +kernel)
  have hS : va_S (ad a 10) s.heap s.heap [] := va_S.rf
  have hl := lv_entry ([.ref (a 0), .int p1, .int p2]) (n := 3) (Nat.le_of_ble_eq_true rfl)
  rw [lg_entry_eq]
  generalize (lg_sl ([.ref (a 0), .int p1, .int p2]) ++ List.replicate (3 - (lg_sl ([.ref (a 0), .int p1, .int p2])).length) Slot.unset).toArray = ls at hl ⊢
  have hl : lv_has ls 3 [(0, .ref (a 0)), (1, .int p1), (2, .int p2)] := hl
  unfold f_X0_putNew at hf
  refine lv_aload_n hx hb dX0_putNew_0 rfl (lv_at hl 0 rfl) ?_
  refine gfX hx hb hts hin hown hK hP 8 (by decide) hw0 rfl rfl dX0_putNew_1 ?_
  refine lv_aload_n hx hb dX0_putNew_4 rfl (lv_at hl 0 rfl) ?_
  refine gfX hx hb hts hin hown hK hP 1 (by decide) hw1 rfl rfl dX0_putNew_5 ?_
  refine lv_bipush (v := 64) hx hb dX0_putNew_8 (by decide) ?_
  refine lv_imul hx hb dX0_putNew_10 ?_
  refine lv_iload_n hx hb dX0_putNew_11 rfl (lv_at hl 1 rfl) ?_
  refine lv_iadd hx hb dX0_putNew_12 ?_
  refine lv_iload_n hx hb dX0_putNew_13 rfl (lv_at hl 2 rfl) ?_
  refine mu_RX (As := [.ref (a 6), .int (((S.1 1) * 64) + p1), .int p2]) (rest := []) ⟨hx, hb, hml, hown, hts⟩ (k_X0_put l dC dI cA (a 6) 512 (S.2 5) (((S.1 1) * 64) + p1) p2 (by decide)) gX0_putNew_X0_put rfl rfl rfl cd_X0_put (Nat.le_of_ble_eq_true rfl) (Nat.le_of_ble_eq_true rfl) (preR hK (rowX hP 6 (wX_q5 cA a _))) rfl hl.1 rfl (Nat.le_of_ble_eq_true rfl) (Nat.zero_le _) (Nat.zero_le _) dX0_putNew_14 hP hap hS 5 (wX_q5 cA a _) (wX_s5 cA a _ _) (fun H locs hP hS => ?_)
  have hf := Option.some.inj hf; subst hf
  exact W.vret hx hb hr (fun t ht hW => ⟨⟨rfl, by rw [ht]; exact hP⟩, hS.F ht⟩) hS.2.2 dX0_putNew_17
theorem cd_X0_countNew : yX0_countNew.cls = RX0 ∧ yX0_countNew.cls ≠ "java/lang/invoke/MethodHandle" ∧ yX0_countNew.cls ≠ "java/lang/invoke/VarHandle" ∧ (parseMethodDescriptor yX0_countNew.desc).map (fun d => d.parameters.length) = some 0 := by decide +kernel
set_option maxHeartbeats 4000000 in
set_option maxRecDepth 100000 in
theorem k_X0_countNew (l : Launch) (dC : Nat → ClassId) (dI : Nat → Nat → Nat) (cA : ClassId) (a : Nat → Nat) (S : St) (r : Int32 × St) (hf : f_X0_countNew S = some r) (hap : apart a 10) : Met l yX0_countNew wsX0_countNew ({ frames := 0, cells := 0, slots := 0, locals := 0 }) (va_Pc [.ref (a 0)] (PXs (dC, dI) cA a S)) (mXi (dC, dI) cA a r.1 r.2) 0 0 (ad a 10) := by
  refine Met.ofW (cc := cX0_countNew) (maxL := 2) (ret := (some .int)) (by decide) rfl ?_
  intro p e s m args below meth c s₁ B hml hv
  obtain ⟨rfl, hP, hK⟩ := hv
  have hx := B.exec
  have hb := B.bytes
  have hr := B.returns
  have hts := atoms_spec (ws := wsX0_countNew) B.pre
  have hown : s.vm.findClass RX0 = some m.cls := findClass_of_methodNamed B.named
  have hlocks := B.notSynchronized
  have hin : ∀ w ∈ u_ws RX0 TX0 12, w ∈ wsX0_countNew := by decide +kernel
  have hw0 := hts (.fieldLink RX0 13 "Submodulary" "functions" "I") (by decide +kernel)
  have hS : va_S (ad a 10) s.heap s.heap [] := va_S.rf
  have hl := lv_entry ([.ref (a 0)]) (n := 2) (Nat.le_of_ble_eq_true rfl)
  rw [lg_entry_eq]
  generalize (lg_sl ([.ref (a 0)]) ++ List.replicate (2 - (lg_sl ([.ref (a 0)])).length) Slot.unset).toArray = ls at hl ⊢
  have hl : lv_has ls 2 [(0, .ref (a 0))] := hl
  unfold f_X0_countNew at hf
  refine lv_aload_n hx hb dX0_countNew_0 rfl (lv_at hl 0 rfl) ?_
  refine gfX hx hb hts hin hown hK hP 1 (by decide) hw0 rfl rfl dX0_countNew_1 ?_
  refine lv_topi (fun y1 ey1 => ?_)
  have hf := bnd_at hf ey1
  refine lv_istore_n (lv' := [(1, .int y1), (0, .ref (a 0))]) hx hb dX0_countNew_4 rfl hl (by decide) rfl (fun ls hl => ?_)
  refine lv_aload_n hx hb dX0_countNew_5 rfl (lv_at hl 1 rfl) ?_
  refine lv_dup hx hb dX0_countNew_6 rfl ?_
  refine gfX hx hb hts hin hown hK hP 1 (by decide) hw0 rfl rfl dX0_countNew_7 ?_
  refine lv_iconst (v := 1) hx hb dX0_countNew_10 (by decide) ?_
  refine lv_iadd hx hb dX0_countNew_11 ?_
  refine pfX hx hb hts hin hown hK hP hap hS 1 (by decide) hw0 rfl rfl (by decide +kernel) (k2 := 1) (fun _ => rfl) dX0_countNew_12 (fun H locs hP hS => ?_)
  refine lv_iload_n hx hb dX0_countNew_15 rfl (lv_at hl 0 rfl) ?_
  have hf := Option.some.inj hf; subst hf
  exact W.iret hx hb hr (fun t ht hW => ⟨⟨rfl, by rw [ht]; exact hP⟩, hS.F ht⟩) hS.2.2 dX0_countNew_16

def f_X0_sets (S : St) : Int32 := ((1 : Int32) <<< ((S.1 0) &&& 31))

def f_X0_has (p0 : Int32) (p1 : Int32) : Int32 := (if ((p0 >>> (p1 &&& 31)) &&& 1) = 1 then 1 else 0)
theorem z_X0_has (p0 p1 : Int32) : f_X0_has p0 p1 &&& 1 = f_X0_has p0 p1 := by
  unfold f_X0_has
  repeat' split
  all_goals first | decide

def f_X0_colourOf (S : St) (p1 : Int32) (p2 : Int32) : Int32 := (atv 12 (S.2 2) ((p1 * 6) + p2))

def f_X0_countOf_6 (S : St) (p1 p2 p3 : Int32) : Nat → Int32 → Int32 → Option Int32
  | 0, _, _ => none
  | k + 1, x4, x5 => (if (S.1 0) ≤ x5 then some x4 else (if (f_X0_has p3 x5) = 0 then (bnd (x5 + 1) fun y3 => ((f_X0_countOf_6 S p1 p2 p3 k) x4 y3)) else (if (f_X0_colourOf S p1 x5) = p2 then (bnd (x4 + 1) fun y6 => (bnd (x5 + 1) fun y7 => ((f_X0_countOf_6 S p1 p2 p3 k) y6 y7))) else (bnd (x5 + 1) fun y5 => ((f_X0_countOf_6 S p1 p2 p3 k) x4 y5)))))
def f_X0_countOf (S : St) (p1 : Int32) (p2 : Int32) (p3 : Int32) : Option Int32 := (f_X0_countOf_6 S p1 p2 p3 70 0 0)

def f_X0_roomOf (S : St) (p1 : Int32) (p2 : Int32) : Int32 := (atv 12 (S.2 3) ((p1 * 6) + p2))

def f_X0_isFair_2 (S : St) (p1 p2 : Int32) : Nat → Int32 → Option Int32
  | 0, _ => none
  | k + 1, x3 => (if 6 ≤ x3 then some 1 else ((f_X0_countOf S p1 x3 p2).bind fun v2 => (if v2 ≤ (f_X0_roomOf S p1 x3) then (bnd (x3 + 1) fun y4 => ((f_X0_isFair_2 S p1 p2 k) y4)) else some 0)))
def f_X0_isFair (S : St) (p1 : Int32) (p2 : Int32) : Option Int32 := (f_X0_isFair_2 S p1 p2 70 0)

def f_J6_bitCount_0f7a4 (p0 : Int32) : Int32 := (bnd (p0 - (((p0.toUInt32 >>> ((1 : Int32).toUInt32 &&& Int32.toUInt32 31)).toInt32) &&& 1431655765)) fun y1 => (bnd ((y1 &&& 858993459) + (((y1.toUInt32 >>> ((2 : Int32).toUInt32 &&& Int32.toUInt32 31)).toInt32) &&& 858993459)) fun y2 => (bnd ((y2 + ((y2.toUInt32 >>> ((4 : Int32).toUInt32 &&& Int32.toUInt32 31)).toInt32)) &&& 252645135) fun y3 => (bnd (y3 + ((y3.toUInt32 >>> ((8 : Int32).toUInt32 &&& Int32.toUInt32 31)).toInt32)) fun y4 => (bnd (y4 + ((y4.toUInt32 >>> ((16 : Int32).toUInt32 &&& Int32.toUInt32 31)).toInt32)) fun y5 => (y5 &&& 63))))))

def f_X0_commonAnew_4 (S : St) : Nat → Int32 → Int32 → Option Int32
  | 0, _, _ => none
  | k + 1, x1, x2 => (if (f_X0_sets S ) ≤ x2 then some x1 else ((f_X0_isFair S 0 x2).bind fun v2 => (if v2 = 0 then (bnd (x2 + 1) fun y4 => ((f_X0_commonAnew_4 S k) x1 y4)) else ((f_X0_isFair S 1 x2).bind fun v5 => (if v5 = 0 then (bnd (x2 + 1) fun y7 => ((f_X0_commonAnew_4 S k) x1 y7)) else (bnd (if x1 < (f_J6_bitCount_0f7a4 x2) then (f_J6_bitCount_0f7a4 x2) else x1) fun y8 => (bnd (x2 + 1) fun y9 => ((f_X0_commonAnew_4 S k) y8 y9))))))))
def f_X0_commonAnew (S : St) : Option Int32 := (f_X0_commonAnew_4 S 70 0 0)

def f_X0_isWithin (p0 : Int32) (p1 : Int32) (p2 : Int32) : Int32 := (if p0 < p1 then 0 else (if p2 < p0 then 0 else 1))
theorem z_X0_isWithin (p0 p1 p2 : Int32) : f_X0_isWithin p0 p1 p2 &&& 1 = f_X0_isWithin p0 p1 p2 := by
  unfold f_X0_isWithin
  repeat' split
  all_goals first | decide

def f_X0_isElement (S : St) (p1 : Int32) : Int32 := (if p1 < 0 then 0 else (if (S.1 0) ≤ p1 then 0 else 1))
theorem z_X0_isElement (S : St) (p1 : Int32) : f_X0_isElement S p1 &&& 1 = f_X0_isElement S p1 := by
  unfold f_X0_isElement
  repeat' split
  all_goals first | decide

def f_X0_isFamily (p0 : Int32) : Int32 := (if p0 < 0 then 0 else (if 2 ≤ p0 then 0 else 1))
theorem z_X0_isFamily (p0 : Int32) : f_X0_isFamily p0 &&& 1 = f_X0_isFamily p0 := by
  unfold f_X0_isFamily
  repeat' split
  all_goals first | decide

def f_X0_isColour (p0 : Int32) : Int32 := (if p0 < 0 then 0 else (if 6 ≤ p0 then 0 else 1))
theorem z_X0_isColour (p0 : Int32) : f_X0_isColour p0 &&& 1 = f_X0_isColour p0 := by
  unfold f_X0_isColour
  repeat' split
  all_goals first | decide

def f_X0_isFunction (S : St) (p1 : Int32) : Int32 := (if p1 < 0 then 0 else (if (S.1 1) ≤ p1 then 0 else 1))
theorem z_X0_isFunction (S : St) (p1 : Int32) : f_X0_isFunction S p1 &&& 1 = f_X0_isFunction S p1 := by
  unfold f_X0_isFunction
  repeat' split
  all_goals first | decide

def f_X0_isSet (S : St) (p1 : Int32) : Int32 := (if p1 < 0 then 0 else (if (f_X0_sets S ) ≤ p1 then 0 else 1))
theorem z_X0_isSet (S : St) (p1 : Int32) : f_X0_isSet S p1 &&& 1 = f_X0_isSet S p1 := by
  unfold f_X0_isSet
  repeat' split
  all_goals first | decide

def f_X0_edgeWeight (S : St) (p1 : Int32) (p2 : Int32) : Int32 := (atv 36 (S.2 1) ((p1 * 6) + p2))

def f_X0_valueOf (S : St) (p1 : Int32) (p2 : Int32) : Int32 := (atv 512 (S.2 5) ((p1 * 64) + p2))

def f_X0_with (p0 : Int32) (p1 : Int32) : Int32 := (p0 ||| ((1 : Int32) <<< (p1 &&& 31)))

def f_X0_without (p0 : Int32) (p1 : Int32) : Int32 := (p0 &&& (((1 : Int32) <<< (p1 &&& 31)) ^^^ (-1)))

def f_X0_coverValue_4 (S : St) (p1 : Int32) : Nat → Int32 → Int32 → Option Int32
  | 0, _, _ => none
  | k + 1, x2, x3 => (if (S.1 0) ≤ x3 then some (f_J6_bitCount_0f7a4 x2) else (if (f_X0_has p1 x3) = 0 then (bnd (x3 + 1) fun y3 => ((f_X0_coverValue_4 S p1 k) x2 y3)) else (bnd (x2 ||| (atv 6 (S.2 0) x3)) fun y4 => (bnd (x3 + 1) fun y5 => ((f_X0_coverValue_4 S p1 k) y4 y5)))))
def f_X0_coverValue (S : St) (p1 : Int32) : Option Int32 := (f_X0_coverValue_4 S p1 70 0 0)

theorem cd_X0_sets : yX0_sets.cls = RX0 ∧ yX0_sets.cls ≠ "java/lang/invoke/MethodHandle" ∧ yX0_sets.cls ≠ "java/lang/invoke/VarHandle" ∧ (parseMethodDescriptor yX0_sets.desc).map (fun d => d.parameters.length) = some 0 := by decide +kernel
set_option maxHeartbeats 4000000 in
set_option maxRecDepth 100000 in
theorem k_X0_sets (l : Launch) (dC : Nat → ClassId) (dI : Nat → Nat → Nat) (cA : ClassId) (a : Nat → Nat) (S : St) (r : Int32) (hf : f_X0_sets S = r) : Met l yX0_sets wsX0_sets ({ frames := 0, cells := 0, slots := 0, locals := 0 }) (va_Pc [.ref (a 0)] (PXs (dC, dI) cA a S)) (pQi r) 0 0 (fun _ => False) := by
  refine Met.ofW (cc := cX0_sets) (maxL := 1) (ret := (some .int)) (by decide) rfl ?_
  intro p e s m args below meth c s₁ B hml hv
  obtain ⟨rfl, hP, hK⟩ := hv
  have hx := B.exec
  have hb := B.bytes
  have hr := B.returns
  have hts := atoms_spec (ws := wsX0_sets) B.pre
  have hown : s.vm.findClass RX0 = some m.cls := findClass_of_methodNamed B.named
  have hlocks := B.notSynchronized
  have hin : ∀ w ∈ u_ws RX0 TX0 12, w ∈ wsX0_sets := by decide +kernel
  have hw0 := hts (.fieldLink RX0 9 "Submodulary" "elements" "I") (by decide +kernel)
  have hl := lv_entry ([.ref (a 0)]) (n := 1) (Nat.le_of_ble_eq_true rfl)
  rw [lg_entry_eq]
  generalize (lg_sl ([.ref (a 0)]) ++ List.replicate (1 - (lg_sl ([.ref (a 0)])).length) Slot.unset).toArray = ls at hl ⊢
  have hl : lv_has ls 1 [(0, .ref (a 0))] := hl
  unfold f_X0_sets at hf
  refine lv_iconst (v := 1) hx hb dX0_sets_0 (by decide) ?_
  refine lv_aload_n hx hb dX0_sets_1 rfl (lv_at hl 0 rfl) ?_
  refine gfX hx hb hts hin hown hK hP 0 (by decide) hw0 rfl rfl dX0_sets_2 ?_
  refine lv_ishl hx hb dX0_sets_5 ?_
  subst hf
  exact W.iret hx hb hr (fun t ht hW => ⟨rfl, ht⟩) (fun q h => by cases h) dX0_sets_6
theorem cd_X0_has : yX0_has.cls ≠ "java/lang/invoke/MethodHandle" ∧ yX0_has.cls ≠ "java/lang/invoke/VarHandle" ∧ (parseMethodDescriptor yX0_has.desc).map (fun d => d.parameters.length) = some 2 := by decide +kernel
set_option maxHeartbeats 4000000 in
set_option maxRecDepth 100000 in
theorem k_X0_has (l : Launch) (p0 : Int32) (p1 : Int32) (r : Int32) (hf : f_X0_has p0 p1 = r) : Met l yX0_has wsX0_has ({ frames := 0, cells := 0, slots := 0, locals := 0 }) (va_Pc [.int p0, .int p1] (fun _ => True)) (pQi r) 0 0 (fun _ => False) := by
  refine Met.ofW (cc := cX0_has) (maxL := 2) (ret := (some .boolean)) (by decide) rfl ?_
  intro p e s m args below meth c s₁ B hml hv
  obtain ⟨rfl, -⟩ := hv
  have hx := B.exec
  have hb := B.bytes
  have hr := B.returns
  have hts := atoms_spec (ws := wsX0_has) B.pre
  have hown : s.vm.findClass RX0 = some m.cls := findClass_of_methodNamed B.named
  have hlocks := B.notSynchronized
  have hl := lv_entry ([.int p0, .int p1]) (n := 2) (Nat.le_of_ble_eq_true rfl)
  rw [lg_entry_eq]
  generalize (lg_sl ([.int p0, .int p1]) ++ List.replicate (2 - (lg_sl ([.int p0, .int p1])).length) Slot.unset).toArray = ls at hl ⊢
  have hl : lv_has ls 2 [(0, .int p0), (1, .int p1)] := hl
  unfold f_X0_has at hf
  refine lv_iload_n hx hb dX0_has_0 rfl (lv_at hl 0 rfl) ?_
  refine lv_iload_n hx hb dX0_has_1 rfl (lv_at hl 1 rfl) ?_
  refine lv_ishr hx hb dX0_has_2 ?_
  refine lv_iconst (v := 1) hx hb dX0_has_3 (by decide) ?_
  refine lv_iand hx hb dX0_has_4 ?_
  refine lv_iconst (v := 1) hx hb dX0_has_5 (by decide) ?_
  refine lv_icmp_ne (tgt := 13) hx hb dX0_has_6 (by decide) (fun c1 => ?_) (fun c1 => ?_)
  · rw [if_neg c1] at hf
    refine lv_iconst (v := 0) hx hb dX0_has_13 (by decide) ?_
    subst hf
    exact W.zret hx hb hr rfl (fun t ht hW => ⟨rfl, ht⟩) (fun q h => by cases h) dX0_has_14
  · rw [if_pos c1] at hf
    refine lv_iconst (v := 1) hx hb dX0_has_9 (by decide) ?_
    refine lv_goto (tgt := 14) hx hb dX0_has_10 (by decide) ?_
    subst hf
    exact W.zret hx hb hr rfl (fun t ht hW => ⟨rfl, ht⟩) (fun q h => by cases h) dX0_has_14
theorem cd_X0_colourOf : yX0_colourOf.cls = RX0 ∧ yX0_colourOf.cls ≠ "java/lang/invoke/MethodHandle" ∧ yX0_colourOf.cls ≠ "java/lang/invoke/VarHandle" ∧ (parseMethodDescriptor yX0_colourOf.desc).map (fun d => d.parameters.length) = some 2 := by decide +kernel
set_option maxHeartbeats 4000000 in
set_option maxRecDepth 100000 in
theorem k_X0_colourOf (l : Launch) (dC : Nat → ClassId) (dI : Nat → Nat → Nat) (cA : ClassId) (a : Nat → Nat) (S : St) (p1 : Int32) (p2 : Int32) (r : Int32) (hf : f_X0_colourOf S p1 p2 = r) : Met l yX0_colourOf wsX0_colourOf ({ frames := 1, cells := 0, slots := 0, locals := 21 }) (va_Pc [.ref (a 0), .int p1, .int p2] (PXs (dC, dI) cA a S)) (pQi r) 0 0 (fun _ => False) := by
  refine Met.ofW (cc := cX0_colourOf) (maxL := 3) (ret := (some .int)) (by decide) rfl ?_
  intro p e s m args below meth c s₁ B hml hv
  obtain ⟨rfl, hP, hK⟩ := hv
  have hx := B.exec
  have hb := B.bytes
  have hr := B.returns
  have hts := atoms_spec (ws := wsX0_colourOf) B.pre
  have hown : s.vm.findClass RX0 = some m.cls := findClass_of_methodNamed B.named
  have hlocks := B.notSynchronized
  have hin : ∀ w ∈ u_ws RX0 TX0 12, w ∈ wsX0_colourOf := by decide +kernel
  have hw0 := hts (.fieldLink RX0 26 "Submodulary" "colours" "[I") (by decide +kernel)
  have hl := lv_entry ([.ref (a 0), .int p1, .int p2]) (n := 3) (Nat.le_of_ble_eq_true rfl)
  rw [lg_entry_eq]
  generalize (lg_sl ([.ref (a 0), .int p1, .int p2]) ++ List.replicate (3 - (lg_sl ([.ref (a 0), .int p1, .int p2])).length) Slot.unset).toArray = ls at hl ⊢
  have hl : lv_has ls 3 [(0, .ref (a 0)), (1, .int p1), (2, .int p2)] := hl
  unfold f_X0_colourOf at hf
  refine lv_aload_n hx hb dX0_colourOf_0 rfl (lv_at hl 0 rfl) ?_
  refine gfX hx hb hts hin hown hK hP 5 (by decide) hw0 rfl rfl dX0_colourOf_1 ?_
  refine lv_iload_n hx hb dX0_colourOf_4 rfl (lv_at hl 1 rfl) ?_
  refine lv_bipush (v := 6) hx hb dX0_colourOf_5 (by decide) ?_
  refine lv_imul hx hb dX0_colourOf_7 ?_
  refine lv_iload_n hx hb dX0_colourOf_8 rfl (lv_at hl 2 rfl) ?_
  refine lv_iadd hx hb dX0_colourOf_9 ?_
  refine pu_S (As := [.ref (a 3), .int ((p1 * 6) + p2)]) (rest := []) ⟨hx, hb, hml, hown, hts⟩ (k_X0_at l dC dI cA (a 3) 12 (S.2 2) ((p1 * 6) + p2) (by decide)) gX0_colourOf_X0_at rfl rfl rfl cd_X0_at (Nat.le_of_ble_eq_true rfl) (Nat.le_of_ble_eq_true rfl) (preR hK (rowX hP 3 rfl)) rfl hl.1 rfl (Nat.le_of_ble_eq_true rfl) (Nat.zero_le _) (Nat.zero_le _) dX0_colourOf_10 ?_
  subst hf
  exact W.iret hx hb hr (fun t ht hW => ⟨rfl, ht⟩) (fun q h => by cases h) dX0_colourOf_13
theorem cd_X0_countOf : yX0_countOf.cls = RX0 ∧ yX0_countOf.cls ≠ "java/lang/invoke/MethodHandle" ∧ yX0_countOf.cls ≠ "java/lang/invoke/VarHandle" ∧ (parseMethodDescriptor yX0_countOf.desc).map (fun d => d.parameters.length) = some 3 := by decide +kernel
set_option maxHeartbeats 4000000 in
set_option maxRecDepth 100000 in
theorem k_X0_countOf (l : Launch) (dC : Nat → ClassId) (dI : Nat → Nat → Nat) (cA : ClassId) (a : Nat → Nat) (S : St) (p1 : Int32) (p2 : Int32) (p3 : Int32) (r : Int32) (hf : f_X0_countOf S p1 p2 p3 = some r) : Met l yX0_countOf wsX0_countOf ({ frames := 2, cells := 0, slots := 0, locals := 43 }) (va_Pc [.ref (a 0), .int p1, .int p2, .int p3] (PXs (dC, dI) cA a S)) (pQi r) 0 0 (fun _ => False) := by
  refine Met.ofW (cc := cX0_countOf) (maxL := 6) (ret := (some .int)) (by decide) rfl ?_
  intro p e s m args below meth c s₁ B hml hv
  obtain ⟨rfl, hP, hK⟩ := hv
  have hx := B.exec
  have hb := B.bytes
  have hr := B.returns
  have hts := atoms_spec (ws := wsX0_countOf) B.pre
  have hown : s.vm.findClass RX0 = some m.cls := findClass_of_methodNamed B.named
  have hlocks := B.notSynchronized
  have hin : ∀ w ∈ u_ws RX0 TX0 12, w ∈ wsX0_countOf := by decide +kernel
  have hw0 := hts (.fieldLink RX0 9 "Submodulary" "elements" "I") (by decide +kernel)
  have hl := lv_entry ([.ref (a 0), .int p1, .int p2, .int p3]) (n := 6) (Nat.le_of_ble_eq_true rfl)
  rw [lg_entry_eq]
  generalize (lg_sl ([.ref (a 0), .int p1, .int p2, .int p3]) ++ List.replicate (6 - (lg_sl ([.ref (a 0), .int p1, .int p2, .int p3])).length) Slot.unset).toArray = ls at hl ⊢
  have hl : lv_has ls 6 [(0, .ref (a 0)), (1, .int p1), (2, .int p2), (3, .int p3)] := hl
  have hW6 : ∀ (k6 : Nat) (x4 x5 : Int32) (ls : Array Slot), f_X0_countOf_6 S p1 p2 p3 k6 x4 x5 = some r → lv_has ls 6 [(0, .ref (a 0)), (1, .int p1), (2, .int p2), (3, .int p3), (4, .int x4), (5, .int x5)] → W p l e (headSpec wsX0_countOf ({ frames := 2, cells := 0, slots := 0, locals := 43 })).room s m ([.ref (a 0), .int p1, .int p2, .int p3] : List Value).toArray below meth c s.heap [] 0 0 (MQ below (pQi r) ([.ref (a 0), .int p1, .int p2, .int p3] : List Value).toArray s 0 0 (fun _ => False)) (F0 m 6 ls []) := by
    intro k6
    induction k6 with
    | zero =>
      intro x4 x5 ls hf hl
      rw [f_X0_countOf_6] at hf
      cases hf
    | succ k6 ih6 =>
      intro x4 x5 ls hf hl
      rw [f_X0_countOf_6] at hf
      refine lv_iload hx hb dX0_countOf_6 (lv_at hl 5 rfl) ?_
      refine lv_aload_n hx hb dX0_countOf_8 rfl (lv_at hl 0 rfl) ?_
      refine gfX hx hb hts hin hown hK hP 0 (by decide) hw0 rfl rfl dX0_countOf_9 ?_
      refine lv_icmp_ge (tgt := 44) hx hb dX0_countOf_12 (by decide) (fun c1 => ?_) (fun c1 => ?_)
      · rw [if_pos c1] at hf
        refine lv_iload hx hb dX0_countOf_44 (lv_at hl 4 rfl) ?_
        have hf := Option.some.inj hf; subst hf
        exact W.iret hx hb hr (fun t ht hW => ⟨rfl, ht⟩) (fun q h => by cases h) dX0_countOf_46
      · rw [if_neg c1] at hf
        refine lv_iload_n hx hb dX0_countOf_15 rfl (lv_at hl 3 rfl) ?_
        refine lv_iload hx hb dX0_countOf_16 (lv_at hl 5 rfl) ?_
        refine pu_S (As := [.int p3, .int x5]) (rest := []) ⟨hx, hb, hml, hown, hts⟩ (k_X0_has l p3 x5 _ rfl) gX0_countOf_X0_has rfl rfl rfl cd_X0_has (Nat.le_of_ble_eq_true rfl) (Nat.le_of_ble_eq_true rfl) (preT) rfl hl.1 rfl (Nat.le_of_ble_eq_true rfl) (Nat.zero_le _) (Nat.zero_le _) dX0_countOf_18 ?_
        refine lv_if_eq (tgt := 38) hx hb dX0_countOf_21 (by decide) (fun c2 => ?_) (fun c2 => ?_)
        · rw [if_pos c2] at hf
          obtain ⟨y3, ey3⟩ : ∃ y : Int32, y = (x5 + 1) := ⟨_, rfl⟩
          have hf := bnd_at hf ey3
          refine lv_iinc (v := y3) (lv' := [(5, .int y3), (0, .ref (a 0)), (1, .int p1), (2, .int p2), (3, .int p3), (4, .int x4)]) hx hb dX0_countOf_38 hl (k := 5) rfl (by rw [ey3]; rfl) (by decide) rfl (fun ls hl => ?_)
          refine lv_goto (tgt := 6) hx hb dX0_countOf_41 (by decide) ?_
          exact ih6 x4 y3 ls hf (lv_sub hl [1, 2, 3, 4, 5, 0] rfl)
        · rw [if_neg c2] at hf
          refine lv_aload_n hx hb dX0_countOf_24 rfl (lv_at hl 0 rfl) ?_
          refine lv_iload_n hx hb dX0_countOf_25 rfl (lv_at hl 1 rfl) ?_
          refine lv_iload hx hb dX0_countOf_26 (lv_at hl 5 rfl) ?_
          refine pu_V (As := [.int p1, .int x5]) (rest := []) ⟨hx, hb, hml, hown, hts⟩ (k_X0_colourOf l dC dI cA a S p1 x5 _ rfl) gX0_countOf_X0_colourOf rfl rfl rfl cd_X0_colourOf (Nat.le_of_ble_eq_true rfl) (Nat.le_of_ble_eq_true rfl) (preX hK hP) rfl hl.1 rfl (Nat.le_of_ble_eq_true rfl) (Nat.zero_le _) (Nat.zero_le _) dX0_countOf_28 ?_
          refine lv_iload_n hx hb dX0_countOf_31 rfl (lv_at hl 2 rfl) ?_
          refine lv_icmp_ne (tgt := 38) hx hb dX0_countOf_32 (by decide) (fun c4 => ?_) (fun c4 => ?_)
          · rw [if_neg c4] at hf
            obtain ⟨y5, ey5⟩ : ∃ y : Int32, y = (x5 + 1) := ⟨_, rfl⟩
            have hf := bnd_at hf ey5
            refine lv_iinc (v := y5) (lv' := [(5, .int y5), (0, .ref (a 0)), (1, .int p1), (2, .int p2), (3, .int p3), (4, .int x4)]) hx hb dX0_countOf_38 hl (k := 5) rfl (by rw [ey5]; rfl) (by decide) rfl (fun ls hl => ?_)
            refine lv_goto (tgt := 6) hx hb dX0_countOf_41 (by decide) ?_
            exact ih6 x4 y5 ls hf (lv_sub hl [1, 2, 3, 4, 5, 0] rfl)
          · rw [if_pos c4] at hf
            obtain ⟨y6, ey6⟩ : ∃ y : Int32, y = (x4 + 1) := ⟨_, rfl⟩
            have hf := bnd_at hf ey6
            refine lv_iinc (v := y6) (lv' := [(4, .int y6), (0, .ref (a 0)), (1, .int p1), (2, .int p2), (3, .int p3), (5, .int x5)]) hx hb dX0_countOf_35 hl (k := 4) rfl (by rw [ey6]; rfl) (by decide) rfl (fun ls hl => ?_)
            obtain ⟨y7, ey7⟩ : ∃ y : Int32, y = (x5 + 1) := ⟨_, rfl⟩
            have hf := bnd_at hf ey7
            refine lv_iinc (v := y7) (lv' := [(5, .int y7), (4, .int y6), (0, .ref (a 0)), (1, .int p1), (2, .int p2), (3, .int p3)]) hx hb dX0_countOf_38 hl (k := 5) rfl (by rw [ey7]; rfl) (by decide) rfl (fun ls hl => ?_)
            refine lv_goto (tgt := 6) hx hb dX0_countOf_41 (by decide) ?_
            exact ih6 y6 y7 ls hf (lv_sub hl [2, 3, 4, 5, 1, 0] rfl)
  unfold f_X0_countOf at hf
  refine lv_iconst (v := 0) hx hb dX0_countOf_0 (by decide) ?_
  refine lv_istore (lv' := [(4, .int 0), (0, .ref (a 0)), (1, .int p1), (2, .int p2), (3, .int p3)]) hx hb dX0_countOf_1 hl (by decide) rfl (fun ls hl => ?_)
  refine lv_iconst (v := 0) hx hb dX0_countOf_3 (by decide) ?_
  refine lv_istore (lv' := [(5, .int 0), (4, .int 0), (0, .ref (a 0)), (1, .int p1), (2, .int p2), (3, .int p3)]) hx hb dX0_countOf_4 hl (by decide) rfl (fun ls hl => ?_)
  exact hW6 70 0 0 ls hf (lv_sub hl [2, 3, 4, 5, 1, 0] rfl)
theorem cd_X0_roomOf : yX0_roomOf.cls = RX0 ∧ yX0_roomOf.cls ≠ "java/lang/invoke/MethodHandle" ∧ yX0_roomOf.cls ≠ "java/lang/invoke/VarHandle" ∧ (parseMethodDescriptor yX0_roomOf.desc).map (fun d => d.parameters.length) = some 2 := by decide +kernel
set_option maxHeartbeats 4000000 in
set_option maxRecDepth 100000 in
theorem k_X0_roomOf (l : Launch) (dC : Nat → ClassId) (dI : Nat → Nat → Nat) (cA : ClassId) (a : Nat → Nat) (S : St) (p1 : Int32) (p2 : Int32) (r : Int32) (hf : f_X0_roomOf S p1 p2 = r) : Met l yX0_roomOf wsX0_roomOf ({ frames := 1, cells := 0, slots := 0, locals := 21 }) (va_Pc [.ref (a 0), .int p1, .int p2] (PXs (dC, dI) cA a S)) (pQi r) 0 0 (fun _ => False) := by
  refine Met.ofW (cc := cX0_roomOf) (maxL := 3) (ret := (some .int)) (by decide) rfl ?_
  intro p e s m args below meth c s₁ B hml hv
  obtain ⟨rfl, hP, hK⟩ := hv
  have hx := B.exec
  have hb := B.bytes
  have hr := B.returns
  have hts := atoms_spec (ws := wsX0_roomOf) B.pre
  have hown : s.vm.findClass RX0 = some m.cls := findClass_of_methodNamed B.named
  have hlocks := B.notSynchronized
  have hin : ∀ w ∈ u_ws RX0 TX0 12, w ∈ wsX0_roomOf := by decide +kernel
  have hw0 := hts (.fieldLink RX0 29 "Submodulary" "rooms" "[I") (by decide +kernel)
  have hl := lv_entry ([.ref (a 0), .int p1, .int p2]) (n := 3) (Nat.le_of_ble_eq_true rfl)
  rw [lg_entry_eq]
  generalize (lg_sl ([.ref (a 0), .int p1, .int p2]) ++ List.replicate (3 - (lg_sl ([.ref (a 0), .int p1, .int p2])).length) Slot.unset).toArray = ls at hl ⊢
  have hl : lv_has ls 3 [(0, .ref (a 0)), (1, .int p1), (2, .int p2)] := hl
  unfold f_X0_roomOf at hf
  refine lv_aload_n hx hb dX0_roomOf_0 rfl (lv_at hl 0 rfl) ?_
  refine gfX hx hb hts hin hown hK hP 6 (by decide) hw0 rfl rfl dX0_roomOf_1 ?_
  refine lv_iload_n hx hb dX0_roomOf_4 rfl (lv_at hl 1 rfl) ?_
  refine lv_bipush (v := 6) hx hb dX0_roomOf_5 (by decide) ?_
  refine lv_imul hx hb dX0_roomOf_7 ?_
  refine lv_iload_n hx hb dX0_roomOf_8 rfl (lv_at hl 2 rfl) ?_
  refine lv_iadd hx hb dX0_roomOf_9 ?_
  refine pu_S (As := [.ref (a 4), .int ((p1 * 6) + p2)]) (rest := []) ⟨hx, hb, hml, hown, hts⟩ (k_X0_at l dC dI cA (a 4) 12 (S.2 3) ((p1 * 6) + p2) (by decide)) gX0_roomOf_X0_at rfl rfl rfl cd_X0_at (Nat.le_of_ble_eq_true rfl) (Nat.le_of_ble_eq_true rfl) (preR hK (rowX hP 4 rfl)) rfl hl.1 rfl (Nat.le_of_ble_eq_true rfl) (Nat.zero_le _) (Nat.zero_le _) dX0_roomOf_10 ?_
  subst hf
  exact W.iret hx hb hr (fun t ht hW => ⟨rfl, ht⟩) (fun q h => by cases h) dX0_roomOf_13
theorem cd_X0_isFair : yX0_isFair.cls = RX0 ∧ yX0_isFair.cls ≠ "java/lang/invoke/MethodHandle" ∧ yX0_isFair.cls ≠ "java/lang/invoke/VarHandle" ∧ (parseMethodDescriptor yX0_isFair.desc).map (fun d => d.parameters.length) = some 2 := by decide +kernel
set_option maxHeartbeats 4000000 in
set_option maxRecDepth 100000 in
theorem k_X0_isFair (l : Launch) (dC : Nat → ClassId) (dI : Nat → Nat → Nat) (cA : ClassId) (a : Nat → Nat) (S : St) (p1 : Int32) (p2 : Int32) (r : Int32) (hf : f_X0_isFair S p1 p2 = some r) : Met l yX0_isFair wsX0_isFair ({ frames := 3, cells := 0, slots := 0, locals := 68 }) (va_Pc [.ref (a 0), .int p1, .int p2] (PXs (dC, dI) cA a S)) (pQi r) 0 0 (fun _ => False) := by
  refine Met.ofW (cc := cX0_isFair) (maxL := 4) (ret := (some .boolean)) (by decide) rfl ?_
  intro p e s m args below meth c s₁ B hml hv
  obtain ⟨rfl, hP, hK⟩ := hv
  have hx := B.exec
  have hb := B.bytes
  have hr := B.returns
  have hts := atoms_spec (ws := wsX0_isFair) B.pre
  have hown : s.vm.findClass RX0 = some m.cls := findClass_of_methodNamed B.named
  have hlocks := B.notSynchronized
  have hl := lv_entry ([.ref (a 0), .int p1, .int p2]) (n := 4) (Nat.le_of_ble_eq_true rfl)
  rw [lg_entry_eq]
  generalize (lg_sl ([.ref (a 0), .int p1, .int p2]) ++ List.replicate (4 - (lg_sl ([.ref (a 0), .int p1, .int p2])).length) Slot.unset).toArray = ls at hl ⊢
  have hl : lv_has ls 4 [(0, .ref (a 0)), (1, .int p1), (2, .int p2)] := hl
  have hW2 : ∀ (k2 : Nat) (x3 : Int32) (ls : Array Slot), f_X0_isFair_2 S p1 p2 k2 x3 = some r → lv_has ls 4 [(0, .ref (a 0)), (1, .int p1), (2, .int p2), (3, .int x3)] → W p l e (headSpec wsX0_isFair ({ frames := 3, cells := 0, slots := 0, locals := 68 })).room s m ([.ref (a 0), .int p1, .int p2] : List Value).toArray below meth c s.heap [] 0 0 (MQ below (pQi r) ([.ref (a 0), .int p1, .int p2] : List Value).toArray s 0 0 (fun _ => False)) (F0 m 2 ls []) := by
    intro k2
    induction k2 with
    | zero =>
      intro x3 ls hf hl
      rw [f_X0_isFair_2] at hf
      cases hf
    | succ k2 ih2 =>
      intro x3 ls hf hl
      rw [f_X0_isFair_2] at hf
      refine lv_iload_n hx hb dX0_isFair_2 rfl (lv_at hl 3 rfl) ?_
      refine lv_bipush (v := 6) hx hb dX0_isFair_3 (by decide) ?_
      refine lv_icmp_ge (tgt := 32) hx hb dX0_isFair_5 (by decide) (fun c1 => ?_) (fun c1 => ?_)
      · rw [if_pos c1] at hf
        refine lv_iconst (v := 1) hx hb dX0_isFair_32 (by decide) ?_
        have hf := Option.some.inj hf; subst hf
        exact W.zret hx hb hr rfl (fun t ht hW => ⟨rfl, ht⟩) (fun q h => by cases h) dX0_isFair_33
      · rw [if_neg c1] at hf
        refine lv_aload_n hx hb dX0_isFair_8 rfl (lv_at hl 0 rfl) ?_
        refine lv_iload_n hx hb dX0_isFair_9 rfl (lv_at hl 1 rfl) ?_
        refine lv_iload_n hx hb dX0_isFair_10 rfl (lv_at hl 3 rfl) ?_
        refine lv_iload_n hx hb dX0_isFair_11 rfl (lv_at hl 2 rfl) ?_
        obtain ⟨v2, hv2, hf⟩ := ob_some hf
        refine pu_V (As := [.int p1, .int x3, .int p2]) (rest := []) ⟨hx, hb, hml, hown, hts⟩ (k_X0_countOf l dC dI cA a S p1 x3 p2 _ hv2) gX0_isFair_X0_countOf rfl rfl rfl cd_X0_countOf (Nat.le_of_ble_eq_true rfl) (Nat.le_of_ble_eq_true rfl) (preX hK hP) rfl hl.1 rfl (Nat.le_of_ble_eq_true rfl) (Nat.zero_le _) (Nat.zero_le _) dX0_isFair_12 ?_
        refine lv_aload_n hx hb dX0_isFair_15 rfl (lv_at hl 0 rfl) ?_
        refine lv_iload_n hx hb dX0_isFair_16 rfl (lv_at hl 1 rfl) ?_
        refine lv_iload_n hx hb dX0_isFair_17 rfl (lv_at hl 3 rfl) ?_
        refine pu_V (As := [.int p1, .int x3]) (rest := [.int v2]) ⟨hx, hb, hml, hown, hts⟩ (k_X0_roomOf l dC dI cA a S p1 x3 _ rfl) gX0_isFair_X0_roomOf rfl rfl rfl cd_X0_roomOf (Nat.le_of_ble_eq_true rfl) (Nat.le_of_ble_eq_true rfl) (preX hK hP) rfl hl.1 rfl (Nat.le_of_ble_eq_true rfl) (Nat.zero_le _) (Nat.zero_le _) dX0_isFair_18 ?_
        refine lv_icmp_le (tgt := 26) hx hb dX0_isFair_21 (by decide) (fun c3 => ?_) (fun c3 => ?_)
        · rw [if_pos c3] at hf
          obtain ⟨y4, ey4⟩ : ∃ y : Int32, y = (x3 + 1) := ⟨_, rfl⟩
          have hf := bnd_at hf ey4
          refine lv_iinc (v := y4) (lv' := [(3, .int y4), (0, .ref (a 0)), (1, .int p1), (2, .int p2)]) hx hb dX0_isFair_26 hl (k := 3) rfl (by rw [ey4]; rfl) (by decide) rfl (fun ls hl => ?_)
          refine lv_goto (tgt := 2) hx hb dX0_isFair_29 (by decide) ?_
          exact ih2 y4 ls hf (lv_sub hl [1, 2, 3, 0] rfl)
        · rw [if_neg c3] at hf
          refine lv_iconst (v := 0) hx hb dX0_isFair_24 (by decide) ?_
          have hf := Option.some.inj hf; subst hf
          exact W.zret hx hb hr rfl (fun t ht hW => ⟨rfl, ht⟩) (fun q h => by cases h) dX0_isFair_25
  unfold f_X0_isFair at hf
  refine lv_iconst (v := 0) hx hb dX0_isFair_0 (by decide) ?_
  refine lv_istore_n (lv' := [(3, .int 0), (0, .ref (a 0)), (1, .int p1), (2, .int p2)]) hx hb dX0_isFair_1 rfl hl (by decide) rfl (fun ls hl => ?_)
  exact hW2 70 0 ls hf (lv_sub hl [1, 2, 3, 0] rfl)
theorem cd_J6_bitCount_0f7a4 : yJ6_bitCount_0f7a4.cls ≠ "java/lang/invoke/MethodHandle" ∧ yJ6_bitCount_0f7a4.cls ≠ "java/lang/invoke/VarHandle" ∧ (parseMethodDescriptor yJ6_bitCount_0f7a4.desc).map (fun d => d.parameters.length) = some 1 := by decide +kernel
set_option maxHeartbeats 4000000 in
set_option maxRecDepth 100000 in
theorem k_J6_bitCount_0f7a4 (l : Launch) (p0 : Int32) (r : Int32) (hf : f_J6_bitCount_0f7a4 p0 = r) : Met l yJ6_bitCount_0f7a4 wsJ6_bitCount_0f7a4 ({ frames := 0, cells := 0, slots := 0, locals := 0 }) (va_Pc [.int p0] (fun _ => True)) (pQi r) 0 0 (fun _ => False) := by
  refine Met.ofW (cc := cJ6_bitCount_0f7a4) (maxL := 1) (ret := (some .int)) (by decide) rfl ?_
  intro p e s m args below meth c s₁ B hml hv
  obtain ⟨rfl, -⟩ := hv
  have hx := B.exec
  have hb := B.bytes
  have hr := B.returns
  have hts := atoms_spec (ws := wsJ6_bitCount_0f7a4) B.pre
  have hown : s.vm.findClass RJ6 = some m.cls := findClass_of_methodNamed B.named
  have hlocks := B.notSynchronized
  have hw0 := hts (.constant RJ6 265 (1431655765)) (by decide +kernel)
  have hw1 := hts (.constant RJ6 266 (858993459)) (by decide +kernel)
  have hw2 := hts (.constant RJ6 267 (252645135)) (by decide +kernel)
  have hl := lv_entry ([.int p0]) (n := 1) (Nat.le_of_ble_eq_true rfl)
  rw [lg_entry_eq]
  generalize (lg_sl ([.int p0]) ++ List.replicate (1 - (lg_sl ([.int p0])).length) Slot.unset).toArray = ls at hl ⊢
  have hl : lv_has ls 1 [(0, .int p0)] := hl
  unfold f_J6_bitCount_0f7a4 at hf
  refine lv_iload_n hx hb dJ6_bitCount_0f7a4_0 rfl (lv_at hl 0 rfl) ?_
  refine lv_iload_n hx hb dJ6_bitCount_0f7a4_1 rfl (lv_at hl 0 rfl) ?_
  refine lv_iconst (v := 1) hx hb dJ6_bitCount_0f7a4_2 (by decide) ?_
  refine lv_iushr hx hb dJ6_bitCount_0f7a4_3 rfl ?_
  refine lv_ldcw hx hb hown hw0 dJ6_bitCount_0f7a4_4 ?_
  refine lv_iand hx hb dJ6_bitCount_0f7a4_7 ?_
  refine lv_isub hx hb dJ6_bitCount_0f7a4_8 ?_
  refine lv_topi (fun y1 ey1 => ?_)
  have hf := bnd_at hf ey1
  refine lv_istore_n (lv' := [(0, .int y1)]) hx hb dJ6_bitCount_0f7a4_9 rfl hl (by decide) rfl (fun ls hl => ?_)
  refine lv_iload_n hx hb dJ6_bitCount_0f7a4_10 rfl (lv_at hl 0 rfl) ?_
  refine lv_ldcw hx hb hown hw1 dJ6_bitCount_0f7a4_11 ?_
  refine lv_iand hx hb dJ6_bitCount_0f7a4_14 ?_
  refine lv_iload_n hx hb dJ6_bitCount_0f7a4_15 rfl (lv_at hl 0 rfl) ?_
  refine lv_iconst (v := 2) hx hb dJ6_bitCount_0f7a4_16 (by decide) ?_
  refine lv_iushr hx hb dJ6_bitCount_0f7a4_17 rfl ?_
  refine lv_ldcw hx hb hown hw1 dJ6_bitCount_0f7a4_18 ?_
  refine lv_iand hx hb dJ6_bitCount_0f7a4_21 ?_
  refine lv_iadd hx hb dJ6_bitCount_0f7a4_22 ?_
  refine lv_topi (fun y2 ey2 => ?_)
  have hf := bnd_at hf ey2
  refine lv_istore_n (lv' := [(0, .int y2)]) hx hb dJ6_bitCount_0f7a4_23 rfl hl (by decide) rfl (fun ls hl => ?_)
  refine lv_iload_n hx hb dJ6_bitCount_0f7a4_24 rfl (lv_at hl 0 rfl) ?_
  refine lv_iload_n hx hb dJ6_bitCount_0f7a4_25 rfl (lv_at hl 0 rfl) ?_
  refine lv_iconst (v := 4) hx hb dJ6_bitCount_0f7a4_26 (by decide) ?_
  refine lv_iushr hx hb dJ6_bitCount_0f7a4_27 rfl ?_
  refine lv_iadd hx hb dJ6_bitCount_0f7a4_28 ?_
  refine lv_ldcw hx hb hown hw2 dJ6_bitCount_0f7a4_29 ?_
  refine lv_iand hx hb dJ6_bitCount_0f7a4_32 ?_
  refine lv_topi (fun y3 ey3 => ?_)
  have hf := bnd_at hf ey3
  refine lv_istore_n (lv' := [(0, .int y3)]) hx hb dJ6_bitCount_0f7a4_33 rfl hl (by decide) rfl (fun ls hl => ?_)
  refine lv_iload_n hx hb dJ6_bitCount_0f7a4_34 rfl (lv_at hl 0 rfl) ?_
  refine lv_iload_n hx hb dJ6_bitCount_0f7a4_35 rfl (lv_at hl 0 rfl) ?_
  refine lv_bipush (v := 8) hx hb dJ6_bitCount_0f7a4_36 (by decide) ?_
  refine lv_iushr hx hb dJ6_bitCount_0f7a4_38 rfl ?_
  refine lv_iadd hx hb dJ6_bitCount_0f7a4_39 ?_
  refine lv_topi (fun y4 ey4 => ?_)
  have hf := bnd_at hf ey4
  refine lv_istore_n (lv' := [(0, .int y4)]) hx hb dJ6_bitCount_0f7a4_40 rfl hl (by decide) rfl (fun ls hl => ?_)
  refine lv_iload_n hx hb dJ6_bitCount_0f7a4_41 rfl (lv_at hl 0 rfl) ?_
  refine lv_iload_n hx hb dJ6_bitCount_0f7a4_42 rfl (lv_at hl 0 rfl) ?_
  refine lv_bipush (v := 16) hx hb dJ6_bitCount_0f7a4_43 (by decide) ?_
  refine lv_iushr hx hb dJ6_bitCount_0f7a4_45 rfl ?_
  refine lv_iadd hx hb dJ6_bitCount_0f7a4_46 ?_
  refine lv_topi (fun y5 ey5 => ?_)
  have hf := bnd_at hf ey5
  refine lv_istore_n (lv' := [(0, .int y5)]) hx hb dJ6_bitCount_0f7a4_47 rfl hl (by decide) rfl (fun ls hl => ?_)
  refine lv_iload_n hx hb dJ6_bitCount_0f7a4_48 rfl (lv_at hl 0 rfl) ?_
  refine lv_bipush (v := 63) hx hb dJ6_bitCount_0f7a4_49 (by decide) ?_
  refine lv_iand hx hb dJ6_bitCount_0f7a4_51 ?_
  subst hf
  exact W.iret hx hb hr (fun t ht hW => ⟨rfl, ht⟩) (fun q h => by cases h) dJ6_bitCount_0f7a4_52
theorem cd_X0_commonAnew : yX0_commonAnew.cls = RX0 ∧ yX0_commonAnew.cls ≠ "java/lang/invoke/MethodHandle" ∧ yX0_commonAnew.cls ≠ "java/lang/invoke/VarHandle" ∧ (parseMethodDescriptor yX0_commonAnew.desc).map (fun d => d.parameters.length) = some 0 := by decide +kernel
set_option maxHeartbeats 4000000 in
set_option maxRecDepth 100000 in
theorem k_X0_commonAnew (l : Launch) (dC : Nat → ClassId) (dI : Nat → Nat → Nat) (cA : ClassId) (a : Nat → Nat) (S : St) (r : Int32) (hf : f_X0_commonAnew S = some r) : Met l yX0_commonAnew wsX0_commonAnew ({ frames := 4, cells := 0, slots := 0, locals := 91 }) (va_Pc [.ref (a 0)] (PXs (dC, dI) cA a S)) (pQi r) 0 0 (fun _ => False) := by
  refine Met.ofW (cc := cX0_commonAnew) (maxL := 3) (ret := (some .int)) (by decide) rfl ?_
  intro p e s m args below meth c s₁ B hml hv
  obtain ⟨rfl, hP, hK⟩ := hv
  have hx := B.exec
  have hb := B.bytes
  have hr := B.returns
  have hts := atoms_spec (ws := wsX0_commonAnew) B.pre
  have hown : s.vm.findClass RX0 = some m.cls := findClass_of_methodNamed B.named
  have hlocks := B.notSynchronized
  have hw0 := hts (.methodLink RX0 162 Lib.Math.max.name) (by decide +kernel)
  have hw1 := hts (.static Lib.Math.max.name) (by decide +kernel)
  have hw2 := hts (.initialized "java/lang/Math") (by decide +kernel)
  have hw3 := hts (.code Lib.Math.max.name Lib.Math.max.code 2 (some .int)) (by decide +kernel)
  have hl := lv_entry ([.ref (a 0)]) (n := 3) (Nat.le_of_ble_eq_true rfl)
  rw [lg_entry_eq]
  generalize (lg_sl ([.ref (a 0)]) ++ List.replicate (3 - (lg_sl ([.ref (a 0)])).length) Slot.unset).toArray = ls at hl ⊢
  have hl : lv_has ls 3 [(0, .ref (a 0))] := hl
  have hW4 : ∀ (k4 : Nat) (x1 x2 : Int32) (ls : Array Slot), f_X0_commonAnew_4 S k4 x1 x2 = some r → lv_has ls 3 [(0, .ref (a 0)), (1, .int x1), (2, .int x2)] → W p l e (headSpec wsX0_commonAnew ({ frames := 4, cells := 0, slots := 0, locals := 91 })).room s m ([.ref (a 0)] : List Value).toArray below meth c s.heap [] 0 0 (MQ below (pQi r) ([.ref (a 0)] : List Value).toArray s 0 0 (fun _ => False)) (F0 m 4 ls []) := by
    intro k4
    induction k4 with
    | zero =>
      intro x1 x2 ls hf hl
      rw [f_X0_commonAnew_4] at hf
      cases hf
    | succ k4 ih4 =>
      intro x1 x2 ls hf hl
      rw [f_X0_commonAnew_4] at hf
      refine lv_iload_n hx hb dX0_commonAnew_4 rfl (lv_at hl 2 rfl) ?_
      refine lv_aload_n hx hb dX0_commonAnew_5 rfl (lv_at hl 0 rfl) ?_
      refine pu_V (As := []) (rest := [.int x2]) ⟨hx, hb, hml, hown, hts⟩ (k_X0_sets l dC dI cA a S  _ rfl) gX0_commonAnew_X0_sets rfl rfl rfl cd_X0_sets (Nat.le_of_ble_eq_true rfl) (Nat.le_of_ble_eq_true rfl) (preX hK hP) rfl hl.1 rfl (Nat.le_of_ble_eq_true rfl) (Nat.zero_le _) (Nat.zero_le _) dX0_commonAnew_6 ?_
      refine lv_icmp_ge (tgt := 45) hx hb dX0_commonAnew_9 (by decide) (fun c1 => ?_) (fun c1 => ?_)
      · rw [if_pos c1] at hf
        refine lv_iload_n hx hb dX0_commonAnew_45 rfl (lv_at hl 1 rfl) ?_
        have hf := Option.some.inj hf; subst hf
        exact W.iret hx hb hr (fun t ht hW => ⟨rfl, ht⟩) (fun q h => by cases h) dX0_commonAnew_46
      · rw [if_neg c1] at hf
        refine lv_aload_n hx hb dX0_commonAnew_12 rfl (lv_at hl 0 rfl) ?_
        refine lv_iconst (v := 0) hx hb dX0_commonAnew_13 (by decide) ?_
        refine lv_iload_n hx hb dX0_commonAnew_14 rfl (lv_at hl 2 rfl) ?_
        obtain ⟨v2, hv2, hf⟩ := ob_some hf
        refine pu_V (As := [.int 0, .int x2]) (rest := []) ⟨hx, hb, hml, hown, hts⟩ (k_X0_isFair l dC dI cA a S 0 x2 _ hv2) gX0_commonAnew_X0_isFair rfl rfl rfl cd_X0_isFair (Nat.le_of_ble_eq_true rfl) (Nat.le_of_ble_eq_true rfl) (preX hK hP) rfl hl.1 rfl (Nat.le_of_ble_eq_true rfl) (Nat.zero_le _) (Nat.zero_le _) dX0_commonAnew_15 ?_
        refine lv_if_eq (tgt := 39) hx hb dX0_commonAnew_18 (by decide) (fun c3 => ?_) (fun c3 => ?_)
        · rw [if_pos c3] at hf
          obtain ⟨y4, ey4⟩ : ∃ y : Int32, y = (x2 + 1) := ⟨_, rfl⟩
          have hf := bnd_at hf ey4
          refine lv_iinc (v := y4) (lv' := [(2, .int y4), (0, .ref (a 0)), (1, .int x1)]) hx hb dX0_commonAnew_39 hl (k := 2) rfl (by rw [ey4]; rfl) (by decide) rfl (fun ls hl => ?_)
          refine lv_goto (tgt := 4) hx hb dX0_commonAnew_42 (by decide) ?_
          exact ih4 x1 y4 ls hf (lv_sub hl [1, 2, 0] rfl)
        · rw [if_neg c3] at hf
          refine lv_aload_n hx hb dX0_commonAnew_21 rfl (lv_at hl 0 rfl) ?_
          refine lv_iconst (v := 1) hx hb dX0_commonAnew_22 (by decide) ?_
          refine lv_iload_n hx hb dX0_commonAnew_23 rfl (lv_at hl 2 rfl) ?_
          obtain ⟨v5, hv5, hf⟩ := ob_some hf
          refine pu_V (As := [.int 1, .int x2]) (rest := []) ⟨hx, hb, hml, hown, hts⟩ (k_X0_isFair l dC dI cA a S 1 x2 _ hv5) gX0_commonAnew_X0_isFair rfl rfl rfl cd_X0_isFair (Nat.le_of_ble_eq_true rfl) (Nat.le_of_ble_eq_true rfl) (preX hK hP) rfl hl.1 rfl (Nat.le_of_ble_eq_true rfl) (Nat.zero_le _) (Nat.zero_le _) dX0_commonAnew_24 ?_
          refine lv_if_eq (tgt := 39) hx hb dX0_commonAnew_27 (by decide) (fun c6 => ?_) (fun c6 => ?_)
          · rw [if_pos c6] at hf
            obtain ⟨y7, ey7⟩ : ∃ y : Int32, y = (x2 + 1) := ⟨_, rfl⟩
            have hf := bnd_at hf ey7
            refine lv_iinc (v := y7) (lv' := [(2, .int y7), (0, .ref (a 0)), (1, .int x1)]) hx hb dX0_commonAnew_39 hl (k := 2) rfl (by rw [ey7]; rfl) (by decide) rfl (fun ls hl => ?_)
            refine lv_goto (tgt := 4) hx hb dX0_commonAnew_42 (by decide) ?_
            exact ih4 x1 y7 ls hf (lv_sub hl [1, 2, 0] rfl)
          · rw [if_neg c6] at hf
            refine lv_iload_n hx hb dX0_commonAnew_30 rfl (lv_at hl 1 rfl) ?_
            refine lv_iload_n hx hb dX0_commonAnew_31 rfl (lv_at hl 2 rfl) ?_
            refine pu_S (As := [.int x2]) (rest := [.int x1]) ⟨hx, hb, hml, hown, hts⟩ (k_J6_bitCount_0f7a4 l x2 _ rfl) gX0_commonAnew_J6_bitCount_0f7a4 rfl rfl rfl cd_J6_bitCount_0f7a4 (Nat.le_of_ble_eq_true rfl) (Nat.le_of_ble_eq_true rfl) (preT) rfl hl.1 rfl (Nat.le_of_ble_eq_true rfl) (Nat.zero_le _) (Nat.zero_le _) dX0_commonAnew_32 ?_
            refine va_mmax hx hb (hml.trans hl.1.symm) hown hw0 hw1 hw2 hw3 (Nat.le_of_ble_eq_true rfl) (Nat.le_of_ble_eq_true rfl) (Nat.le_of_ble_eq_true rfl) (Nat.le_of_ble_eq_true rfl) dX0_commonAnew_35 ?_
            refine lv_topi (fun y8 ey8 => ?_)
            have hf := bnd_at hf ey8
            refine lv_istore_n (lv' := [(1, .int y8), (0, .ref (a 0)), (2, .int x2)]) hx hb dX0_commonAnew_38 rfl hl (by decide) rfl (fun ls hl => ?_)
            obtain ⟨y9, ey9⟩ : ∃ y : Int32, y = (x2 + 1) := ⟨_, rfl⟩
            have hf := bnd_at hf ey9
            refine lv_iinc (v := y9) (lv' := [(2, .int y9), (1, .int y8), (0, .ref (a 0))]) hx hb dX0_commonAnew_39 hl (k := 2) rfl (by rw [ey9]; rfl) (by decide) rfl (fun ls hl => ?_)
            refine lv_goto (tgt := 4) hx hb dX0_commonAnew_42 (by decide) ?_
            exact ih4 y8 y9 ls hf (lv_sub hl [2, 1, 0] rfl)
  unfold f_X0_commonAnew at hf
  refine lv_iconst (v := 0) hx hb dX0_commonAnew_0 (by decide) ?_
  refine lv_istore_n (lv' := [(1, .int 0), (0, .ref (a 0))]) hx hb dX0_commonAnew_1 rfl hl (by decide) rfl (fun ls hl => ?_)
  refine lv_iconst (v := 0) hx hb dX0_commonAnew_2 (by decide) ?_
  refine lv_istore_n (lv' := [(2, .int 0), (1, .int 0), (0, .ref (a 0))]) hx hb dX0_commonAnew_3 rfl hl (by decide) rfl (fun ls hl => ?_)
  exact hW4 70 0 0 ls hf (lv_sub hl [2, 1, 0] rfl)
theorem cd_X0_isWithin : yX0_isWithin.cls ≠ "java/lang/invoke/MethodHandle" ∧ yX0_isWithin.cls ≠ "java/lang/invoke/VarHandle" ∧ (parseMethodDescriptor yX0_isWithin.desc).map (fun d => d.parameters.length) = some 3 := by decide +kernel
set_option maxHeartbeats 4000000 in
set_option maxRecDepth 100000 in
theorem k_X0_isWithin (l : Launch) (p0 : Int32) (p1 : Int32) (p2 : Int32) (r : Int32) (hf : f_X0_isWithin p0 p1 p2 = r) : Met l yX0_isWithin wsX0_isWithin ({ frames := 0, cells := 0, slots := 0, locals := 0 }) (va_Pc [.int p0, .int p1, .int p2] (fun _ => True)) (pQi r) 0 0 (fun _ => False) := by
  refine Met.ofW (cc := cX0_isWithin) (maxL := 3) (ret := (some .boolean)) (by decide) rfl ?_
  intro p e s m args below meth c s₁ B hml hv
  obtain ⟨rfl, -⟩ := hv
  have hx := B.exec
  have hb := B.bytes
  have hr := B.returns
  have hts := atoms_spec (ws := wsX0_isWithin) B.pre
  have hown : s.vm.findClass RX0 = some m.cls := findClass_of_methodNamed B.named
  have hlocks := B.notSynchronized
  have hl := lv_entry ([.int p0, .int p1, .int p2]) (n := 3) (Nat.le_of_ble_eq_true rfl)
  rw [lg_entry_eq]
  generalize (lg_sl ([.int p0, .int p1, .int p2]) ++ List.replicate (3 - (lg_sl ([.int p0, .int p1, .int p2])).length) Slot.unset).toArray = ls at hl ⊢
  have hl : lv_has ls 3 [(0, .int p0), (1, .int p1), (2, .int p2)] := hl
  unfold f_X0_isWithin at hf
  refine lv_iload_n hx hb dX0_isWithin_0 rfl (lv_at hl 0 rfl) ?_
  refine lv_iload_n hx hb dX0_isWithin_1 rfl (lv_at hl 1 rfl) ?_
  refine lv_icmp_lt (tgt := 14) hx hb dX0_isWithin_2 (by decide) (fun c1 => ?_) (fun c1 => ?_)
  · rw [if_pos c1] at hf
    refine lv_iconst (v := 0) hx hb dX0_isWithin_14 (by decide) ?_
    subst hf
    exact W.zret hx hb hr rfl (fun t ht hW => ⟨rfl, ht⟩) (fun q h => by cases h) dX0_isWithin_15
  · rw [if_neg c1] at hf
    refine lv_iload_n hx hb dX0_isWithin_5 rfl (lv_at hl 0 rfl) ?_
    refine lv_iload_n hx hb dX0_isWithin_6 rfl (lv_at hl 2 rfl) ?_
    refine lv_icmp_gt (tgt := 14) hx hb dX0_isWithin_7 (by decide) (fun c2 => ?_) (fun c2 => ?_)
    · rw [if_pos c2] at hf
      refine lv_iconst (v := 0) hx hb dX0_isWithin_14 (by decide) ?_
      subst hf
      exact W.zret hx hb hr rfl (fun t ht hW => ⟨rfl, ht⟩) (fun q h => by cases h) dX0_isWithin_15
    · rw [if_neg c2] at hf
      refine lv_iconst (v := 1) hx hb dX0_isWithin_10 (by decide) ?_
      refine lv_goto (tgt := 15) hx hb dX0_isWithin_11 (by decide) ?_
      subst hf
      exact W.zret hx hb hr rfl (fun t ht hW => ⟨rfl, ht⟩) (fun q h => by cases h) dX0_isWithin_15
theorem cd_X0_isElement : yX0_isElement.cls = RX0 ∧ yX0_isElement.cls ≠ "java/lang/invoke/MethodHandle" ∧ yX0_isElement.cls ≠ "java/lang/invoke/VarHandle" ∧ (parseMethodDescriptor yX0_isElement.desc).map (fun d => d.parameters.length) = some 1 := by decide +kernel
set_option maxHeartbeats 4000000 in
set_option maxRecDepth 100000 in
theorem k_X0_isElement (l : Launch) (dC : Nat → ClassId) (dI : Nat → Nat → Nat) (cA : ClassId) (a : Nat → Nat) (S : St) (p1 : Int32) (r : Int32) (hf : f_X0_isElement S p1 = r) : Met l yX0_isElement wsX0_isElement ({ frames := 0, cells := 0, slots := 0, locals := 0 }) (va_Pc [.ref (a 0), .int p1] (PXs (dC, dI) cA a S)) (pQi r) 0 0 (fun _ => False) := by
  refine Met.ofW (cc := cX0_isElement) (maxL := 2) (ret := (some .boolean)) (by decide) rfl ?_
  intro p e s m args below meth c s₁ B hml hv
  obtain ⟨rfl, hP, hK⟩ := hv
  have hx := B.exec
  have hb := B.bytes
  have hr := B.returns
  have hts := atoms_spec (ws := wsX0_isElement) B.pre
  have hown : s.vm.findClass RX0 = some m.cls := findClass_of_methodNamed B.named
  have hlocks := B.notSynchronized
  have hin : ∀ w ∈ u_ws RX0 TX0 12, w ∈ wsX0_isElement := by decide +kernel
  have hw0 := hts (.fieldLink RX0 9 "Submodulary" "elements" "I") (by decide +kernel)
  have hl := lv_entry ([.ref (a 0), .int p1]) (n := 2) (Nat.le_of_ble_eq_true rfl)
  rw [lg_entry_eq]
  generalize (lg_sl ([.ref (a 0), .int p1]) ++ List.replicate (2 - (lg_sl ([.ref (a 0), .int p1])).length) Slot.unset).toArray = ls at hl ⊢
  have hl : lv_has ls 2 [(0, .ref (a 0)), (1, .int p1)] := hl
  unfold f_X0_isElement at hf
  refine lv_iload_n hx hb dX0_isElement_0 rfl (lv_at hl 1 rfl) ?_
  refine lv_if_lt (tgt := 16) hx hb dX0_isElement_1 (by decide) (fun c1 => ?_) (fun c1 => ?_)
  · rw [if_pos c1] at hf
    refine lv_iconst (v := 0) hx hb dX0_isElement_16 (by decide) ?_
    subst hf
    exact W.zret hx hb hr rfl (fun t ht hW => ⟨rfl, ht⟩) (fun q h => by cases h) dX0_isElement_17
  · rw [if_neg c1] at hf
    refine lv_iload_n hx hb dX0_isElement_4 rfl (lv_at hl 1 rfl) ?_
    refine lv_aload_n hx hb dX0_isElement_5 rfl (lv_at hl 0 rfl) ?_
    refine gfX hx hb hts hin hown hK hP 0 (by decide) hw0 rfl rfl dX0_isElement_6 ?_
    refine lv_icmp_ge (tgt := 16) hx hb dX0_isElement_9 (by decide) (fun c2 => ?_) (fun c2 => ?_)
    · rw [if_pos c2] at hf
      refine lv_iconst (v := 0) hx hb dX0_isElement_16 (by decide) ?_
      subst hf
      exact W.zret hx hb hr rfl (fun t ht hW => ⟨rfl, ht⟩) (fun q h => by cases h) dX0_isElement_17
    · rw [if_neg c2] at hf
      refine lv_iconst (v := 1) hx hb dX0_isElement_12 (by decide) ?_
      refine lv_goto (tgt := 17) hx hb dX0_isElement_13 (by decide) ?_
      subst hf
      exact W.zret hx hb hr rfl (fun t ht hW => ⟨rfl, ht⟩) (fun q h => by cases h) dX0_isElement_17
theorem cd_X0_isFamily : yX0_isFamily.cls ≠ "java/lang/invoke/MethodHandle" ∧ yX0_isFamily.cls ≠ "java/lang/invoke/VarHandle" ∧ (parseMethodDescriptor yX0_isFamily.desc).map (fun d => d.parameters.length) = some 1 := by decide +kernel
set_option maxHeartbeats 4000000 in
set_option maxRecDepth 100000 in
theorem k_X0_isFamily (l : Launch) (p0 : Int32) (r : Int32) (hf : f_X0_isFamily p0 = r) : Met l yX0_isFamily wsX0_isFamily ({ frames := 0, cells := 0, slots := 0, locals := 0 }) (va_Pc [.int p0] (fun _ => True)) (pQi r) 0 0 (fun _ => False) := by
  refine Met.ofW (cc := cX0_isFamily) (maxL := 1) (ret := (some .boolean)) (by decide) rfl ?_
  intro p e s m args below meth c s₁ B hml hv
  obtain ⟨rfl, -⟩ := hv
  have hx := B.exec
  have hb := B.bytes
  have hr := B.returns
  have hts := atoms_spec (ws := wsX0_isFamily) B.pre
  have hown : s.vm.findClass RX0 = some m.cls := findClass_of_methodNamed B.named
  have hlocks := B.notSynchronized
  have hl := lv_entry ([.int p0]) (n := 1) (Nat.le_of_ble_eq_true rfl)
  rw [lg_entry_eq]
  generalize (lg_sl ([.int p0]) ++ List.replicate (1 - (lg_sl ([.int p0])).length) Slot.unset).toArray = ls at hl ⊢
  have hl : lv_has ls 1 [(0, .int p0)] := hl
  unfold f_X0_isFamily at hf
  refine lv_iload_n hx hb dX0_isFamily_0 rfl (lv_at hl 0 rfl) ?_
  refine lv_if_lt (tgt := 13) hx hb dX0_isFamily_1 (by decide) (fun c1 => ?_) (fun c1 => ?_)
  · rw [if_pos c1] at hf
    refine lv_iconst (v := 0) hx hb dX0_isFamily_13 (by decide) ?_
    subst hf
    exact W.zret hx hb hr rfl (fun t ht hW => ⟨rfl, ht⟩) (fun q h => by cases h) dX0_isFamily_14
  · rw [if_neg c1] at hf
    refine lv_iload_n hx hb dX0_isFamily_4 rfl (lv_at hl 0 rfl) ?_
    refine lv_iconst (v := 2) hx hb dX0_isFamily_5 (by decide) ?_
    refine lv_icmp_ge (tgt := 13) hx hb dX0_isFamily_6 (by decide) (fun c2 => ?_) (fun c2 => ?_)
    · rw [if_pos c2] at hf
      refine lv_iconst (v := 0) hx hb dX0_isFamily_13 (by decide) ?_
      subst hf
      exact W.zret hx hb hr rfl (fun t ht hW => ⟨rfl, ht⟩) (fun q h => by cases h) dX0_isFamily_14
    · rw [if_neg c2] at hf
      refine lv_iconst (v := 1) hx hb dX0_isFamily_9 (by decide) ?_
      refine lv_goto (tgt := 14) hx hb dX0_isFamily_10 (by decide) ?_
      subst hf
      exact W.zret hx hb hr rfl (fun t ht hW => ⟨rfl, ht⟩) (fun q h => by cases h) dX0_isFamily_14
theorem cd_X0_isColour : yX0_isColour.cls ≠ "java/lang/invoke/MethodHandle" ∧ yX0_isColour.cls ≠ "java/lang/invoke/VarHandle" ∧ (parseMethodDescriptor yX0_isColour.desc).map (fun d => d.parameters.length) = some 1 := by decide +kernel
set_option maxHeartbeats 4000000 in
set_option maxRecDepth 100000 in
theorem k_X0_isColour (l : Launch) (p0 : Int32) (r : Int32) (hf : f_X0_isColour p0 = r) : Met l yX0_isColour wsX0_isColour ({ frames := 0, cells := 0, slots := 0, locals := 0 }) (va_Pc [.int p0] (fun _ => True)) (pQi r) 0 0 (fun _ => False) := by
  refine Met.ofW (cc := cX0_isColour) (maxL := 1) (ret := (some .boolean)) (by decide) rfl ?_
  intro p e s m args below meth c s₁ B hml hv
  obtain ⟨rfl, -⟩ := hv
  have hx := B.exec
  have hb := B.bytes
  have hr := B.returns
  have hts := atoms_spec (ws := wsX0_isColour) B.pre
  have hown : s.vm.findClass RX0 = some m.cls := findClass_of_methodNamed B.named
  have hlocks := B.notSynchronized
  have hl := lv_entry ([.int p0]) (n := 1) (Nat.le_of_ble_eq_true rfl)
  rw [lg_entry_eq]
  generalize (lg_sl ([.int p0]) ++ List.replicate (1 - (lg_sl ([.int p0])).length) Slot.unset).toArray = ls at hl ⊢
  have hl : lv_has ls 1 [(0, .int p0)] := hl
  unfold f_X0_isColour at hf
  refine lv_iload_n hx hb dX0_isColour_0 rfl (lv_at hl 0 rfl) ?_
  refine lv_if_lt (tgt := 14) hx hb dX0_isColour_1 (by decide) (fun c1 => ?_) (fun c1 => ?_)
  · rw [if_pos c1] at hf
    refine lv_iconst (v := 0) hx hb dX0_isColour_14 (by decide) ?_
    subst hf
    exact W.zret hx hb hr rfl (fun t ht hW => ⟨rfl, ht⟩) (fun q h => by cases h) dX0_isColour_15
  · rw [if_neg c1] at hf
    refine lv_iload_n hx hb dX0_isColour_4 rfl (lv_at hl 0 rfl) ?_
    refine lv_bipush (v := 6) hx hb dX0_isColour_5 (by decide) ?_
    refine lv_icmp_ge (tgt := 14) hx hb dX0_isColour_7 (by decide) (fun c2 => ?_) (fun c2 => ?_)
    · rw [if_pos c2] at hf
      refine lv_iconst (v := 0) hx hb dX0_isColour_14 (by decide) ?_
      subst hf
      exact W.zret hx hb hr rfl (fun t ht hW => ⟨rfl, ht⟩) (fun q h => by cases h) dX0_isColour_15
    · rw [if_neg c2] at hf
      refine lv_iconst (v := 1) hx hb dX0_isColour_10 (by decide) ?_
      refine lv_goto (tgt := 15) hx hb dX0_isColour_11 (by decide) ?_
      subst hf
      exact W.zret hx hb hr rfl (fun t ht hW => ⟨rfl, ht⟩) (fun q h => by cases h) dX0_isColour_15
theorem cd_X0_isFunction : yX0_isFunction.cls = RX0 ∧ yX0_isFunction.cls ≠ "java/lang/invoke/MethodHandle" ∧ yX0_isFunction.cls ≠ "java/lang/invoke/VarHandle" ∧ (parseMethodDescriptor yX0_isFunction.desc).map (fun d => d.parameters.length) = some 1 := by decide +kernel
set_option maxHeartbeats 4000000 in
set_option maxRecDepth 100000 in
theorem k_X0_isFunction (l : Launch) (dC : Nat → ClassId) (dI : Nat → Nat → Nat) (cA : ClassId) (a : Nat → Nat) (S : St) (p1 : Int32) (r : Int32) (hf : f_X0_isFunction S p1 = r) : Met l yX0_isFunction wsX0_isFunction ({ frames := 0, cells := 0, slots := 0, locals := 0 }) (va_Pc [.ref (a 0), .int p1] (PXs (dC, dI) cA a S)) (pQi r) 0 0 (fun _ => False) := by
  refine Met.ofW (cc := cX0_isFunction) (maxL := 2) (ret := (some .boolean)) (by decide) rfl ?_
  intro p e s m args below meth c s₁ B hml hv
  obtain ⟨rfl, hP, hK⟩ := hv
  have hx := B.exec
  have hb := B.bytes
  have hr := B.returns
  have hts := atoms_spec (ws := wsX0_isFunction) B.pre
  have hown : s.vm.findClass RX0 = some m.cls := findClass_of_methodNamed B.named
  have hlocks := B.notSynchronized
  have hin : ∀ w ∈ u_ws RX0 TX0 12, w ∈ wsX0_isFunction := by decide +kernel
  have hw0 := hts (.fieldLink RX0 13 "Submodulary" "functions" "I") (by decide +kernel)
  have hl := lv_entry ([.ref (a 0), .int p1]) (n := 2) (Nat.le_of_ble_eq_true rfl)
  rw [lg_entry_eq]
  generalize (lg_sl ([.ref (a 0), .int p1]) ++ List.replicate (2 - (lg_sl ([.ref (a 0), .int p1])).length) Slot.unset).toArray = ls at hl ⊢
  have hl : lv_has ls 2 [(0, .ref (a 0)), (1, .int p1)] := hl
  unfold f_X0_isFunction at hf
  refine lv_iload_n hx hb dX0_isFunction_0 rfl (lv_at hl 1 rfl) ?_
  refine lv_if_lt (tgt := 16) hx hb dX0_isFunction_1 (by decide) (fun c1 => ?_) (fun c1 => ?_)
  · rw [if_pos c1] at hf
    refine lv_iconst (v := 0) hx hb dX0_isFunction_16 (by decide) ?_
    subst hf
    exact W.zret hx hb hr rfl (fun t ht hW => ⟨rfl, ht⟩) (fun q h => by cases h) dX0_isFunction_17
  · rw [if_neg c1] at hf
    refine lv_iload_n hx hb dX0_isFunction_4 rfl (lv_at hl 1 rfl) ?_
    refine lv_aload_n hx hb dX0_isFunction_5 rfl (lv_at hl 0 rfl) ?_
    refine gfX hx hb hts hin hown hK hP 1 (by decide) hw0 rfl rfl dX0_isFunction_6 ?_
    refine lv_icmp_ge (tgt := 16) hx hb dX0_isFunction_9 (by decide) (fun c2 => ?_) (fun c2 => ?_)
    · rw [if_pos c2] at hf
      refine lv_iconst (v := 0) hx hb dX0_isFunction_16 (by decide) ?_
      subst hf
      exact W.zret hx hb hr rfl (fun t ht hW => ⟨rfl, ht⟩) (fun q h => by cases h) dX0_isFunction_17
    · rw [if_neg c2] at hf
      refine lv_iconst (v := 1) hx hb dX0_isFunction_12 (by decide) ?_
      refine lv_goto (tgt := 17) hx hb dX0_isFunction_13 (by decide) ?_
      subst hf
      exact W.zret hx hb hr rfl (fun t ht hW => ⟨rfl, ht⟩) (fun q h => by cases h) dX0_isFunction_17
theorem cd_X0_isSet : yX0_isSet.cls = RX0 ∧ yX0_isSet.cls ≠ "java/lang/invoke/MethodHandle" ∧ yX0_isSet.cls ≠ "java/lang/invoke/VarHandle" ∧ (parseMethodDescriptor yX0_isSet.desc).map (fun d => d.parameters.length) = some 1 := by decide +kernel
set_option maxHeartbeats 4000000 in
set_option maxRecDepth 100000 in
theorem k_X0_isSet (l : Launch) (dC : Nat → ClassId) (dI : Nat → Nat → Nat) (cA : ClassId) (a : Nat → Nat) (S : St) (p1 : Int32) (r : Int32) (hf : f_X0_isSet S p1 = r) : Met l yX0_isSet wsX0_isSet ({ frames := 1, cells := 0, slots := 0, locals := 20 }) (va_Pc [.ref (a 0), .int p1] (PXs (dC, dI) cA a S)) (pQi r) 0 0 (fun _ => False) := by
  refine Met.ofW (cc := cX0_isSet) (maxL := 2) (ret := (some .boolean)) (by decide) rfl ?_
  intro p e s m args below meth c s₁ B hml hv
  obtain ⟨rfl, hP, hK⟩ := hv
  have hx := B.exec
  have hb := B.bytes
  have hr := B.returns
  have hts := atoms_spec (ws := wsX0_isSet) B.pre
  have hown : s.vm.findClass RX0 = some m.cls := findClass_of_methodNamed B.named
  have hlocks := B.notSynchronized
  have hl := lv_entry ([.ref (a 0), .int p1]) (n := 2) (Nat.le_of_ble_eq_true rfl)
  rw [lg_entry_eq]
  generalize (lg_sl ([.ref (a 0), .int p1]) ++ List.replicate (2 - (lg_sl ([.ref (a 0), .int p1])).length) Slot.unset).toArray = ls at hl ⊢
  have hl : lv_has ls 2 [(0, .ref (a 0)), (1, .int p1)] := hl
  unfold f_X0_isSet at hf
  refine lv_iload_n hx hb dX0_isSet_0 rfl (lv_at hl 1 rfl) ?_
  refine lv_if_lt (tgt := 16) hx hb dX0_isSet_1 (by decide) (fun c1 => ?_) (fun c1 => ?_)
  · rw [if_pos c1] at hf
    refine lv_iconst (v := 0) hx hb dX0_isSet_16 (by decide) ?_
    subst hf
    exact W.zret hx hb hr rfl (fun t ht hW => ⟨rfl, ht⟩) (fun q h => by cases h) dX0_isSet_17
  · rw [if_neg c1] at hf
    refine lv_iload_n hx hb dX0_isSet_4 rfl (lv_at hl 1 rfl) ?_
    refine lv_aload_n hx hb dX0_isSet_5 rfl (lv_at hl 0 rfl) ?_
    refine pu_V (As := []) (rest := [.int p1]) ⟨hx, hb, hml, hown, hts⟩ (k_X0_sets l dC dI cA a S  _ rfl) gX0_isSet_X0_sets rfl rfl rfl cd_X0_sets (Nat.le_of_ble_eq_true rfl) (Nat.le_of_ble_eq_true rfl) (preX hK hP) rfl hl.1 rfl (Nat.le_of_ble_eq_true rfl) (Nat.zero_le _) (Nat.zero_le _) dX0_isSet_6 ?_
    refine lv_icmp_ge (tgt := 16) hx hb dX0_isSet_9 (by decide) (fun c2 => ?_) (fun c2 => ?_)
    · rw [if_pos c2] at hf
      refine lv_iconst (v := 0) hx hb dX0_isSet_16 (by decide) ?_
      subst hf
      exact W.zret hx hb hr rfl (fun t ht hW => ⟨rfl, ht⟩) (fun q h => by cases h) dX0_isSet_17
    · rw [if_neg c2] at hf
      refine lv_iconst (v := 1) hx hb dX0_isSet_12 (by decide) ?_
      refine lv_goto (tgt := 17) hx hb dX0_isSet_13 (by decide) ?_
      subst hf
      exact W.zret hx hb hr rfl (fun t ht hW => ⟨rfl, ht⟩) (fun q h => by cases h) dX0_isSet_17
theorem cd_X0_edgeWeight : yX0_edgeWeight.cls = RX0 ∧ yX0_edgeWeight.cls ≠ "java/lang/invoke/MethodHandle" ∧ yX0_edgeWeight.cls ≠ "java/lang/invoke/VarHandle" ∧ (parseMethodDescriptor yX0_edgeWeight.desc).map (fun d => d.parameters.length) = some 2 := by decide +kernel
set_option maxHeartbeats 4000000 in
set_option maxRecDepth 100000 in
theorem k_X0_edgeWeight (l : Launch) (dC : Nat → ClassId) (dI : Nat → Nat → Nat) (cA : ClassId) (a : Nat → Nat) (S : St) (p1 : Int32) (p2 : Int32) (r : Int32) (hf : f_X0_edgeWeight S p1 p2 = r) : Met l yX0_edgeWeight wsX0_edgeWeight ({ frames := 1, cells := 0, slots := 0, locals := 21 }) (va_Pc [.ref (a 0), .int p1, .int p2] (PXs (dC, dI) cA a S)) (pQi r) 0 0 (fun _ => False) := by
  refine Met.ofW (cc := cX0_edgeWeight) (maxL := 3) (ret := (some .int)) (by decide) rfl ?_
  intro p e s m args below meth c s₁ B hml hv
  obtain ⟨rfl, hP, hK⟩ := hv
  have hx := B.exec
  have hb := B.bytes
  have hr := B.returns
  have hts := atoms_spec (ws := wsX0_edgeWeight) B.pre
  have hown : s.vm.findClass RX0 = some m.cls := findClass_of_methodNamed B.named
  have hlocks := B.notSynchronized
  have hin : ∀ w ∈ u_ws RX0 TX0 12, w ∈ wsX0_edgeWeight := by decide +kernel
  have hw0 := hts (.fieldLink RX0 23 "Submodulary" "edges" "[I") (by decide +kernel)
  have hl := lv_entry ([.ref (a 0), .int p1, .int p2]) (n := 3) (Nat.le_of_ble_eq_true rfl)
  rw [lg_entry_eq]
  generalize (lg_sl ([.ref (a 0), .int p1, .int p2]) ++ List.replicate (3 - (lg_sl ([.ref (a 0), .int p1, .int p2])).length) Slot.unset).toArray = ls at hl ⊢
  have hl : lv_has ls 3 [(0, .ref (a 0)), (1, .int p1), (2, .int p2)] := hl
  unfold f_X0_edgeWeight at hf
  refine lv_aload_n hx hb dX0_edgeWeight_0 rfl (lv_at hl 0 rfl) ?_
  refine gfX hx hb hts hin hown hK hP 4 (by decide) hw0 rfl rfl dX0_edgeWeight_1 ?_
  refine lv_iload_n hx hb dX0_edgeWeight_4 rfl (lv_at hl 1 rfl) ?_
  refine lv_bipush (v := 6) hx hb dX0_edgeWeight_5 (by decide) ?_
  refine lv_imul hx hb dX0_edgeWeight_7 ?_
  refine lv_iload_n hx hb dX0_edgeWeight_8 rfl (lv_at hl 2 rfl) ?_
  refine lv_iadd hx hb dX0_edgeWeight_9 ?_
  refine pu_S (As := [.ref (a 2), .int ((p1 * 6) + p2)]) (rest := []) ⟨hx, hb, hml, hown, hts⟩ (k_X0_at l dC dI cA (a 2) 36 (S.2 1) ((p1 * 6) + p2) (by decide)) gX0_edgeWeight_X0_at rfl rfl rfl cd_X0_at (Nat.le_of_ble_eq_true rfl) (Nat.le_of_ble_eq_true rfl) (preR hK (rowX hP 2 rfl)) rfl hl.1 rfl (Nat.le_of_ble_eq_true rfl) (Nat.zero_le _) (Nat.zero_le _) dX0_edgeWeight_10 ?_
  subst hf
  exact W.iret hx hb hr (fun t ht hW => ⟨rfl, ht⟩) (fun q h => by cases h) dX0_edgeWeight_13
theorem cd_X0_valueOf : yX0_valueOf.cls = RX0 ∧ yX0_valueOf.cls ≠ "java/lang/invoke/MethodHandle" ∧ yX0_valueOf.cls ≠ "java/lang/invoke/VarHandle" ∧ (parseMethodDescriptor yX0_valueOf.desc).map (fun d => d.parameters.length) = some 2 := by decide +kernel
set_option maxHeartbeats 4000000 in
set_option maxRecDepth 100000 in
theorem k_X0_valueOf (l : Launch) (dC : Nat → ClassId) (dI : Nat → Nat → Nat) (cA : ClassId) (a : Nat → Nat) (S : St) (p1 : Int32) (p2 : Int32) (r : Int32) (hf : f_X0_valueOf S p1 p2 = r) : Met l yX0_valueOf wsX0_valueOf ({ frames := 1, cells := 0, slots := 0, locals := 21 }) (va_Pc [.ref (a 0), .int p1, .int p2] (PXs (dC, dI) cA a S)) (pQi r) 0 0 (fun _ => False) := by
  refine Met.ofW (cc := cX0_valueOf) (maxL := 3) (ret := (some .int)) (by decide) rfl ?_
  intro p e s m args below meth c s₁ B hml hv
  obtain ⟨rfl, hP, hK⟩ := hv
  have hx := B.exec
  have hb := B.bytes
  have hr := B.returns
  have hts := atoms_spec (ws := wsX0_valueOf) B.pre
  have hown : s.vm.findClass RX0 = some m.cls := findClass_of_methodNamed B.named
  have hlocks := B.notSynchronized
  have hin : ∀ w ∈ u_ws RX0 TX0 12, w ∈ wsX0_valueOf := by decide +kernel
  have hw0 := hts (.fieldLink RX0 35 "Submodulary" "values" "[I") (by decide +kernel)
  have hl := lv_entry ([.ref (a 0), .int p1, .int p2]) (n := 3) (Nat.le_of_ble_eq_true rfl)
  rw [lg_entry_eq]
  generalize (lg_sl ([.ref (a 0), .int p1, .int p2]) ++ List.replicate (3 - (lg_sl ([.ref (a 0), .int p1, .int p2])).length) Slot.unset).toArray = ls at hl ⊢
  have hl : lv_has ls 3 [(0, .ref (a 0)), (1, .int p1), (2, .int p2)] := hl
  unfold f_X0_valueOf at hf
  refine lv_aload_n hx hb dX0_valueOf_0 rfl (lv_at hl 0 rfl) ?_
  refine gfX hx hb hts hin hown hK hP 8 (by decide) hw0 rfl rfl dX0_valueOf_1 ?_
  refine lv_iload_n hx hb dX0_valueOf_4 rfl (lv_at hl 1 rfl) ?_
  refine lv_bipush (v := 64) hx hb dX0_valueOf_5 (by decide) ?_
  refine lv_imul hx hb dX0_valueOf_7 ?_
  refine lv_iload_n hx hb dX0_valueOf_8 rfl (lv_at hl 2 rfl) ?_
  refine lv_iadd hx hb dX0_valueOf_9 ?_
  refine pu_S (As := [.ref (a 6), .int ((p1 * 64) + p2)]) (rest := []) ⟨hx, hb, hml, hown, hts⟩ (k_X0_at l dC dI cA (a 6) 512 (S.2 5) ((p1 * 64) + p2) (by decide)) gX0_valueOf_X0_at rfl rfl rfl cd_X0_at (Nat.le_of_ble_eq_true rfl) (Nat.le_of_ble_eq_true rfl) (preR hK (rowX hP 6 rfl)) rfl hl.1 rfl (Nat.le_of_ble_eq_true rfl) (Nat.zero_le _) (Nat.zero_le _) dX0_valueOf_10 ?_
  subst hf
  exact W.iret hx hb hr (fun t ht hW => ⟨rfl, ht⟩) (fun q h => by cases h) dX0_valueOf_13
theorem cd_X0_with : yX0_with.cls ≠ "java/lang/invoke/MethodHandle" ∧ yX0_with.cls ≠ "java/lang/invoke/VarHandle" ∧ (parseMethodDescriptor yX0_with.desc).map (fun d => d.parameters.length) = some 2 := by decide +kernel
set_option maxHeartbeats 4000000 in
set_option maxRecDepth 100000 in
theorem k_X0_with (l : Launch) (p0 : Int32) (p1 : Int32) (r : Int32) (hf : f_X0_with p0 p1 = r) : Met l yX0_with wsX0_with ({ frames := 0, cells := 0, slots := 0, locals := 0 }) (va_Pc [.int p0, .int p1] (fun _ => True)) (pQi r) 0 0 (fun _ => False) := by
  refine Met.ofW (cc := cX0_with) (maxL := 2) (ret := (some .int)) (by decide) rfl ?_
  intro p e s m args below meth c s₁ B hml hv
  obtain ⟨rfl, -⟩ := hv
  have hx := B.exec
  have hb := B.bytes
  have hr := B.returns
  have hts := atoms_spec (ws := wsX0_with) B.pre
  have hown : s.vm.findClass RX0 = some m.cls := findClass_of_methodNamed B.named
  have hlocks := B.notSynchronized
  have hl := lv_entry ([.int p0, .int p1]) (n := 2) (Nat.le_of_ble_eq_true rfl)
  rw [lg_entry_eq]
  generalize (lg_sl ([.int p0, .int p1]) ++ List.replicate (2 - (lg_sl ([.int p0, .int p1])).length) Slot.unset).toArray = ls at hl ⊢
  have hl : lv_has ls 2 [(0, .int p0), (1, .int p1)] := hl
  unfold f_X0_with at hf
  refine lv_iload_n hx hb dX0_with_0 rfl (lv_at hl 0 rfl) ?_
  refine lv_iconst (v := 1) hx hb dX0_with_1 (by decide) ?_
  refine lv_iload_n hx hb dX0_with_2 rfl (lv_at hl 1 rfl) ?_
  refine lv_ishl hx hb dX0_with_3 ?_
  refine lv_ior hx hb dX0_with_4 ?_
  subst hf
  exact W.iret hx hb hr (fun t ht hW => ⟨rfl, ht⟩) (fun q h => by cases h) dX0_with_5
theorem cd_X0_without : yX0_without.cls ≠ "java/lang/invoke/MethodHandle" ∧ yX0_without.cls ≠ "java/lang/invoke/VarHandle" ∧ (parseMethodDescriptor yX0_without.desc).map (fun d => d.parameters.length) = some 2 := by decide +kernel
set_option maxHeartbeats 4000000 in
set_option maxRecDepth 100000 in
theorem k_X0_without (l : Launch) (p0 : Int32) (p1 : Int32) (r : Int32) (hf : f_X0_without p0 p1 = r) : Met l yX0_without wsX0_without ({ frames := 0, cells := 0, slots := 0, locals := 0 }) (va_Pc [.int p0, .int p1] (fun _ => True)) (pQi r) 0 0 (fun _ => False) := by
  refine Met.ofW (cc := cX0_without) (maxL := 2) (ret := (some .int)) (by decide) rfl ?_
  intro p e s m args below meth c s₁ B hml hv
  obtain ⟨rfl, -⟩ := hv
  have hx := B.exec
  have hb := B.bytes
  have hr := B.returns
  have hts := atoms_spec (ws := wsX0_without) B.pre
  have hown : s.vm.findClass RX0 = some m.cls := findClass_of_methodNamed B.named
  have hlocks := B.notSynchronized
  have hl := lv_entry ([.int p0, .int p1]) (n := 2) (Nat.le_of_ble_eq_true rfl)
  rw [lg_entry_eq]
  generalize (lg_sl ([.int p0, .int p1]) ++ List.replicate (2 - (lg_sl ([.int p0, .int p1])).length) Slot.unset).toArray = ls at hl ⊢
  have hl : lv_has ls 2 [(0, .int p0), (1, .int p1)] := hl
  unfold f_X0_without at hf
  refine lv_iload_n hx hb dX0_without_0 rfl (lv_at hl 0 rfl) ?_
  refine lv_iconst (v := 1) hx hb dX0_without_1 (by decide) ?_
  refine lv_iload_n hx hb dX0_without_2 rfl (lv_at hl 1 rfl) ?_
  refine lv_ishl hx hb dX0_without_3 ?_
  refine lv_iconst (v := (-1)) hx hb dX0_without_4 (by decide) ?_
  refine lv_ixor hx hb dX0_without_5 ?_
  refine lv_iand hx hb dX0_without_6 ?_
  subst hf
  exact W.iret hx hb hr (fun t ht hW => ⟨rfl, ht⟩) (fun q h => by cases h) dX0_without_7
theorem cd_X0_coverValue : yX0_coverValue.cls = RX0 ∧ yX0_coverValue.cls ≠ "java/lang/invoke/MethodHandle" ∧ yX0_coverValue.cls ≠ "java/lang/invoke/VarHandle" ∧ (parseMethodDescriptor yX0_coverValue.desc).map (fun d => d.parameters.length) = some 1 := by decide +kernel
set_option maxHeartbeats 4000000 in
set_option maxRecDepth 100000 in
theorem k_X0_coverValue (l : Launch) (dC : Nat → ClassId) (dI : Nat → Nat → Nat) (cA : ClassId) (a : Nat → Nat) (S : St) (p1 : Int32) (r : Int32) (hf : f_X0_coverValue S p1 = some r) : Met l yX0_coverValue wsX0_coverValue ({ frames := 1, cells := 0, slots := 0, locals := 21 }) (va_Pc [.ref (a 0), .int p1] (PXs (dC, dI) cA a S)) (pQi r) 0 0 (fun _ => False) := by
  refine Met.ofW (cc := cX0_coverValue) (maxL := 4) (ret := (some .int)) (by decide) rfl ?_
  intro p e s m args below meth c s₁ B hml hv
  obtain ⟨rfl, hP, hK⟩ := hv
  have hx := B.exec
  have hb := B.bytes
  have hr := B.returns
  have hts := atoms_spec (ws := wsX0_coverValue) B.pre
  have hown : s.vm.findClass RX0 = some m.cls := findClass_of_methodNamed B.named
  have hlocks := B.notSynchronized
  have hin : ∀ w ∈ u_ws RX0 TX0 12, w ∈ wsX0_coverValue := by decide +kernel
  have hw0 := hts (.fieldLink RX0 9 "Submodulary" "elements" "I") (by decide +kernel)
  have hw1 := hts (.fieldLink RX0 19 "Submodulary" "covered" "[I") (by decide +kernel)
  have hl := lv_entry ([.ref (a 0), .int p1]) (n := 4) (Nat.le_of_ble_eq_true rfl)
  rw [lg_entry_eq]
  generalize (lg_sl ([.ref (a 0), .int p1]) ++ List.replicate (4 - (lg_sl ([.ref (a 0), .int p1])).length) Slot.unset).toArray = ls at hl ⊢
  have hl : lv_has ls 4 [(0, .ref (a 0)), (1, .int p1)] := hl
  have hW4 : ∀ (k4 : Nat) (x2 x3 : Int32) (ls : Array Slot), f_X0_coverValue_4 S p1 k4 x2 x3 = some r → lv_has ls 4 [(0, .ref (a 0)), (1, .int p1), (2, .int x2), (3, .int x3)] → W p l e (headSpec wsX0_coverValue ({ frames := 1, cells := 0, slots := 0, locals := 21 })).room s m ([.ref (a 0), .int p1] : List Value).toArray below meth c s.heap [] 0 0 (MQ below (pQi r) ([.ref (a 0), .int p1] : List Value).toArray s 0 0 (fun _ => False)) (F0 m 4 ls []) := by
    intro k4
    induction k4 with
    | zero =>
      intro x2 x3 ls hf hl
      rw [f_X0_coverValue_4] at hf
      cases hf
    | succ k4 ih4 =>
      intro x2 x3 ls hf hl
      rw [f_X0_coverValue_4] at hf
      refine lv_iload_n hx hb dX0_coverValue_4 rfl (lv_at hl 3 rfl) ?_
      refine lv_aload_n hx hb dX0_coverValue_5 rfl (lv_at hl 0 rfl) ?_
      refine gfX hx hb hts hin hown hK hP 0 (by decide) hw0 rfl rfl dX0_coverValue_6 ?_
      refine lv_icmp_ge (tgt := 37) hx hb dX0_coverValue_9 (by decide) (fun c1 => ?_) (fun c1 => ?_)
      · rw [if_pos c1] at hf
        refine lv_iload_n hx hb dX0_coverValue_37 rfl (lv_at hl 2 rfl) ?_
        refine pu_S (As := [.int x2]) (rest := []) ⟨hx, hb, hml, hown, hts⟩ (k_J6_bitCount_0f7a4 l x2 _ rfl) gX0_coverValue_J6_bitCount_0f7a4 rfl rfl rfl cd_J6_bitCount_0f7a4 (Nat.le_of_ble_eq_true rfl) (Nat.le_of_ble_eq_true rfl) (preT) rfl hl.1 rfl (Nat.le_of_ble_eq_true rfl) (Nat.zero_le _) (Nat.zero_le _) dX0_coverValue_38 ?_
        have hf := Option.some.inj hf; subst hf
        exact W.iret hx hb hr (fun t ht hW => ⟨rfl, ht⟩) (fun q h => by cases h) dX0_coverValue_41
      · rw [if_neg c1] at hf
        refine lv_iload_n hx hb dX0_coverValue_12 rfl (lv_at hl 1 rfl) ?_
        refine lv_iload_n hx hb dX0_coverValue_13 rfl (lv_at hl 3 rfl) ?_
        refine pu_S (As := [.int p1, .int x3]) (rest := []) ⟨hx, hb, hml, hown, hts⟩ (k_X0_has l p1 x3 _ rfl) gX0_coverValue_X0_has rfl rfl rfl cd_X0_has (Nat.le_of_ble_eq_true rfl) (Nat.le_of_ble_eq_true rfl) (preT) rfl hl.1 rfl (Nat.le_of_ble_eq_true rfl) (Nat.zero_le _) (Nat.zero_le _) dX0_coverValue_14 ?_
        refine lv_if_eq (tgt := 31) hx hb dX0_coverValue_17 (by decide) (fun c2 => ?_) (fun c2 => ?_)
        · rw [if_pos c2] at hf
          obtain ⟨y3, ey3⟩ : ∃ y : Int32, y = (x3 + 1) := ⟨_, rfl⟩
          have hf := bnd_at hf ey3
          refine lv_iinc (v := y3) (lv' := [(3, .int y3), (0, .ref (a 0)), (1, .int p1), (2, .int x2)]) hx hb dX0_coverValue_31 hl (k := 3) rfl (by rw [ey3]; rfl) (by decide) rfl (fun ls hl => ?_)
          refine lv_goto (tgt := 4) hx hb dX0_coverValue_34 (by decide) ?_
          exact ih4 x2 y3 ls hf (lv_sub hl [1, 2, 3, 0] rfl)
        · rw [if_neg c2] at hf
          refine lv_iload_n hx hb dX0_coverValue_20 rfl (lv_at hl 2 rfl) ?_
          refine lv_aload_n hx hb dX0_coverValue_21 rfl (lv_at hl 0 rfl) ?_
          refine gfX hx hb hts hin hown hK hP 3 (by decide) hw1 rfl rfl dX0_coverValue_22 ?_
          refine lv_iload_n hx hb dX0_coverValue_25 rfl (lv_at hl 3 rfl) ?_
          refine pu_S (As := [.ref (a 1), .int x3]) (rest := [.int x2]) ⟨hx, hb, hml, hown, hts⟩ (k_X0_at l dC dI cA (a 1) 6 (S.2 0) x3 (by decide)) gX0_coverValue_X0_at rfl rfl rfl cd_X0_at (Nat.le_of_ble_eq_true rfl) (Nat.le_of_ble_eq_true rfl) (preR hK (rowX hP 1 rfl)) rfl hl.1 rfl (Nat.le_of_ble_eq_true rfl) (Nat.zero_le _) (Nat.zero_le _) dX0_coverValue_26 ?_
          refine lv_ior hx hb dX0_coverValue_29 ?_
          refine lv_topi (fun y4 ey4 => ?_)
          have hf := bnd_at hf ey4
          refine lv_istore_n (lv' := [(2, .int y4), (0, .ref (a 0)), (1, .int p1), (3, .int x3)]) hx hb dX0_coverValue_30 rfl hl (by decide) rfl (fun ls hl => ?_)
          obtain ⟨y5, ey5⟩ : ∃ y : Int32, y = (x3 + 1) := ⟨_, rfl⟩
          have hf := bnd_at hf ey5
          refine lv_iinc (v := y5) (lv' := [(3, .int y5), (2, .int y4), (0, .ref (a 0)), (1, .int p1)]) hx hb dX0_coverValue_31 hl (k := 3) rfl (by rw [ey5]; rfl) (by decide) rfl (fun ls hl => ?_)
          refine lv_goto (tgt := 4) hx hb dX0_coverValue_34 (by decide) ?_
          exact ih4 y4 y5 ls hf (lv_sub hl [2, 3, 1, 0] rfl)
  unfold f_X0_coverValue at hf
  refine lv_iconst (v := 0) hx hb dX0_coverValue_0 (by decide) ?_
  refine lv_istore_n (lv' := [(2, .int 0), (0, .ref (a 0)), (1, .int p1)]) hx hb dX0_coverValue_1 rfl hl (by decide) rfl (fun ls hl => ?_)
  refine lv_iconst (v := 0) hx hb dX0_coverValue_2 (by decide) ?_
  refine lv_istore_n (lv' := [(3, .int 0), (2, .int 0), (0, .ref (a 0)), (1, .int p1)]) hx hb dX0_coverValue_3 rfl hl (by decide) rfl (fun ls hl => ?_)
  exact hW4 70 0 0 ls hf (lv_sub hl [2, 3, 1, 0] rfl)

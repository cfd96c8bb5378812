/-! The constructors: fresh objects with their rows. -/
theorem sameA {D : va_G} {cl : List vw_C} {cA cB : ClassId} {s : State} (h : va_K D cl [(cA, .int)] s) (h2 : va_K D cl ([(cA, .int)] ++ [(cB, .int)]) s) : cA = cB := by
  have e1 : s.vm.findClass ("[" ++ (FieldType.int).toString) = some cA := (h.2 0 _ rfl).2
  have e2 : s.vm.findClass ("[" ++ (FieldType.int).toString) = some cB := (h2.2 1 _ rfl).2
  exact Option.some.inj (e1.symm.trans e2)
def atL (L : List Nat) : Nat → Nat := fun k => L.getD k 0
def S0X : St := (fun k => if k = 0 then 4 else 0, fun k => if k = 3 then filv 12 (fun _ => 0) 1 else fun _ => 0)
def S0M : St := (fun k => if k = 0 then 4 else 0, fun _ _ => 0)
theorem wX_get (cA : ClassId) (a : Nat → Nat) (S : St) (i : Nat) (h : i < 10) : ∃ q : Nat × va_E, (wX cA a S)[i]? = some q ∧ q.1 = a i := by
  rcases (show i = 0 ∨ i = 1 ∨ i = 2 ∨ i = 3 ∨ i = 4 ∨ i = 5 ∨ i = 6 ∨ i = 7 ∨ i = 8 ∨ i = 9 by omega) with rfl | rfl | rfl | rfl | rfl | rfl | rfl | rfl | rfl | rfl <;> exact ⟨_, rfl, rfl⟩
theorem apX {A : Nat → Prop} {cA : ClassId} {a : Nat → Nat} {S : St} (h : va_D A (wX cA a S)) : apart a 10 ∧ ∀ k, k < 10 → A (a k) :=
  ⟨fun i j hi hj e => by
    obtain ⟨p, h1, h2⟩ := wX_get cA a S i hi
    obtain ⟨q, h3, h4⟩ := wX_get cA a S j hj
    exact h.1 i j p q h1 h3 (by rw [h2, h4]; exact e), fun k hk => by
    obtain ⟨p, h1, h2⟩ := wX_get cA a S k hk
    rw [← h2]; exact h.2 k p h1⟩
/-- what a constructor leaves: the object at h0, its rows all new -/
def iXv (D : va_G) (cA : ClassId) (h0 sz : Nat) (S : St) : Array Value → State → Outcome → State → Prop := fun _ st oc t => (oc = .returned none ∧ ∃ a : Nat → Nat, a 0 = h0 ∧ apart a 10 ∧ (∀ k, 0 < k → k < 10 → sz ≤ a k) ∧ va_P D vwCl (wX cA a S) t.heap) ∧ va_F (fun q => q = h0 ∨ sz ≤ q) st t
set_option maxHeartbeats 4000000 in
set_option maxRecDepth 100000 in
theorem k_X0_init (l : Launch) (dC : Nat → ClassId) (dI : Nat → Nat → Nat) (cA : ClassId) (h0 sz : Nat) : Met l yX0_init wsX0_init ({ frames := 1, cells := 9, slots := 602, locals := 40 }) (va_Pc [.ref h0] (fun U => U.heap.size = sz ∧ va_P (dC, dI) vwCl [(h0, .inr (0, [.int 0, .int 0, .int 0, .null, .null, .null, .null, .null, .null, .null, .null, .null]))] U.heap ∧ va_K (dC, dI) vwCl [(cA, .int)] U)) (iXv (dC, dI) cA h0 sz S0X) 9 602 (fun q => q = h0 ∨ sz ≤ q) := by
  refine Met.ofW (cc := cX0_init) (maxL := 1) (ret := none) (by decide) rfl ?_
  intro p e s m args below meth c s₁ B hml hv
  obtain ⟨rfl, hsz, hP, hK⟩ := hv
  have hx := B.exec
  have hb := B.bytes
  have hr := B.returns
  have hts := atoms_spec (ws := wsX0_init) B.pre
  have hown : s.vm.findClass RX0 = some m.cls := findClass_of_methodNamed B.named
  have hlocks := B.notSynchronized
  have hnm : meth.name = "<init>" := (name_of_methodNamed B.named B.method).1
  have hin : ∀ w ∈ u_ws RX0 TX0 12, w ∈ wsX0_init := by decide +kernel
  have harr := hts (.arrayClass .int) (by decide +kernel)
  have hA : ∀ q : Nat, s.heap.size ≤ q → (fun q => q = h0 ∨ sz ≤ q) q := fun q h => Or.inr (by rw [← hsz]; exact h)
  have hS : va_S (fun q => q = h0 ∨ sz ≤ q) s.heap s.heap [] := va_S.rf
  have hD : va_D (fun q => q = h0 ∨ sz ≤ q) [(h0, (.inr (0, [.int 0, .int 0, .int 0, .null, .null, .null, .null, .null, .null, .null, .null, .null]) : va_E))] := ⟨fun i j p1 q1 hi hj _ => by
    cases i with
    | zero => cases j with
      | zero => rfl
      | succ j => simp at hj
    | succ i => simp at hi, fun k z hz => by
    cases k with
    | zero => cases hz; exact Or.inl rfl
    | succ k => simp at hz⟩
  have hl := lv_entry ([.ref h0]) (n := 1) (Nat.le_of_ble_eq_true rfl)
  rw [lg_entry_eq]
  generalize (lg_sl ([.ref h0]) ++ List.replicate (1 - (lg_sl ([.ref h0])).length) Slot.unset).toArray = ls at hl ⊢
  have hl : lv_has ls 1 [(0, .ref h0)] := hl
  refine lv_aload_n hx hb dX0_init_0 rfl (lv_at hl 0 rfl) ?_
  refine W.objInit hx hb hown (hts (.methodLink RX0 1 objectInit) (by decide +kernel)) (hts (.instanceMethod objectInit) (by decide +kernel)) (hts (.code objectInit ⟨#[0xb1]⟩ 1 none) (by decide +kernel)) rfl (by rw [hml]; exact hl.1) rfl dX0_init_1 (Nat.le_of_ble_eq_true rfl) (Nat.le_of_ble_eq_true rfl) ?_
  refine W.eq (g2 := F0 m 4 ls []) rfl ?_
  refine lv_aload_n hx hb dX0_init_4 rfl (lv_at hl 0 rfl) ?_
  refine lv_iconst (v := 4) hx hb dX0_init_5 (by decide) ?_
  refine va_put (ci := 0) (v := .int 4) (ty := .int) (C := RX0) (T := TX0) (N := 12) hx hb hts hin tyX0 tyX0_ok nmX0 hown hK hP hD hS 0 rfl rfl 0 (by decide) (hts (.fieldLink RX0 9 "Submodulary" "elements" "I") (by decide +kernel)) (fun _ h9 => h9) rfl (by decide +kernel) rfl rfl (Nat.le_of_ble_eq_true rfl) dX0_init_6 (fun H locs hP hD hS => ?_)
  have hP : va_P (dC, dI) vwCl [(h0, .inr (0, [.int 4, .int 0, .int 0, .null, .null, .null, .null, .null, .null, .null, .null, .null]))] H := hP
  have hD : va_D (fun q => q = h0 ∨ sz ≤ q) [(h0, .inr (0, [.int 4, .int 0, .int 0, .null, .null, .null, .null, .null, .null, .null, .null, .null]))] := hD
  refine lv_aload_n hx hb dX0_init_9 rfl (lv_at hl 0 rfl) ?_
  refine lv_iconst (v := 0) hx hb dX0_init_10 (by decide) ?_
  refine va_put (ci := 0) (v := .int 0) (ty := .int) (C := RX0) (T := TX0) (N := 12) hx hb hts hin tyX0 tyX0_ok nmX0 hown hK hP hD hS 0 rfl rfl 1 (by decide) (hts (.fieldLink RX0 13 "Submodulary" "functions" "I") (by decide +kernel)) (fun _ h9 => h9) rfl (by decide +kernel) rfl rfl (Nat.le_of_ble_eq_true rfl) dX0_init_11 (fun H locs hP hD hS => ?_)
  have hP : va_P (dC, dI) vwCl [(h0, .inr (0, [.int 4, .int 0, .int 0, .null, .null, .null, .null, .null, .null, .null, .null, .null]))] H := hP
  have hD : va_D (fun q => q = h0 ∨ sz ≤ q) [(h0, .inr (0, [.int 4, .int 0, .int 0, .null, .null, .null, .null, .null, .null, .null, .null, .null]))] := hD
  refine lv_aload_n hx hb dX0_init_14 rfl (lv_at hl 0 rfl) ?_
  refine lv_iconst (v := 0) hx hb dX0_init_15 (by decide) ?_
  refine va_put (ci := 0) (v := .int 0) (ty := .int) (C := RX0) (T := TX0) (N := 12) hx hb hts hin tyX0 tyX0_ok nmX0 hown hK hP hD hS 0 rfl rfl 2 (by decide) (hts (.fieldLink RX0 16 "Submodulary" "told" "I") (by decide +kernel)) (fun _ h9 => h9) rfl (by decide +kernel) rfl rfl (Nat.le_of_ble_eq_true rfl) dX0_init_16 (fun H locs hP hD hS => ?_)
  have hP : va_P (dC, dI) vwCl [(h0, .inr (0, [.int 4, .int 0, .int 0, .null, .null, .null, .null, .null, .null, .null, .null, .null]))] H := hP
  have hD : va_D (fun q => q = h0 ∨ sz ≤ q) [(h0, .inr (0, [.int 4, .int 0, .int 0, .null, .null, .null, .null, .null, .null, .null, .null, .null]))] := hD
  refine lv_aload_n hx hb dX0_init_19 rfl (lv_at hl 0 rfl) ?_
  refine lv_bipush (v := 6) hx hb dX0_init_20 (by decide) ?_
  refine va_newa (atype := .int) (ty := .int) (n := 6) (N' := 6) (a0 := (6, .inl (fun _ => 0))) hx hb harr rfl hK hP hD hS hA (fun _ => rfl) (by decide) (by decide) (Nat.le_of_ble_eq_true rfl) (Nat.le_of_ble_eq_true rfl) (Nat.le_of_ble_eq_true rfl) dX0_init_22 (fun q1 cB H hKB hP hD hS => ?_)
  have eB := sameA hK hKB; subst eB
  have hP : va_P (dC, dI) vwCl [(h0, .inr (0, [.int 4, .int 0, .int 0, .null, .null, .null, .null, .null, .null, .null, .null, .null])), (q1, .inl (cA, 6, .inl (fun _ => 0)))] H := hP
  have hD : va_D (fun q => q = h0 ∨ sz ≤ q) [(h0, .inr (0, [.int 4, .int 0, .int 0, .null, .null, .null, .null, .null, .null, .null, .null, .null])), (q1, .inl (cA, 6, .inl (fun _ => 0)))] := hD
  refine va_putF (ci := 0) (v := .ref q1) (ty := .array .int) (C := RX0) (T := TX0) (N := 12) hx hb hts hin tyX0 tyX0_ok nmX0 hown hK hP hD hS 0 rfl rfl 3 (by decide) (hts (.fieldLink RX0 19 "Submodulary" "covered" "[I") (by decide +kernel)) (fun _ h9 => h9) rfl hnm rfl (by decide +kernel) rfl rfl (Nat.le_of_ble_eq_true rfl) dX0_init_24 (fun H locs hP hD hS => ?_)
  have hP : va_P (dC, dI) vwCl [(h0, .inr (0, [.int 4, .int 0, .int 0, .ref q1, .null, .null, .null, .null, .null, .null, .null, .null])), (q1, .inl (cA, 6, .inl (fun _ => 0)))] H := hP
  have hD : va_D (fun q => q = h0 ∨ sz ≤ q) [(h0, .inr (0, [.int 4, .int 0, .int 0, .ref q1, .null, .null, .null, .null, .null, .null, .null, .null])), (q1, .inl (cA, 6, .inl (fun _ => 0)))] := hD
  refine lv_aload_n hx hb dX0_init_27 rfl (lv_at hl 0 rfl) ?_
  refine lv_bipush (v := 36) hx hb dX0_init_28 (by decide) ?_
  refine va_newa (atype := .int) (ty := .int) (n := 36) (N' := 36) (a0 := (36, .inl (fun _ => 0))) hx hb harr rfl hK hP hD hS hA (fun _ => rfl) (by decide) (by decide) (Nat.le_of_ble_eq_true rfl) (Nat.le_of_ble_eq_true rfl) (Nat.le_of_ble_eq_true rfl) dX0_init_30 (fun q2 cB H hKB hP hD hS => ?_)
  have eB := sameA hK hKB; subst eB
  have hP : va_P (dC, dI) vwCl [(h0, .inr (0, [.int 4, .int 0, .int 0, .ref q1, .null, .null, .null, .null, .null, .null, .null, .null])), (q1, .inl (cA, 6, .inl (fun _ => 0))), (q2, .inl (cA, 36, .inl (fun _ => 0)))] H := hP
  have hD : va_D (fun q => q = h0 ∨ sz ≤ q) [(h0, .inr (0, [.int 4, .int 0, .int 0, .ref q1, .null, .null, .null, .null, .null, .null, .null, .null])), (q1, .inl (cA, 6, .inl (fun _ => 0))), (q2, .inl (cA, 36, .inl (fun _ => 0)))] := hD
  refine va_putF (ci := 0) (v := .ref q2) (ty := .array .int) (C := RX0) (T := TX0) (N := 12) hx hb hts hin tyX0 tyX0_ok nmX0 hown hK hP hD hS 0 rfl rfl 4 (by decide) (hts (.fieldLink RX0 23 "Submodulary" "edges" "[I") (by decide +kernel)) (fun _ h9 => h9) rfl hnm rfl (by decide +kernel) rfl rfl (Nat.le_of_ble_eq_true rfl) dX0_init_32 (fun H locs hP hD hS => ?_)
  have hP : va_P (dC, dI) vwCl [(h0, .inr (0, [.int 4, .int 0, .int 0, .ref q1, .ref q2, .null, .null, .null, .null, .null, .null, .null])), (q1, .inl (cA, 6, .inl (fun _ => 0))), (q2, .inl (cA, 36, .inl (fun _ => 0)))] H := hP
  have hD : va_D (fun q => q = h0 ∨ sz ≤ q) [(h0, .inr (0, [.int 4, .int 0, .int 0, .ref q1, .ref q2, .null, .null, .null, .null, .null, .null, .null])), (q1, .inl (cA, 6, .inl (fun _ => 0))), (q2, .inl (cA, 36, .inl (fun _ => 0)))] := hD
  refine lv_aload_n hx hb dX0_init_35 rfl (lv_at hl 0 rfl) ?_
  refine lv_bipush (v := 12) hx hb dX0_init_36 (by decide) ?_
  refine va_newa (atype := .int) (ty := .int) (n := 12) (N' := 12) (a0 := (12, .inl (fun _ => 0))) hx hb harr rfl hK hP hD hS hA (fun _ => rfl) (by decide) (by decide) (Nat.le_of_ble_eq_true rfl) (Nat.le_of_ble_eq_true rfl) (Nat.le_of_ble_eq_true rfl) dX0_init_38 (fun q3 cB H hKB hP hD hS => ?_)
  have eB := sameA hK hKB; subst eB
  have hP : va_P (dC, dI) vwCl [(h0, .inr (0, [.int 4, .int 0, .int 0, .ref q1, .ref q2, .null, .null, .null, .null, .null, .null, .null])), (q1, .inl (cA, 6, .inl (fun _ => 0))), (q2, .inl (cA, 36, .inl (fun _ => 0))), (q3, .inl (cA, 12, .inl (fun _ => 0)))] H := hP
  have hD : va_D (fun q => q = h0 ∨ sz ≤ q) [(h0, .inr (0, [.int 4, .int 0, .int 0, .ref q1, .ref q2, .null, .null, .null, .null, .null, .null, .null])), (q1, .inl (cA, 6, .inl (fun _ => 0))), (q2, .inl (cA, 36, .inl (fun _ => 0))), (q3, .inl (cA, 12, .inl (fun _ => 0)))] := hD
  refine va_putF (ci := 0) (v := .ref q3) (ty := .array .int) (C := RX0) (T := TX0) (N := 12) hx hb hts hin tyX0 tyX0_ok nmX0 hown hK hP hD hS 0 rfl rfl 5 (by decide) (hts (.fieldLink RX0 26 "Submodulary" "colours" "[I") (by decide +kernel)) (fun _ h9 => h9) rfl hnm rfl (by decide +kernel) rfl rfl (Nat.le_of_ble_eq_true rfl) dX0_init_40 (fun H locs hP hD hS => ?_)
  have hP : va_P (dC, dI) vwCl [(h0, .inr (0, [.int 4, .int 0, .int 0, .ref q1, .ref q2, .ref q3, .null, .null, .null, .null, .null, .null])), (q1, .inl (cA, 6, .inl (fun _ => 0))), (q2, .inl (cA, 36, .inl (fun _ => 0))), (q3, .inl (cA, 12, .inl (fun _ => 0)))] H := hP
  have hD : va_D (fun q => q = h0 ∨ sz ≤ q) [(h0, .inr (0, [.int 4, .int 0, .int 0, .ref q1, .ref q2, .ref q3, .null, .null, .null, .null, .null, .null])), (q1, .inl (cA, 6, .inl (fun _ => 0))), (q2, .inl (cA, 36, .inl (fun _ => 0))), (q3, .inl (cA, 12, .inl (fun _ => 0)))] := hD
  refine lv_aload_n hx hb dX0_init_43 rfl (lv_at hl 0 rfl) ?_
  refine lv_bipush (v := 12) hx hb dX0_init_44 (by decide) ?_
  refine va_newa (atype := .int) (ty := .int) (n := 12) (N' := 12) (a0 := (12, .inl (fun _ => 0))) hx hb harr rfl hK hP hD hS hA (fun _ => rfl) (by decide) (by decide) (Nat.le_of_ble_eq_true rfl) (Nat.le_of_ble_eq_true rfl) (Nat.le_of_ble_eq_true rfl) dX0_init_46 (fun q4 cB H hKB hP hD hS => ?_)
  have eB := sameA hK hKB; subst eB
  have hP : va_P (dC, dI) vwCl [(h0, .inr (0, [.int 4, .int 0, .int 0, .ref q1, .ref q2, .ref q3, .null, .null, .null, .null, .null, .null])), (q1, .inl (cA, 6, .inl (fun _ => 0))), (q2, .inl (cA, 36, .inl (fun _ => 0))), (q3, .inl (cA, 12, .inl (fun _ => 0))), (q4, .inl (cA, 12, .inl (fun _ => 0)))] H := hP
  have hD : va_D (fun q => q = h0 ∨ sz ≤ q) [(h0, .inr (0, [.int 4, .int 0, .int 0, .ref q1, .ref q2, .ref q3, .null, .null, .null, .null, .null, .null])), (q1, .inl (cA, 6, .inl (fun _ => 0))), (q2, .inl (cA, 36, .inl (fun _ => 0))), (q3, .inl (cA, 12, .inl (fun _ => 0))), (q4, .inl (cA, 12, .inl (fun _ => 0)))] := hD
  refine va_putF (ci := 0) (v := .ref q4) (ty := .array .int) (C := RX0) (T := TX0) (N := 12) hx hb hts hin tyX0 tyX0_ok nmX0 hown hK hP hD hS 0 rfl rfl 6 (by decide) (hts (.fieldLink RX0 29 "Submodulary" "rooms" "[I") (by decide +kernel)) (fun _ h9 => h9) rfl hnm rfl (by decide +kernel) rfl rfl (Nat.le_of_ble_eq_true rfl) dX0_init_48 (fun H locs hP hD hS => ?_)
  have hP : va_P (dC, dI) vwCl [(h0, .inr (0, [.int 4, .int 0, .int 0, .ref q1, .ref q2, .ref q3, .ref q4, .null, .null, .null, .null, .null])), (q1, .inl (cA, 6, .inl (fun _ => 0))), (q2, .inl (cA, 36, .inl (fun _ => 0))), (q3, .inl (cA, 12, .inl (fun _ => 0))), (q4, .inl (cA, 12, .inl (fun _ => 0)))] H := hP
  have hD : va_D (fun q => q = h0 ∨ sz ≤ q) [(h0, .inr (0, [.int 4, .int 0, .int 0, .ref q1, .ref q2, .ref q3, .ref q4, .null, .null, .null, .null, .null])), (q1, .inl (cA, 6, .inl (fun _ => 0))), (q2, .inl (cA, 36, .inl (fun _ => 0))), (q3, .inl (cA, 12, .inl (fun _ => 0))), (q4, .inl (cA, 12, .inl (fun _ => 0)))] := hD
  refine lv_aload_n hx hb dX0_init_51 rfl (lv_at hl 0 rfl) ?_
  refine lv_bipush (v := 6) hx hb dX0_init_52 (by decide) ?_
  refine va_newa (atype := .int) (ty := .int) (n := 6) (N' := 6) (a0 := (6, .inl (fun _ => 0))) hx hb harr rfl hK hP hD hS hA (fun _ => rfl) (by decide) (by decide) (Nat.le_of_ble_eq_true rfl) (Nat.le_of_ble_eq_true rfl) (Nat.le_of_ble_eq_true rfl) dX0_init_54 (fun q5 cB H hKB hP hD hS => ?_)
  have eB := sameA hK hKB; subst eB
  have hP : va_P (dC, dI) vwCl [(h0, .inr (0, [.int 4, .int 0, .int 0, .ref q1, .ref q2, .ref q3, .ref q4, .null, .null, .null, .null, .null])), (q1, .inl (cA, 6, .inl (fun _ => 0))), (q2, .inl (cA, 36, .inl (fun _ => 0))), (q3, .inl (cA, 12, .inl (fun _ => 0))), (q4, .inl (cA, 12, .inl (fun _ => 0))), (q5, .inl (cA, 6, .inl (fun _ => 0)))] H := hP
  have hD : va_D (fun q => q = h0 ∨ sz ≤ q) [(h0, .inr (0, [.int 4, .int 0, .int 0, .ref q1, .ref q2, .ref q3, .ref q4, .null, .null, .null, .null, .null])), (q1, .inl (cA, 6, .inl (fun _ => 0))), (q2, .inl (cA, 36, .inl (fun _ => 0))), (q3, .inl (cA, 12, .inl (fun _ => 0))), (q4, .inl (cA, 12, .inl (fun _ => 0))), (q5, .inl (cA, 6, .inl (fun _ => 0)))] := hD
  refine va_putF (ci := 0) (v := .ref q5) (ty := .array .int) (C := RX0) (T := TX0) (N := 12) hx hb hts hin tyX0 tyX0_ok nmX0 hown hK hP hD hS 0 rfl rfl 7 (by decide) (hts (.fieldLink RX0 32 "Submodulary" "weights" "[I") (by decide +kernel)) (fun _ h9 => h9) rfl hnm rfl (by decide +kernel) rfl rfl (Nat.le_of_ble_eq_true rfl) dX0_init_56 (fun H locs hP hD hS => ?_)
  have hP : va_P (dC, dI) vwCl [(h0, .inr (0, [.int 4, .int 0, .int 0, .ref q1, .ref q2, .ref q3, .ref q4, .ref q5, .null, .null, .null, .null])), (q1, .inl (cA, 6, .inl (fun _ => 0))), (q2, .inl (cA, 36, .inl (fun _ => 0))), (q3, .inl (cA, 12, .inl (fun _ => 0))), (q4, .inl (cA, 12, .inl (fun _ => 0))), (q5, .inl (cA, 6, .inl (fun _ => 0)))] H := hP
  have hD : va_D (fun q => q = h0 ∨ sz ≤ q) [(h0, .inr (0, [.int 4, .int 0, .int 0, .ref q1, .ref q2, .ref q3, .ref q4, .ref q5, .null, .null, .null, .null])), (q1, .inl (cA, 6, .inl (fun _ => 0))), (q2, .inl (cA, 36, .inl (fun _ => 0))), (q3, .inl (cA, 12, .inl (fun _ => 0))), (q4, .inl (cA, 12, .inl (fun _ => 0))), (q5, .inl (cA, 6, .inl (fun _ => 0)))] := hD
  refine lv_aload_n hx hb dX0_init_59 rfl (lv_at hl 0 rfl) ?_
  refine lv_sipush (v := 512) hx hb dX0_init_60 (by decide) ?_
  refine va_newa (atype := .int) (ty := .int) (n := 512) (N' := 512) (a0 := (512, .inl (fun _ => 0))) hx hb harr rfl hK hP hD hS hA (fun _ => rfl) (by decide) (by decide) (Nat.le_of_ble_eq_true rfl) (Nat.le_of_ble_eq_true rfl) (Nat.le_of_ble_eq_true rfl) dX0_init_63 (fun q6 cB H hKB hP hD hS => ?_)
  have eB := sameA hK hKB; subst eB
  have hP : va_P (dC, dI) vwCl [(h0, .inr (0, [.int 4, .int 0, .int 0, .ref q1, .ref q2, .ref q3, .ref q4, .ref q5, .null, .null, .null, .null])), (q1, .inl (cA, 6, .inl (fun _ => 0))), (q2, .inl (cA, 36, .inl (fun _ => 0))), (q3, .inl (cA, 12, .inl (fun _ => 0))), (q4, .inl (cA, 12, .inl (fun _ => 0))), (q5, .inl (cA, 6, .inl (fun _ => 0))), (q6, .inl (cA, 512, .inl (fun _ => 0)))] H := hP
  have hD : va_D (fun q => q = h0 ∨ sz ≤ q) [(h0, .inr (0, [.int 4, .int 0, .int 0, .ref q1, .ref q2, .ref q3, .ref q4, .ref q5, .null, .null, .null, .null])), (q1, .inl (cA, 6, .inl (fun _ => 0))), (q2, .inl (cA, 36, .inl (fun _ => 0))), (q3, .inl (cA, 12, .inl (fun _ => 0))), (q4, .inl (cA, 12, .inl (fun _ => 0))), (q5, .inl (cA, 6, .inl (fun _ => 0))), (q6, .inl (cA, 512, .inl (fun _ => 0)))] := hD
  refine va_putF (ci := 0) (v := .ref q6) (ty := .array .int) (C := RX0) (T := TX0) (N := 12) hx hb hts hin tyX0 tyX0_ok nmX0 hown hK hP hD hS 0 rfl rfl 8 (by decide) (hts (.fieldLink RX0 35 "Submodulary" "values" "[I") (by decide +kernel)) (fun _ h9 => h9) rfl hnm rfl (by decide +kernel) rfl rfl (Nat.le_of_ble_eq_true rfl) dX0_init_65 (fun H locs hP hD hS => ?_)
  have hP : va_P (dC, dI) vwCl [(h0, .inr (0, [.int 4, .int 0, .int 0, .ref q1, .ref q2, .ref q3, .ref q4, .ref q5, .ref q6, .null, .null, .null])), (q1, .inl (cA, 6, .inl (fun _ => 0))), (q2, .inl (cA, 36, .inl (fun _ => 0))), (q3, .inl (cA, 12, .inl (fun _ => 0))), (q4, .inl (cA, 12, .inl (fun _ => 0))), (q5, .inl (cA, 6, .inl (fun _ => 0))), (q6, .inl (cA, 512, .inl (fun _ => 0)))] H := hP
  have hD : va_D (fun q => q = h0 ∨ sz ≤ q) [(h0, .inr (0, [.int 4, .int 0, .int 0, .ref q1, .ref q2, .ref q3, .ref q4, .ref q5, .ref q6, .null, .null, .null])), (q1, .inl (cA, 6, .inl (fun _ => 0))), (q2, .inl (cA, 36, .inl (fun _ => 0))), (q3, .inl (cA, 12, .inl (fun _ => 0))), (q4, .inl (cA, 12, .inl (fun _ => 0))), (q5, .inl (cA, 6, .inl (fun _ => 0))), (q6, .inl (cA, 512, .inl (fun _ => 0)))] := hD
  refine lv_aload_n hx hb dX0_init_68 rfl (lv_at hl 0 rfl) ?_
  refine lv_bipush (v := 6) hx hb dX0_init_69 (by decide) ?_
  refine va_newa (atype := .int) (ty := .int) (n := 6) (N' := 6) (a0 := (6, .inl (fun _ => 0))) hx hb harr rfl hK hP hD hS hA (fun _ => rfl) (by decide) (by decide) (Nat.le_of_ble_eq_true rfl) (Nat.le_of_ble_eq_true rfl) (Nat.le_of_ble_eq_true rfl) dX0_init_71 (fun q7 cB H hKB hP hD hS => ?_)
  have eB := sameA hK hKB; subst eB
  have hP : va_P (dC, dI) vwCl [(h0, .inr (0, [.int 4, .int 0, .int 0, .ref q1, .ref q2, .ref q3, .ref q4, .ref q5, .ref q6, .null, .null, .null])), (q1, .inl (cA, 6, .inl (fun _ => 0))), (q2, .inl (cA, 36, .inl (fun _ => 0))), (q3, .inl (cA, 12, .inl (fun _ => 0))), (q4, .inl (cA, 12, .inl (fun _ => 0))), (q5, .inl (cA, 6, .inl (fun _ => 0))), (q6, .inl (cA, 512, .inl (fun _ => 0))), (q7, .inl (cA, 6, .inl (fun _ => 0)))] H := hP
  have hD : va_D (fun q => q = h0 ∨ sz ≤ q) [(h0, .inr (0, [.int 4, .int 0, .int 0, .ref q1, .ref q2, .ref q3, .ref q4, .ref q5, .ref q6, .null, .null, .null])), (q1, .inl (cA, 6, .inl (fun _ => 0))), (q2, .inl (cA, 36, .inl (fun _ => 0))), (q3, .inl (cA, 12, .inl (fun _ => 0))), (q4, .inl (cA, 12, .inl (fun _ => 0))), (q5, .inl (cA, 6, .inl (fun _ => 0))), (q6, .inl (cA, 512, .inl (fun _ => 0))), (q7, .inl (cA, 6, .inl (fun _ => 0)))] := hD
  refine va_putF (ci := 0) (v := .ref q7) (ty := .array .int) (C := RX0) (T := TX0) (N := 12) hx hb hts hin tyX0 tyX0_ok nmX0 hown hK hP hD hS 0 rfl rfl 9 (by decide) (hts (.fieldLink RX0 38 "Submodulary" "ordered" "[I") (by decide +kernel)) (fun _ h9 => h9) rfl hnm rfl (by decide +kernel) rfl rfl (Nat.le_of_ble_eq_true rfl) dX0_init_73 (fun H locs hP hD hS => ?_)
  have hP : va_P (dC, dI) vwCl [(h0, .inr (0, [.int 4, .int 0, .int 0, .ref q1, .ref q2, .ref q3, .ref q4, .ref q5, .ref q6, .ref q7, .null, .null])), (q1, .inl (cA, 6, .inl (fun _ => 0))), (q2, .inl (cA, 36, .inl (fun _ => 0))), (q3, .inl (cA, 12, .inl (fun _ => 0))), (q4, .inl (cA, 12, .inl (fun _ => 0))), (q5, .inl (cA, 6, .inl (fun _ => 0))), (q6, .inl (cA, 512, .inl (fun _ => 0))), (q7, .inl (cA, 6, .inl (fun _ => 0)))] H := hP
  have hD : va_D (fun q => q = h0 ∨ sz ≤ q) [(h0, .inr (0, [.int 4, .int 0, .int 0, .ref q1, .ref q2, .ref q3, .ref q4, .ref q5, .ref q6, .ref q7, .null, .null])), (q1, .inl (cA, 6, .inl (fun _ => 0))), (q2, .inl (cA, 36, .inl (fun _ => 0))), (q3, .inl (cA, 12, .inl (fun _ => 0))), (q4, .inl (cA, 12, .inl (fun _ => 0))), (q5, .inl (cA, 6, .inl (fun _ => 0))), (q6, .inl (cA, 512, .inl (fun _ => 0))), (q7, .inl (cA, 6, .inl (fun _ => 0)))] := hD
  refine lv_aload_n hx hb dX0_init_76 rfl (lv_at hl 0 rfl) ?_
  refine lv_bipush (v := 6) hx hb dX0_init_77 (by decide) ?_
  refine va_newa (atype := .int) (ty := .int) (n := 6) (N' := 6) (a0 := (6, .inl (fun _ => 0))) hx hb harr rfl hK hP hD hS hA (fun _ => rfl) (by decide) (by decide) (Nat.le_of_ble_eq_true rfl) (Nat.le_of_ble_eq_true rfl) (Nat.le_of_ble_eq_true rfl) dX0_init_79 (fun q8 cB H hKB hP hD hS => ?_)
  have eB := sameA hK hKB; subst eB
  have hP : va_P (dC, dI) vwCl [(h0, .inr (0, [.int 4, .int 0, .int 0, .ref q1, .ref q2, .ref q3, .ref q4, .ref q5, .ref q6, .ref q7, .null, .null])), (q1, .inl (cA, 6, .inl (fun _ => 0))), (q2, .inl (cA, 36, .inl (fun _ => 0))), (q3, .inl (cA, 12, .inl (fun _ => 0))), (q4, .inl (cA, 12, .inl (fun _ => 0))), (q5, .inl (cA, 6, .inl (fun _ => 0))), (q6, .inl (cA, 512, .inl (fun _ => 0))), (q7, .inl (cA, 6, .inl (fun _ => 0))), (q8, .inl (cA, 6, .inl (fun _ => 0)))] H := hP
  have hD : va_D (fun q => q = h0 ∨ sz ≤ q) [(h0, .inr (0, [.int 4, .int 0, .int 0, .ref q1, .ref q2, .ref q3, .ref q4, .ref q5, .ref q6, .ref q7, .null, .null])), (q1, .inl (cA, 6, .inl (fun _ => 0))), (q2, .inl (cA, 36, .inl (fun _ => 0))), (q3, .inl (cA, 12, .inl (fun _ => 0))), (q4, .inl (cA, 12, .inl (fun _ => 0))), (q5, .inl (cA, 6, .inl (fun _ => 0))), (q6, .inl (cA, 512, .inl (fun _ => 0))), (q7, .inl (cA, 6, .inl (fun _ => 0))), (q8, .inl (cA, 6, .inl (fun _ => 0)))] := hD
  refine va_putF (ci := 0) (v := .ref q8) (ty := .array .int) (C := RX0) (T := TX0) (N := 12) hx hb hts hin tyX0 tyX0_ok nmX0 hown hK hP hD hS 0 rfl rfl 10 (by decide) (hts (.fieldLink RX0 41 "Submodulary" "cameFrom" "[I") (by decide +kernel)) (fun _ h9 => h9) rfl hnm rfl (by decide +kernel) rfl rfl (Nat.le_of_ble_eq_true rfl) dX0_init_81 (fun H locs hP hD hS => ?_)
  have hP : va_P (dC, dI) vwCl [(h0, .inr (0, [.int 4, .int 0, .int 0, .ref q1, .ref q2, .ref q3, .ref q4, .ref q5, .ref q6, .ref q7, .ref q8, .null])), (q1, .inl (cA, 6, .inl (fun _ => 0))), (q2, .inl (cA, 36, .inl (fun _ => 0))), (q3, .inl (cA, 12, .inl (fun _ => 0))), (q4, .inl (cA, 12, .inl (fun _ => 0))), (q5, .inl (cA, 6, .inl (fun _ => 0))), (q6, .inl (cA, 512, .inl (fun _ => 0))), (q7, .inl (cA, 6, .inl (fun _ => 0))), (q8, .inl (cA, 6, .inl (fun _ => 0)))] H := hP
  have hD : va_D (fun q => q = h0 ∨ sz ≤ q) [(h0, .inr (0, [.int 4, .int 0, .int 0, .ref q1, .ref q2, .ref q3, .ref q4, .ref q5, .ref q6, .ref q7, .ref q8, .null])), (q1, .inl (cA, 6, .inl (fun _ => 0))), (q2, .inl (cA, 36, .inl (fun _ => 0))), (q3, .inl (cA, 12, .inl (fun _ => 0))), (q4, .inl (cA, 12, .inl (fun _ => 0))), (q5, .inl (cA, 6, .inl (fun _ => 0))), (q6, .inl (cA, 512, .inl (fun _ => 0))), (q7, .inl (cA, 6, .inl (fun _ => 0))), (q8, .inl (cA, 6, .inl (fun _ => 0)))] := hD
  refine lv_aload_n hx hb dX0_init_84 rfl (lv_at hl 0 rfl) ?_
  refine lv_bipush (v := 6) hx hb dX0_init_85 (by decide) ?_
  refine va_newa (atype := .int) (ty := .int) (n := 6) (N' := 6) (a0 := (6, .inl (fun _ => 0))) hx hb harr rfl hK hP hD hS hA (fun _ => rfl) (by decide) (by decide) (Nat.le_of_ble_eq_true rfl) (Nat.le_of_ble_eq_true rfl) (Nat.le_of_ble_eq_true rfl) dX0_init_87 (fun q9 cB H hKB hP hD hS => ?_)
  have eB := sameA hK hKB; subst eB
  have hP : va_P (dC, dI) vwCl [(h0, .inr (0, [.int 4, .int 0, .int 0, .ref q1, .ref q2, .ref q3, .ref q4, .ref q5, .ref q6, .ref q7, .ref q8, .null])), (q1, .inl (cA, 6, .inl (fun _ => 0))), (q2, .inl (cA, 36, .inl (fun _ => 0))), (q3, .inl (cA, 12, .inl (fun _ => 0))), (q4, .inl (cA, 12, .inl (fun _ => 0))), (q5, .inl (cA, 6, .inl (fun _ => 0))), (q6, .inl (cA, 512, .inl (fun _ => 0))), (q7, .inl (cA, 6, .inl (fun _ => 0))), (q8, .inl (cA, 6, .inl (fun _ => 0))), (q9, .inl (cA, 6, .inl (fun _ => 0)))] H := hP
  have hD : va_D (fun q => q = h0 ∨ sz ≤ q) [(h0, .inr (0, [.int 4, .int 0, .int 0, .ref q1, .ref q2, .ref q3, .ref q4, .ref q5, .ref q6, .ref q7, .ref q8, .null])), (q1, .inl (cA, 6, .inl (fun _ => 0))), (q2, .inl (cA, 36, .inl (fun _ => 0))), (q3, .inl (cA, 12, .inl (fun _ => 0))), (q4, .inl (cA, 12, .inl (fun _ => 0))), (q5, .inl (cA, 6, .inl (fun _ => 0))), (q6, .inl (cA, 512, .inl (fun _ => 0))), (q7, .inl (cA, 6, .inl (fun _ => 0))), (q8, .inl (cA, 6, .inl (fun _ => 0))), (q9, .inl (cA, 6, .inl (fun _ => 0)))] := hD
  refine va_putF (ci := 0) (v := .ref q9) (ty := .array .int) (C := RX0) (T := TX0) (N := 12) hx hb hts hin tyX0 tyX0_ok nmX0 hown hK hP hD hS 0 rfl rfl 11 (by decide) (hts (.fieldLink RX0 44 "Submodulary" "reached" "[I") (by decide +kernel)) (fun _ h9 => h9) rfl hnm rfl (by decide +kernel) rfl rfl (Nat.le_of_ble_eq_true rfl) dX0_init_89 (fun H locs hP hD hS => ?_)
  have hP : va_P (dC, dI) vwCl [(h0, .inr (0, [.int 4, .int 0, .int 0, .ref q1, .ref q2, .ref q3, .ref q4, .ref q5, .ref q6, .ref q7, .ref q8, .ref q9])), (q1, .inl (cA, 6, .inl (fun _ => 0))), (q2, .inl (cA, 36, .inl (fun _ => 0))), (q3, .inl (cA, 12, .inl (fun _ => 0))), (q4, .inl (cA, 12, .inl (fun _ => 0))), (q5, .inl (cA, 6, .inl (fun _ => 0))), (q6, .inl (cA, 512, .inl (fun _ => 0))), (q7, .inl (cA, 6, .inl (fun _ => 0))), (q8, .inl (cA, 6, .inl (fun _ => 0))), (q9, .inl (cA, 6, .inl (fun _ => 0)))] H := hP
  have hD : va_D (fun q => q = h0 ∨ sz ≤ q) [(h0, .inr (0, [.int 4, .int 0, .int 0, .ref q1, .ref q2, .ref q3, .ref q4, .ref q5, .ref q6, .ref q7, .ref q8, .ref q9])), (q1, .inl (cA, 6, .inl (fun _ => 0))), (q2, .inl (cA, 36, .inl (fun _ => 0))), (q3, .inl (cA, 12, .inl (fun _ => 0))), (q4, .inl (cA, 12, .inl (fun _ => 0))), (q5, .inl (cA, 6, .inl (fun _ => 0))), (q6, .inl (cA, 512, .inl (fun _ => 0))), (q7, .inl (cA, 6, .inl (fun _ => 0))), (q8, .inl (cA, 6, .inl (fun _ => 0))), (q9, .inl (cA, 6, .inl (fun _ => 0)))] := hD
  refine lv_aload_n hx hb dX0_init_92 rfl (lv_at hl 0 rfl) ?_
  refine va_get (ci := 0) (C := RX0) (T := TX0) (N := 12) hx hb hts hin hown hK hP 0 rfl rfl 6 (by decide) (hts (.fieldLink RX0 29 "Submodulary" "rooms" "[I") (by decide +kernel)) (fun _ h9 => h9) rfl dX0_init_93 ?_
  refine lv_iconst (v := 1) hx hb dX0_init_96 (by decide) ?_
  have hP1 : va_P (dC, dI) vwCl [(q4, .inl (cA, 12, .inl (fun _ => 0)))] H := hP.sub [4] rfl
  refine mu_call (v0 := none) (B := fun t => va_P (dC, dI) vwCl [(q4, .inl (cA, 12, .inl (filv 12 (fun _ => 0) 1)))] t.heap) (av := #[]) (va_runS (As := [.ref q4, .int 1]) (rest := []) ⟨hx, hb, hml, hown, hts⟩ (k_J7_fill_53178 l dC dI cA q4 12 (fun _ => 0) 1 (by decide)) (va_cwS 2 hts gX0_init_J7_fill_53178 rfl rfl rfl cd_J7_fill_53178 ⟨Nat.le_of_ble_eq_true rfl, Nat.le_of_ble_eq_true rfl⟩) (preR hK hP1) rfl rfl hl.1 rfl (lv_room (Nat.le_of_ble_eq_true rfl)) dX0_init_97 ⟨Nat.le_of_ble_eq_true rfl, Nat.le_of_ble_eq_true rfl⟩) hS (fun z h => by rw [h]; exact hD.2 4 _ rfl) (fun t H1 locs ht hB hk hS => ?_)
  have hP := rowSet (k := 4) hP hD rfl (by rw [← ht]; exact hB) hk
  have hD := hD.set (p := 4) (e := .inl (cA, 12, .inl (filv 12 (fun _ => 0) 1))) rfl
  generalize H1 = H at hP hS ⊢
  have hP : va_P (dC, dI) vwCl [(h0, .inr (0, [.int 4, .int 0, .int 0, .ref q1, .ref q2, .ref q3, .ref q4, .ref q5, .ref q6, .ref q7, .ref q8, .ref q9])), (q1, .inl (cA, 6, .inl (fun _ => 0))), (q2, .inl (cA, 36, .inl (fun _ => 0))), (q3, .inl (cA, 12, .inl (fun _ => 0))), (q4, .inl (cA, 12, .inl (filv 12 (fun _ => 0) 1))), (q5, .inl (cA, 6, .inl (fun _ => 0))), (q6, .inl (cA, 512, .inl (fun _ => 0))), (q7, .inl (cA, 6, .inl (fun _ => 0))), (q8, .inl (cA, 6, .inl (fun _ => 0))), (q9, .inl (cA, 6, .inl (fun _ => 0)))] H := hP
  have hD : va_D (fun q => q = h0 ∨ sz ≤ q) [(h0, .inr (0, [.int 4, .int 0, .int 0, .ref q1, .ref q2, .ref q3, .ref q4, .ref q5, .ref q6, .ref q7, .ref q8, .ref q9])), (q1, .inl (cA, 6, .inl (fun _ => 0))), (q2, .inl (cA, 36, .inl (fun _ => 0))), (q3, .inl (cA, 12, .inl (fun _ => 0))), (q4, .inl (cA, 12, .inl (filv 12 (fun _ => 0) 1))), (q5, .inl (cA, 6, .inl (fun _ => 0))), (q6, .inl (cA, 512, .inl (fun _ => 0))), (q7, .inl (cA, 6, .inl (fun _ => 0))), (q8, .inl (cA, 6, .inl (fun _ => 0))), (q9, .inl (cA, 6, .inl (fun _ => 0)))] := hD
  have hP : va_P (dC, dI) vwCl (wX cA (atL [h0, q1, q2, q3, q4, q5, q6, q7, q8, q9]) S0X) H := hP
  have hD : va_D (fun q => q = h0 ∨ sz ≤ q) (wX cA (atL [h0, q1, q2, q3, q4, q5, q6, q7, q8, q9]) S0X) := hD
  obtain ⟨hap, hal⟩ := apX hD
  exact W.vret hx hb hr (fun t ht2 hW => ⟨⟨rfl, atL [h0, q1, q2, q3, q4, q5, q6, q7, q8, q9], rfl, hap, fun k h1 h2 => (hal k h2).resolve_left (fun e => absurd (hap k 0 h2 (by omega) e) (by omega)), by rw [ht2]; exact hP⟩, hS.F ht2⟩) hS.2.2 dX0_init_100
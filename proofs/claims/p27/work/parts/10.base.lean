/-! Rows of this claim's own: states of both classes, reads and writes of rows that may fail, calls that change nothing. -/
/-- the state of an object of either class: its numbers by place, its rows by place -/
abbrev St : Type := (Nat → Int32) × (Nat → Nat → Int32)
def sS (S : St) (k : Nat) (v : Int32) : St := (fun j => if j = k then v else S.1 j, S.2)
def sA (S : St) (k : Nat) (f : Nat → Int32) : St := (S.1, fun j => if j = k then f else S.2 j)
/-- a row read and written where it may: none outside -/
def rdA (n : Nat) (f : Nat → Int32) (i : Int32) : Option Int32 := if ¬ (i < 0 ∨ n ≤ i.toNatClampNeg) then some (f i.toNatClampNeg) else none
def wrA (n : Nat) (f : Nat → Int32) (i x : Int32) : Option (Nat → Int32) := if ¬ (i < 0 ∨ n ≤ i.toNatClampNeg) then some (upd f i.toNatClampNeg x) else none
theorem ob_some {α β : Type} {x : Option α} {f : α → Option β} {r : β} (h : x.bind f = some r) : ∃ a, x = some a ∧ f a = some r := by
  cases x with
  | none => cases h
  | some a => exact ⟨a, rfl, h⟩
theorem rdA_some {n : Nat} {f : Nat → Int32} {i v : Int32} (h : rdA n f i = some v) : vp_in i n ∧ f i.toNatClampNeg = v := by
  unfold rdA at h
  by_cases c : ¬ (i < 0 ∨ n ≤ i.toNatClampNeg)
  · rw [if_pos c] at h; exact ⟨c, Option.some.inj h⟩
  · rw [if_neg c] at h; cases h
theorem wrA_some {n : Nat} {f g : Nat → Int32} {i x : Int32} (h : wrA n f i x = some g) : vp_in i n ∧ upd f i.toNatClampNeg x = g := by
  unfold wrA at h
  by_cases c : ¬ (i < 0 ∨ n ≤ i.toNatClampNeg)
  · rw [if_pos c] at h; exact ⟨c, Option.some.inj h⟩
  · rw [if_neg c] at h; cases h
/-- the cells of an object of class Submodulary, and of the reference -/
def wX (cA : ClassId) (a : Nat → Nat) (S : St) : va_W :=
  [(a 0, .inr (0, [.int (S.1 0), .int (S.1 1), .int (S.1 2), .ref (a 1), .ref (a 2), .ref (a 3), .ref (a 4), .ref (a 5), .ref (a 6), .ref (a 7), .ref (a 8), .ref (a 9)])),
   (a 1, .inl (cA, 6, .inl (S.2 0))), (a 2, .inl (cA, 36, .inl (S.2 1))), (a 3, .inl (cA, 12, .inl (S.2 2))), (a 4, .inl (cA, 12, .inl (S.2 3))), (a 5, .inl (cA, 6, .inl (S.2 4))), (a 6, .inl (cA, 512, .inl (S.2 5))), (a 7, .inl (cA, 6, .inl (S.2 6))), (a 8, .inl (cA, 6, .inl (S.2 7))), (a 9, .inl (cA, 6, .inl (S.2 8)))]
/-- what a method of them finds -/
def PXs (D : va_G) (cA : ClassId) (a : Nat → Nat) (S : St) (U : State) : Prop := va_P D vwCl (wX cA a S) U.heap ∧ va_K D vwCl [(cA, .int)] U
/-- what a static method finds: one row, or nothing -/
def PRs (D : va_G) (cA : ClassId) (q : Nat) (n : Nat) (f : Nat → Int32) (U : State) : Prop := va_P D vwCl [(q, .inl (cA, n, .inl f))] U.heap ∧ va_K D vwCl [(cA, .int)] U
/-- returns r, and nothing has changed -/
def pQi (r : Int32) : Array Value → State → Outcome → State → Prop := fun _ st oc t => oc = .returned (some (.int r)) ∧ t.heap = st.heap
theorem fbX {av : List Value} {D : va_G} {cA : ClassId} {a : Nat → Nat} {S : St} : FrameBlind (va_Pc av (PXs D cA a S)) := fun x U g mk h => ⟨h.1, h.2.1, va_K.moved (u := U) (U := U.calling g mk x) (Vm.Alike.refl U.vm) h.2.2⟩
theorem fbR {av : List Value} {D : va_G} {cA : ClassId} {q n : Nat} {f : Nat → Int32} : FrameBlind (va_Pc av (PRs D cA q n f)) := fun x U g mk h => ⟨h.1, h.2.1, va_K.moved (u := U) (U := U.calling g mk x) (Vm.Alike.refl U.vm) h.2.2⟩
theorem fbT {av : List Value} : FrameBlind (va_Pc av (fun _ => True)) := fun x U g mk h => ⟨h.1, trivial⟩
section PRE
variable {s : State} {H : Heap} {D : va_G} {cA : ClassId} {a : Nat → Nat} {S : St} {As : List Value}
theorem preX (hK : va_K D vwCl [(cA, .int)] s) (hP : va_P D vwCl (wX cA a S) H) : PreV s H RX0 (a 0) (va_Pc (.ref (a 0) :: As) (PXs D cA a S)) As :=
  ⟨fbX, va_recv hK hP (ci := 0) (q0 := 0) rfl rfl, fun U hU hW => ⟨rfl, by rw [hU]; exact hP, va_K.moved hW.alike hK⟩⟩
theorem preR {q n : Nat} {f : Nat → Int32} (hK : va_K D vwCl [(cA, .int)] s) (hP : va_P D vwCl [(q, .inl (cA, n, .inl f))] H) : PreS s H (va_Pc As (PRs D cA q n f)) As :=
  ⟨fbR, fun U hU hW => ⟨rfl, by rw [hU]; exact hP, va_K.moved hW.alike hK⟩⟩
theorem preT : PreS s H (va_Pc As (fun _ => True)) As := ⟨fbT, fun _ _ _ => ⟨rfl, trivial⟩⟩
/-- one row of the object's -/
theorem rowX (hP : va_P D vwCl (wX cA a S) H) (k : Nat) {q : Nat × va_E} (hq : (wX cA a S)[k]? = some q) : va_P D vwCl [q] H := fun j z hj => by
  cases j with
  | zero => cases hj; exact hP k q hq
  | succ j => simp at hj
end PRE
section CALLS
variable {p : Program} {l : Launch} {e : Env} {R : Room} {s : State} {m : MethodId} {args : Array Value} {below : List Frame} {meth : Method} {c : Code} {H : Heap} {locs : List Loc} {cells slots : Nat} {Q : State → Prop}
variable {cc : ByteArray} {pc : Nat} {ls : Array Slot} {rest st0 : List Value} {nL : Nat} {Ts : List Cond} {own : String}
/-- behind a call that changes nothing -/
theorem pu_calli {r : Int32} {av : Array Value} (hr : va_Run p l e R s m args below meth c H locs cells slots 0 0 (F0 m pc ls st0) rest (pQi r av) (fun _ => False)) (kk : W p l e R s m args below meth c H locs cells slots Q (F0 m (pc + 3) ls (.int r :: rest))) : W p l e R s m args below meth c H locs cells slots Q (F0 m pc ls st0) := by
  intro T hT X
  obtain ⟨v, st₀, t, T', L, h0, X', hL, e1, e2, ⟨hv, hh⟩, st⟩ := hr T hT X
  cases hv
  have hLn : L = [] := by
    cases L with
    | nil => rfl
    | cons q L => exact (hL q List.mem_cons_self).elim
  subst hLn
  rw [List.append_nil] at X'
  obtain ⟨t2, a1, b1⟩ := kk T' (by rw [e1, hh, h0]) X'
  exact ⟨t2, st t2 a1, b1⟩
variable {y : MethodName} {ws ws' : List Cond} {rm : Room} {bytes : ByteArray} {maxL n index : Nat} {ret : Option FieldType} {C : String} {b : Addr} {As : List Value} {Pc : Array Value → State → Prop} {r : Int32}
theorem pu_V (S0 : CallFix p m c cc nL s args Ts own) (hM : Met l y ws rm Pc (pQi r) 0 0 (fun _ => False)) (hT : GoodIn Ts (wsV own index C y ws)) (hw : ws = Cond.code y bytes maxL ret :: ws') (hrc : rm.cells = 0) (hrs : rm.slots = 0)
    (hd : y.cls = C ∧ y.cls ≠ "java/lang/invoke/MethodHandle" ∧ y.cls ≠ "java/lang/invoke/VarHandle" ∧ (parseMethodDescriptor y.desc).map (fun d => d.parameters.length) = some n) (hR1 : rm.frames + 1 ≤ R.frames) (hR2 : 8 + (maxL + 11) + rm.locals ≤ R.locals) (hpre : PreV s H C b Pc As)
    (hn : As.length = n) (hsize : ls.size = nL) (hst : st0 = As.reverse ++ .ref b :: rest) (hroom : (rest.map fun v => v.category).sum ≤ 8) (hc : cells ≤ R.cells) (hs : slots ≤ R.slots) (hdg : decode cc pc = .ok (.invokevirtual index, 3))
    (kk : W p l e R s m args below meth c H locs cells slots Q (F0 m (pc + 3) ls (.int r :: rest))) : W p l e R s m args below meth c H locs cells slots Q (F0 m pc ls st0) :=
  pu_calli (va_runV (As := As) (rest := rest) (b := b) S0 hM (cwV n S0.2.2.2.2 hT hw hrc hrs hd ⟨hR1, hR2⟩) hpre rfl hn hsize hst (lv_room hroom) hdg ⟨hc, hs⟩) kk
theorem pu_S (S0 : CallFix p m c cc nL s args Ts own) (hM : Met l y ws rm Pc (pQi r) 0 0 (fun _ => False)) (hT : GoodIn Ts (va_wsS own index y ws)) (hw : ws = Cond.code y bytes maxL ret :: ws') (hrc : rm.cells = 0) (hrs : rm.slots = 0)
    (hd : y.cls ≠ "java/lang/invoke/MethodHandle" ∧ y.cls ≠ "java/lang/invoke/VarHandle" ∧ (parseMethodDescriptor y.desc).map (fun d => d.parameters.length) = some n) (hR1 : rm.frames + 1 ≤ R.frames) (hR2 : 8 + (maxL + 11) + rm.locals ≤ R.locals) (hpre : PreS s H Pc As)
    (hn : As.length = n) (hsize : ls.size = nL) (hst : st0 = As.reverse ++ rest) (hroom : (rest.map fun v => v.category).sum ≤ 8) (hc : cells ≤ R.cells) (hs : slots ≤ R.slots) (hdg : decode cc pc = .ok (.invokestatic index, 3))
    (kk : W p l e R s m args below meth c H locs cells slots Q (F0 m (pc + 3) ls (.int r :: rest))) : W p l e R s m args below meth c H locs cells slots Q (F0 m pc ls st0) :=
  pu_calli (va_runS (As := As) (rest := rest) S0 hM (va_cwS n S0.2.2.2.2 hT hw hrc hrs hd ⟨hR1, hR2⟩) hpre rfl hn hsize hst (lv_room hroom) hdg ⟨hc, hs⟩) kk
end CALLS
section READS
variable {p : Program} {l : Launch} {e : Env} {R : Room} {s : State} {m : MethodId} {args : Array Value} {below : List Frame} {meth : Method} {c : Code} {H : Heap} {locs : List Loc} {cells slots : Nat} {Q : State → Prop}
variable {cc : ByteArray} {pc : Nat} {ls : Array Slot} {rest : List Value} {Ts : List Cond} {D : va_G} {cA : ClassId} {a : Nat → Nat} {S : St} {index : Nat}
/-- a field of the object's, by its place -/
theorem gfX (hx : p.tables.exec = Jvm.exec) (hb : c.code = cc) (hts : ∀ w ∈ Ts, w.before args s = true) (hin : ∀ w ∈ u_ws RX0 TX0 12, w ∈ Ts) (hown : s.vm.findClass RX0 = some m.cls) (hK : va_K D vwCl [(cA, .int)] s) (hP : va_P D vwCl (wX cA a S) H) (k : Nat) (hk : k < 12) {v : Value}
    (hw : (Cond.fieldLink RX0 index RX0 (TX0 k).2.1 (TX0 k).2.2.1).before args s = true) (hv : ([.int (S.1 0), .int (S.1 1), .int (S.1 2), .ref (a 1), .ref (a 2), .ref (a 3), .ref (a 4), .ref (a 5), .ref (a 6), .ref (a 7), .ref (a 8), .ref (a 9)] : List Value)[k]? = some v) (hsame : (TX0 k).1 = RX0) (hdg : decode cc pc = .ok (.getfield index, 3))
    (kk : W p l e R s m args below meth c H locs cells slots Q (F0 m (pc + 3) ls (v :: rest))) : W p l e R s m args below meth c H locs cells slots Q (F0 m pc ls (.ref (a 0) :: rest)) :=
  va_get (ci := 0) (C := RX0) (T := TX0) (N := 12) hx hb hts hin hown hK hP 0 rfl rfl k hk hw (fun x h => by rw [hsame] at h; exact h) hv hdg kk
/-- a row's element, read where the read is known to go well -/
theorem rdI (hx : p.tables.exec = Jvm.exec) (hb : c.code = cc) (hK : va_K D vwCl [(cA, .int)] s) {ws : va_W} {q n : Nat} {f : Nat → Int32} (hP : va_P D vwCl ws H) (q0 : Nat) (ha : ws[q0]? = some (q, .inl (cA, n, .inl f))) {i v : Int32} (hv : rdA n f i = some v) (hdg : decode cc pc = .ok (.iaload, 1))
    (kk : W p l e R s m args below meth c H locs cells slots Q (F0 m (pc + 1) ls (.int v :: rest))) : W p l e R s m args below meth c H locs cells slots Q (F0 m pc ls (.int i :: .ref q :: rest)) := by
  obtain ⟨h1, h2⟩ := rdA_some hv
  subst h2
  exact va_iald hx hb hK hP q0 0 ha rfl h1 hdg kk
end READS
/-- a value with a name of its own -/
def bnd {α : Type} (x : Int32) (f : Int32 → α) : α := f x
theorem bnd_at {α : Type} {x v : Int32} {f : Int32 → α} {r : α} (h : bnd x f = r) (e : v = x) : f v = r := by rw [e]; exact h
/-- the cells that a method of an object may change: the object's own n -/
def ad (a : Nat → Nat) (n : Nat) : Nat → Prop := fun q => ∃ k, k < n ∧ q = a k
def apart (a : Nat → Nat) (n : Nat) : Prop := ∀ i j, i < n → j < n → a i = a j → i = j
theorem wX_at (cA : ClassId) (a : Nat → Nat) (S : St) : ∀ (i : Nat) (q : Nat × va_E), (wX cA a S)[i]? = some q → i < 10 ∧ q.1 = a i := fun i q h => by
  rcases (show i = 0 ∨ i = 1 ∨ i = 2 ∨ i = 3 ∨ i = 4 ∨ i = 5 ∨ i = 6 ∨ i = 7 ∨ i = 8 ∨ i = 9 ∨ 10 ≤ i by omega) with rfl | rfl | rfl | rfl | rfl | rfl | rfl | rfl | rfl | rfl | h9
  all_goals first | (cases h; exact ⟨by omega, rfl⟩) | skip
  have h8 : (wX cA a S).length ≤ i := h9
  rw [List.getElem?_eq_none h8] at h; cases h
theorem dX {cA : ClassId} {a : Nat → Nat} (S : St) (h : apart a 10) : va_D (ad a 10) (wX cA a S) :=
  ⟨fun i j p q hi hj e => by
    obtain ⟨h1, h2⟩ := wX_at cA a S i p hi
    obtain ⟨h3, h4⟩ := wX_at cA a S j q hj
    exact h i j h1 h3 (by rw [← h2, ← h4]; exact e), fun k q hk => ⟨k, wX_at cA a S k q hk⟩⟩
def atv (n : Nat) (f : Nat → Int32) (i : Int32) : Int32 := if i < 0 then 0 else if Int32.ofNat n ≤ i then 0 else f i.toNatClampNeg
def putv (n : Nat) (f : Nat → Int32) (i x : Int32) : Nat → Int32 := if i < 0 then f else if Int32.ofNat n ≤ i then f else upd f i.toNatClampNeg x
theorem in_of {i : Int32} {n : Nat} (hn : n < 2 ^ 31) (h1 : ¬ i < 0) (h2 : ¬ Int32.ofNat n ≤ i) : vp_in i n := by
  rcases pk_ix i hn with h | h | ⟨j, hj, rfl⟩
  · exact absurd h h1
  · exact absurd h h2
  · exact vp_in_nI hj hn
set_option maxHeartbeats 4000000 in
set_option maxRecDepth 100000 in
theorem k_X0_at (l : Launch) (dC : Nat → ClassId) (dI : Nat → Nat → Nat) (cA : ClassId) (q n : Nat) (f : Nat → Int32) (i : Int32) (hn : n < 2 ^ 31) : Met l yX0_at wsX0_at ({ frames := 0, cells := 0, slots := 0, locals := 0 }) (va_Pc [.ref q, .int i] (PRs (dC, dI) cA q n f)) (pQi (atv n f i)) 0 0 (fun _ => False) := by
  refine Met.ofW (cc := cX0_at) (maxL := 2) (ret := (some .int)) (by decide) rfl ?_
  intro p e s m args below meth c s₁ B hml hv
  obtain ⟨rfl, hP, hK⟩ := hv
  have hx := B.exec
  have hb := B.bytes
  have hr := B.returns
  have hlocks := B.notSynchronized
  have hl := lv_entry ([.ref q, .int i]) (n := 2) (Nat.le_of_ble_eq_true rfl)
  rw [lg_entry_eq]
  generalize (lg_sl ([.ref q, .int i]) ++ List.replicate (2 - (lg_sl ([.ref q, .int i])).length) Slot.unset).toArray = ls at hl ⊢
  have hl : lv_has ls 2 [(0, .ref q), (1, .int i)] := hl
  unfold atv
  refine lv_iload_n hx hb dX0_at_0 rfl (lv_at hl 1 rfl) ?_
  refine lv_if_lt (tgt := 16) hx hb dX0_at_1 (by decide) (fun c1 => ?_) (fun c1 => ?_)
  · rw [if_pos c1]
    refine lv_iconst (v := 0) hx hb dX0_at_16 (by decide) ?_
    exact W.iret hx hb hr (fun t ht hW => ⟨rfl, ht⟩) (fun q h => by cases h) dX0_at_17
  · rw [if_neg c1]
    refine lv_iload_n hx hb dX0_at_4 rfl (lv_at hl 1 rfl) ?_
    refine lv_aload_n hx hb dX0_at_5 rfl (lv_at hl 0 rfl) ?_
    refine va_alen hx hb hK hP 0 0 rfl rfl rfl dX0_at_6 ?_
    refine lv_icmp_ge (tgt := 16) hx hb dX0_at_7 (by decide) (fun c2 => ?_) (fun c2 => ?_)
    · rw [if_pos c2]
      refine lv_iconst (v := 0) hx hb dX0_at_16 (by decide) ?_
      exact W.iret hx hb hr (fun t ht hW => ⟨rfl, ht⟩) (fun q h => by cases h) dX0_at_17
    · rw [if_neg c2]
      refine lv_aload_n hx hb dX0_at_10 rfl (lv_at hl 0 rfl) ?_
      refine lv_iload_n hx hb dX0_at_11 rfl (lv_at hl 1 rfl) ?_
      refine va_iald hx hb hK hP 0 0 rfl rfl (in_of hn c1 c2) dX0_at_12 ?_
      refine lv_goto (tgt := 17) hx hb dX0_at_13 (by decide) ?_
      exact W.iret hx hb hr (fun t ht hW => ⟨rfl, ht⟩) (fun q h => by cases h) dX0_at_17
theorem cd_X0_at : yX0_at.cls ≠ "java/lang/invoke/MethodHandle" ∧ yX0_at.cls ≠ "java/lang/invoke/VarHandle" ∧ (parseMethodDescriptor yX0_at.desc).map (fun d => d.parameters.length) = some 2 := by decide +kernel
theorem cd_X0_put : yX0_put.cls ≠ "java/lang/invoke/MethodHandle" ∧ yX0_put.cls ≠ "java/lang/invoke/VarHandle" ∧ (parseMethodDescriptor yX0_put.desc).map (fun d => d.parameters.length) = some 3 := by decide +kernel
theorem cd_J7_fill_53178 : yJ7_fill_53178.cls ≠ "java/lang/invoke/MethodHandle" ∧ yJ7_fill_53178.cls ≠ "java/lang/invoke/VarHandle" ∧ (parseMethodDescriptor yJ7_fill_53178.desc).map (fun d => d.parameters.length) = some 2 := by decide +kernel
theorem tabOut {n : Nat} (hn : n < 2 ^ 31) {x : Int32} (h : ∀ j, j < n → ¬ x = nI j) : x.toInt < 0 ∨ ((n : Int) - 1) < x.toInt := by
  rcases pk_ix x hn with h1 | h1 | ⟨j, hj, h1⟩
  · left
    have := Int32.lt_iff_toInt_lt.mp h1
    simpa using this
  · right
    have h2 := Int32.le_iff_toInt_le.mp h1
    rw [nI_toInt hn] at h2
    omega
  · exact absurd h1 (h j hj)
theorem tabOut4 {x : Int32} (h0 : ¬ x = 0) (h1 : ¬ x = 1) (h2 : ¬ x = 2) (h3 : ¬ x = 3) : x.toInt < 0 ∨ (3 : Int) < x.toInt := by
  refine tabOut (n := 4) (by decide) (fun j hj => ?_)
  rcases (show j = 0 ∨ j = 1 ∨ j = 2 ∨ j = 3 by omega) with rfl | rfl | rfl | rfl
  · exact h0
  · exact h1
  · exact h2
  · exact h3

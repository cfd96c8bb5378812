theorem wX_q0 (cA : ClassId) (a : Nat → Nat) (S : St) : (wX cA a S)[1]? = some (a 1, .inl (cA, 6, .inl (S.2 0))) := rfl
theorem wX_s0 (cA : ClassId) (a : Nat → Nat) (S : St) (g : Nat → Int32) : (wX cA a S).set 1 (a 1, .inl (cA, 6, .inl g)) = wX cA a (sA S 0 g) := rfl
theorem wX_q1 (cA : ClassId) (a : Nat → Nat) (S : St) : (wX cA a S)[2]? = some (a 2, .inl (cA, 36, .inl (S.2 1))) := rfl
theorem wX_s1 (cA : ClassId) (a : Nat → Nat) (S : St) (g : Nat → Int32) : (wX cA a S).set 2 (a 2, .inl (cA, 36, .inl g)) = wX cA a (sA S 1 g) := rfl
theorem wX_q2 (cA : ClassId) (a : Nat → Nat) (S : St) : (wX cA a S)[3]? = some (a 3, .inl (cA, 12, .inl (S.2 2))) := rfl
theorem wX_s2 (cA : ClassId) (a : Nat → Nat) (S : St) (g : Nat → Int32) : (wX cA a S).set 3 (a 3, .inl (cA, 12, .inl g)) = wX cA a (sA S 2 g) := rfl
theorem wX_q3 (cA : ClassId) (a : Nat → Nat) (S : St) : (wX cA a S)[4]? = some (a 4, .inl (cA, 12, .inl (S.2 3))) := rfl
theorem wX_s3 (cA : ClassId) (a : Nat → Nat) (S : St) (g : Nat → Int32) : (wX cA a S).set 4 (a 4, .inl (cA, 12, .inl g)) = wX cA a (sA S 3 g) := rfl
theorem wX_q4 (cA : ClassId) (a : Nat → Nat) (S : St) : (wX cA a S)[5]? = some (a 5, .inl (cA, 6, .inl (S.2 4))) := rfl
theorem wX_s4 (cA : ClassId) (a : Nat → Nat) (S : St) (g : Nat → Int32) : (wX cA a S).set 5 (a 5, .inl (cA, 6, .inl g)) = wX cA a (sA S 4 g) := rfl
theorem wX_q5 (cA : ClassId) (a : Nat → Nat) (S : St) : (wX cA a S)[6]? = some (a 6, .inl (cA, 512, .inl (S.2 5))) := rfl
theorem wX_s5 (cA : ClassId) (a : Nat → Nat) (S : St) (g : Nat → Int32) : (wX cA a S).set 6 (a 6, .inl (cA, 512, .inl g)) = wX cA a (sA S 5 g) := rfl
theorem wX_q6 (cA : ClassId) (a : Nat → Nat) (S : St) : (wX cA a S)[7]? = some (a 7, .inl (cA, 6, .inl (S.2 6))) := rfl
theorem wX_s6 (cA : ClassId) (a : Nat → Nat) (S : St) (g : Nat → Int32) : (wX cA a S).set 7 (a 7, .inl (cA, 6, .inl g)) = wX cA a (sA S 6 g) := rfl
theorem wX_q7 (cA : ClassId) (a : Nat → Nat) (S : St) : (wX cA a S)[8]? = some (a 8, .inl (cA, 6, .inl (S.2 7))) := rfl
theorem wX_s7 (cA : ClassId) (a : Nat → Nat) (S : St) (g : Nat → Int32) : (wX cA a S).set 8 (a 8, .inl (cA, 6, .inl g)) = wX cA a (sA S 7 g) := rfl
theorem wX_q8 (cA : ClassId) (a : Nat → Nat) (S : St) : (wX cA a S)[9]? = some (a 9, .inl (cA, 6, .inl (S.2 8))) := rfl
theorem wX_s8 (cA : ClassId) (a : Nat → Nat) (S : St) (g : Nat → Int32) : (wX cA a S).set 9 (a 9, .inl (cA, 6, .inl g)) = wX cA a (sA S 8 g) := rfl
/-! Rows of methods that write: their ends, their calls, fields and rows written. -/
/-- returns r, the object's state is S2, its own cells alone have changed -/
def mXi (D : va_G) (cA : ClassId) (a : Nat → Nat) (r : Int32) (S2 : St) : Array Value → State → Outcome → State → Prop := fun _ st oc t => (oc = .returned (some (.int r)) ∧ va_P D vwCl (wX cA a S2) t.heap) ∧ va_F (ad a 10) st t
def mXv (D : va_G) (cA : ClassId) (a : Nat → Nat) (S2 : St) : Array Value → State → Outcome → State → Prop := fun _ st oc t => (oc = .returned none ∧ va_P D vwCl (wX cA a S2) t.heap) ∧ va_F (ad a 10) st t
/-- returns, one row holds g now, nothing else has changed -/
def mRv (D : va_G) (cA : ClassId) (q n : Nat) (g : Nat → Int32) : Array Value → State → Outcome → State → Prop := fun _ st oc t => (oc = .returned none ∧ va_P D vwCl [(q, .inl (cA, n, .inl g))] t.heap) ∧ va_F (fun z => z = q) st t
/-- one row of the object's changed by a callee: the object with the new row -/
theorem rowSet {D : va_G} {cA : ClassId} {ws : va_W} {A : Nat → Prop} {H H1 : Heap} {k q n : Nat} {f g : Nat → Int32} (hP : va_P D vwCl ws H) (hD : va_D A ws) (hq : ws[k]? = some (q, .inl (cA, n, .inl f))) (h1 : va_P D vwCl [(q, .inl (cA, n, .inl g))] H1) (hk : ∀ z : Nat, z < H.size → ¬ z = q → H1[z]? = H[z]?) : va_P D vwCl (ws.set k (q, .inl (cA, n, .inl g))) H1 := by
  intro j z hz
  by_cases hj : j = k
  · subst hj
    have hlt : j < ws.length := by
      rcases Nat.lt_or_ge j ws.length with h | h
      · exact h
      · rw [List.getElem?_eq_none h] at hq; cases hq
    rw [List.getElem?_set_self hlt] at hz
    cases hz
    exact h1 0 _ rfl
  · rw [List.getElem?_set_ne (fun e => hj e.symm)] at hz
    refine (hP j z hz).kept (hk z.1 (hP j z hz).lt (fun e => hj ?_))
    exact hD.1 j k z (q, .inl (cA, n, .inl f)) hz hq e
section MUT
variable {p : Program} {l : Launch} {e : Env} {R : Room} {s : State} {m : MethodId} {args : Array Value} {below : List Frame} {meth : Method} {c : Code} {H : Heap} {locs : List Loc} {cells slots : Nat} {Q : State → Prop}
variable {cc : ByteArray} {pc : Nat} {ls : Array Slot} {rest st0 : List Value} {nL : Nat} {Ts : List Cond} {own : String} {D : va_G} {cA : ClassId} {a : Nat → Nat} {S : St} {H0 : Heap}
/-- behind a call that may write: H1 is what it left -/
theorem mu_call {v0 : Option Value} {av : Array Value} {B : State → Prop} {A1 A0 : Nat → Prop} (hr : va_Run p l e R s m args below meth c H locs cells slots 0 0 (F0 m pc ls st0) rest (fun st oc t => (oc = .returned v0 ∧ B t) ∧ va_F A1 st t) A1) (hS : va_S A0 H0 H locs) (hA : ∀ q, A1 q → A0 q)
    (kk : ∀ (t : State) (H1 : Heap) (locs1 : List Loc), t.heap = H1 → B t → (∀ q : Nat, q < H.size → ¬ A1 q → H1[q]? = H[q]?) → va_S A0 H0 H1 locs1 → W p l e R s m args below meth c H1 locs1 cells slots Q (F0 m (pc + 3) ls (v0.toList ++ rest))) : W p l e R s m args below meth c H locs cells slots Q (F0 m pc ls st0) := by
  intro T hT X
  obtain ⟨v, st₀, t, T', L, h0, X', hL, e1, e2, ⟨⟨hv, hB⟩, hz, hk⟩, st⟩ := hr T hT X
  cases hv
  rw [h0] at hz hk
  obtain ⟨t2, a1, b1⟩ := kk t T'.heap (locs ++ L) e1.symm hB (fun q h1 h2 => by rw [e1]; exact hk q h1 h2)
    ⟨Nat.le_trans hS.1 (by rw [e1]; exact hz), fun q h1 h2 => by rw [e1, hk q (Nat.lt_of_lt_of_le h1 hS.1) (fun z => h2 (hA q z))]; exact hS.2.1 q h1 h2, fun q hq => by
      rcases List.mem_append.mp hq with h | h
      · exact hS.2.2 q h
      · exact hA _ (hL q h)⟩ T' rfl X'
  exact ⟨t2, st t2 a1, b1⟩
variable {y : MethodName} {ws ws' : List Cond} {rm : Room} {bytes : ByteArray} {maxL n index : Nat} {ret : Option FieldType} {C : String} {b : Addr} {As : List Value} {Pc : Array Value → State → Prop} {r : Int32} {S2 : St}
theorem mu_Xi (S0 : CallFix p m c cc nL s args Ts own) (hM : Met l y ws rm Pc (mXi D cA a r S2) 0 0 (ad a 10)) (hT : GoodIn Ts (wsV own index C y ws)) (hw : ws = Cond.code y bytes maxL ret :: ws') (hrc : rm.cells = 0) (hrs : rm.slots = 0)
    (hd : y.cls = C ∧ y.cls ≠ "java/lang/invoke/MethodHandle" ∧ y.cls ≠ "java/lang/invoke/VarHandle" ∧ (parseMethodDescriptor y.desc).map (fun d => d.parameters.length) = some n) (hR1 : rm.frames + 1 ≤ R.frames) (hR2 : 8 + (maxL + 11) + rm.locals ≤ R.locals) (hpre : PreV s H C b Pc As)
    (hn : As.length = n) (hsize : ls.size = nL) (hst : st0 = As.reverse ++ .ref b :: rest) (hroom : (rest.map fun v => v.category).sum ≤ 8) (hc : cells ≤ R.cells) (hs : slots ≤ R.slots) (hdg : decode cc pc = .ok (.invokevirtual index, 3)) (hS : va_S (ad a 10) H0 H locs)
    (kk : ∀ (H1 : Heap) (locs1 : List Loc), va_P D vwCl (wX cA a S2) H1 → va_S (ad a 10) H0 H1 locs1 → W p l e R s m args below meth c H1 locs1 cells slots Q (F0 m (pc + 3) ls (.int r :: rest))) : W p l e R s m args below meth c H locs cells slots Q (F0 m pc ls st0) :=
  mu_call (v0 := some (.int r)) (B := fun t => va_P D vwCl (wX cA a S2) t.heap) (av := #[]) (va_runV (As := As) (rest := rest) (b := b) S0 hM (cwV n S0.2.2.2.2 hT hw hrc hrs hd ⟨hR1, hR2⟩) hpre rfl hn hsize hst (lv_room hroom) hdg ⟨hc, hs⟩) hS (fun _ h => h) (fun t H1 locs1 ht hB _ hS1 => kk H1 locs1 (by rw [← ht]; exact hB) hS1)
theorem mu_Xv (S0 : CallFix p m c cc nL s args Ts own) (hM : Met l y ws rm Pc (mXv D cA a S2) 0 0 (ad a 10)) (hT : GoodIn Ts (wsV own index C y ws)) (hw : ws = Cond.code y bytes maxL ret :: ws') (hrc : rm.cells = 0) (hrs : rm.slots = 0)
    (hd : y.cls = C ∧ y.cls ≠ "java/lang/invoke/MethodHandle" ∧ y.cls ≠ "java/lang/invoke/VarHandle" ∧ (parseMethodDescriptor y.desc).map (fun d => d.parameters.length) = some n) (hR1 : rm.frames + 1 ≤ R.frames) (hR2 : 8 + (maxL + 11) + rm.locals ≤ R.locals) (hpre : PreV s H C b Pc As)
    (hn : As.length = n) (hsize : ls.size = nL) (hst : st0 = As.reverse ++ .ref b :: rest) (hroom : (rest.map fun v => v.category).sum ≤ 8) (hc : cells ≤ R.cells) (hs : slots ≤ R.slots) (hdg : decode cc pc = .ok (.invokevirtual index, 3)) (hS : va_S (ad a 10) H0 H locs)
    (kk : ∀ (H1 : Heap) (locs1 : List Loc), va_P D vwCl (wX cA a S2) H1 → va_S (ad a 10) H0 H1 locs1 → W p l e R s m args below meth c H1 locs1 cells slots Q (F0 m (pc + 3) ls rest)) : W p l e R s m args below meth c H locs cells slots Q (F0 m pc ls st0) :=
  mu_call (v0 := none) (B := fun t => va_P D vwCl (wX cA a S2) t.heap) (av := #[]) (va_runV (As := As) (rest := rest) (b := b) S0 hM (cwV n S0.2.2.2.2 hT hw hrc hrs hd ⟨hR1, hR2⟩) hpre rfl hn hsize hst (lv_room hroom) hdg ⟨hc, hs⟩) hS (fun _ h => h) (fun t H1 locs1 ht hB _ hS1 => kk H1 locs1 (by rw [← ht]; exact hB) hS1)
/-- a static callee that writes one row of the object's: the row k of it -/
theorem mu_RX {q N : Nat} {f g : Nat → Int32} (S0 : CallFix p m c cc nL s args Ts own) (hM : Met l y ws rm Pc (mRv D cA q N g) 0 0 (fun z => z = q)) (hT : GoodIn Ts (va_wsS own index y ws)) (hw : ws = Cond.code y bytes maxL ret :: ws') (hrc : rm.cells = 0) (hrs : rm.slots = 0)
    (hd : y.cls ≠ "java/lang/invoke/MethodHandle" ∧ y.cls ≠ "java/lang/invoke/VarHandle" ∧ (parseMethodDescriptor y.desc).map (fun d => d.parameters.length) = some n) (hR1 : rm.frames + 1 ≤ R.frames) (hR2 : 8 + (maxL + 11) + rm.locals ≤ R.locals) (hpre : PreS s H Pc As)
    (hn : As.length = n) (hsize : ls.size = nL) (hst : st0 = As.reverse ++ rest) (hroom : (rest.map fun v => v.category).sum ≤ 8) (hc : cells ≤ R.cells) (hs : slots ≤ R.slots) (hdg : decode cc pc = .ok (.invokestatic index, 3)) (hP : va_P D vwCl (wX cA a S) H) (hap : apart a 10) (hS : va_S (ad a 10) H0 H locs)
    (k : Nat) (hq : (wX cA a S)[k + 1]? = some (q, .inl (cA, N, .inl f))) (hset : (wX cA a S).set (k + 1) (q, .inl (cA, N, .inl g)) = wX cA a (sA S k g))
    (kk : ∀ (H1 : Heap) (locs1 : List Loc), va_P D vwCl (wX cA a (sA S k g)) H1 → va_S (ad a 10) H0 H1 locs1 → W p l e R s m args below meth c H1 locs1 cells slots Q (F0 m (pc + 3) ls rest)) : W p l e R s m args below meth c H locs cells slots Q (F0 m pc ls st0) :=
  mu_call (v0 := none) (B := fun t => va_P D vwCl [(q, .inl (cA, N, .inl g))] t.heap) (av := #[]) (va_runS (As := As) (rest := rest) S0 hM (va_cwS n S0.2.2.2.2 hT hw hrc hrs hd ⟨hR1, hR2⟩) hpre rfl hn hsize hst (lv_room hroom) hdg ⟨hc, hs⟩) hS
    (fun z h => by obtain ⟨h1, h2⟩ := wX_at cA a S (k + 1) _ hq; exact ⟨k + 1, h1, by rw [h]; exact h2⟩)
    (fun t H1 locs1 ht hB hk hS1 => kk H1 locs1 (by rw [← hset]; exact rowSet hP (dX S hap) hq (by rw [← ht]; exact hB) hk) hS1)
/-- a field that is a number, written -/
theorem pfX (hx : p.tables.exec = Jvm.exec) (hb : c.code = cc) (hts : ∀ w ∈ Ts, w.before args s = true) (hin : ∀ w ∈ u_ws RX0 TX0 12, w ∈ Ts) (hown : s.vm.findClass RX0 = some m.cls) (hK : va_K D vwCl [(cA, .int)] s) (hP : va_P D vwCl (wX cA a S) H) (hap : apart a 10) (hS : va_S (ad a 10) H0 H locs) (k : Nat) (hk : k < 12) {v : Int32}
    (hw : (Cond.fieldLink RX0 index RX0 (TX0 k).2.1 (TX0 k).2.2.1).before args s = true) (hsame : (TX0 k).1 = RX0) (hfin : (TX0 k).2.2.2 = false) (hty : parseFieldDescriptor (TX0 k).2.2.1 = some .int) {k2 : Nat} (hset : ∀ v : Int32, (wX cA a S).set 0 (a 0, .inr (0, ([.int (S.1 0), .int (S.1 1), .int (S.1 2), .ref (a 1), .ref (a 2), .ref (a 3), .ref (a 4), .ref (a 5), .ref (a 6), .ref (a 7), .ref (a 8), .ref (a 9)] : List Value).set k (.int v))) = wX cA a (sS S k2 v)) (hdg : decode cc pc = .ok (.putfield index, 3))
    (kk : ∀ (H1 : Heap) (locs1 : List Loc), va_P D vwCl (wX cA a (sS S k2 v)) H1 → va_S (ad a 10) H0 H1 locs1 → W p l e R s m args below meth c H1 locs1 cells slots Q (F0 m (pc + 3) ls rest)) : W p l e R s m args below meth c H locs cells slots Q (F0 m pc ls (.int v :: .ref (a 0) :: rest)) :=
  va_put (ci := 0) (C := RX0) (T := TX0) (N := 12) (ty := .int) hx hb hts hin tyX0 tyX0_ok nmX0 hown hK hP (dX S hap) hS 0 rfl rfl k hk hw (fun x h => by rw [hsame] at h; exact h) hfin hty rfl rfl hk hdg (fun H1 locs1 h1 _ h3 => kk H1 locs1 (by rw [← hset]; exact h1) h3)
end MUT
set_option maxHeartbeats 4000000 in
set_option maxRecDepth 100000 in
theorem k_X0_put (l : Launch) (dC : Nat → ClassId) (dI : Nat → Nat → Nat) (cA : ClassId) (q n : Nat) (f : Nat → Int32) (i x : Int32) (hn : n < 2 ^ 31) : Met l yX0_put wsX0_put ({ frames := 0, cells := 0, slots := 0, locals := 0 }) (va_Pc [.ref q, .int i, .int x] (PRs (dC, dI) cA q n f)) (mRv (dC, dI) cA q n (putv n f i x)) 0 0 (fun z => z = q) := by
  refine Met.ofW (cc := cX0_put) (maxL := 3) (ret := none) (by decide) rfl ?_
  intro p e s m args below meth c s₁ B hml hv
  obtain ⟨rfl, hP, hK⟩ := hv
  have hx := B.exec
  have hb := B.bytes
  have hr := B.returns
  have hlocks := B.notSynchronized
  have hS : va_S (fun z => z = q) s.heap s.heap [] := va_S.rf
  have hD : va_D (fun z => z = q) [(q, (.inl (cA, n, .inl f) : va_E))] := ⟨fun i j p1 q1 hi hj _ => by
    cases i with
    | zero => cases j with
      | zero => rfl
      | succ j => simp at hj
    | succ i => simp at hi, fun k z hz => by
    cases k with
    | zero => cases hz; rfl
    | succ k => simp at hz⟩
  have hl := lv_entry ([.ref q, .int i, .int x]) (n := 3) (Nat.le_of_ble_eq_true rfl)
  rw [lg_entry_eq]
  generalize (lg_sl ([.ref q, .int i, .int x]) ++ List.replicate (3 - (lg_sl ([.ref q, .int i, .int x])).length) Slot.unset).toArray = ls at hl ⊢
  have hl : lv_has ls 3 [(0, .ref q), (1, .int i), (2, .int x)] := hl
  unfold putv
  refine lv_iload_n hx hb dX0_put_0 rfl (lv_at hl 1 rfl) ?_
  refine lv_if_lt (tgt := 14) hx hb dX0_put_1 (by decide) (fun c1 => ?_) (fun c1 => ?_)
  · rw [if_pos c1]
    exact W.vret hx hb hr (fun t ht hW => ⟨⟨rfl, by rw [ht]; exact hP⟩, hS.F ht⟩) hS.2.2 dX0_put_14
  · rw [if_neg c1]
    refine lv_iload_n hx hb dX0_put_4 rfl (lv_at hl 1 rfl) ?_
    refine lv_aload_n hx hb dX0_put_5 rfl (lv_at hl 0 rfl) ?_
    refine va_alen hx hb hK hP 0 0 rfl rfl rfl dX0_put_6 ?_
    refine lv_icmp_ge (tgt := 14) hx hb dX0_put_7 (by decide) (fun c2 => ?_) (fun c2 => ?_)
    · rw [if_pos c2]
      exact W.vret hx hb hr (fun t ht hW => ⟨⟨rfl, by rw [ht]; exact hP⟩, hS.F ht⟩) hS.2.2 dX0_put_14
    · rw [if_neg c2]
      refine lv_aload_n hx hb dX0_put_10 rfl (lv_at hl 0 rfl) ?_
      refine lv_iload_n hx hb dX0_put_11 rfl (lv_at hl 1 rfl) ?_
      refine lv_iload_n hx hb dX0_put_12 rfl (lv_at hl 2 rfl) ?_
      refine va_iast hx hb hK hP hD hS 0 0 rfl rfl (in_of hn c1 c2) dX0_put_13 (fun H1 locs1 hP1 _ hS1 => ?_)
      exact W.vret hx hb hr (fun t ht hW => ⟨⟨rfl, by rw [ht]; exact hP1⟩, hS1.F ht⟩) hS1.2.2 dX0_put_14
/-- what Arrays.fill leaves -/
def filv (n : Nat) (f : Nat → Int32) (x : Int32) : Nat → Int32 := fun j => if j < n then x else f j
theorem filv_step (n : Nat) (f : Nat → Int32) (x : Int32) : upd (filv n f x) n x = filv (n + 1) f x := by
  funext j
  unfold upd filv
  by_cases h : j = n
  · rw [if_pos h, if_pos (by omega)]
  · rw [if_neg h]
    by_cases h2 : j < n
    · rw [if_pos h2, if_pos (by omega)]
    · rw [if_neg h2, if_neg (by omega)]
set_option maxHeartbeats 4000000 in
set_option maxRecDepth 100000 in
theorem k_J7_fill_53178 (l : Launch) (dC : Nat → ClassId) (dI : Nat → Nat → Nat) (cA : ClassId) (q n : Nat) (f : Nat → Int32) (x : Int32) (hn : n < 2 ^ 31) : Met l yJ7_fill_53178 wsJ7_fill_53178 ({ frames := 0, cells := 0, slots := 0, locals := 0 }) (va_Pc [.ref q, .int x] (PRs (dC, dI) cA q n f)) (mRv (dC, dI) cA q n (filv n f x)) 0 0 (fun z => z = q) := by
  refine Met.ofW (cc := cJ7_fill_53178) (maxL := 4) (ret := none) (by decide) rfl ?_
  intro p e s m args below meth c s₁ B hml hv
  obtain ⟨rfl, hP, hK⟩ := hv
  have hx := B.exec
  have hb := B.bytes
  have hr := B.returns
  have hlocks := B.notSynchronized
  have hS : va_S (fun z => z = q) s.heap s.heap [] := va_S.rf
  have hD : ∀ g : Nat → Int32, va_D (fun z => z = q) [(q, (.inl (cA, n, .inl g) : va_E))] := fun g => ⟨fun i j p1 q1 hi hj _ => by
    cases i with
    | zero => cases j with
      | zero => rfl
      | succ j => simp at hj
    | succ i => simp at hi, fun k z hz => by
    cases k with
    | zero => cases hz; rfl
    | succ k => simp at hz⟩
  have hl := lv_entry ([.ref q, .int x]) (n := 4) (Nat.le_of_ble_eq_true rfl)
  rw [lg_entry_eq]
  generalize (lg_sl ([.ref q, .int x]) ++ List.replicate (4 - (lg_sl ([.ref q, .int x])).length) Slot.unset).toArray = ls at hl ⊢
  have hl : lv_has ls 4 [(0, .ref q), (1, .int x)] := hl
  have hW : ∀ (k i : Nat) (g : Nat → Int32) (H : Heap) (locs : List Loc) (ls : Array Slot), i ≤ n → n ≤ i + k → g = filv i f x → va_P (dC, dI) vwCl [(q, .inl (cA, n, .inl g))] H → va_S (fun z => z = q) s.heap H locs → lv_has ls 4 [(0, .ref q), (1, .int x), (2, .int (nI i)), (3, .int (Int32.ofNat n))] → W p l e (headSpec wsJ7_fill_53178 ({ frames := 0, cells := 0, slots := 0, locals := 0 })).room s m ([.ref q, .int x] : List Value).toArray below meth c H locs 0 0 (MQ below (mRv (dC, dI) cA q n (filv n f x)) ([.ref q, .int x] : List Value).toArray s 0 0 (fun z => z = q)) (F0 m 5 ls []) := by
    intro k
    induction k with
    | zero =>
      intro i g H locs ls h1 h2 hg hP hS hl
      have hi : i = n := by omega
      refine lv_iload_n hx hb dJ7_fill_53178_5 rfl (lv_at hl 2 rfl) ?_
      refine lv_iload_n hx hb dJ7_fill_53178_6 rfl (lv_at hl 3 rfl) ?_
      refine lv_icmp_ge (tgt := 20) hx hb dJ7_fill_53178_7 (by decide) (fun c1 => ?_) (fun c1 => ?_)
      · exact W.vret hx hb hr (fun t ht hW => ⟨⟨rfl, by rw [ht, ← hi, ← hg]; rw [hi]; exact hP⟩, hS.F ht⟩) hS.2.2 dJ7_fill_53178_20
      · exact absurd (by rw [hi]; exact nI_le (Nat.le_refl n) hn) c1
    | succ k ih =>
      intro i g H locs ls h1 h2 hg hP hS hl
      refine lv_iload_n hx hb dJ7_fill_53178_5 rfl (lv_at hl 2 rfl) ?_
      refine lv_iload_n hx hb dJ7_fill_53178_6 rfl (lv_at hl 3 rfl) ?_
      refine lv_icmp_ge (tgt := 20) hx hb dJ7_fill_53178_7 (by decide) (fun c1 => ?_) (fun c1 => ?_)
      · have hi : i = n := by
          rcases Nat.lt_or_ge i n with h | h
          · exact absurd c1 (nI_ge h hn)
          · omega
        exact W.vret hx hb hr (fun t ht hW => ⟨⟨rfl, by rw [ht, ← hi, ← hg]; rw [hi]; exact hP⟩, hS.F ht⟩) hS.2.2 dJ7_fill_53178_20
      · have hi : i < n := by
          rcases Nat.lt_or_ge i n with h | h
          · exact h
          · exact absurd (nI_le h (by omega)) c1
        refine lv_aload_n hx hb dJ7_fill_53178_10 rfl (lv_at hl 0 rfl) ?_
        refine lv_iload_n hx hb dJ7_fill_53178_11 rfl (lv_at hl 2 rfl) ?_
        refine lv_iload_n hx hb dJ7_fill_53178_12 rfl (lv_at hl 1 rfl) ?_
        refine va_iast hx hb hK hP (hD g) hS 0 0 rfl rfl (vp_in_nI hi hn) dJ7_fill_53178_13 (fun H1 locs1 hP1 _ hS1 => ?_)
        refine lv_iinc (v := nI (i + 1)) (lv' := [(2, .int (nI (i + 1))), (0, .ref q), (1, .int x), (3, .int (Int32.ofNat n))]) hx hb dJ7_fill_53178_14 hl (k := 2) rfl (by rw [nI_succ]; rfl) (by decide) rfl (fun ls hl => ?_)
        refine lv_goto (tgt := 5) hx hb dJ7_fill_53178_17 (by decide) ?_
        exact ih (i + 1) _ H1 locs1 ls hi (by omega) (by rw [nI_clamp (by omega), hg]; exact filv_step i f x) hP1 hS1 (lv_sub hl [1, 2, 0, 3] rfl)
  refine lv_iconst (v := 0) hx hb dJ7_fill_53178_0 (by decide) ?_
  refine lv_istore_n (lv' := [(2, .int 0), (0, .ref q), (1, .int x)]) hx hb dJ7_fill_53178_1 rfl hl (by decide) rfl (fun ls hl => ?_)
  refine lv_aload_n hx hb dJ7_fill_53178_2 rfl (lv_at hl 1 rfl) ?_
  refine va_alen hx hb hK hP 0 0 rfl rfl rfl dJ7_fill_53178_3 ?_
  refine lv_istore_n (lv' := [(3, .int (Int32.ofNat n)), (2, .int 0), (0, .ref q), (1, .int x)]) hx hb dJ7_fill_53178_4 rfl hl (by decide) rfl (fun ls hl => ?_)
  exact hW n 0 f s.heap [] ls (Nat.zero_le n) (by omega) (by funext j; unfold filv; rw [if_neg (by omega)]) hP hS (lv_sub hl [2, 3, 1, 0] rfl)

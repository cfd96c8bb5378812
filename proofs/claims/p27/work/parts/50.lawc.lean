/-! Rows of the law's own methods: an object that they are given, calls that may throw, objects that they make. -/
def NCs (U : State) : Prop := ∀ i j : Nat, excN i ≠ excN j → va_Nc (excN i) (excN j) U
theorem NCs.moved {u U : State} (h : u.vm.Alike U.vm) (hn : NCs u) : NCs U := fun i j hij => va_Nc.moved h (hn i j hij)
theorem kept_all {D : va_G} {ws : va_W} {H H1 : Heap} (h : va_P D vwCl ws H) (hk : ∀ q : Nat, q < H.size → H1[q]? = H[q]?) : va_P D vwCl ws H1 := h.kept (fun k q hq => hk q.1 (h k q hq).lt)
theorem kept_but {D : va_G} {ws : va_W} {A : Nat → Prop} {H H1 : Heap} (h : va_P D vwCl ws H) (hk : ∀ q : Nat, q < H.size → ¬ A q → H1[q]? = H[q]?) (hn : ∀ (k : Nat) (q : Nat × va_E), ws[k]? = some q → ¬ A q.1) : va_P D vwCl ws H1 := h.kept (fun k q hq => hk q.1 (h k q hq).lt (hn k q hq))
theorem TXo.kept {A B : Nat → Prop} {s U : State} {H : Heap} {locs : List Loc} (h : TXo A s) (hS : va_S A s.heap H locs) (hU : U.heap = H) (hW : s.WarmedH U.vm) (hAB : ∀ q, B q → A q) : TXo B U := by
  obtain ⟨h1, h2, ⟨a3, h3⟩, ⟨a4, h4⟩, ⟨a5, h5⟩, h6, h7, h8, h9⟩ := h
  unfold TXo
  rw [hU]
  exact ⟨(vx_Zq.moved hW.alike (h1.kept hS.2.1)).narrow hAB, (vx_Zq.moved hW.alike (h2.kept hS.2.1)).narrow hAB, ⟨a3, vk_R.warm hW h3⟩, ⟨a4, vk_R.warm hW h4⟩, ⟨a5, vk_R.warm hW h5⟩, fun k => va_Nw.warmC hW (h6 k), va_Nw.warmD hW h7, va_Nw.warmD hW h8, va_Nw.warmD hW h9⟩
def PLs (D : va_G) (cA : ClassId) (a : Nat → Nat) (S : St) (U : State) : Prop := va_P D vwCl (wX cA a S) U.heap ∧ va_K D vwCl [(cA, .int)] U ∧ TXo (ad a 10) U ∧ NCs U
theorem fbLs {av : List Value} {D : va_G} {cA : ClassId} {a : Nat → Nat} {S : St} : FrameBlind (va_Pc av (PLs D cA a S)) := fun x U g mk h => ⟨h.1, h.2.1, va_K.moved (u := U) (U := U.calling g mk x) (Vm.Alike.refl U.vm) h.2.2.1, h.2.2.2.1.calling, NCs.moved (u := U) (U := U.calling g mk x) (Vm.Alike.refl U.vm) h.2.2.2.2⟩
/-- what a method finds that makes its objects itself -/
def PGs (D : va_G) (cA : ClassId) (U : State) : Prop := va_K D vwCl [(cA, .int)] U ∧ TXo (fun q => U.heap.size ≤ q) U ∧ NCs U
theorem fbGs {av : List Value} {D : va_G} {cA : ClassId} : FrameBlind (va_Pc av (PGs D cA)) := fun x U g mk h => ⟨h.1, va_K.moved (u := U) (U := U.calling g mk x) (Vm.Alike.refl U.vm) h.2.1, h.2.2.1.calling, NCs.moved (u := U) (U := U.calling g mk x) (Vm.Alike.refl U.vm) h.2.2.2⟩
/-- answers 1, and nothing that was there has changed -/
def gQ : Array Value → State → Outcome → State → Prop := fun _ st oc t => (oc = .returned (some (.int 1)) ∧ True) ∧ va_F (fun _ => False) st t
/-- an answer that is none where a method throws -/
def xv {α : Type} (x : Option (Nat × Int32 × St)) (k : Int32 → St → Option α) : Option α := x.bind fun q => if q.1 = 0 then k q.2.1 q.2.2 else none
theorem xv_some {α : Type} {x : Option (Nat × Int32 × St)} {k : Int32 → St → Option α} {r : α} (h : xv x k = some r) : ∃ v S', x = some (0, v, S') ∧ k v S' = some r := by
  unfold xv at h
  obtain ⟨⟨n, v, S'⟩, hq, hf⟩ := ob_some h
  dsimp only at hf
  by_cases hc : n = 0
  · subst hc; rw [if_pos rfl] at hf; exact ⟨v, S', hq, hf⟩
  · rw [if_neg hc] at hf; cases hf
theorem xv_ok {α : Type} {x : Option (Nat × Int32 × St)} {k : Int32 → St → Option α} {v : Int32} {S' : St} (h : x = some (0, v, S')) : xv x k = k v S' := by rw [h]; rfl
/-- what the law's catching call answers where the class throws -/
def hd (S : St) (k : Nat) : Option (Int32 × St) := if k = 1 then some (-7000001, S) else if k = 2 then some (-7000002, S) else if k = 3 then some (-7000003, S) else none
def ac (S : St) (x : Option (Nat × Int32 × St)) (k : Int32 → St → Option (Int32 × St)) : Option (Int32 × St) := x.bind fun q => if q.1 = 0 then k q.2.1 q.2.2 else hd S q.1
theorem ac_ok {S S' : St} {x : Option (Nat × Int32 × St)} {k : Int32 → St → Option (Int32 × St)} {v : Int32} (h : x = some (0, v, S')) : ac S x k = k v S' := by rw [h]; rfl
theorem ac_no {S S' : St} {x : Option (Nat × Int32 × St)} {k : Int32 → St → Option (Int32 × St)} {v : Int32} {n : Nat} (h : x = some (n + 1, v, S')) : ac S x k = hd S (n + 1) := by rw [h]; rfl
section PRL
variable {s : State} {H : Heap} {locs : List Loc} {D : va_G} {cA : ClassId} {a : Nat → Nat} {S : St} {As : List Value} {A0 : Nat → Prop}
theorem preTsH (hK : va_K D vwCl [(cA, .int)] s) (hP : va_P D vwCl (wX cA a S) H) (hE : TXo A0 s) (hS : va_S A0 s.heap H locs) (hA : ∀ q, ad a 10 q → A0 q) : PreV s H RX0 (a 0) (va_Pc (.ref (a 0) :: As) (PTs D cA a S)) As :=
  ⟨fbTs, va_recv hK hP (ci := 0) (q0 := 0) rfl rfl, fun U hU hW => ⟨rfl, by rw [hU]; exact hP, va_K.moved hW.alike hK, hE.kept hS hU hW hA⟩⟩
theorem preLsH (hK : va_K D vwCl [(cA, .int)] s) (hP : va_P D vwCl (wX cA a S) H) (hE : TXo A0 s) (hN : NCs s) (hS : va_S A0 s.heap H locs) (hA : ∀ q, ad a 10 q → A0 q) : PreS s H (va_Pc As (PLs D cA a S)) As :=
  ⟨fbLs, fun U hU hW => ⟨rfl, by rw [hU]; exact hP, va_K.moved hW.alike hK, hE.kept hS hU hW hA, NCs.moved hW.alike hN⟩⟩
theorem preGsH (hK : va_K D vwCl [(cA, .int)] s) (hE : TXo (fun q => s.heap.size ≤ q) s) (hN : NCs s) (hS : va_S (fun q => s.heap.size ≤ q) s.heap H locs) : PreS s H (va_Pc As (PGs D cA)) As :=
  ⟨fbGs, fun U hU hW => ⟨rfl, va_K.moved hW.alike hK, hE.kept hS hU hW (fun q h => Nat.le_trans hS.1 (by rw [← hU]; exact h)), NCs.moved hW.alike hN⟩⟩
end PRL
section LWR
variable {l : Launch}
theorem ofWH {y : MethodName} {ws ws' : List Cond} {rm : Room} {Pc : Array Value → State → Prop} {Qc : Array Value → State → Outcome → State → Prop} {mc ms : Nat} {free : Addr → Prop} {cc : ByteArray} {maxL : Nat} {ret : Option FieldType} {hh : List (Nat × Nat × Nat × Nat)}
    (hy : plainName y.cls = true) (hw : ws = Cond.codeWith y cc maxL ret hh :: ws')
    (body : ∀ p e s m args below meth c s₁, BodyLoose p l y (headSpec ws rm) cc maxL ret e s m args below meth c s₁ → c.maxLocals = maxL → Pc args s →
      W p l e (headSpec ws rm).room s m args below meth c s.heap [] 0 0 (MQ below Qc args s mc ms free) (entryFrame m args maxL)) : Met l y ws rm Pc Qc mc ms free := by
  refine MetFree.of_bodyS (code := cc) (maxLocals := maxL) (ret := ret) hy ?_ ?_
  · intro args s m h hn
    obtain ⟨m9, meth, c, hn9, h1, h2, h3, h4, -, h5, h6, -⟩ := Cond.codeWith_spec (atoms_spec (ws := ws) h _ (by rw [hw]; exact List.mem_cons_self))
    cases hn.symm.trans hn9
    exact ⟨meth, c, h1, h2, h3, h4, h5, h6⟩
  · intro p e s m args below meth c s₁ B hml hP _
    have hh0 : s₁.heap = s.heap := by rw [B.state]; rfl
    obtain ⟨t, a1, o, b1, b2, b3⟩ := body p e s m args below meth c s₁ B hml hP s₁ hh0 (Stand.of_body B)
    exact ⟨t, o, a1, b1, b2, ⟨b3.1, b3.2⟩⟩
variable {p : Program} {e : Env} {R : Room} {s : State} {m : MethodId} {args : Array Value} {below : List Frame} {meth : Method} {c : Code} {H : Heap} {locs : List Loc} {cells slots : Nat} {Q : State → Prop}
variable {cc : ByteArray} {pc : Nat} {ls : Array Slot} {rest st0 : List Value} {nL : Nat} {Ts : List Cond} {own : String} {D : va_G} {cA : ClassId} {a : Nat → Nat} {S : St} {H0 : Heap}
variable {y : MethodName} {ws ws' : List Cond} {rm : Room} {bytes : ByteArray} {maxL n index mc ms : Nat} {ret : Option FieldType} {C : String} {b : Addr} {As : List Value} {Pc : Array Value → State → Prop} {r : Nat × Int32 × St}
/-- a public method called, its throw seen -/
theorem xt_P {A0 : Nat → Prop} (S0 : CallFix p m c cc nL s args Ts own) (hM : vx_Met l y ws rm Pc (tQi D cA a r) (tX r.1) mc ms (ad a 10)) (hT : GoodIn Ts (wsV own index C y ws)) (hw : ws = Cond.code y bytes maxL ret :: ws') (hrc : rm.cells = mc) (hrs : rm.slots = ms)
    (hd : y.cls = C ∧ y.cls ≠ "java/lang/invoke/MethodHandle" ∧ y.cls ≠ "java/lang/invoke/VarHandle" ∧ (parseMethodDescriptor y.desc).map (fun d => d.parameters.length) = some n) (hR1 : rm.frames + 1 ≤ R.frames) (hR2 : 8 + (maxL + 11) + rm.locals ≤ R.locals) (hpre : PreV s H C b Pc As)
    (hn : As.length = n) (hsize : ls.size = nL) (hst : st0 = As.reverse ++ .ref b :: rest) (hroom : (rest.map fun v => v.category).sum ≤ 8) (hc : cells + mc ≤ R.cells) (hs : slots + ms ≤ R.slots) (hdg : decode cc pc = .ok (.invokevirtual index, 3)) (hS : va_S A0 H0 H locs) (hA : ∀ q, ad a 10 q → A0 q)
    (kx : r.1 ≠ 0 → ∀ (E : String) (ce : Cell) (q9 : Addr) (H1 : Heap) (locs1 : List Loc), E = excN r.1 → H.size ≤ H1.size → (∀ q : Nat, q < H.size → H1[q]? = H[q]?) → va_S A0 H0 H1 locs1 → H1[q9]? = some ce → ce.vm = .none → s.vm.findClass E = some ce.cls → vx_W p l e R s m args below meth c H1 locs1 (cells + mc) (slots + ms) Q (F0 m pc ls rest) q9)
    (kk : r.1 = 0 → ∀ (H1 : Heap) (locs1 : List Loc), va_P D vwCl (wX cA a r.2.2) H1 → (∀ q : Nat, q < H.size → ¬ ad a 10 q → H1[q]? = H[q]?) → va_S A0 H0 H1 locs1 → W p l e R s m args below meth c H1 locs1 (cells + mc) (slots + ms) Q (F0 m (pc + 3) ls (.int r.2.1 :: rest))) : W p l e R s m args below meth c H locs cells slots Q (F0 m pc ls st0) := by
  have hr := vx_runV (l := l) (e := e) (R := R) (below := below) (meth := meth) (locs := locs) (g := F0 m pc ls st0) (cells := cells) (slots := slots) (As := As) (rest := rest) (b := b) S0 hM (cwV n S0.2.2.2.2 hT hw hrc hrs hd ⟨hR1, hR2⟩) hpre rfl hn hsize hst (lv_room hroom) hdg ⟨hc, hs⟩
  intro T hT2 X
  rcases hr T hT2 X with ⟨v, st₀, t, T', L, h0, X', hL, e1, e2, ⟨⟨he, hv, hB⟩, hz, hk⟩, st⟩ | ⟨q, st₀, t, T', L, E, ce, h0, X', hL, e1, e2, ⟨hne, hE, hz, hk⟩, hce, hcv, hcl, st⟩
  · cases hv
    rw [h0] at hz hk
    obtain ⟨t2, a1, b1⟩ := kk he T'.heap (locs ++ L) (by rw [e1]; exact hB) (fun q h1 h2 => by rw [e1]; exact hk q h1 h2)
      ⟨Nat.le_trans hS.1 (by rw [e1]; exact hz), fun q h1 h2 => by rw [e1, hk q (Nat.lt_of_lt_of_le h1 hS.1) (fun z => h2 (hA q z))]; exact hS.2.1 q h1 h2, fun q hq => by
        rcases List.mem_append.mp hq with h | h
        · exact hS.2.2 q h
        · exact hA _ (hL q h)⟩ T' rfl X'
    exact ⟨t2, st t2 a1, b1⟩
  · rw [h0] at hz hk
    obtain ⟨t2, a1, b1⟩ := kx hne E ce q T'.heap (locs ++ L) hE (by rw [e1]; exact hz) (fun q h1 => by rw [e1]; exact hk q h1 (fun h => h))
      ⟨Nat.le_trans hS.1 (by rw [e1]; exact hz), fun q h1 h2 => by rw [e1, hk q (Nat.lt_of_lt_of_le h1 hS.1) (fun z => z)]; exact hS.2.1 q h1 h2, fun q hq => by
        rcases List.mem_append.mp hq with h | h
        · exact hS.2.2 q h
        · exact hA _ (hL q h)⟩ (by rw [e1]; exact hce) hcv hcl T' rfl X'
    exact ⟨t2, st.trans a1, b1⟩
theorem mu_callC {v0 : Option Value} {av : Array Value} {B : State → Prop} {A1 A0 : Nat → Prop} {H0 : Heap} (hr : va_Run p l e R s m args below meth c H locs cells slots mc ms (F0 m pc ls st0) rest (fun st oc t => (oc = .returned v0 ∧ B t) ∧ va_F A1 st t) A1) (hS : va_S A0 H0 H locs) (hA : ∀ q, A1 q → A0 q)
    (kk : ∀ (t : State) (H1 : Heap) (locs1 : List Loc), t.heap = H1 → B t → (∀ q : Nat, q < H.size → ¬ A1 q → H1[q]? = H[q]?) → va_S A0 H0 H1 locs1 → W p l e R s m args below meth c H1 locs1 (cells + mc) (slots + ms) Q (F0 m (pc + 3) ls (v0.toList ++ rest))) : W p l e R s m args below meth c H locs cells slots Q (F0 m pc ls st0) := by
  intro T hT X
  obtain ⟨v, st₀, t, T', L, h0, X', hL, e1, e2, ⟨⟨hv, hB⟩, hz, hk⟩, st⟩ := hr T hT X
  cases hv
  rw [h0] at hz hk
  obtain ⟨t2, a1, b1⟩ := kk t T'.heap (locs ++ L) e1.symm hB (fun q h1 h2 => by rw [e1]; exact hk q h1 h2)
    ⟨Nat.le_trans hS.1 (by rw [e1]; exact hz), fun q h1 h2 => by rw [e1, hk q (Nat.lt_of_lt_of_le h1 hS.1) (fun z => h2 (hA q z))]; exact hS.2.1 q h1 h2, fun q hq => by
      rcases List.mem_append.mp hq with h | h
      · exact hS.2.2 q h
      · exact hA _ (hL q h)⟩ T' rfl X'
  exact ⟨t2, st t2 a1, b1⟩
/-- a public method called, where it is known not to throw -/
theorem lc_P {A0 : Nat → Prop} {v : Int32} {S2 : St} (S0 : CallFix p m c cc nL s args Ts own) (hM : vx_Met l y ws rm Pc (tQi D cA a (0, v, S2)) (tX (0, v, S2).1) mc ms (ad a 10)) (hT : GoodIn Ts (wsV own index C y ws)) (hw : ws = Cond.code y bytes maxL ret :: ws') (hrc : rm.cells = mc) (hrs : rm.slots = ms)
    (hd : y.cls = C ∧ y.cls ≠ "java/lang/invoke/MethodHandle" ∧ y.cls ≠ "java/lang/invoke/VarHandle" ∧ (parseMethodDescriptor y.desc).map (fun d => d.parameters.length) = some n) (hR1 : rm.frames + 1 ≤ R.frames) (hR2 : 8 + (maxL + 11) + rm.locals ≤ R.locals) (hpre : PreV s H C b Pc As)
    (hn : As.length = n) (hsize : ls.size = nL) (hst : st0 = As.reverse ++ .ref b :: rest) (hroom : (rest.map fun v => v.category).sum ≤ 8) (hc : cells + mc ≤ R.cells) (hs : slots + ms ≤ R.slots) (hdg : decode cc pc = .ok (.invokevirtual index, 3)) (hS : va_S A0 H0 H locs) (hA : ∀ q, ad a 10 q → A0 q)
    (kk : ∀ (H1 : Heap) (locs1 : List Loc), va_P D vwCl (wX cA a S2) H1 → va_S A0 H0 H1 locs1 → W p l e R s m args below meth c H1 locs1 (cells + mc) (slots + ms) Q (F0 m (pc + 3) ls (.int v :: rest))) : W p l e R s m args below meth c H locs cells slots Q (F0 m pc ls st0) :=
  xt_P (r := (0, v, S2)) S0 hM hT hw hrc hrs hd hR1 hR2 hpre hn hsize hst hroom hc hs hdg hS hA (fun h => absurd rfl h) (fun _ H1 locs1 h1 _ h3 => kk H1 locs1 h1 h3)
/-- a method called that changes the object -/
theorem lc_V {A0 : Nat → Prop} {v : Int32} {S2 : St} (S0 : CallFix p m c cc nL s args Ts own) (hM : Met l y ws rm Pc (mXi D cA a v S2) mc ms (ad a 10)) (hT : GoodIn Ts (wsV own index C y ws)) (hw : ws = Cond.code y bytes maxL ret :: ws') (hrc : rm.cells = mc) (hrs : rm.slots = ms)
    (hd : y.cls = C ∧ y.cls ≠ "java/lang/invoke/MethodHandle" ∧ y.cls ≠ "java/lang/invoke/VarHandle" ∧ (parseMethodDescriptor y.desc).map (fun d => d.parameters.length) = some n) (hR1 : rm.frames + 1 ≤ R.frames) (hR2 : 8 + (maxL + 11) + rm.locals ≤ R.locals) (hpre : PreV s H C b Pc As)
    (hn : As.length = n) (hsize : ls.size = nL) (hst : st0 = As.reverse ++ .ref b :: rest) (hroom : (rest.map fun v => v.category).sum ≤ 8) (hc : cells + mc ≤ R.cells) (hs : slots + ms ≤ R.slots) (hdg : decode cc pc = .ok (.invokevirtual index, 3)) (hS : va_S A0 H0 H locs) (hA : ∀ q, ad a 10 q → A0 q)
    (kk : ∀ (H1 : Heap) (locs1 : List Loc), va_P D vwCl (wX cA a S2) H1 → va_S A0 H0 H1 locs1 → W p l e R s m args below meth c H1 locs1 (cells + mc) (slots + ms) Q (F0 m (pc + 3) ls (.int v :: rest))) : W p l e R s m args below meth c H locs cells slots Q (F0 m pc ls st0) :=
  mu_callC (v0 := some (.int v)) (A1 := ad a 10) (B := fun t => va_P D vwCl (wX cA a S2) t.heap) (av := #[]) (va_runV (As := As) (rest := rest) (b := b) S0 hM (cwV n S0.2.2.2.2 hT hw hrc hrs hd ⟨hR1, hR2⟩) hpre rfl hn hsize hst (lv_room hroom) hdg ⟨hc, hs⟩) hS hA (fun t H1 locs1 ht hB _ hS1 => kk H1 locs1 (by rw [← ht]; exact hB) hS1)
theorem lc_M {A0 : Nat → Prop} {v : Int32} {S2 : St} (S0 : CallFix p m c cc nL s args Ts own) (hM : Met l y ws rm Pc (mXi D cA a v S2) mc ms (ad a 10)) (hT : GoodIn Ts (va_wsS own index y ws)) (hw : ws = Cond.code y bytes maxL ret :: ws') (hrc : rm.cells = mc) (hrs : rm.slots = ms)
    (hd : y.cls ≠ "java/lang/invoke/MethodHandle" ∧ y.cls ≠ "java/lang/invoke/VarHandle" ∧ (parseMethodDescriptor y.desc).map (fun d => d.parameters.length) = some n) (hR1 : rm.frames + 1 ≤ R.frames) (hR2 : 8 + (maxL + 11) + rm.locals ≤ R.locals) (hpre : PreS s H Pc As)
    (hn : As.length = n) (hsize : ls.size = nL) (hst : st0 = As.reverse ++ rest) (hroom : (rest.map fun v => v.category).sum ≤ 8) (hc : cells + mc ≤ R.cells) (hs : slots + ms ≤ R.slots) (hdg : decode cc pc = .ok (.invokestatic index, 3)) (hS : va_S A0 H0 H locs) (hA : ∀ q, ad a 10 q → A0 q)
    (kk : ∀ (H1 : Heap) (locs1 : List Loc), va_P D vwCl (wX cA a S2) H1 → va_S A0 H0 H1 locs1 → W p l e R s m args below meth c H1 locs1 (cells + mc) (slots + ms) Q (F0 m (pc + 3) ls (.int v :: rest))) : W p l e R s m args below meth c H locs cells slots Q (F0 m pc ls st0) :=
  mu_callC (v0 := some (.int v)) (A1 := ad a 10) (B := fun t => va_P D vwCl (wX cA a S2) t.heap) (av := #[]) (va_runS (As := As) (rest := rest) S0 hM (va_cwS n S0.2.2.2.2 hT hw hrc hrs hd ⟨hR1, hR2⟩) hpre rfl hn hsize hst (lv_room hroom) hdg ⟨hc, hs⟩) hS hA (fun t H1 locs1 ht hB _ hS1 => kk H1 locs1 (by rw [← ht]; exact hB) hS1)
theorem lc_W {A0 : Nat → Prop} {v : Int32} {S2 : St} {hh : List (Nat × Nat × Nat × Nat)} (S0 : CallFix p m c cc nL s args Ts own) (hM : Met l y ws rm Pc (mXi D cA a v S2) mc ms (ad a 10)) (hT : GoodIn Ts (va_wsS own index y ws)) (hw : ws = Cond.codeWith y bytes maxL ret hh :: ws') (hrc : rm.cells = mc) (hrs : rm.slots = ms)
    (hd : y.cls ≠ "java/lang/invoke/MethodHandle" ∧ y.cls ≠ "java/lang/invoke/VarHandle" ∧ (parseMethodDescriptor y.desc).map (fun d => d.parameters.length) = some n) (hR1 : rm.frames + 1 ≤ R.frames) (hR2 : 8 + (maxL + 11) + rm.locals ≤ R.locals) (hpre : PreS s H Pc As)
    (hn : As.length = n) (hsize : ls.size = nL) (hst : st0 = As.reverse ++ rest) (hroom : (rest.map fun v => v.category).sum ≤ 8) (hc : cells + mc ≤ R.cells) (hs : slots + ms ≤ R.slots) (hdg : decode cc pc = .ok (.invokestatic index, 3)) (hS : va_S A0 H0 H locs) (hA : ∀ q, ad a 10 q → A0 q)
    (kk : ∀ (H1 : Heap) (locs1 : List Loc), va_P D vwCl (wX cA a S2) H1 → va_S A0 H0 H1 locs1 → W p l e R s m args below meth c H1 locs1 (cells + mc) (slots + ms) Q (F0 m (pc + 3) ls (.int v :: rest))) : W p l e R s m args below meth c H locs cells slots Q (F0 m pc ls st0) :=
  mu_callC (v0 := some (.int v)) (A1 := ad a 10) (B := fun t => va_P D vwCl (wX cA a S2) t.heap) (av := #[]) (vx_runSW (As := As) (rest := rest) S0 hM (vx_cwSW n S0.2.2.2.2 hT hw hrc hrs hd ⟨hR1, hR2⟩) hpre rfl hn hsize hst (lv_room hroom) hdg ⟨hc, hs⟩) hS hA (fun t H1 locs1 ht hB _ hS1 => kk H1 locs1 (by rw [← ht]; exact hB) hS1)
/-- a method called that makes its own objects, and changes nothing else -/
theorem lc_G {A0 : Nat → Prop} (S0 : CallFix p m c cc nL s args Ts own) (hM : Met l y ws rm Pc gQ mc ms (fun _ => False)) (hT : GoodIn Ts (va_wsS own index y ws)) (hw : ws = Cond.code y bytes maxL ret :: ws') (hrc : rm.cells = mc) (hrs : rm.slots = ms)
    (hd : y.cls ≠ "java/lang/invoke/MethodHandle" ∧ y.cls ≠ "java/lang/invoke/VarHandle" ∧ (parseMethodDescriptor y.desc).map (fun d => d.parameters.length) = some n) (hR1 : rm.frames + 1 ≤ R.frames) (hR2 : 8 + (maxL + 11) + rm.locals ≤ R.locals) (hpre : PreS s H Pc As)
    (hn : As.length = n) (hsize : ls.size = nL) (hst : st0 = As.reverse ++ rest) (hroom : (rest.map fun v => v.category).sum ≤ 8) (hc : cells + mc ≤ R.cells) (hs : slots + ms ≤ R.slots) (hdg : decode cc pc = .ok (.invokestatic index, 3)) (hS : va_S A0 H0 H locs)
    (kk : ∀ (H1 : Heap) (locs1 : List Loc), (∀ q : Nat, q < H.size → H1[q]? = H[q]?) → va_S A0 H0 H1 locs1 → W p l e R s m args below meth c H1 locs1 (cells + mc) (slots + ms) Q (F0 m (pc + 3) ls (.int 1 :: rest))) : W p l e R s m args below meth c H locs cells slots Q (F0 m pc ls st0) :=
  mu_callC (v0 := some (.int 1)) (A1 := fun _ => False) (B := fun _ => True) (av := #[]) (va_runS (As := As) (rest := rest) S0 hM (va_cwS n S0.2.2.2.2 hT hw hrc hrs hd ⟨hR1, hR2⟩) hpre rfl hn hsize hst (lv_room hroom) hdg ⟨hc, hs⟩) hS (fun _ h => h.elim) (fun t H1 locs1 _ _ hk hS1 => kk H1 locs1 (fun q h => hk q h (fun z => z)) hS1)
/-- an element of the script, read where the read is known to go well -/
theorem rdSc (hx : p.tables.exec = Jvm.exec) (hb : c.code = cc) {sb L : Nat} {xs : Nat → Int32} {A : Nat → Prop} {H0 : Heap} (hX : va_X sb L xs s H0) (hbl : sb < H0.size) (hbA : ¬ A sb) (hS : va_S A H0 H locs) {i v : Int32} (hv : rdA L xs i = some v) (hdg : decode cc pc = .ok (.iaload, 1))
    (kk : W p l e R s m args below meth c H locs cells slots Q (F0 m (pc + 1) ls (.int v :: rest))) : W p l e R s m args below meth c H locs cells slots Q (F0 m pc ls (.int i :: .ref sb :: rest)) := by
  obtain ⟨h1, h2⟩ := rdA_some hv
  subst h2
  exact va_sld hx hb hX hbl hbA hS h1 hdg kk
/-- a new object of the class, constructed -/
theorem lc_new {i1 i2 : Nat} {dC : Nat → ClassId} {dI : Nat → Nat → Nat} (S0 : CallFix p m c cc nL s args Ts own) (inl : ∀ w ∈ u_ws RX0 TX0 12, w ∈ Ts) (hcl : (Cond.classLink own i1 RX0).before args s = true) (iX0 : (Cond.instantiable RX0 12).before args s = true) (hini : (Cond.initialized RX0).before args s = true) (hG : GoodIn Ts wsX0_init) (hml : (Cond.methodLink own i2 yX0_init).before args s = true) (him : (Cond.instanceMethod yX0_init).before args s = true)
    (hR1 : 2 ≤ R.frames) (hR2 : 60 ≤ R.locals) (hsize : ls.size = nL) (hroom : ((Value.ref 0 :: rest).map fun v => v.category).sum ≤ 8) (hc : cells + 10 ≤ R.cells) (hs : slots + 614 ≤ R.slots) (hd1 : decode cc pc = .ok (.new i1, 3)) (hd2 : decode cc (pc + 3) = .ok (.dup, 1)) (hd3 : decode cc (pc + 4) = .ok (.invokespecial i2, 3))
    (hK : va_K (dC, dI) vwCl [(cA, .int)] s) (hS : va_S (fun q => s.heap.size ≤ q) s.heap H locs)
    (kk : ∀ (a : Nat → Nat) (H1 : Heap) (locs1 : List Loc), apart a 10 → (∀ q, ad a 10 q → s.heap.size ≤ q) → va_P (dC, dI) vwCl (wX cA a S0X) H1 → va_S (fun q => s.heap.size ≤ q) s.heap H1 locs1 → W p l e R s m args below meth c H1 locs1 (cells + 10) (slots + 614) Q (F0 m (pc + 7) ls (.ref (a 0) :: rest))) : W p l e R s m args below meth c H locs cells slots Q (F0 m pc ls rest) := by
  obtain ⟨hx, hb, hmx, hown, hts⟩ := id S0
  have hA : ∀ q : Nat, s.heap.size ≤ q → (fun q : Nat => s.heap.size ≤ q) q := fun _ h => h
  have hP : va_P (dC, dI) vwCl [] H := fun k q h => by simp at h
  have hD : va_D (fun q : Nat => s.heap.size ≤ q) [] := ⟨fun i j p q h => by simp at h, fun k q h => by simp at h⟩
  refine va_new (ci := 0) (fs := [.int 0, .int 0, .int 0, .null, .null, .null, .null, .null, .null, .null, .null, .null]) (C := RX0) (T := TX0) (N := 12) hx hb hts inl tyX0 tyX0_ok hown hcl iX0 hini hK hP hD hS hA rfl (fun j hj => by rcases (show j = 0 ∨ j = 1 ∨ j = 2 ∨ j = 3 ∨ j = 4 ∨ j = 5 ∨ j = 6 ∨ j = 7 ∨ j = 8 ∨ j = 9 ∨ j = 10 ∨ j = 11 by omega) with rfl | rfl | rfl | rfl | rfl | rfl | rfl | rfl | rfl | rfl | rfl | rfl <;> rfl) (by omega) (by omega) hd1 (fun qx H2 hP hD hS => ?_)
  refine lv_dup hx hb hd2 rfl ?_
  have hPx1 : va_P (dC, dI) vwCl [(qx, .inr (0, [.int 0, .int 0, .int 0, .null, .null, .null, .null, .null, .null, .null, .null, .null]))] H2 := hP
  have hqx : s.heap.size ≤ qx := hD.2 0 _ rfl
  refine mu_callC (mc := 9) (ms := 602) (v0 := none) (A1 := fun z => z = qx ∨ H2.size ≤ z) (A0 := fun q => s.heap.size ≤ q) (B := fun t => ∃ a : Nat → Nat, a 0 = qx ∧ apart a 10 ∧ (∀ k, 0 < k → k < 10 → H2.size ≤ a k) ∧ va_P (dC, dI) vwCl (wX cA a S0X) t.heap) (av := #[]) (va_runI (As := []) (rest := .ref qx :: rest) S0 (k_X0_init l dC dI cA qx H2.size) (cwI 0 hts hG rfl rfl rfl hini hml him rfl (by decide +kernel) ⟨hR1, hR2⟩) ⟨fun x U g mk h => ⟨h.1, h.2.1, h.2.2.1, va_K.moved (u := U) (U := U.calling g mk x) (Vm.Alike.refl U.vm) h.2.2.2⟩, fun U hU hW => ⟨rfl, by rw [hU], by rw [hU]; exact hPx1, va_K.moved hW.alike hK⟩⟩ rfl rfl hsize rfl (lv_room hroom) hd3 ⟨by omega, by omega⟩) hS (fun z h => by
    rcases h with h | h
    · show s.heap.size ≤ z
      rw [h]; exact hqx
    · exact Nat.le_trans hS.1 h) (fun t H1 locs ht hB hk hS1 => ?_)
  obtain ⟨a, ha0, hapa, hag, hPx⟩ := hB
  rw [ht] at hPx
  have hal : ∀ q, ad a 10 q → s.heap.size ≤ q := fun q h => by
    obtain ⟨k, hk, rfl⟩ := h
    rcases Nat.eq_zero_or_pos k with h | h
    · rw [h, ha0]; exact hqx
    · exact Nat.le_trans hS.1 (hag k h hk)
  have h9 := kk a H1 locs hapa hal hPx hS1
  rw [ha0] at h9
  exact h9
end LWR

/-! Rows of the law's own methods: calls that may throw, caught where they are made; the answer's row of longs. -/
def NCs (U : State) : Prop := ∀ i j : Nat, excN i ≠ excN j → va_Nc (excN i) (excN j) U
def adL (a : Nat → Nat) (oa : Nat) : Nat → Prop := fun q => ad a 10 q ∨ q = oa
def wO (cL : ClassId) (oa : Nat) (o : Nat → Int64) : va_W := [(oa, .inl (cL, 1, .inr (.inl o)))]
def PLs (D : va_G) (cA cL : ClassId) (a : Nat → Nat) (oa : Nat) (S : St) (o : Nat → Int64) (U : State) : Prop := va_P D vwCl (wX cA a S) U.heap ∧ va_P D vwCl (wO cL oa o) U.heap ∧ va_K D vwCl [(cA, .int), (cL, .long)] U ∧ TXo (adL a oa) U ∧ NCs U
theorem NCs.moved {u U : State} (h : u.vm.Alike U.vm) (hn : NCs u) : NCs U := fun i j hij => va_Nc.moved h (hn i j hij)
theorem fbLs {av : List Value} {D : va_G} {cA cL : ClassId} {a : Nat → Nat} {oa : Nat} {S : St} {o : Nat → Int64} : FrameBlind (va_Pc av (PLs D cA cL a oa S o)) := fun x U g mk h => ⟨h.1, h.2.1, h.2.2.1, va_K.moved (u := U) (U := U.calling g mk x) (Vm.Alike.refl U.vm) h.2.2.2.1, h.2.2.2.2.1.calling, NCs.moved (u := U) (U := U.calling g mk x) (Vm.Alike.refl U.vm) h.2.2.2.2.2⟩
/-- what a caught call leaves: its code, the object, the answer's row -/
def qL (D : va_G) (cA cL : ClassId) (a : Nat → Nat) (oa : Nat) (r : Int32 × St × (Nat → Int64)) : Array Value → State → Outcome → State → Prop := fun _ st oc t => (oc = .returned (some (.int r.1)) ∧ va_P D vwCl (wX cA a r.2.1) t.heap ∧ va_P D vwCl (wO cL oa r.2.2) t.heap) ∧ va_F (adL a oa) st t
theorem kept_all {D : va_G} {ws : va_W} {H H1 : Heap} (h : va_P D vwCl ws H) (hk : ∀ q : Nat, q < H.size → H1[q]? = H[q]?) : va_P D vwCl ws H1 := h.kept (fun k q hq => hk q.1 (h k q hq).lt)
theorem kept_but {D : va_G} {ws : va_W} {A : Nat → Prop} {H H1 : Heap} (h : va_P D vwCl ws H) (hk : ∀ q : Nat, q < H.size → ¬ A q → H1[q]? = H[q]?) (hn : ∀ (k : Nat) (q : Nat × va_E), ws[k]? = some q → ¬ A q.1) : va_P D vwCl ws H1 := h.kept (fun k q hq => hk q.1 (h k q hq).lt (hn k q hq))
theorem wO_at {cL : ClassId} {oa : Nat} {o : Nat → Int64} (k : Nat) (q : Nat × va_E) (h : (wO cL oa o)[k]? = some q) : q.1 = oa := by
  cases k with
  | zero => cases h; rfl
  | succ k => simp [wO] at h
theorem wXO_D {cA cL : ClassId} {a : Nat → Nat} {oa : Nat} (S : St) (o : Nat → Int64) (hap : apart a 10) (ho : ∀ k, k < 10 → a k ≠ oa) : va_D (adL a oa) (wX cA a S ++ wO cL oa o) := by
  refine va_D.app ((dX S hap).weaken (fun _ _ _ h => Or.inl h)) ⟨fun i j p q hi hj _ => ?_, fun k q hk => Or.inr (wO_at k q hk)⟩ (fun i j p q hi hj e => ?_)
  · cases i with
    | zero => cases j with
      | zero => rfl
      | succ j => simp [wO] at hj
    | succ i => simp [wO] at hi
  · obtain ⟨h1, h2⟩ := wX_at cA a S i p hi
    exact ho i h1 (by rw [← h2, e]; exact wO_at j q hj)
theorem in01 : vp_in 0 1 := by
  have h := vp_in_nI (n := 0) (N := 1) (by decide) (by decide)
  rwa [nI_0] at h
section WRP
variable {l : Launch}
theorem ofWH {y : MethodName} {ws ws' : List Cond} {rm : Room} {Pc : Array Value → State → Prop} {Qc : Array Value → State → Outcome → State → Prop} {mc ms : Nat} {free : Addr → Prop} {cc : ByteArray} {maxL : Nat} {ret : Option FieldType} {hh : List (Nat × Nat × Nat × Nat)}
    (hy : plainName y.cls = true) (hw : ws = Cond.codeWith y cc maxL ret hh :: ws')
    (body : ∀ p e s m args below meth c s₁, BodyLoose p l y (headSpec ws rm) cc maxL ret e s m args below meth c s₁ → c.maxLocals = maxL → Pc args s →
      W p l e (headSpec ws rm).room s m args below meth c s.heap [] 0 0 (MQ below Qc args s mc ms free) (entryFrame m args maxL)) : Met l y ws rm Pc Qc mc ms free := by
  refine MetFree.of_bodyS (code := cc) (maxLocals := maxL) (ret := ret) hy ?_ ?_
  · intro args s m h hn
    obtain ⟨m9, meth, c, hn9, h1, h2, h3, h4, -, h5, h6, -⟩ := Cond.codeWith_spec (atoms_spec (ws := ws) h _ (by rw [hw]; exact List.mem_cons_self))
    cases hn.symm.trans hn9
    exact ⟨meth, c, h1, h2, h3, h4, h5, h6⟩
  · intro p e s m args below meth c s₁ B hml hP _
    have hh0 : s₁.heap = s.heap := by rw [B.state]; rfl
    obtain ⟨t, a1, o, b1, b2, b3⟩ := body p e s m args below meth c s₁ B hml hP s₁ hh0 (Stand.of_body B)
    exact ⟨t, o, a1, b1, b2, ⟨b3.1, b3.2⟩⟩
variable {p : Program} {e : Env} {R : Room} {s : State} {m : MethodId} {args : Array Value} {below : List Frame} {meth : Method} {c : Code} {H : Heap} {locs : List Loc} {cells slots : Nat} {Q : State → Prop}
variable {cc : ByteArray} {pc : Nat} {ls : Array Slot} {rest st0 : List Value} {nL : Nat} {Ts : List Cond} {own : String} {D : va_G} {cA cL : ClassId} {a : Nat → Nat} {oa : Nat} {S : St} {H0 : Heap}
variable {y : MethodName} {ws ws' : List Cond} {rm : Room} {bytes : ByteArray} {maxL n index mc ms : Nat} {ret : Option FieldType} {C : String} {b : Addr} {As : List Value} {Pc : Array Value → State → Prop} {r : Nat × Int32 × St}
/-- a public method called, its throw seen -/
theorem xt_P {A0 : Nat → Prop} (S0 : CallFix p m c cc nL s args Ts own) (hM : vx_Met l y ws rm Pc (tQi D cA a r) (tX r.1) mc ms (ad a 10)) (hT : GoodIn Ts (wsV own index C y ws)) (hw : ws = Cond.code y bytes maxL ret :: ws') (hrc : rm.cells = mc) (hrs : rm.slots = ms)
    (hd : y.cls = C ∧ y.cls ≠ "java/lang/invoke/MethodHandle" ∧ y.cls ≠ "java/lang/invoke/VarHandle" ∧ (parseMethodDescriptor y.desc).map (fun d => d.parameters.length) = some n) (hR1 : rm.frames + 1 ≤ R.frames) (hR2 : 8 + (maxL + 11) + rm.locals ≤ R.locals) (hpre : PreV s H C b Pc As)
    (hn : As.length = n) (hsize : ls.size = nL) (hst : st0 = As.reverse ++ .ref b :: rest) (hroom : (rest.map fun v => v.category).sum ≤ 8) (hc : cells + mc ≤ R.cells) (hs : slots + ms ≤ R.slots) (hdg : decode cc pc = .ok (.invokevirtual index, 3)) (hS : va_S A0 H0 H locs) (hA : ∀ q, ad a 10 q → A0 q)
    (kx : r.1 ≠ 0 → ∀ (E : String) (ce : Cell) (q9 : Addr) (H1 : Heap) (locs1 : List Loc), E = excN r.1 → H.size ≤ H1.size → (∀ q : Nat, q < H.size → H1[q]? = H[q]?) → va_S A0 H0 H1 locs1 → H1[q9]? = some ce → ce.vm = .none → s.vm.findClass E = some ce.cls → vx_W p l e R s m args below meth c H1 locs1 (cells + mc) (slots + ms) Q (F0 m pc ls rest) q9)
    (kk : r.1 = 0 → ∀ (H1 : Heap) (locs1 : List Loc), va_P D vwCl (wX cA a r.2.2) H1 → (∀ q : Nat, q < H.size → ¬ ad a 10 q → H1[q]? = H[q]?) → va_S A0 H0 H1 locs1 → W p l e R s m args below meth c H1 locs1 (cells + mc) (slots + ms) Q (F0 m (pc + 3) ls (.int r.2.1 :: rest))) : W p l e R s m args below meth c H locs cells slots Q (F0 m pc ls st0) := by
  have hr := vx_runV (l := l) (e := e) (R := R) (below := below) (meth := meth) (locs := locs) (g := F0 m pc ls st0) (cells := cells) (slots := slots) (As := As) (rest := rest) (b := b) S0 hM (cwV n S0.2.2.2.2 hT hw hrc hrs hd ⟨hR1, hR2⟩) hpre rfl hn hsize hst (lv_room hroom) hdg ⟨hc, hs⟩
  intro T hT2 X
  rcases hr T hT2 X with ⟨v, st₀, t, T', L, h0, X', hL, e1, e2, ⟨⟨he, hv, hB⟩, hz, hk⟩, st⟩ | ⟨q, st₀, t, T', L, E, ce, h0, X', hL, e1, e2, ⟨hne, hE, hz, hk⟩, hce, hcv, hcl, st⟩
  · cases hv
    rw [h0] at hz hk
    obtain ⟨t2, a1, b1⟩ := kk he T'.heap (locs ++ L) (by rw [e1]; exact hB) (fun q h1 h2 => by rw [e1]; exact hk q h1 h2)
      ⟨Nat.le_trans hS.1 (by rw [e1]; exact hz), fun q h1 h2 => by rw [e1, hk q (Nat.lt_of_lt_of_le h1 hS.1) (fun z => h2 (hA q z))]; exact hS.2.1 q h1 h2, fun q hq => by
        rcases List.mem_append.mp hq with h | h
        · exact hS.2.2 q h
        · exact hA _ (hL q h)⟩ T' rfl X'
    exact ⟨t2, st t2 a1, b1⟩
  · rw [h0] at hz hk
    obtain ⟨t2, a1, b1⟩ := kx hne E ce q T'.heap (locs ++ L) hE (by rw [e1]; exact hz) (fun q h1 => by rw [e1]; exact hk q h1 (fun h => h))
      ⟨Nat.le_trans hS.1 (by rw [e1]; exact hz), fun q h1 h2 => by rw [e1, hk q (Nat.lt_of_lt_of_le h1 hS.1) (fun z => z)]; exact hS.2.1 q h1 h2, fun q hq => by
        rcases List.mem_append.mp hq with h | h
        · exact hS.2.2 q h
        · exact hA _ (hL q h)⟩ (by rw [e1]; exact hce) hcv hcl T' rfl X'
    exact ⟨t2, st.trans a1, b1⟩
/-- the answer put into its row -/
theorem putO {o : Nat → Int64} (hx : p.tables.exec = Jvm.exec) (hb : c.code = cc) (hK : va_K D vwCl [(cA, .int), (cL, .long)] s) (hPx : va_P D vwCl (wX cA a S) H) (hPo : va_P D vwCl (wO cL oa o) H) (hap : apart a 10) (ho : ∀ k, k < 10 → a k ≠ oa) (hS : va_S (adL a oa) H0 H locs) {x : Int64} (hdg : decode cc pc = .ok (.lastore, 1))
    (kk : ∀ (H1 : Heap) (locs1 : List Loc), va_P D vwCl (wX cA a S) H1 → va_P D vwCl (wO cL oa (vp_updL o (0 : Int32).toNatClampNeg x)) H1 → va_S (adL a oa) H0 H1 locs1 → W p l e R s m args below meth c H1 locs1 cells slots Q (F0 m (pc + 1) ls rest)) : W p l e R s m args below meth c H locs cells slots Q (F0 m pc ls (.long x :: .int 0 :: .ref oa :: rest)) := by
  refine va_last hx hb hK (hPx.app hPo) (wXO_D S o hap ho) hS 10 1 rfl rfl in01 hdg (fun H1 locs1 h1 _ h3 => kk H1 locs1 (fun k q hq => ?_) (fun k q hq => ?_) h3)
  · obtain ⟨h4, -⟩ := wX_at cA a S k q hq
    refine h1 k q ?_
    rw [List.getElem?_set_ne (by omega), List.getElem?_append_left (by exact h4)]
    exact hq
  · cases k with
    | zero => cases hq; exact h1 10 _ rfl
    | succ k => simp [wO] at hq
end WRP

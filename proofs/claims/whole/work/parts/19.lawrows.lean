/-! Rows of the law's body. -/
theorem TXo.kept {A B : Nat → Prop} {s U : State} {H : Heap} {locs : List Loc} (h : TXo A s) (hS : va_S A s.heap H locs) (hU : U.heap = H) (hW : s.WarmedH U.vm) (hAB : ∀ q, B q → A q) : TXo B U := by
  obtain ⟨h1, h2, ⟨a3, h3⟩, ⟨a4, h4⟩, ⟨a5, h5⟩, h6, h7, h8, h9⟩ := h
  unfold TXo
  rw [hU]
  exact ⟨(vx_Zq.moved hW.alike (h1.kept hS.2.1)).narrow hAB, (vx_Zq.moved hW.alike (h2.kept hS.2.1)).narrow hAB, ⟨a3, vk_R.warm hW h3⟩, ⟨a4, vk_R.warm hW h4⟩, ⟨a5, vk_R.warm hW h5⟩, fun k => va_Nw.warmC hW (h6 k), va_Nw.warmD hW h7, va_Nw.warmD hW h8, va_Nw.warmD hW h9⟩
/-- the law's objects are apart, and new -/
def LF (s : State) (a b : Nat → Nat) (oa : Nat) : Prop := apart a 10 ∧ apart b 8 ∧ (∀ k, k < 10 → a k ≠ oa) ∧ (∀ k, k < 8 → b k ≠ oa) ∧ (∀ i j, i < 10 → j < 8 → a i ≠ b j) ∧ (∀ k, k < 10 → s.heap.size ≤ a k) ∧ (∀ k, k < 8 → s.heap.size ≤ b k) ∧ s.heap.size ≤ oa
def LW (D : va_G) (cA cL : ClassId) (a b : Nat → Nat) (oa : Nat) (S T : St) (o : Nat → Int64) (H : Heap) : Prop := va_P D vwCl (wX cA a S) H ∧ va_P D vwCl (wM cA b T) H ∧ va_P D vwCl (wO cL oa o) H
section LAWR
variable {p : Program} {l : Launch} {e : Env} {R : Room} {s : State} {m : MethodId} {args : Array Value} {below : List Frame} {meth : Method} {c : Code} {H : Heap} {locs : List Loc} {cells slots : Nat} {Q : State → Prop}
variable {cc : ByteArray} {pc : Nat} {ls : Array Slot} {rest st0 : List Value} {nL : Nat} {Ts : List Cond} {own : String} {D : va_G} {cA cL : ClassId} {a b : Nat → Nat} {oa : Nat} {S T : St} {o : Nat → Int64}
variable {y : MethodName} {ws ws' : List Cond} {rm : Room} {bytes : ByteArray} {maxL n index mc ms : Nat} {ret : Option FieldType} {C : String} {As : List Value} {Pc : Array Value → State → Prop}
theorem mu_callC {v0 : Option Value} {av : Array Value} {B : State → Prop} {A1 A0 : Nat → Prop} {H0 : Heap} (hr : va_Run p l e R s m args below meth c H locs cells slots mc ms (F0 m pc ls st0) rest (fun st oc t => (oc = .returned v0 ∧ B t) ∧ va_F A1 st t) A1) (hS : va_S A0 H0 H locs) (hA : ∀ q, A1 q → A0 q)
    (kk : ∀ (t : State) (H1 : Heap) (locs1 : List Loc), t.heap = H1 → B t → (∀ q : Nat, q < H.size → ¬ A1 q → H1[q]? = H[q]?) → va_S A0 H0 H1 locs1 → W p l e R s m args below meth c H1 locs1 (cells + mc) (slots + ms) Q (F0 m (pc + 3) ls (v0.toList ++ rest))) : W p l e R s m args below meth c H locs cells slots Q (F0 m pc ls st0) := by
  intro T hT X
  obtain ⟨v, st₀, t, T', L, h0, X', hL, e1, e2, ⟨⟨hv, hB⟩, hz, hk⟩, st⟩ := hr T hT X
  cases hv
  rw [h0] at hz hk
  obtain ⟨t2, a1, b1⟩ := kk t T'.heap (locs ++ L) e1.symm hB (fun q h1 h2 => by rw [e1]; exact hk q h1 h2)
    ⟨Nat.le_trans hS.1 (by rw [e1]; exact hz), fun q h1 h2 => by rw [e1, hk q (Nat.lt_of_lt_of_le h1 hS.1) (fun z => h2 (hA q z))]; exact hS.2.1 q h1 h2, fun q hq => by
      rcases List.mem_append.mp hq with h | h
      · exact hS.2.2 q h
      · exact hA _ (hL q h)⟩ T' rfl X'
  exact ⟨t2, st t2 a1, b1⟩
theorem preL (hK : va_K D vwCl [(cA, .int), (cL, .long)] s) (hL : LW D cA cL a b oa S T o H) (hF : LF s a b oa) (hE : TXo (fun q => s.heap.size ≤ q) s) (hN : NCs s) (hS : va_S (fun q => s.heap.size ≤ q) s.heap H locs) : PreS s H (va_Pc As (PLs D cA cL a oa S o)) As :=
  ⟨fbLs, fun U hU hW => ⟨rfl, by rw [hU]; exact hL.1, by rw [hU]; exact hL.2.2, va_K.moved hW.alike hK, hE.kept hS hU hW (fun q h => by
    rcases h with ⟨k, hk, e⟩ | e
    · show s.heap.size ≤ q
      rw [e]; exact hF.2.2.2.2.2.1 k hk
    · show s.heap.size ≤ q
      rw [e]; exact hF.2.2.2.2.2.2.2), NCs.moved hW.alike hN⟩⟩
/-- one of the law's own methods called -/
theorem lw_wr {hh : List (Nat × Nat × Nat × Nat)} {r : Int32 × St × (Nat → Int64)} (S0 : CallFix p m c cc nL s args Ts own) (hM : Met l y ws rm Pc (qL D cA cL a oa r) mc ms (adL a oa)) (hT : GoodIn Ts (va_wsS own index y ws)) (hw : ws = Cond.codeWith y bytes maxL ret hh :: ws') (hrc : rm.cells = mc) (hrs : rm.slots = ms)
    (hd : y.cls ≠ "java/lang/invoke/MethodHandle" ∧ y.cls ≠ "java/lang/invoke/VarHandle" ∧ (parseMethodDescriptor y.desc).map (fun d => d.parameters.length) = some n) (hR1 : rm.frames + 1 ≤ R.frames) (hR2 : 8 + (maxL + 11) + rm.locals ≤ R.locals) (hpre : PreS s H Pc As)
    (hn : As.length = n) (hsize : ls.size = nL) (hst : st0 = As.reverse ++ rest) (hroom : (rest.map fun v => v.category).sum ≤ 8) (hc : cells + mc ≤ R.cells) (hs : slots + ms ≤ R.slots) (hdg : decode cc pc = .ok (.invokestatic index, 3)) (hL : LW D cA cL a b oa S T o H) (hF : LF s a b oa) (hS : va_S (fun q => s.heap.size ≤ q) s.heap H locs)
    (kk : ∀ (H1 : Heap) (locs1 : List Loc), LW D cA cL a b oa r.2.1 T r.2.2 H1 → va_S (fun q => s.heap.size ≤ q) s.heap H1 locs1 → W p l e R s m args below meth c H1 locs1 (cells + mc) (slots + ms) Q (F0 m (pc + 3) ls (.int r.1 :: rest))) : W p l e R s m args below meth c H locs cells slots Q (F0 m pc ls st0) :=
  mu_callC (v0 := some (.int r.1)) (A1 := adL a oa) (A0 := fun q => s.heap.size ≤ q) (H0 := s.heap) (B := fun t => va_P D vwCl (wX cA a r.2.1) t.heap ∧ va_P D vwCl (wO cL oa r.2.2) t.heap) (av := #[])
    (vx_runSW (As := As) (rest := rest) S0 hM (vx_cwSW n S0.2.2.2.2 hT hw hrc hrs hd ⟨hR1, hR2⟩) hpre rfl hn hsize hst (lv_room hroom) hdg ⟨hc, hs⟩) hS
    (fun q h => by
      rcases h with ⟨k, hk, e⟩ | e
      · show s.heap.size ≤ q
        rw [e]; exact hF.2.2.2.2.2.1 k hk
      · show s.heap.size ≤ q
        rw [e]; exact hF.2.2.2.2.2.2.2)
    (fun t H1 locs1 ht hB hk hS1 => kk H1 locs1 ⟨by rw [← ht]; exact hB.1, kept_but hL.2.1 hk (fun k q hq h => by
      obtain ⟨h1, h2⟩ := wM_at cA b T k q hq
      rcases h with ⟨i, hi, e⟩ | e
      · exact hF.2.2.2.2.1 i k hi h1 (by rw [← h2, e])
      · exact hF.2.2.2.1 k h1 (by rw [← h2, e])), by rw [← ht]; exact hB.2⟩ hS1)
/-- the reference called -/
theorem lw_mo {r : Int32} {T2 : St} (S0 : CallFix p m c cc nL s args Ts own) (hM : Met l y ws rm Pc (mMi D cA b r T2) 0 0 (ad b 8)) (hT : GoodIn Ts (wsV own index C y ws)) (hw : ws = Cond.code y bytes maxL ret :: ws') (hrc : rm.cells = 0) (hrs : rm.slots = 0)
    (hd : y.cls = C ∧ y.cls ≠ "java/lang/invoke/MethodHandle" ∧ y.cls ≠ "java/lang/invoke/VarHandle" ∧ (parseMethodDescriptor y.desc).map (fun d => d.parameters.length) = some n) (hR1 : rm.frames + 1 ≤ R.frames) (hR2 : 8 + (maxL + 11) + rm.locals ≤ R.locals) (hpre : PreV s H C (b 0) Pc As)
    (hn : As.length = n) (hsize : ls.size = nL) (hst : st0 = As.reverse ++ .ref (b 0) :: rest) (hroom : (rest.map fun v => v.category).sum ≤ 8) (hc : cells ≤ R.cells) (hs : slots ≤ R.slots) (hdg : decode cc pc = .ok (.invokevirtual index, 3)) (hL : LW D cA cL a b oa S T o H) (hF : LF s a b oa) (hS : va_S (fun q => s.heap.size ≤ q) s.heap H locs)
    (kk : ∀ (H1 : Heap) (locs1 : List Loc), LW D cA cL a b oa S T2 o H1 → va_S (fun q => s.heap.size ≤ q) s.heap H1 locs1 → W p l e R s m args below meth c H1 locs1 cells slots Q (F0 m (pc + 3) ls (.int r :: rest))) : W p l e R s m args below meth c H locs cells slots Q (F0 m pc ls st0) :=
  mu_call (v0 := some (.int r)) (A1 := ad b 8) (A0 := fun q => s.heap.size ≤ q) (B := fun t => va_P D vwCl (wM cA b T2) t.heap) (av := #[])
    (va_runV (As := As) (rest := rest) (b := b 0) S0 hM (cwV n S0.2.2.2.2 hT hw hrc hrs hd ⟨hR1, hR2⟩) hpre rfl hn hsize hst (lv_room hroom) hdg ⟨hc, hs⟩) hS
    (fun q h => by
      obtain ⟨k, hk, e⟩ := h
      show s.heap.size ≤ q
      rw [e]; exact hF.2.2.2.2.2.2.1 k hk)
    (fun t H1 locs1 ht hB hk hS1 => kk H1 locs1 ⟨kept_but hL.1 hk (fun k q hq h => by
      obtain ⟨h1, h2⟩ := wX_at cA a S k q hq
      obtain ⟨i, hi, e⟩ := h
      exact hF.2.2.2.2.1 k i h1 hi (by rw [← h2, e])), by rw [← ht]; exact hB, kept_but hL.2.2 hk (fun k q hq h => by
      obtain ⟨i, hi, e⟩ := h
      exact hF.2.2.2.1 i hi (by rw [← e]; exact wO_at k q hq))⟩ hS1)
/-- Submodulary.common called: it may write its own rows -/
theorem lw_xo {r : Int32} {S2 : St} (S0 : CallFix p m c cc nL s args Ts own) (hM : Met l y ws rm Pc (mXi D cA a r S2) 0 0 (ad a 10)) (hT : GoodIn Ts (wsV own index C y ws)) (hw : ws = Cond.code y bytes maxL ret :: ws') (hrc : rm.cells = 0) (hrs : rm.slots = 0)
    (hd : y.cls = C ∧ y.cls ≠ "java/lang/invoke/MethodHandle" ∧ y.cls ≠ "java/lang/invoke/VarHandle" ∧ (parseMethodDescriptor y.desc).map (fun d => d.parameters.length) = some n) (hR1 : rm.frames + 1 ≤ R.frames) (hR2 : 8 + (maxL + 11) + rm.locals ≤ R.locals) (hpre : PreV s H C (a 0) Pc As)
    (hn : As.length = n) (hsize : ls.size = nL) (hst : st0 = As.reverse ++ .ref (a 0) :: rest) (hroom : (rest.map fun v => v.category).sum ≤ 8) (hc : cells ≤ R.cells) (hs : slots ≤ R.slots) (hdg : decode cc pc = .ok (.invokevirtual index, 3)) (hL : LW D cA cL a b oa S T o H) (hF : LF s a b oa) (hS : va_S (fun q => s.heap.size ≤ q) s.heap H locs)
    (kk : ∀ (H1 : Heap) (locs1 : List Loc), LW D cA cL a b oa S2 T o H1 → va_S (fun q => s.heap.size ≤ q) s.heap H1 locs1 → W p l e R s m args below meth c H1 locs1 cells slots Q (F0 m (pc + 3) ls (.int r :: rest))) : W p l e R s m args below meth c H locs cells slots Q (F0 m pc ls st0) :=
  mu_call (v0 := some (.int r)) (A1 := ad a 10) (A0 := fun q => s.heap.size ≤ q) (B := fun t => va_P D vwCl (wX cA a S2) t.heap) (av := #[])
    (va_runV (As := As) (rest := rest) (b := a 0) S0 hM (cwV n S0.2.2.2.2 hT hw hrc hrs hd ⟨hR1, hR2⟩) hpre rfl hn hsize hst (lv_room hroom) hdg ⟨hc, hs⟩) hS
    (fun q h => by
      obtain ⟨k, hk, e⟩ := h
      show s.heap.size ≤ q
      rw [e]; exact hF.2.2.2.2.2.1 k hk)
    (fun t H1 locs1 ht hB hk hS1 => kk H1 locs1 ⟨by rw [← ht]; exact hB, kept_but hL.2.1 hk (fun k q hq h => by
      obtain ⟨h1, h2⟩ := wM_at cA b T k q hq
      obtain ⟨i, hi, e⟩ := h
      exact hF.2.2.2.2.1 i k hi h1 (by rw [← h2, e])), kept_but hL.2.2 hk (fun k q hq h => by
      obtain ⟨i, hi, e⟩ := h
      exact hF.2.2.1 i hi (by rw [← e]; exact wO_at k q hq))⟩ hS1)
/-- an element of the script, read where the read is known to go well -/
theorem rdSc (hx : p.tables.exec = Jvm.exec) (hb : c.code = cc) {sb L : Nat} {xs : Nat → Int32} {A : Nat → Prop} {H0 : Heap} (hX : va_X sb L xs s H0) (hbl : sb < H0.size) (hbA : ¬ A sb) (hS : va_S A H0 H locs) {i v : Int32} (hv : rdA L xs i = some v) (hdg : decode cc pc = .ok (.iaload, 1))
    (kk : W p l e R s m args below meth c H locs cells slots Q (F0 m (pc + 1) ls (.int v :: rest))) : W p l e R s m args below meth c H locs cells slots Q (F0 m pc ls (.int i :: .ref sb :: rest)) := by
  obtain ⟨h1, h2⟩ := rdA_some hv
  subst h2
  exact va_sld hx hb hX hbl hbA hS h1 hdg kk
theorem tabOut24 {x : Int32} (h0 : ¬ x = 0) (h1 : ¬ x = 1) (h2 : ¬ x = 2) (h3 : ¬ x = 3) (h4 : ¬ x = 4) (h5 : ¬ x = 5) (h6 : ¬ x = 6) (h7 : ¬ x = 7) (h8 : ¬ x = 8) (h9 : ¬ x = 9) (h10 : ¬ x = 10) (h11 : ¬ x = 11) (h12 : ¬ x = 12) (h13 : ¬ x = 13) (h14 : ¬ x = 14) (h15 : ¬ x = 15) (h16 : ¬ x = 16) (h17 : ¬ x = 17) (h18 : ¬ x = 18) (h19 : ¬ x = 19) (h20 : ¬ x = 20) (h21 : ¬ x = 21) (h22 : ¬ x = 22) (h23 : ¬ x = 23) : x.toInt < 0 ∨ (23 : Int) < x.toInt := by
  refine tabOut (n := 24) (by decide) (fun j hj => ?_)
  rcases (show j = 0 ∨ j = 1 ∨ j = 2 ∨ j = 3 ∨ j = 4 ∨ j = 5 ∨ j = 6 ∨ j = 7 ∨ j = 8 ∨ j = 9 ∨ j = 10 ∨ j = 11 ∨ j = 12 ∨ j = 13 ∨ j = 14 ∨ j = 15 ∨ j = 16 ∨ j = 17 ∨ j = 18 ∨ j = 19 ∨ j = 20 ∨ j = 21 ∨ j = 22 ∨ j = 23 by omega) with rfl | rfl | rfl | rfl | rfl | rfl | rfl | rfl | rfl | rfl | rfl | rfl | rfl | rfl | rfl | rfl | rfl | rfl | rfl | rfl | rfl | rfl | rfl | rfl
  · exact h0
  · exact h1
  · exact h2
  · exact h3
  · exact h4
  · exact h5
  · exact h6
  · exact h7
  · exact h8
  · exact h9
  · exact h10
  · exact h11
  · exact h12
  · exact h13
  · exact h14
  · exact h15
  · exact h16
  · exact h17
  · exact h18
  · exact h19
  · exact h20
  · exact h21
  · exact h22
  · exact h23
end LAWR

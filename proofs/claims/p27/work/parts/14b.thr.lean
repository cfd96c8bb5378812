/-! Rows of methods that throw: what they find of the machine's statics, their ends, calls of theirs. -/
def excN (k : Nat) : String := if k = 1 then "java/lang/IndexOutOfBoundsException" else if k = 2 then "java/lang/IllegalArgumentException" else "java/lang/IllegalStateException"
/-- what is thrown where a test fails -/
def nx (k : Nat) (b : Int32) : Nat := if b = 0 then k else 0
def TXo (A : Nat → Prop) (U : State) : Prop := vx_Zq Bundle.tN "UNASSIGNED_STACK" Bundle.steD A U U.heap ∧ vx_Zq Bundle.tN "SUPPRESSED_SENTINEL" Bundle.listD A U U.heap ∧
  (∃ sa, vk_R RX0 183 "there is no such element, point, family, colour or function" sa U) ∧ (∃ sa, vk_R RX0 190 "an argument is out of its range" sa U) ∧ (∃ sa, vk_R RX0 195 "this is not asked now" sa U) ∧ (∀ k : Nat, va_Nw (.castable (excN k) (excN k)) U) ∧
  va_Nw (.declares (Bundle.initS "java/lang/RuntimeException")) U ∧ va_Nw (.declares (Bundle.initS "java/lang/Exception")) U ∧ va_Nw (.declares (Bundle.initS Bundle.tN)) U
theorem TXo.at {A B : Nat → Prop} {s U : State} (h : TXo A s) (hU : U.heap = s.heap) (hW : s.WarmedH U.vm) (hAB : ∀ q, B q → A q) : TXo B U := by
  obtain ⟨h1, h2, ⟨a3, h3⟩, ⟨a4, h4⟩, ⟨a5, h5⟩, h6, h7, h8, h9⟩ := h
  unfold TXo
  rw [hU]
  exact ⟨(vx_Zq.moved hW.alike h1).narrow hAB, (vx_Zq.moved hW.alike h2).narrow hAB, ⟨a3, vk_R.warm hW h3⟩, ⟨a4, vk_R.warm hW h4⟩, ⟨a5, vk_R.warm hW h5⟩, fun k => va_Nw.warmC hW (h6 k), va_Nw.warmD hW h7, va_Nw.warmD hW h8, va_Nw.warmD hW h9⟩
theorem TXo.calling {A : Nat → Prop} {U : State} {g : JFrame} {mk : MethodId} {x : Array Value} (h : TXo A U) : TXo A (U.calling g mk x) := by
  obtain ⟨h1, h2, ⟨a3, h3⟩, ⟨a4, h4⟩, ⟨a5, h5⟩, h6, h7, h8, h9⟩ := h
  exact ⟨vx_Zq.moved (u := U) (U := U.calling g mk x) (Vm.Alike.refl U.vm) h1, vx_Zq.moved (u := U) (U := U.calling g mk x) (Vm.Alike.refl U.vm) h2, ⟨a3, vk_R.same rfl h3⟩, ⟨a4, vk_R.same rfl h4⟩, ⟨a5, vk_R.same rfl h5⟩, fun k => va_Nw.same rfl rfl (h6 k), va_Nw.same rfl rfl h7, va_Nw.same rfl rfl h8, va_Nw.same rfl rfl h9⟩
def PTs (D : va_G) (cA : ClassId) (a : Nat → Nat) (S : St) (U : State) : Prop := va_P D vwCl (wX cA a S) U.heap ∧ va_K D vwCl [(cA, .int)] U ∧ TXo (ad a 10) U
theorem fbTs {av : List Value} {D : va_G} {cA : ClassId} {a : Nat → Nat} {S : St} : FrameBlind (va_Pc av (PTs D cA a S)) := fun x U g mk h => ⟨h.1, h.2.1, va_K.moved (u := U) (U := U.calling g mk x) (Vm.Alike.refl U.vm) h.2.2.1, h.2.2.2.calling⟩
theorem fbE {av : List Value} {A : Nat → Prop} : FrameBlind (va_Pc av (TXo A)) := fun x U g mk h => ⟨h.1, h.2.calling⟩
theorem preTs {s : State} {D : va_G} {cA : ClassId} {a : Nat → Nat} {S : St} {As : List Value} (hK : va_K D vwCl [(cA, .int)] s) (hP : va_P D vwCl (wX cA a S) s.heap) (hE : TXo (ad a 10) s) : PreV s s.heap RX0 (a 0) (va_Pc (.ref (a 0) :: As) (PTs D cA a S)) As :=
  ⟨fbTs, va_recv hK hP (ci := 0) (q0 := 0) rfl rfl, fun U hU hW => ⟨rfl, by rw [hU]; exact hP, va_K.moved hW.alike hK, hE.at hU hW (fun _ h => h)⟩⟩
theorem preE {s : State} {A : Nat → Prop} {As : List Value} (hE : TXo A s) : PreS s s.heap (va_Pc As (TXo (fun _ => False))) As :=
  ⟨fbE, fun U hU hW => ⟨rfl, hE.at hU hW (fun _ h => h.elim)⟩⟩
/-- ends: code 0 and an answer; code k and a throw, nothing that was there has changed -/
def tQv (r : Nat) : Array Value → State → Outcome → State → Prop := fun _ st oc t => (r = 0 ∧ oc = .returned none) ∧ t.heap = st.heap
def tQi (D : va_G) (cA : ClassId) (a : Nat → Nat) (r : Nat × Int32 × St) : Array Value → State → Outcome → State → Prop := fun _ st oc t => (r.1 = 0 ∧ oc = .returned (some (.int r.2.1)) ∧ va_P D vwCl (wX cA a r.2.2) t.heap) ∧ va_F (ad a 10) st t
def tX (r : Nat) : String → State → State → Prop := fun E st t => r ≠ 0 ∧ E = excN r ∧ va_F (fun _ => False) st t
section THR
variable {p : Program} {l : Launch} {e : Env} {R : Room} {s : State} {m : MethodId} {args : Array Value} {below : List Frame} {meth : Method} {c : Code} {H : Heap} {locs : List Loc} {cells slots : Nat} {Q : State → Prop}
variable {cc : ByteArray} {pc : Nat} {ls : Array Slot} {rest st0 : List Value} {nL : Nat} {Ts : List Cond} {own : String}
variable {y : MethodName} {ws ws' : List Cond} {rm : Room} {bytes : ByteArray} {maxL n index : Nat} {ret : Option FieldType} {C : String} {b : Addr} {As : List Value} {Pc : Array Value → State → Prop} {r : Nat}
theorem xt_call {av : Array Value} (hr : vx_Run p l e R s m args below meth c H locs cells slots 1 6 (F0 m pc ls st0) rest (tQv r av) (tX r) (fun _ => False))
    (kx : r ≠ 0 → ∀ (E : String) (ce : Cell) (q9 : Addr) (H1 : Heap), E = excN r → H.size ≤ H1.size → (∀ q : Nat, q < H.size → H1[q]? = H[q]?) → H1[q9]? = some ce → ce.vm = .none → s.vm.findClass E = some ce.cls → vx_W p l e R s m args below meth c H1 locs (cells + 1) (slots + 6) Q (F0 m pc ls rest) q9)
    (kk : r = 0 → W p l e R s m args below meth c H locs (cells + 1) (slots + 6) Q (F0 m (pc + 3) ls rest)) : W p l e R s m args below meth c H locs cells slots Q (F0 m pc ls st0) := by
  have nilL : ∀ L : List Loc, (∀ q ∈ L, False) → L = [] := fun L hL => by
    cases L with
    | nil => rfl
    | cons q L => exact (hL q List.mem_cons_self).elim
  intro T hT X
  rcases hr T hT X with ⟨v, st₀, t, T', L, h0, X', hL, e1, e2, ⟨⟨he, hv⟩, hh⟩, st⟩ | ⟨q, st₀, t, T', L, E, ce, h0, X', hL, e1, e2, ⟨hne, hE, hF⟩, hce, hcv, hcl, st⟩
  · cases hv
    have hLn := nilL L hL
    subst hLn
    rw [List.append_nil] at X'
    obtain ⟨t2, a1, b1⟩ := kk he T' (by rw [e1, hh, h0]) X'
    exact ⟨t2, st t2 a1, b1⟩
  · have hLn := nilL L hL
    subst hLn
    rw [List.append_nil] at X'
    obtain ⟨z1, z2⟩ := hF
    rw [h0] at z1 z2
    obtain ⟨t2, a1, b1⟩ := kx hne E ce q T'.heap hE (by rw [e1]; exact z1) (fun q hq => by rw [e1]; exact z2 q hq (fun h => h)) (by rw [e1]; exact hce) hcv hcl T' rfl X'
    exact ⟨t2, st.trans a1, b1⟩
theorem xt_S (S0 : CallFix p m c cc nL s args Ts own) (hM : vx_Met l y ws rm Pc (tQv r) (tX r) 1 6 (fun _ => False)) (hT : GoodIn Ts (va_wsS own index y ws)) (hw : ws = Cond.code y bytes maxL ret :: ws') (hrc : rm.cells = 1) (hrs : rm.slots = 6)
    (hd : y.cls ≠ "java/lang/invoke/MethodHandle" ∧ y.cls ≠ "java/lang/invoke/VarHandle" ∧ (parseMethodDescriptor y.desc).map (fun d => d.parameters.length) = some n) (hR1 : rm.frames + 1 ≤ R.frames) (hR2 : 8 + (maxL + 11) + rm.locals ≤ R.locals) (hpre : PreS s H Pc As)
    (hn : As.length = n) (hsize : ls.size = nL) (hst : st0 = As.reverse ++ rest) (hroom : (rest.map fun v => v.category).sum ≤ 8) (hc : cells + 1 ≤ R.cells) (hs : slots + 6 ≤ R.slots) (hdg : decode cc pc = .ok (.invokestatic index, 3))
    (kx : r ≠ 0 → ∀ (E : String) (ce : Cell) (q9 : Addr) (H1 : Heap), E = excN r → H.size ≤ H1.size → (∀ q : Nat, q < H.size → H1[q]? = H[q]?) → H1[q9]? = some ce → ce.vm = .none → s.vm.findClass E = some ce.cls → vx_W p l e R s m args below meth c H1 locs (cells + 1) (slots + 6) Q (F0 m pc ls rest) q9)
    (kk : r = 0 → W p l e R s m args below meth c H locs (cells + 1) (slots + 6) Q (F0 m (pc + 3) ls rest)) : W p l e R s m args below meth c H locs cells slots Q (F0 m pc ls st0) :=
  xt_call (vx_runS (As := As) (rest := rest) S0 hM (va_cwS n S0.2.2.2.2 hT hw hrc hrs hd ⟨hR1, hR2⟩) hpre rfl hn hsize hst (lv_room hroom) hdg ⟨hc, hs⟩) kx kk
theorem xt_V (S0 : CallFix p m c cc nL s args Ts own) (hM : vx_Met l y ws rm Pc (tQv r) (tX r) 1 6 (fun _ => False)) (hT : GoodIn Ts (wsV own index C y ws)) (hw : ws = Cond.code y bytes maxL ret :: ws') (hrc : rm.cells = 1) (hrs : rm.slots = 6)
    (hd : y.cls = C ∧ y.cls ≠ "java/lang/invoke/MethodHandle" ∧ y.cls ≠ "java/lang/invoke/VarHandle" ∧ (parseMethodDescriptor y.desc).map (fun d => d.parameters.length) = some n) (hR1 : rm.frames + 1 ≤ R.frames) (hR2 : 8 + (maxL + 11) + rm.locals ≤ R.locals) (hpre : PreV s H C b Pc As)
    (hn : As.length = n) (hsize : ls.size = nL) (hst : st0 = As.reverse ++ .ref b :: rest) (hroom : (rest.map fun v => v.category).sum ≤ 8) (hc : cells + 1 ≤ R.cells) (hs : slots + 6 ≤ R.slots) (hdg : decode cc pc = .ok (.invokevirtual index, 3))
    (kx : r ≠ 0 → ∀ (E : String) (ce : Cell) (q9 : Addr) (H1 : Heap), E = excN r → H.size ≤ H1.size → (∀ q : Nat, q < H.size → H1[q]? = H[q]?) → H1[q9]? = some ce → ce.vm = .none → s.vm.findClass E = some ce.cls → vx_W p l e R s m args below meth c H1 locs (cells + 1) (slots + 6) Q (F0 m pc ls rest) q9)
    (kk : r = 0 → W p l e R s m args below meth c H locs (cells + 1) (slots + 6) Q (F0 m (pc + 3) ls rest)) : W p l e R s m args below meth c H locs cells slots Q (F0 m pc ls st0) :=
  xt_call (vx_runV (As := As) (rest := rest) (b := b) S0 hM (cwV n S0.2.2.2.2 hT hw hrc hrs hd ⟨hR1, hR2⟩) hpre rfl hn hsize hst (lv_room hroom) hdg ⟨hc, hs⟩) kx kk
/-- a throw that comes from a callee goes on to the caller -/
theorem xt_out {E : String} {ce : Cell} {q9 : Addr} {H1 : Heap} {mc ms : Nat} {free : Addr → Prop} {Qc : Array Value → State → Outcome → State → Prop} (htab : ∀ x ∈ c.exceptionTable.toList, False) (hlocks : meth.locks = false) (hne : r ≠ 0) (hE : E = excN r) (hz : s.heap.size ≤ H1.size) (hk : ∀ q : Nat, q < s.heap.size → H1[q]? = s.heap[q]?) (hce : H1[q9]? = some ce) (hcv : ce.vm = .none) (hcl : s.vm.findClass E = some ce.cls) (hc : cells ≤ mc) (hs : slots ≤ ms) :
    vx_W p l e R s m args below meth c H1 [] cells slots (vx_MQ below Qc (tX r) args s mc ms free) (F0 m pc ls rest) q9 :=
  vx_out (fun x hx => (htab x hx).elim) hlocks hce hcv hcl (fun t ht _ => ⟨hne, hE, by rw [ht]; exact hz, fun q h1 _ => by rw [ht]; exact hk q h1⟩) (fun z hz => by cases hz) hc hs
end THR
set_option maxHeartbeats 4000000 in
set_option maxRecDepth 100000 in
theorem k_X0_needIndex (l : Launch) (hfl : l.stackTraces = false) (b : Int32) : vx_Met l yX0_needIndex wsX0_needIndex ({ frames := 6, cells := 1, slots := 6, locals := 90 }) (va_Pc [.int b] (TXo (fun _ => False))) (tQv (nx 1 b)) (tX (nx 1 b)) 1 6 (fun _ => False) := by
  refine vx_ofW (cc := cX0_needIndex) (maxL := 1) (ret := none) (by decide) rfl ?_
  intro p e s m args below meth c s₁ B hml htab hv
  obtain ⟨rfl, hEx⟩ := hv
  have hx := B.exec
  have hb := B.bytes
  have hr := B.returns
  have hts := atoms_spec (ws := wsX0_needIndex) B.pre
  have hown : s.vm.findClass RX0 = some m.cls := findClass_of_methodNamed B.named
  have hlocks := B.notSynchronized
  have hl := lv_entry ([.int b]) (n := 1) (Nat.le_of_ble_eq_true rfl)
  rw [lg_entry_eq]
  generalize (lg_sl ([.int b]) ++ List.replicate (1 - (lg_sl ([.int b])).length) Slot.unset).toArray = ls at hl ⊢
  have hl : lv_has ls 1 [(0, .int b)] := hl
  obtain ⟨hU, hN, hs1, hs2, hs3, hcast, hd7, hd8, hd9⟩ := hEx
  obtain ⟨sa, hstr⟩ := hs1
  refine lv_iload_n hx hb dX0_needIndex_0 rfl (lv_at hl 0 rfl) ?_
  refine lv_if_ne (tgt := 14) hx hb dX0_needIndex_1 (by decide) (fun c1 => ?_) (fun c1 => ?_)
  · have h0 : nx 1 b = 0 := by unfold nx; rw [if_neg c1]
    refine vx_ret ?_
    refine W.widen (k := 1) (n := 6) (Nat.zero_le _) (Nat.zero_le _) ?_
    exact W.vret hx hb hr (fun t ht hW => ⟨⟨h0, rfl⟩, ht⟩) (fun q h => by cases h) dX0_needIndex_14
  · have h0 : nx 1 b = 1 := by unfold nx; rw [if_pos c1]
    have hat : ∀ w ∈ vx_atS RX0 185 "java/lang/IndexOutOfBoundsException" ["java/lang/RuntimeException", "java/lang/Exception"], w.before ([.int b] : List Value).toArray s = true :=
      vx_hat (B := [.castable (excN 1) (excN 1), .declares (Bundle.initS "java/lang/RuntimeException"), .declares (Bundle.initS "java/lang/Exception"), .declares (Bundle.initS Bundle.tN)]) (fun w h => hts w (List.mem_cons_of_mem _ (List.mem_append_right _ h))) (by decide +kernel) (vx_c (va_Nw.use rfl (hcast 1)) (vx_c (va_Nw.use rfl hd7) (vx_c (va_Nw.use rfl hd8) (vx_c (va_Nw.use rfl hd9) vx_n))))
    exact vx_throwS (cls := "java/lang/IndexOutOfBoundsException") (names := ["java/lang/RuntimeException", "java/lang/Exception"]) hx hb hfl hown (by decide +kernel) (by decide +kernel) (hts (.classLink RX0 181 "java/lang/IndexOutOfBoundsException") (by decide +kernel)) (hts (.initialized "java/lang/IndexOutOfBoundsException") (by decide +kernel)) hstr hat (by decide +kernel) hU hN (A := fun _ => False) va_S.rf (hl.1.trans hml.symm) dX0_needIndex_4 dX0_needIndex_7 dX0_needIndex_8 dX0_needIndex_10 dX0_needIndex_13 (fun x hx => (htab x hx).elim) (Nat.le_of_ble_eq_true rfl) (Nat.le_of_ble_eq_true rfl) (Nat.le_of_ble_eq_true rfl) (Nat.le_of_ble_eq_true rfl) hlocks
      (fun t _ h1 h2 => ⟨by rw [h0]; decide, by rw [h0]; rfl, h1, fun q h3 _ => h2 q h3⟩) (fun z hz => by cases hz) (Nat.le_refl _) (Nat.le_refl _)
theorem cd_X0_needIndex : yX0_needIndex.cls ≠ "java/lang/invoke/MethodHandle" ∧ yX0_needIndex.cls ≠ "java/lang/invoke/VarHandle" ∧ (parseMethodDescriptor yX0_needIndex.desc).map (fun d => d.parameters.length) = some 1 := by decide +kernel
set_option maxHeartbeats 4000000 in
set_option maxRecDepth 100000 in
theorem k_X0_needArgument (l : Launch) (hfl : l.stackTraces = false) (b : Int32) : vx_Met l yX0_needArgument wsX0_needArgument ({ frames := 6, cells := 1, slots := 6, locals := 90 }) (va_Pc [.int b] (TXo (fun _ => False))) (tQv (nx 2 b)) (tX (nx 2 b)) 1 6 (fun _ => False) := by
  refine vx_ofW (cc := cX0_needArgument) (maxL := 1) (ret := none) (by decide) rfl ?_
  intro p e s m args below meth c s₁ B hml htab hv
  obtain ⟨rfl, hEx⟩ := hv
  have hx := B.exec
  have hb := B.bytes
  have hr := B.returns
  have hts := atoms_spec (ws := wsX0_needArgument) B.pre
  have hown : s.vm.findClass RX0 = some m.cls := findClass_of_methodNamed B.named
  have hlocks := B.notSynchronized
  have hl := lv_entry ([.int b]) (n := 1) (Nat.le_of_ble_eq_true rfl)
  rw [lg_entry_eq]
  generalize (lg_sl ([.int b]) ++ List.replicate (1 - (lg_sl ([.int b])).length) Slot.unset).toArray = ls at hl ⊢
  have hl : lv_has ls 1 [(0, .int b)] := hl
  obtain ⟨hU, hN, hs1, hs2, hs3, hcast, hd7, hd8, hd9⟩ := hEx
  obtain ⟨sa, hstr⟩ := hs2
  refine lv_iload_n hx hb dX0_needArgument_0 rfl (lv_at hl 0 rfl) ?_
  refine lv_if_ne (tgt := 14) hx hb dX0_needArgument_1 (by decide) (fun c1 => ?_) (fun c1 => ?_)
  · have h0 : nx 2 b = 0 := by unfold nx; rw [if_neg c1]
    refine vx_ret ?_
    refine W.widen (k := 1) (n := 6) (Nat.zero_le _) (Nat.zero_le _) ?_
    exact W.vret hx hb hr (fun t ht hW => ⟨⟨h0, rfl⟩, ht⟩) (fun q h => by cases h) dX0_needArgument_14
  · have h0 : nx 2 b = 2 := by unfold nx; rw [if_pos c1]
    have hat : ∀ w ∈ vx_atS RX0 192 "java/lang/IllegalArgumentException" ["java/lang/RuntimeException", "java/lang/Exception"], w.before ([.int b] : List Value).toArray s = true :=
      vx_hat (B := [.castable (excN 2) (excN 2), .declares (Bundle.initS "java/lang/RuntimeException"), .declares (Bundle.initS "java/lang/Exception"), .declares (Bundle.initS Bundle.tN)]) (fun w h => hts w (List.mem_cons_of_mem _ (List.mem_append_right _ h))) (by decide +kernel) (vx_c (va_Nw.use rfl (hcast 2)) (vx_c (va_Nw.use rfl hd7) (vx_c (va_Nw.use rfl hd8) (vx_c (va_Nw.use rfl hd9) vx_n))))
    exact vx_throwS (cls := "java/lang/IllegalArgumentException") (names := ["java/lang/RuntimeException", "java/lang/Exception"]) hx hb hfl hown (by decide +kernel) (by decide +kernel) (hts (.classLink RX0 188 "java/lang/IllegalArgumentException") (by decide +kernel)) (hts (.initialized "java/lang/IllegalArgumentException") (by decide +kernel)) hstr hat (by decide +kernel) hU hN (A := fun _ => False) va_S.rf (hl.1.trans hml.symm) dX0_needArgument_4 dX0_needArgument_7 dX0_needArgument_8 dX0_needArgument_10 dX0_needArgument_13 (fun x hx => (htab x hx).elim) (Nat.le_of_ble_eq_true rfl) (Nat.le_of_ble_eq_true rfl) (Nat.le_of_ble_eq_true rfl) (Nat.le_of_ble_eq_true rfl) hlocks
      (fun t _ h1 h2 => ⟨by rw [h0]; decide, by rw [h0]; rfl, h1, fun q h3 _ => h2 q h3⟩) (fun z hz => by cases hz) (Nat.le_refl _) (Nat.le_refl _)
theorem cd_X0_needArgument : yX0_needArgument.cls ≠ "java/lang/invoke/MethodHandle" ∧ yX0_needArgument.cls ≠ "java/lang/invoke/VarHandle" ∧ (parseMethodDescriptor yX0_needArgument.desc).map (fun d => d.parameters.length) = some 1 := by decide +kernel
set_option maxHeartbeats 4000000 in
set_option maxRecDepth 100000 in
theorem k_X0_needState (l : Launch) (hfl : l.stackTraces = false) (b : Int32) : vx_Met l yX0_needState wsX0_needState ({ frames := 6, cells := 1, slots := 6, locals := 90 }) (va_Pc [.int b] (TXo (fun _ => False))) (tQv (nx 3 b)) (tX (nx 3 b)) 1 6 (fun _ => False) := by
  refine vx_ofW (cc := cX0_needState) (maxL := 1) (ret := none) (by decide) rfl ?_
  intro p e s m args below meth c s₁ B hml htab hv
  obtain ⟨rfl, hEx⟩ := hv
  have hx := B.exec
  have hb := B.bytes
  have hr := B.returns
  have hts := atoms_spec (ws := wsX0_needState) B.pre
  have hown : s.vm.findClass RX0 = some m.cls := findClass_of_methodNamed B.named
  have hlocks := B.notSynchronized
  have hl := lv_entry ([.int b]) (n := 1) (Nat.le_of_ble_eq_true rfl)
  rw [lg_entry_eq]
  generalize (lg_sl ([.int b]) ++ List.replicate (1 - (lg_sl ([.int b])).length) Slot.unset).toArray = ls at hl ⊢
  have hl : lv_has ls 1 [(0, .int b)] := hl
  obtain ⟨hU, hN, hs1, hs2, hs3, hcast, hd7, hd8, hd9⟩ := hEx
  obtain ⟨sa, hstr⟩ := hs3
  refine lv_iload_n hx hb dX0_needState_0 rfl (lv_at hl 0 rfl) ?_
  refine lv_if_ne (tgt := 14) hx hb dX0_needState_1 (by decide) (fun c1 => ?_) (fun c1 => ?_)
  · have h0 : nx 3 b = 0 := by unfold nx; rw [if_neg c1]
    refine vx_ret ?_
    refine W.widen (k := 1) (n := 6) (Nat.zero_le _) (Nat.zero_le _) ?_
    exact W.vret hx hb hr (fun t ht hW => ⟨⟨h0, rfl⟩, ht⟩) (fun q h => by cases h) dX0_needState_14
  · have h0 : nx 3 b = 3 := by unfold nx; rw [if_pos c1]
    have hat : ∀ w ∈ vx_atS RX0 197 "java/lang/IllegalStateException" ["java/lang/RuntimeException", "java/lang/Exception"], w.before ([.int b] : List Value).toArray s = true :=
      vx_hat (B := [.castable (excN 3) (excN 3), .declares (Bundle.initS "java/lang/RuntimeException"), .declares (Bundle.initS "java/lang/Exception"), .declares (Bundle.initS Bundle.tN)]) (fun w h => hts w (List.mem_cons_of_mem _ (List.mem_append_right _ h))) (by decide +kernel) (vx_c (va_Nw.use rfl (hcast 3)) (vx_c (va_Nw.use rfl hd7) (vx_c (va_Nw.use rfl hd8) (vx_c (va_Nw.use rfl hd9) vx_n))))
    exact vx_throwS (cls := "java/lang/IllegalStateException") (names := ["java/lang/RuntimeException", "java/lang/Exception"]) hx hb hfl hown (by decide +kernel) (by decide +kernel) (hts (.classLink RX0 193 "java/lang/IllegalStateException") (by decide +kernel)) (hts (.initialized "java/lang/IllegalStateException") (by decide +kernel)) hstr hat (by decide +kernel) hU hN (A := fun _ => False) va_S.rf (hl.1.trans hml.symm) dX0_needState_4 dX0_needState_7 dX0_needState_8 dX0_needState_10 dX0_needState_13 (fun x hx => (htab x hx).elim) (Nat.le_of_ble_eq_true rfl) (Nat.le_of_ble_eq_true rfl) (Nat.le_of_ble_eq_true rfl) (Nat.le_of_ble_eq_true rfl) hlocks
      (fun t _ h1 h2 => ⟨by rw [h0]; decide, by rw [h0]; rfl, h1, fun q h3 _ => h2 q h3⟩) (fun z hz => by cases hz) (Nat.le_refl _) (Nat.le_refl _)
theorem cd_X0_needState : yX0_needState.cls ≠ "java/lang/invoke/MethodHandle" ∧ yX0_needState.cls ≠ "java/lang/invoke/VarHandle" ∧ (parseMethodDescriptor yX0_needState.desc).map (fun d => d.parameters.length) = some 1 := by decide +kernel

/-! The law from its entry: what the tables and the start give, the two objects, the answer's row, the loop. -/
theorem int_K {D : va_G} {cl : List vw_C} {s : State} {args : Array Value} (hK : va_K D cl [] s) (h : (Cond.arrayClass .int).before args s = true) : ∃ cA : ClassId, va_K D cl [(cA, .int)] s := by
  obtain ⟨c, k, comp, h1, h2, h3⟩ := Cond.arrayClass_spec h
  refine ⟨c, hK.1, fun i q hq => ?_⟩
  cases i with
  | zero => cases hq; exact ⟨fun n z => ⟨fun k h => (by cases h), k, h2, comp, h3⟩, h1⟩
  | succ i => simp at hq
theorem str_R {own tx : String} {k : Nat} {s : State} {args : Array Value} (h1 : (Cond.stringRef own k tx).before args s = true) (h2 : (Cond.exactly (.string own k) "java/lang/String").before args s = true) : ∃ sa, vk_R own k tx sa s := by
  obtain ⟨a, c, cell, k, h3, -⟩ := Cond.exactly_spec h2
  exact ⟨a, vk_R.of h1 h3⟩
set_option maxHeartbeats 4000000 in
set_option maxRecDepth 100000 in
theorem start_facts {s : State} {sb : Nat} (htt : ∀ w ∈ lw_tbl, w.before #[Value.ref sb] s = true) (hgv : (Jvm.Cond.and given_1 narrow_1).before #[Value.ref sb] s = true) : TXo (fun q => s.heap.size ≤ q) s ∧ NCs s := by
  have hs := flat_of_before _ hgv
  have hA : ∀ a : Nat, a < s.heap.size → ¬ (fun q : Nat => s.heap.size ≤ q) a := fun a h => Nat.not_le.mpr h
  have n12 : va_Nc "java/lang/IndexOutOfBoundsException" "java/lang/IllegalArgumentException" s := va_Nc.of (hs (.not (.castable "java/lang/IndexOutOfBoundsException" "java/lang/IllegalArgumentException")) (by decide +kernel))
  have n13 : va_Nc "java/lang/IndexOutOfBoundsException" "java/lang/IllegalStateException" s := va_Nc.of (hs (.not (.castable "java/lang/IndexOutOfBoundsException" "java/lang/IllegalStateException")) (by decide +kernel))
  have n21 : va_Nc "java/lang/IllegalArgumentException" "java/lang/IndexOutOfBoundsException" s := va_Nc.of (hs (.not (.castable "java/lang/IllegalArgumentException" "java/lang/IndexOutOfBoundsException")) (by decide +kernel))
  have n23 : va_Nc "java/lang/IllegalArgumentException" "java/lang/IllegalStateException" s := va_Nc.of (hs (.not (.castable "java/lang/IllegalArgumentException" "java/lang/IllegalStateException")) (by decide +kernel))
  have n31 : va_Nc "java/lang/IllegalStateException" "java/lang/IndexOutOfBoundsException" s := va_Nc.of (hs (.not (.castable "java/lang/IllegalStateException" "java/lang/IndexOutOfBoundsException")) (by decide +kernel))
  have n32 : va_Nc "java/lang/IllegalStateException" "java/lang/IllegalArgumentException" s := va_Nc.of (hs (.not (.castable "java/lang/IllegalStateException" "java/lang/IllegalArgumentException")) (by decide +kernel))
  have e3 : ∀ k : Nat, excN k = "java/lang/IndexOutOfBoundsException" ∨ excN k = "java/lang/IllegalArgumentException" ∨ excN k = "java/lang/IllegalStateException" := fun k => by
    unfold excN
    by_cases h1 : k = 1
    · rw [if_pos h1]; exact Or.inl rfl
    · rw [if_neg h1]
      by_cases h2 : k = 2
      · rw [if_pos h2]; exact Or.inr (Or.inl rfl)
      · rw [if_neg h2]; exact Or.inr (Or.inr rfl)
  refine ⟨⟨?_, ?_, ?_, ?_, ?_, ?_, ?_, ?_, ?_⟩, ?_⟩
  · exact vx_Zqof (htt (.laysStatic Bundle.tN "UNASSIGNED_STACK" Bundle.steD) (List.mem_append_right _ (List.mem_of_getElem? (i := 172) (by decide +kernel)))) (htt (.initialized Bundle.tN) (List.mem_append_right _ (List.mem_of_getElem? (i := 4) (by decide +kernel)))) (hs (.isRef (.static Bundle.tN "UNASSIGNED_STACK" Bundle.steD)) (by decide +kernel)) hA
  · exact vx_Zqof (htt (.laysStatic Bundle.tN "SUPPRESSED_SENTINEL" Bundle.listD) (List.mem_append_right _ (List.mem_of_getElem? (i := 174) (by decide +kernel)))) (htt (.initialized Bundle.tN) (List.mem_append_right _ (List.mem_of_getElem? (i := 4) (by decide +kernel)))) (hs (.isRef (.static Bundle.tN "SUPPRESSED_SENTINEL" Bundle.listD)) (by decide +kernel)) hA
  · exact str_R (htt (.stringRef RX0 183 "there is no such element, point, family, colour or function") (List.mem_append_right _ (List.mem_of_getElem? (i := 237) (by decide +kernel)))) (hs (.exactly (.string RX0 183) "java/lang/String") (by decide +kernel))
  · exact str_R (htt (.stringRef RX0 190 "an argument is out of its range") (List.mem_append_right _ (List.mem_of_getElem? (i := 186) (by decide +kernel)))) (hs (.exactly (.string RX0 190) "java/lang/String") (by decide +kernel))
  · exact str_R (htt (.stringRef RX0 195 "this is not asked now") (List.mem_append_right _ (List.mem_of_getElem? (i := 312) (by decide +kernel)))) (hs (.exactly (.string RX0 195) "java/lang/String") (by decide +kernel))
  · intro k
    rcases e3 k with h | h | h <;> rw [h]
    · exact va_Nw.of rfl (htt (.castable "java/lang/IndexOutOfBoundsException" "java/lang/IndexOutOfBoundsException") (List.mem_append_right _ (List.mem_of_getElem? (i := 230) (by decide +kernel))))
    · exact va_Nw.of rfl (htt (.castable "java/lang/IllegalArgumentException" "java/lang/IllegalArgumentException") (List.mem_append_right _ (List.mem_of_getElem? (i := 147) (by decide +kernel))))
    · exact va_Nw.of rfl (htt (.castable "java/lang/IllegalStateException" "java/lang/IllegalStateException") (List.mem_append_right _ (List.mem_of_getElem? (i := 305) (by decide +kernel))))
  · exact va_Nw.of rfl (htt (.declares (Bundle.initS "java/lang/RuntimeException")) (List.mem_append_right _ (List.mem_of_getElem? (i := 149) (by decide +kernel))))
  · exact va_Nw.of rfl (htt (.declares (Bundle.initS "java/lang/Exception")) (List.mem_append_right _ (List.mem_of_getElem? (i := 151) (by decide +kernel))))
  · exact va_Nw.of rfl (htt (.declares (Bundle.initS Bundle.tN)) (List.mem_append_right _ (List.mem_of_getElem? (i := 153) (by decide +kernel))))
  · intro i j hij
    rcases e3 i with h | h | h <;> rcases e3 j with g | g | g <;> rw [h, g] at hij ⊢ <;> first | exact absurd rfl hij | assumption
set_option maxHeartbeats 4000000 in
set_option maxRecDepth 100000 in
theorem start_open (hpure : ∀ (L : Nat) (xs : Nat → Int32), L ≤ 2048 → ∃ (T : St) (r : Int32), f_X1_forgets S0M = some T ∧ f_L_law_23 L xs 520 S0X T (fun _ => 0) 0 = some r)
    {p : Program} {e : Env} {s : State} {m : MethodId} {below : List Frame} {meth : Method} {c : Code} (l : Launch) (hflags : l.flags = flags0) {b L : Nat} {xs : Nat → Int32} (hL : L ≤ 2048) (C0 : lw_At p s m meth c b L xs) : W p l e room_1 s m #[Value.ref b] below meth c s.heap [] 0 0 (lw_Z below #[Value.ref b] s) (entryFrame m ([Value.ref b] : List Value).toArray 7) := by
  obtain ⟨hx, hb, hr, hml, hown, htt, hX, hbl, hlocks, hgv⟩ := id C0
  obtain ⟨T0, r, hfT, hfL⟩ := hpure L xs hL
  obtain ⟨hE, hN⟩ := start_facts htt hgv
  have hfl : l.stackTraces = false := by unfold Launch.stackTraces; rw [hflags]; decide +kernel
  have hown : s.vm.findClass RL = some m.cls := hown
  have hts : ∀ w ∈ wsL_law, w.before #[Value.ref b] s = true := fun w h => htt w (wsL_law_in w h)
  have hA : ∀ q : Nat, s.heap.size ≤ q → (fun q : Nat => s.heap.size ≤ q) q := fun _ h => h
  have iX0 := (htt (.instantiable RX0 12) (List.mem_append_right _ (List.mem_of_getElem? (i := 13) (by decide +kernel))))
  have iX1 := (htt (.instantiable RX1 11) (List.mem_append_right _ (List.mem_of_getElem? (i := 515) (by decide +kernel))))
  obtain ⟨c0, iS0, hKn0⟩ := u_known (C := RX0) (T := TX0) (N := 12) (n := 12) hts inlX0 iX0
  obtain ⟨c1, iS1, hKn1⟩ := u_known (C := RX1) (T := TX1) (N := 11) (n := 11) hts inlX1 iX1
  obtain ⟨dC, dI, hKc⟩ : ∃ (dC : Nat → ClassId) (dI : Nat → Nat → Nat), ∀ (k : Nat) (q : vw_C), vwCl[k]? = some q → u_Kn s q.1 q.2.1 q.2.2 (dC k) (dI k) := by
    refine ⟨fun k => if k = 0 then c0 else c1, fun k => if k = 0 then iS0 else iS1, ?_⟩
    intro k q hq
    match k, hq with
    | 0, hq => cases hq; exact hKn0
    | 1, hq => cases hq; exact hKn1
    | k + 2, hq => simp [vwCl] at hq
  have hK0 : va_K (dC, dI) vwCl [] s := ⟨hKc, fun k q h => by simp at h⟩
  obtain ⟨cA, hK1⟩ := int_K hK0 (htt (.arrayClass .int) (List.mem_append_right _ (List.mem_of_getElem? (i := 60) (by decide +kernel))))
  have hS : va_S (fun q : Nat => s.heap.size ≤ q) s.heap s.heap [] := va_S.rf
  have hP : va_P (dC, dI) vwCl [] s.heap := fun k q h => by simp at h
  have hD : va_D (fun q : Nat => s.heap.size ≤ q) [] := ⟨fun i j p q h => by simp at h, fun k q h => by simp at h⟩
  have hl := lv_entry ([.ref b]) (n := 7) (Nat.le_of_ble_eq_true rfl)
  rw [lg_entry_eq]
  generalize (lg_sl ([.ref b]) ++ List.replicate (7 - (lg_sl ([.ref b])).length) Slot.unset).toArray = ls at hl ⊢
  have hl : lv_has ls 7 [(0, .ref b)] := hl
  refine va_new (ci := 0) (fs := [.int 0, .int 0, .int 0, .null, .null, .null, .null, .null, .null, .null, .null, .null]) (C := RX0) (T := TX0) (N := 12) hx hb hts inlX0 tyX0 tyX0_ok hown (htt (.classLink RL 8 RX0) (List.mem_append_right _ (List.mem_of_getElem? (i := 12) (by decide +kernel)))) iX0 (htt (.initialized RX0) (List.mem_append_right _ (List.mem_of_getElem? (i := 1) (by decide +kernel)))) hK1 hP hD hS hA rfl (fun j hj => by rcases (show j = 0 ∨ j = 1 ∨ j = 2 ∨ j = 3 ∨ j = 4 ∨ j = 5 ∨ j = 6 ∨ j = 7 ∨ j = 8 ∨ j = 9 ∨ j = 10 ∨ j = 11 by omega) with rfl | rfl | rfl | rfl | rfl | rfl | rfl | rfl | rfl | rfl | rfl | rfl <;> rfl) (Nat.le_of_ble_eq_true rfl) (Nat.le_of_ble_eq_true rfl) dL_law_0 (fun qx H hP hD hS => ?_)
  refine lv_dup hx hb dL_law_3 rfl ?_
  have hPx1 : va_P (dC, dI) vwCl [(qx, .inr (0, [.int 0, .int 0, .int 0, .null, .null, .null, .null, .null, .null, .null, .null, .null]))] H := hP
  have hqx : s.heap.size ≤ qx := hD.2 0 _ rfl
  refine mu_callC (mc := 9) (ms := 602) (v0 := none) (A1 := fun z => z = qx ∨ H.size ≤ z) (A0 := fun q => s.heap.size ≤ q) (B := fun t => ∃ a : Nat → Nat, a 0 = qx ∧ apart a 10 ∧ (∀ k, 0 < k → k < 10 → H.size ≤ a k) ∧ va_P (dC, dI) vwCl (wX cA a S0X) t.heap) (av := #[]) (va_runI (As := []) (rest := [.ref qx]) ⟨hx, hb, hml, hown, hts⟩ (k_X0_init l dC dI cA qx H.size) (cwI 0 hts gL_law_X0_init rfl rfl rfl (htt (.initialized RX0) (List.mem_append_right _ (List.mem_of_getElem? (i := 1) (by decide +kernel)))) (htt (.methodLink RL 87 yX0_init) (List.mem_append_right _ (List.mem_of_getElem? (i := 14) (by decide +kernel)))) (htt (.instanceMethod yX0_init) (List.mem_append_right _ (List.mem_of_getElem? (i := 15) (by decide +kernel)))) rfl (by decide +kernel) ⟨Nat.le_of_ble_eq_true rfl, Nat.le_of_ble_eq_true rfl⟩) ⟨fun x U g mk h => ⟨h.1, h.2.1, h.2.2.1, va_K.moved (u := U) (U := U.calling g mk x) (Vm.Alike.refl U.vm) h.2.2.2⟩, fun U hU hW => ⟨rfl, by rw [hU], by rw [hU]; exact hPx1, va_K.moved hW.alike hK1⟩⟩ rfl rfl hl.1 rfl (lv_room (Nat.le_of_ble_eq_true rfl)) dL_law_4 ⟨Nat.le_of_ble_eq_true rfl, Nat.le_of_ble_eq_true rfl⟩) hS (fun z h => by
    rcases h with h | h
    · show s.heap.size ≤ z
      rw [h]; exact hqx
    · exact Nat.le_trans hS.1 h) (fun t H1 locs ht hB hk hS1 => ?_)
  obtain ⟨a, ha0, hapa, hag, hPx⟩ := hB
  rw [ht] at hPx
  have hqxl : qx < H.size := (hPx1 0 _ rfl).lt
  have hsz0 : H.size ≤ H1.size := by
    rcases Nat.lt_or_ge H1.size H.size with h | h
    · have h2 := (hPx 1 _ rfl).lt
      have h3 := hag 1 (by omega) (by omega)
      exact absurd h2 (by show ¬ a 1 < H1.size; omega)
    · exact h
  have hal : ∀ k, k < 10 → s.heap.size ≤ a k := fun k hk => by
    rcases Nat.eq_zero_or_pos k with h | h
    · rw [h, ha0]; exact hqx
    · exact Nat.le_trans hS.1 (hag k h hk)
  have hal1 : ∀ k, k < 10 → a k < H1.size := fun k hk => by
    obtain ⟨q, h1, h2⟩ := wX_get cA a S0X k hk
    rw [← h2]; exact (hPx k q h1).lt
  clear hP hD hS hk ht hPx1
  have hS := hS1
  generalize H1 = H at hPx hS hal1 ⊢
  rw [← ha0]
  refine lv_astore_n (lv' := [(1, .ref (a 0)), (0, .ref b)]) hx hb dL_law_7 rfl hl (by decide) rfl (fun ls hl => ?_)
  have hP : va_P (dC, dI) vwCl [] H := fun k q h => by simp at h
  have hD : va_D (fun q : Nat => s.heap.size ≤ q) [] := ⟨fun i j p q h => by simp at h, fun k q h => by simp at h⟩
  have hP : va_P (dC, dI) vwCl (wX cA a S0X) H := hPx
  have hD : va_D (fun q : Nat => s.heap.size ≤ q) (wX cA a S0X) := (dX S0X hapa).weaken (fun k q _ h => by obtain ⟨i, hi, e⟩ := h; show s.heap.size ≤ q.1; rw [e]; exact hal i hi)
  refine va_new (ci := 1) (fs := [.int 0, .null, .null, .null, .null, .null, .int 0, .null, .int 0, .null, .int 0]) (C := RX1) (T := TX1) (N := 11) hx hb hts inlX1 tyX1 tyX1_ok hown (htt (.classLink RL 88 RX1) (List.mem_append_right _ (List.mem_of_getElem? (i := 514) (by decide +kernel)))) iX1 (htt (.initialized RX1) (List.mem_append_right _ (List.mem_of_getElem? (i := 3) (by decide +kernel)))) hK1 hP hD hS hA rfl (fun j hj => by rcases (show j = 0 ∨ j = 1 ∨ j = 2 ∨ j = 3 ∨ j = 4 ∨ j = 5 ∨ j = 6 ∨ j = 7 ∨ j = 8 ∨ j = 9 ∨ j = 10 by omega) with rfl | rfl | rfl | rfl | rfl | rfl | rfl | rfl | rfl | rfl | rfl <;> rfl) (Nat.le_of_ble_eq_true rfl) (Nat.le_of_ble_eq_true rfl) dL_law_8 (fun qm H hP hD hS => ?_)
  have hPm1 : va_P (dC, dI) vwCl [(qm, .inr (1, [.int 0, .null, .null, .null, .null, .null, .int 0, .null, .int 0, .null, .int 0]))] H := hP.sub [10] rfl
  have hPx : va_P (dC, dI) vwCl (wX cA a S0X) H := fun k q hq => hP k q (by rw [List.getElem?_append_left (by exact (wX_at cA a S0X k q hq).1)]; exact hq)
  have hqm : s.heap.size ≤ qm := hD.2 10 _ rfl
  have hxm : ∀ i, i < 10 → a i ≠ qm := fun i hi h => by
    obtain ⟨q, h1, h2⟩ := wX_get cA a S0X i hi
    have h3 := hD.1 i 10 q (qm, .inr (1, [.int 0, .null, .null, .null, .null, .null, .int 0, .null, .int 0, .null, .int 0])) (by rw [List.getElem?_append_left (by exact hi)]; exact h1) rfl (by rw [h2]; exact h)
    omega
  have halH : ∀ k, k < 10 → a k < H.size := fun k hk => by
    obtain ⟨q, h1, h2⟩ := wX_get cA a S0X k hk
    rw [← h2]; exact (hPx k q h1).lt
  refine lv_dup hx hb dL_law_11 rfl ?_
  refine mu_callC (mc := 7) (ms := 590) (v0 := none) (A1 := fun z => z = qm ∨ H.size ≤ z) (A0 := fun q => s.heap.size ≤ q) (B := fun t => ∃ a : Nat → Nat, a 0 = qm ∧ apart a 8 ∧ (∀ k, 0 < k → k < 8 → H.size ≤ a k) ∧ va_P (dC, dI) vwCl (wM cA a T0) t.heap) (av := #[]) (va_runI (As := []) (rest := [.ref qm]) ⟨hx, hb, hml, hown, hts⟩ (k_X1_init l dC dI cA qm H.size T0 hfT) (cwI 0 hts gL_law_X1_init rfl rfl rfl (htt (.initialized RX1) (List.mem_append_right _ (List.mem_of_getElem? (i := 3) (by decide +kernel)))) (htt (.methodLink RL 90 yX1_init) (List.mem_append_right _ (List.mem_of_getElem? (i := 516) (by decide +kernel)))) (htt (.instanceMethod yX1_init) (List.mem_append_right _ (List.mem_of_getElem? (i := 517) (by decide +kernel)))) rfl (by decide +kernel) ⟨Nat.le_of_ble_eq_true rfl, Nat.le_of_ble_eq_true rfl⟩) ⟨fun x U g mk h => ⟨h.1, h.2.1, h.2.2.1, va_K.moved (u := U) (U := U.calling g mk x) (Vm.Alike.refl U.vm) h.2.2.2⟩, fun U hU hW => ⟨rfl, by rw [hU], by rw [hU]; exact hPm1, va_K.moved hW.alike hK1⟩⟩ rfl rfl hl.1 rfl (lv_room (Nat.le_of_ble_eq_true rfl)) dL_law_12 ⟨Nat.le_of_ble_eq_true rfl, Nat.le_of_ble_eq_true rfl⟩) hS (fun z h => by
    rcases h with h | h
    · show s.heap.size ≤ z
      rw [h]; exact hqm
    · exact Nat.le_trans hS.1 h) (fun t H1 locs ht hB hk hS1 => ?_)
  obtain ⟨b2, hb0, hapb, hbg, hPm⟩ := hB
  rw [ht] at hPm
  have hPx : va_P (dC, dI) vwCl (wX cA a S0X) H1 := kept_but hPx hk (fun k q hq h => by
    obtain ⟨h1, h2⟩ := wX_at cA a S0X k q hq
    rcases h with h | h
    · exact hxm k h1 (by rw [← h2]; exact h)
    · have h3 := halH k h1
      rw [← h2] at h3
      omega)
  have hbl8 : ∀ k, k < 8 → s.heap.size ≤ b2 k := fun k hk => by
    rcases Nat.eq_zero_or_pos k with h | h
    · rw [h, hb0]; exact hqm
    · exact Nat.le_trans hS.1 (hbg k h hk)
  have hab : ∀ i j, i < 10 → j < 8 → a i ≠ b2 j := fun i j hi hj h => by
    rcases Nat.eq_zero_or_pos j with g | g
    · rw [g, hb0] at h; exact hxm i hi h
    · have h1 := halH i hi
      have h2 := hbg j g hj
      omega
  clear hP hD hS hk ht hPm1
  have hS := hS1
  generalize H1 = H at hPx hPm hS ⊢
  rw [← hb0]
  refine lv_astore_n (lv' := [(2, .ref (b2 0)), (1, .ref (a 0)), (0, .ref b)]) hx hb dL_law_15 rfl hl (by decide) rfl (fun ls hl => ?_)
  refine lv_iconst (v := 1) hx hb dL_law_16 (by decide) ?_
  have hP : va_P (dC, dI) vwCl (wX cA a S0X ++ wM cA b2 T0) H := hPx.app hPm
  have hD : va_D (fun q : Nat => s.heap.size ≤ q) (wX cA a S0X ++ wM cA b2 T0) := va_D.app ((dX S0X hapa).weaken (fun k q _ h => by obtain ⟨i, hi, e⟩ := h; show s.heap.size ≤ q.1; rw [e]; exact hal i hi)) ((dM T0 hapb).weaken (fun k q _ h => by obtain ⟨i, hi, e⟩ := h; show s.heap.size ≤ q.1; rw [e]; exact hbl8 i hi)) (fun i j p q hi hj e => by
    obtain ⟨h1, h2⟩ := wX_at cA a S0X i p hi
    obtain ⟨h3, h4⟩ := wM_at cA b2 T0 j q hj
    exact hab i j h1 h3 (by rw [← h2, ← h4]; exact e))
  refine va_newa (atype := .long) (ty := .long) (n := 1) (N' := 1) (a0 := (1, .inr (.inl (fun _ => 0)))) hx hb (htt (.arrayClass .long) (List.mem_append_right _ (List.mem_of_getElem? (i := 727) (by decide +kernel)))) rfl hK1 hP hD hS hA (fun _ => rfl) (by decide) (by decide) (Nat.le_of_ble_eq_true rfl) (Nat.le_of_ble_eq_true rfl) (Nat.le_of_ble_eq_true rfl) dL_law_17 (fun oa cL H hK hP hD hS => ?_)
  have hK : va_K (dC, dI) vwCl [(cA, .int), (cL, .long)] s := hK
  have hLW : LW (dC, dI) cA cL a b2 oa S0X T0 (fun _ => 0) H := ⟨fun k q hq => hP k q (by
      have h1 := (wX_at cA a S0X k q hq).1
      rw [List.getElem?_append_left (by show k < 18; omega), List.getElem?_append_left (by exact h1)]; exact hq), fun k q hq => hP (10 + k) q (by
      have h1 := (wM_at cA b2 T0 k q hq).1
      rw [List.getElem?_append_left (by show 10 + k < 18; omega), List.getElem?_append_right (by show 10 ≤ 10 + k; omega)]
      show (wM cA b2 T0)[10 + k - 10]? = some q
      rw [show 10 + k - 10 = k by omega]; exact hq), fun k q hq => by
      cases k with
      | zero => cases hq; exact hP 18 _ rfl
      | succ k => simp [wO] at hq⟩
  have hao : ∀ k, k < 10 → a k ≠ oa := fun k hk h => by
    obtain ⟨q, h1, h2⟩ := wX_get cA a S0X k hk
    have h3 := hD.1 k 18 q (oa, .inl (cL, 1, .inr (.inl (fun _ => 0)))) (by rw [List.getElem?_append_left (by show k < 18; omega), List.getElem?_append_left (by exact hk)]; exact h1) rfl (by rw [h2]; exact h)
    omega
  have hbo : ∀ k, k < 8 → b2 k ≠ oa := fun k hk h => by
    obtain ⟨q, h1, h2⟩ := wM_get cA b2 T0 k hk
    have h3 := hD.1 (10 + k) 18 q (oa, .inl (cL, 1, .inr (.inl (fun _ => 0)))) (by
      rw [List.getElem?_append_left (by show 10 + k < 18; omega), List.getElem?_append_right (by show 10 ≤ 10 + k; omega)]
      show (wM cA b2 T0)[10 + k - 10]? = some q
      rw [show 10 + k - 10 = k by omega]; exact h1) rfl (by rw [h2]; exact h)
    omega
  have hF : LF s a b2 oa := ⟨hapa, hapb, hao, hbo, hab, hal, hbl8, hD.2 18 _ rfl⟩
  refine lv_astore_n (lv' := [(3, .ref oa), (2, .ref (b2 0)), (1, .ref (a 0)), (0, .ref b)]) hx hb dL_law_19 rfl hl (by decide) rfl (fun ls hl => ?_)
  refine lv_iconst (v := 0) hx hb dL_law_20 (by decide) ?_
  refine lv_istore (lv' := [(4, .int 0), (3, .ref oa), (2, .ref (b2 0)), (1, .ref (a 0)), (0, .ref b)]) hx hb dL_law_21 hl (by decide) rfl (fun ls hl => ?_)
  refine W.widen (k := 19) (n := 1216) (Nat.le_of_ble_eq_true rfl) (Nat.le_of_ble_eq_true rfl) ?_
  exact law_loop hfl C0 hK hF hE hN r 520 19 1216 S0X T0 (fun _ => 0) 0 _ _ (by omega) (by omega) ls hfL hLW hS (lv_sub hl [4, 3, 2, 1, 0] rfl)

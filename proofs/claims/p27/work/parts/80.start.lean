/-! The law from its entry: what the tables and the start give, the two objects, the answer's row, the loop. -/
theorem int_K {D : va_G} {cl : List vw_C} {s : State} {args : Array Value} (hK : va_K D cl [] s) (h : (Cond.arrayClass .int).before args s = true) : ∃ cA : ClassId, va_K D cl [(cA, .int)] s := by
  obtain ⟨c, k, comp, h1, h2, h3⟩ := Cond.arrayClass_spec h
  refine ⟨c, hK.1, fun i q hq => ?_⟩
  cases i with
  | zero => cases hq; exact ⟨fun n z => ⟨fun k h => (by cases h), k, h2, comp, h3⟩, h1⟩
  | succ i => simp at hq
theorem str_R {own tx : String} {k : Nat} {s : State} {args : Array Value} (h1 : (Cond.stringRef own k tx).before args s = true) (h2 : (Cond.exactly (.string own k) "java/lang/String").before args s = true) : ∃ sa, vk_R own k tx sa s := by
  obtain ⟨a, c, cell, k, h3, -⟩ := Cond.exactly_spec h2
  exact ⟨a, vk_R.of h1 h3⟩
set_option maxHeartbeats 4000000 in
set_option maxRecDepth 100000 in
theorem start_facts {s : State} {sb : Nat} (htt : ∀ w ∈ lw_tbl, w.before #[Value.ref sb] s = true) (hgv : (Jvm.Cond.and given_1 narrow_1).before #[Value.ref sb] s = true) : TXo (fun q => s.heap.size ≤ q) s ∧ NCs s := by
  have hs := flat_of_before _ hgv
  have hA : ∀ a : Nat, a < s.heap.size → ¬ (fun q : Nat => s.heap.size ≤ q) a := fun a h => Nat.not_le.mpr h
  have n12 : va_Nc "java/lang/IndexOutOfBoundsException" "java/lang/IllegalArgumentException" s := va_Nc.of (hs (.not (.castable "java/lang/IndexOutOfBoundsException" "java/lang/IllegalArgumentException")) (by decide +kernel))
  have n13 : va_Nc "java/lang/IndexOutOfBoundsException" "java/lang/IllegalStateException" s := va_Nc.of (hs (.not (.castable "java/lang/IndexOutOfBoundsException" "java/lang/IllegalStateException")) (by decide +kernel))
  have n21 : va_Nc "java/lang/IllegalArgumentException" "java/lang/IndexOutOfBoundsException" s := va_Nc.of (hs (.not (.castable "java/lang/IllegalArgumentException" "java/lang/IndexOutOfBoundsException")) (by decide +kernel))
  have n23 : va_Nc "java/lang/IllegalArgumentException" "java/lang/IllegalStateException" s := va_Nc.of (hs (.not (.castable "java/lang/IllegalArgumentException" "java/lang/IllegalStateException")) (by decide +kernel))
  have n31 : va_Nc "java/lang/IllegalStateException" "java/lang/IndexOutOfBoundsException" s := va_Nc.of (hs (.not (.castable "java/lang/IllegalStateException" "java/lang/IndexOutOfBoundsException")) (by decide +kernel))
  have n32 : va_Nc "java/lang/IllegalStateException" "java/lang/IllegalArgumentException" s := va_Nc.of (hs (.not (.castable "java/lang/IllegalStateException" "java/lang/IllegalArgumentException")) (by decide +kernel))
  have e3 : ∀ k : Nat, excN k = "java/lang/IndexOutOfBoundsException" ∨ excN k = "java/lang/IllegalArgumentException" ∨ excN k = "java/lang/IllegalStateException" := fun k => by
    unfold excN
    by_cases h1 : k = 1
    · rw [if_pos h1]; exact Or.inl rfl
    · rw [if_neg h1]
      by_cases h2 : k = 2
      · rw [if_pos h2]; exact Or.inr (Or.inl rfl)
      · rw [if_neg h2]; exact Or.inr (Or.inr rfl)
  refine ⟨⟨?_, ?_, ?_, ?_, ?_, ?_, ?_, ?_, ?_⟩, ?_⟩
  · exact vx_Zqof (htt (.laysStatic Bundle.tN "UNASSIGNED_STACK" Bundle.steD) (List.mem_append_right _ (List.mem_of_getElem? (i := 97) (by decide +kernel)))) (htt (.initialized Bundle.tN) (List.mem_append_right _ (List.mem_of_getElem? (i := 4) (by decide +kernel)))) (hs (.isRef (.static Bundle.tN "UNASSIGNED_STACK" Bundle.steD)) (by decide +kernel)) hA
  · exact vx_Zqof (htt (.laysStatic Bundle.tN "SUPPRESSED_SENTINEL" Bundle.listD) (List.mem_append_right _ (List.mem_of_getElem? (i := 99) (by decide +kernel)))) (htt (.initialized Bundle.tN) (List.mem_append_right _ (List.mem_of_getElem? (i := 4) (by decide +kernel)))) (hs (.isRef (.static Bundle.tN "SUPPRESSED_SENTINEL" Bundle.listD)) (by decide +kernel)) hA
  · exact str_R (htt (.stringRef RX0 183 "there is no such element, point, family, colour or function") (List.mem_append_right _ (List.mem_of_getElem? (i := 158) (by decide +kernel)))) (hs (.exactly (.string RX0 183) "java/lang/String") (by decide +kernel))
  · exact str_R (htt (.stringRef RX0 190 "an argument is out of its range") (List.mem_append_right _ (List.mem_of_getElem? (i := 111) (by decide +kernel)))) (hs (.exactly (.string RX0 190) "java/lang/String") (by decide +kernel))
  · exact str_R (htt (.stringRef RX0 195 "this is not asked now") (List.mem_append_right _ (List.mem_of_getElem? (i := 262) (by decide +kernel)))) (hs (.exactly (.string RX0 195) "java/lang/String") (by decide +kernel))
  · intro k
    rcases e3 k with h | h | h <;> rw [h]
    · exact va_Nw.of rfl (htt (.castable "java/lang/IndexOutOfBoundsException" "java/lang/IndexOutOfBoundsException") (List.mem_append_right _ (List.mem_of_getElem? (i := 151) (by decide +kernel))))
    · exact va_Nw.of rfl (htt (.castable "java/lang/IllegalArgumentException" "java/lang/IllegalArgumentException") (List.mem_append_right _ (List.mem_of_getElem? (i := 72) (by decide +kernel))))
    · exact va_Nw.of rfl (htt (.castable "java/lang/IllegalStateException" "java/lang/IllegalStateException") (List.mem_append_right _ (List.mem_of_getElem? (i := 255) (by decide +kernel))))
  · exact va_Nw.of rfl (htt (.declares (Bundle.initS "java/lang/RuntimeException")) (List.mem_append_right _ (List.mem_of_getElem? (i := 74) (by decide +kernel))))
  · exact va_Nw.of rfl (htt (.declares (Bundle.initS "java/lang/Exception")) (List.mem_append_right _ (List.mem_of_getElem? (i := 76) (by decide +kernel))))
  · exact va_Nw.of rfl (htt (.declares (Bundle.initS Bundle.tN)) (List.mem_append_right _ (List.mem_of_getElem? (i := 78) (by decide +kernel))))
  · intro i j hij
    rcases e3 i with h | h | h <;> rcases e3 j with g | g | g <;> rw [h, g] at hij ⊢ <;> first | exact absurd rfl hij | assumption
theorem pure_law {L : Nat} {xs : Nat → Int32} (hL : L ≤ 260) : f_L_law L xs = some 1 := by
  unfold f_L_law
  rw [gp_guild, Option.bind_some]
  obtain ⟨_, _, _, h⟩ := fresh
  exact law_run hL 81 0 S0X 4 0 0 h (by omega) (by omega)
set_option maxHeartbeats 4000000 in
set_option maxRecDepth 100000 in
theorem whole_start {p : Program} {e : Env} {s : State} {m : MethodId} {below : List Frame} {meth : Method} {c : Code} (l : Launch) (hflags : l.flags = flags0) {b L : Nat} {xs : Nat → Int32} (hL : L ≤ 260) (C0 : lw_At p s m meth c b L xs) : W p l e room_1 s m #[Value.ref b] below meth c s.heap [] 0 0 (lw_Z below #[Value.ref b] s) (entryFrame m ([Value.ref b] : List Value).toArray 14) := by
  obtain ⟨hx, hb, hr, hml, hown, htt, hX, hbl, hlocks, hgv⟩ := id C0
  obtain ⟨hE, hN⟩ := start_facts htt hgv
  have hfl : l.stackTraces = false := by unfold Launch.stackTraces; rw [hflags]; decide +kernel
  have hts : ∀ w ∈ wsL_law, w.before #[Value.ref b] s = true := fun w h => htt w (wsL_law_in w h)
  have iX0 := (htt (.instantiable RX0 12) (List.mem_append_right _ (List.mem_of_getElem? (i := 12) (by decide +kernel))))
  obtain ⟨c0, iS0, hKn0⟩ := u_known (C := RX0) (T := TX0) (N := 12) (n := 12) hts inlX0 iX0
  obtain ⟨dC, dI, hKc⟩ : ∃ (dC : Nat → ClassId) (dI : Nat → Nat → Nat), ∀ (k : Nat) (q : vw_C), vwCl[k]? = some q → u_Kn s q.1 q.2.1 q.2.2 (dC k) (dI k) := by
    refine ⟨fun _ => c0, fun _ => iS0, ?_⟩
    intro k q hq
    match k, hq with
    | 0, hq => cases hq; exact hKn0
    | k + 1, hq => simp [vwCl] at hq
  have hK0 : va_K (dC, dI) vwCl [] s := ⟨hKc, fun k q h => by simp at h⟩
  obtain ⟨cA, hK1⟩ := int_K hK0 (htt (.arrayClass .int) (List.mem_append_right _ (List.mem_of_getElem? (i := 59) (by decide +kernel))))
  have hl := lv_entry ([.ref b]) (n := 14) (Nat.le_of_ble_eq_true rfl)
  rw [lg_entry_eq]
  generalize (lg_sl ([.ref b]) ++ List.replicate (14 - (lg_sl ([.ref b])).length) Slot.unset).toArray = ls at hl ⊢
  have hl : lv_has ls 14 [(0, .ref b)] := hl
  exact law_walk hfl C0 hK1 hE hN 1 (pure_law hL) ls hl

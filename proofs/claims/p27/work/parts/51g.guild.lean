def f_L_guild_952 (S : St) : Option Int32 := ((f_L_six).bind fun u1 => some 1)
def f_L_guild_852 (S : St) : Option Int32 := (xv (f_X0_isLawful S 7) fun v1 S2 => (if v1 = 0 then none else (xv (f_X0_rises S2 7) fun v4 S5 => (if v4 = 0 then none else ((f_L_act S5 6 3 0 0).bind fun q7 => (if q7.1 = (-7000003) then ((f_L_act q7.2 7 0 0 0).bind fun q9 => (if q9.1 = (-7000003) then ((f_L_act q9.2 8 0 0 0).bind fun q11 => (if q11.1 = (-7000003) then ((f_L_act q11.2 9 0 0 0).bind fun q13 => (if q13.1 = (-7000003) then ((f_L_refuses q13.2 4 8).bind fun q15 => ((f_L_greed q15).bind fun q17 => ((f_L_orders q17).bind fun q19 => (f_L_guild_952 q19)))) else none)) else none)) else none)) else none))))))
def f_L_guild_756 (S : St) : Option Int32 := (xv (f_X0_colour S 0 0 1) fun v1 S2 => (if v1 = 0 then (xv (f_X0_colour S2 0 1 1) fun v4 S5 => (if v4 = 0 then (xv (f_X0_colour S5 0 2 2) fun v7 S8 => (if v7 = 0 then (xv (f_X0_colour S8 0 3 2) fun v10 S11 => (if v10 = 0 then (xv (f_X0_room S11 0 1 2) fun v13 S14 => (if v13 = 1 then (xv (f_X0_make S14 2) fun v16 S17 => (if v16 = 7 then (xv (f_X0_value S17 7 15) fun v19 S20 => (if v19 = 3 then (xv (f_X0_value S20 7 12) fun v22 S23 => (if v22 = 1 then (xv (f_X0_value S23 7 3) fun v25 S26 => (if v25 = 2 then (f_L_guild_852 S26) else none)) else none)) else none)) else none)) else none)) else none)) else none)) else none)) else none))
def f_L_guild_650 (S : St) : Option Int32 := (xv (f_X0_rises S 5) fun v1 S2 => (if v1 = 0 then none else (xv (f_X0_cap S2 2 0) fun v4 S5 => (if v4 = 6 then (xv (f_X0_value S5 6 2) fun v7 S8 => (if v7 = 0 then (xv (f_X0_value S8 6 3) fun v10 S11 => (if v10 = (-1) then (xv (f_X0_value S11 6 1) fun v13 S14 => (if v13 = (-4) then (xv (f_X0_isLawful S14 6) fun v16 S17 => (if v16 = 0 then ((f_L_act S17 13 6 0 0).bind fun q19 => (if q19.1 = (-7000003) then ((f_L_act q19.2 14 6 1 0).bind fun q21 => (if q21.1 = (-7000003) then ((f_L_act q21.2 15 6 0 0).bind fun q23 => (if q23.1 = (-7000003) then (f_L_guild_756 q23.2) else none)) else none)) else none)) else none)) else none)) else none)) else none)) else none))))
def f_L_guild_555 (S : St) : Option Int32 := (xv (f_X0_value S 4 2) fun v1 S2 => (if v1 = (-2) then (xv (f_X0_value S2 4 3) fun v4 S5 => (if v4 = (-2) then (xv (f_X0_value S5 4 14) fun v7 S8 => (if v7 = (-7) then (xv (f_X0_isLawful S8 4) fun v10 S11 => (if v10 = 0 then none else ((f_L_least S11 4 (-7) 14 15).bind fun q13 => (xv (f_X0_cap q13 0 2) fun v15 S16 => (if v15 = 5 then (xv (f_X0_value S16 5 15) fun v18 S19 => (if v18 = 2 then (xv (f_X0_value S19 5 4) fun v21 S22 => (if v21 = 1 then (xv (f_X0_isLawful S22 5) fun v24 S25 => (if v24 = 0 then none else (f_L_guild_650 S25))) else none)) else none)) else none))))) else none)) else none)) else none))
def f_L_guild_462 (S : St) : Option Int32 := (xv (f_X0_value S 3 1) fun v1 S2 => (if v1 = 3 then (xv (f_X0_value S2 3 7) fun v4 S5 => (if v4 = 0 then (xv (f_X0_value S5 3 9) fun v7 S8 => (if v7 = 1 then (xv (f_X0_value S8 3 15) fun v10 S11 => (if v10 = (-2) then (xv (f_X0_isLawful S11 3) fun v13 S14 => (if v13 = 0 then none else ((f_L_least S14 3 (-2) 15 15).bind fun q16 => (xv (f_X0_contract q16 1 1) fun v18 S19 => (if v18 = 4 then (xv (f_X0_value S19 4 0) fun v21 S22 => (if v21 = 0 then (xv (f_X0_value S22 4 1) fun v24 S25 => (if v24 = 0 then (f_L_guild_555 S25) else none)) else none)) else none))))) else none)) else none)) else none)) else none))
def f_L_guild_368 (S : St) : Option Int32 := (xv (f_X0_weigh S 2 9) fun v1 S2 => (if v1 = 0 then (xv (f_X0_weigh S2 2 (-1)) fun v4 S5 => (if v4 = 9 then (xv (f_X0_make S5 4) fun v7 S8 => (if v7 = 2 then (xv (f_X0_value S8 2 15) fun v10 S11 => (if v10 = (-2) then (xv (f_X0_value S11 2 10) fun v13 S14 => (if v13 = 3 then (xv (f_X0_isLawful S14 2) fun v16 S17 => (if v16 = 0 then none else (xv (f_X0_rises S17 2) fun v19 S20 => (if v19 = 0 then ((f_L_least S20 2 (-5) 5 13).bind fun q22 => (xv (f_X0_sum q22 1 2) fun v24 S25 => (if v24 = 3 then (f_L_guild_462 S25) else none))) else none)))) else none)) else none)) else none)) else none)) else none))
def f_L_guild_278 (S : St) : Option Int32 := (xv (f_X0_value S 1 2) fun v1 S2 => (if v1 = 8 then (xv (f_X0_value S2 1 3) fun v4 S5 => (if v4 = 5 then (xv (f_X0_value S5 1 10) fun v7 S8 => (if v7 = 10 then (xv (f_X0_value S8 1 15) fun v10 S11 => (if v10 = 0 then (xv (f_X0_isLawful S11 1) fun v13 S14 => (if v13 = 0 then none else (xv (f_X0_rises S14 1) fun v16 S17 => (if v16 = 0 then ((f_L_least S17 1 0 0 15).bind fun q19 => (xv (f_X0_weigh q19 0 (-4)) fun v21 S22 => (if v21 = 0 then (xv (f_X0_weigh S22 1 3) fun v24 S25 => (if v24 = 0 then (f_L_guild_368 S25) else none)) else none))) else none)))) else none)) else none)) else none)) else none))
def f_L_guild_184 (S : St) : Option Int32 := ((f_L_least S 0 0 0 0).bind fun q1 => (xv (f_X0_cover q1 0 0 0) fun v3 S4 => (if v3 = 0 then none else (xv (f_X0_value S4 0 1) fun v6 S7 => (if v6 = 2 then (xv (f_X0_edge S7 0 1 4) fun v9 S10 => (if v9 = 0 then (xv (f_X0_edge S10 1 0 5) fun v12 S13 => (if v12 = 4 then (xv (f_X0_edge S13 1 2 3) fun v15 S16 => (if v15 = 0 then (xv (f_X0_edge S16 0 3 2) fun v18 S19 => (if v18 = 0 then (xv (f_X0_make S19 1) fun v21 S22 => (if v21 = 1 then (xv (f_X0_value S22 1 1) fun v24 S25 => (if v24 = 7 then (f_L_guild_278 S25) else none)) else none)) else none)) else none)) else none)) else none)) else none)))))
def f_L_guild_97 (S : St) : Option Int32 := (xv (f_X0_cover S 3 8 0) fun v1 S2 => (if v1 = 0 then none else (xv (f_X0_cover S2 3 9 1) fun v4 S5 => (if v4 = 0 then none else (xv (f_X0_make S5 0) fun v7 S8 => (if v7 = 0 then (xv (f_X0_value S8 0 0) fun v10 S11 => (if v10 = 0 then (xv (f_X0_value S11 0 3) fun v13 S14 => (if v13 = 3 then (xv (f_X0_value S14 0 6) fun v16 S17 => (if v16 = 2 then (xv (f_X0_value S17 0 15) fun v19 S20 => (if v19 = 4 then (xv (f_X0_isLawful S20 0) fun v22 S23 => (if v22 = 0 then none else (xv (f_X0_rises S23 0) fun v25 S26 => (if v25 = 0 then none else (f_L_guild_184 S26))))) else none)) else none)) else none)) else none)) else none))))))
def f_L_guild : Option Int32 := ((f_L_refuses S0X 4 0).bind fun q1 => ((f_X0_common q1).bind fun q3 => (if q3.1 = 1 then (xv (f_X0_cover q3.2 0 0 1) fun v5 S6 => (if v5 = 0 then (xv (f_X0_cover S6 0 1 1) fun v8 S9 => (if v8 = 0 then (xv (f_X0_cover S9 1 1 1) fun v11 S12 => (if v11 = 0 then (xv (f_X0_cover S12 1 2 1) fun v14 S15 => (if v14 = 0 then (xv (f_X0_cover S15 2 2 1) fun v17 S18 => (if v17 = 0 then (xv (f_X0_cover S18 3 9 1) fun v20 S21 => (if v20 = 0 then (xv (f_X0_cover S21 3 8 1) fun v23 S24 => (if v23 = 0 then (f_L_guild_97 S24) else none)) else none)) else none)) else none)) else none)) else none)) else none)) else none)))
theorem cd_L_guild : yL_guild.cls ≠ "java/lang/invoke/MethodHandle" ∧ yL_guild.cls ≠ "java/lang/invoke/VarHandle" ∧ (parseMethodDescriptor yL_guild.desc).map (fun d => d.parameters.length) = some 0 := by decide +kernel
set_option maxHeartbeats 16000000 in
set_option maxRecDepth 100000 in
theorem k_L_guild (l : Launch) (hfl : l.stackTraces = false) (dC : Nat → ClassId) (dI : Nat → Nat → Nat) (cA : ClassId) (r : Int32) (hf : f_L_guild = some r) : Met l yL_guild wsL_guild ({ frames := 16, cells := 4350, slots := 27208, locals := 443 }) (va_Pc [] (PGs (dC, dI) cA)) gQ 4350 27208 (fun _ => False) := by
  refine Met.ofW (cc := cL_guild) (maxL := 1) (ret := (some .boolean)) (by decide) rfl ?_
  intro p e s m args below meth c s₁ B hml hv
  obtain ⟨rfl, hK, hE, hN⟩ := hv
  have hx := B.exec
  have hb := B.bytes
  have hr := B.returns
  have hts := atoms_spec (ws := wsL_guild) B.pre
  have hown : s.vm.findClass RL = some m.cls := findClass_of_methodNamed B.named
  have hlocks := B.notSynchronized
  have hS : va_S (fun q => s.heap.size ≤ q) s.heap s.heap [] := va_S.rf
  have hinl : ∀ w ∈ u_ws RX0 TX0 12, w ∈ wsL_guild := fun _ h => List.mem_cons_of_mem _ (List.mem_append_left _ (List.mem_append_left _ (List.mem_append_left _ (List.mem_append_right _ h))))
  have hl := lv_entry ([]) (n := 1) (Nat.le_of_ble_eq_true rfl)
  rw [lg_entry_eq]
  generalize (lg_sl ([]) ++ List.replicate (1 - (lg_sl ([])).length) Slot.unset).toArray = ls at hl ⊢
  have hl : lv_has ls 1 [] := hl
  have hw0 := hts (.classLink RL 8 RX0) (by decide +kernel)
  have hw1 := hts (.instantiable RX0 12) (by decide +kernel)
  have hw2 := hts (.initialized RX0) (by decide +kernel)
  have hw3 := hts (.methodLink RL 104 yX0_init) (by decide +kernel)
  have hw4 := hts (.instanceMethod yX0_init) (by decide +kernel)
  have hw5 := hts (.constant RL 89 (-7000003)) (by decide +kernel)
  unfold f_L_guild at hf
  refine lc_new (cc := cL_guild) ⟨hx, hb, hml, hown, hts⟩ hinl hw0 hw1 hw2 gL_guild_X0_init hw3 hw4 (Nat.le_of_ble_eq_true rfl) (Nat.le_of_ble_eq_true rfl) hl.1 (Nat.le_of_ble_eq_true rfl) (by show 0 + 10 ≤ 4350; omega) (by show 0 + 614 ≤ 27208; omega) dL_guild_0 dL_guild_3 dL_guild_4 hK hS (fun a H locs hap hA hP hS => ?_)
  have hW952 : ∀ (C Z : Nat) (S : St) (H : Heap) (locs : List Loc) (ls : Array Slot), C + (1478) ≤ 4350 → Z + (9422) ≤ 27208 → f_L_guild_952 S = some r → va_P (dC, dI) vwCl (wX cA a S) H → va_S (fun q => s.heap.size ≤ q) s.heap H locs → lv_has ls 1 [(0, .ref (a 0))] → W p l e (headSpec wsL_guild ({ frames := 16, cells := 4350, slots := 27208, locals := 443 })).room s m ([] : List Value).toArray below meth c H locs C Z (MQ below (gQ) ([] : List Value).toArray s 4350 27208 ((fun _ => False))) (F0 m 952 ls []) := by
    intro C Z S H locs ls hC hZ hf hP hS hl
    unfold f_L_guild_952 at hf
    obtain ⟨u1, hu1, hf⟩ := ob_some hf
    refine lc_G (As := []) (rest := []) ⟨hx, hb, hml, hown, hts⟩ (k_L_six l hfl dC dI cA _ hu1) gL_guild_L_six rfl rfl rfl cd_L_six (Nat.le_of_ble_eq_true rfl) (Nat.le_of_ble_eq_true rfl) (preGsH hK hE hN hS) rfl hl.1 rfl (Nat.le_of_ble_eq_true rfl) (by show C + 1478 ≤ 4350; omega) (by show Z + 9422 ≤ 27208; omega) dL_guild_952 hS (fun H locs hk hS => ?_)
    have hP := kept_all hP hk
    refine lv_if_eq (tgt := 962) hx hb dL_guild_955 (by decide) (fun c2 => ?_) (fun c2 => ?_)
    · exact absurd c2 (by decide)
    refine lv_iconst (v := 1) hx hb dL_guild_958 (by decide) ?_
    refine lv_goto (tgt := 963) hx hb dL_guild_959 (by decide) ?_
    refine va_forget (fun q hq => hS.2.2 q hq) ?_
    refine W.widen (k := 4350) (n := 27208) (by omega) (by omega) ?_
    exact W.zret hx hb hr rfl (fun t ht hW => ⟨⟨rfl, trivial⟩, by rw [ht]; exact hS.1, fun q h1 _ => by rw [ht]; exact hS.2.1 q h1 (Nat.not_le.mpr h1)⟩) (fun q h => by cases h) dL_guild_963
  have hW852 : ∀ (C Z : Nat) (S : St) (H : Heap) (locs : List Loc) (ls : Array Slot), C + (3528) ≤ 4350 → Z + (21722) ≤ 27208 → f_L_guild_852 S = some r → va_P (dC, dI) vwCl (wX cA a S) H → va_S (fun q => s.heap.size ≤ q) s.heap H locs → lv_has ls 1 [(0, .ref (a 0))] → W p l e (headSpec wsL_guild ({ frames := 16, cells := 4350, slots := 27208, locals := 443 })).room s m ([] : List Value).toArray below meth c H locs C Z (MQ below (gQ) ([] : List Value).toArray s 4350 27208 ((fun _ => False))) (F0 m 852 ls []) := by
    intro C Z S H locs ls hC hZ hf hP hS hl
    unfold f_L_guild_852 at hf
    refine lv_aload_n hx hb dL_guild_852 rfl (lv_at hl 0 rfl) ?_
    refine lv_bipush (v := 7) hx hb dL_guild_853 (by decide) ?_
    obtain ⟨v1, S2, hv1, hf⟩ := xv_some hf
    refine lc_P (As := [.int 7]) (rest := []) ⟨hx, hb, hml, hown, hts⟩ (k_X0_isLawful l dC dI cA a S 7 _ hv1 hap hfl) gL_guild_X0_isLawful rfl rfl rfl cd_X0_isLawful (Nat.le_of_ble_eq_true rfl) (Nat.le_of_ble_eq_true rfl) (preTsH hK hP hE hS hA) rfl hl.1 rfl (Nat.le_of_ble_eq_true rfl) (by show C + 1 ≤ 4350; omega) (by show Z + 6 ≤ 27208; omega) dL_guild_855 hS hA (fun H locs hP hS => ?_)
    refine lv_if_eq (tgt := 936) hx hb dL_guild_858 (by decide) (fun c3 => ?_) (fun c3 => ?_)
    · rw [if_pos c3] at hf; cases hf
    rw [if_neg c3] at hf
    refine lv_aload_n hx hb dL_guild_861 rfl (lv_at hl 0 rfl) ?_
    refine lv_bipush (v := 7) hx hb dL_guild_862 (by decide) ?_
    obtain ⟨v4, S5, hv4, hf⟩ := xv_some hf
    refine lc_P (As := [.int 7]) (rest := []) ⟨hx, hb, hml, hown, hts⟩ (k_X0_rises l dC dI cA a S2 7 _ hv4 hap hfl) gL_guild_X0_rises rfl rfl rfl cd_X0_rises (Nat.le_of_ble_eq_true rfl) (Nat.le_of_ble_eq_true rfl) (preTsH hK hP hE hS hA) rfl hl.1 rfl (Nat.le_of_ble_eq_true rfl) (by show (C + 1) + 1 ≤ 4350; omega) (by show (Z + 6) + 6 ≤ 27208; omega) dL_guild_864 hS hA (fun H locs hP hS => ?_)
    refine lv_if_eq (tgt := 936) hx hb dL_guild_867 (by decide) (fun c6 => ?_) (fun c6 => ?_)
    · rw [if_pos c6] at hf; cases hf
    rw [if_neg c6] at hf
    refine lv_aload_n hx hb dL_guild_870 rfl (lv_at hl 0 rfl) ?_
    refine lv_bipush (v := 6) hx hb dL_guild_871 (by decide) ?_
    refine lv_iconst (v := 3) hx hb dL_guild_873 (by decide) ?_
    refine lv_iconst (v := 0) hx hb dL_guild_874 (by decide) ?_
    refine lv_iconst (v := 0) hx hb dL_guild_875 (by decide) ?_
    obtain ⟨q7, hq7, hf⟩ := ob_some hf
    refine lc_W (As := [.ref (a 0), .int 6, .int 3, .int 0, .int 0]) (rest := []) ⟨hx, hb, hml, hown, hts⟩ (k_L_act l hfl dC dI cA a S5 6 3 0 0 _ hq7 hap) gL_guild_L_act rfl rfl rfl cd_L_act (Nat.le_of_ble_eq_true rfl) (Nat.le_of_ble_eq_true rfl) (preLsH hK hP hE hN hS hA) rfl hl.1 rfl (Nat.le_of_ble_eq_true rfl) (by show (C + 2) + 3 ≤ 4350; omega) (by show (Z + 12) + 18 ≤ 27208; omega) dL_guild_876 hS hA (fun H locs hP hS => ?_)
    refine lv_ldc (v := (-7000003)) hx hb hown hw5 dL_guild_879 ?_
    refine lv_icmp_ne (tgt := 936) hx hb dL_guild_881 (by decide) (fun c8 => ?_) (fun c8 => ?_)
    · rw [if_neg c8] at hf; cases hf
    rw [if_pos c8] at hf
    refine lv_aload_n hx hb dL_guild_884 rfl (lv_at hl 0 rfl) ?_
    refine lv_bipush (v := 7) hx hb dL_guild_885 (by decide) ?_
    refine lv_iconst (v := 0) hx hb dL_guild_887 (by decide) ?_
    refine lv_iconst (v := 0) hx hb dL_guild_888 (by decide) ?_
    refine lv_iconst (v := 0) hx hb dL_guild_889 (by decide) ?_
    obtain ⟨q9, hq9, hf⟩ := ob_some hf
    refine lc_W (As := [.ref (a 0), .int 7, .int 0, .int 0, .int 0]) (rest := []) ⟨hx, hb, hml, hown, hts⟩ (k_L_act l hfl dC dI cA a q7.2 7 0 0 0 _ hq9 hap) gL_guild_L_act rfl rfl rfl cd_L_act (Nat.le_of_ble_eq_true rfl) (Nat.le_of_ble_eq_true rfl) (preLsH hK hP hE hN hS hA) rfl hl.1 rfl (Nat.le_of_ble_eq_true rfl) (by show (C + 5) + 3 ≤ 4350; omega) (by show (Z + 30) + 18 ≤ 27208; omega) dL_guild_890 hS hA (fun H locs hP hS => ?_)
    refine lv_ldc (v := (-7000003)) hx hb hown hw5 dL_guild_893 ?_
    refine lv_icmp_ne (tgt := 936) hx hb dL_guild_895 (by decide) (fun c10 => ?_) (fun c10 => ?_)
    · rw [if_neg c10] at hf; cases hf
    rw [if_pos c10] at hf
    refine lv_aload_n hx hb dL_guild_898 rfl (lv_at hl 0 rfl) ?_
    refine lv_bipush (v := 8) hx hb dL_guild_899 (by decide) ?_
    refine lv_iconst (v := 0) hx hb dL_guild_901 (by decide) ?_
    refine lv_iconst (v := 0) hx hb dL_guild_902 (by decide) ?_
    refine lv_iconst (v := 0) hx hb dL_guild_903 (by decide) ?_
    obtain ⟨q11, hq11, hf⟩ := ob_some hf
    refine lc_W (As := [.ref (a 0), .int 8, .int 0, .int 0, .int 0]) (rest := []) ⟨hx, hb, hml, hown, hts⟩ (k_L_act l hfl dC dI cA a q9.2 8 0 0 0 _ hq11 hap) gL_guild_L_act rfl rfl rfl cd_L_act (Nat.le_of_ble_eq_true rfl) (Nat.le_of_ble_eq_true rfl) (preLsH hK hP hE hN hS hA) rfl hl.1 rfl (Nat.le_of_ble_eq_true rfl) (by show (C + 8) + 3 ≤ 4350; omega) (by show (Z + 48) + 18 ≤ 27208; omega) dL_guild_904 hS hA (fun H locs hP hS => ?_)
    refine lv_ldc (v := (-7000003)) hx hb hown hw5 dL_guild_907 ?_
    refine lv_icmp_ne (tgt := 936) hx hb dL_guild_909 (by decide) (fun c12 => ?_) (fun c12 => ?_)
    · rw [if_neg c12] at hf; cases hf
    rw [if_pos c12] at hf
    refine lv_aload_n hx hb dL_guild_912 rfl (lv_at hl 0 rfl) ?_
    refine lv_bipush (v := 9) hx hb dL_guild_913 (by decide) ?_
    refine lv_iconst (v := 0) hx hb dL_guild_915 (by decide) ?_
    refine lv_iconst (v := 0) hx hb dL_guild_916 (by decide) ?_
    refine lv_iconst (v := 0) hx hb dL_guild_917 (by decide) ?_
    obtain ⟨q13, hq13, hf⟩ := ob_some hf
    refine lc_W (As := [.ref (a 0), .int 9, .int 0, .int 0, .int 0]) (rest := []) ⟨hx, hb, hml, hown, hts⟩ (k_L_act l hfl dC dI cA a q11.2 9 0 0 0 _ hq13 hap) gL_guild_L_act rfl rfl rfl cd_L_act (Nat.le_of_ble_eq_true rfl) (Nat.le_of_ble_eq_true rfl) (preLsH hK hP hE hN hS hA) rfl hl.1 rfl (Nat.le_of_ble_eq_true rfl) (by show (C + 11) + 3 ≤ 4350; omega) (by show (Z + 66) + 18 ≤ 27208; omega) dL_guild_918 hS hA (fun H locs hP hS => ?_)
    refine lv_ldc (v := (-7000003)) hx hb hown hw5 dL_guild_921 ?_
    refine lv_icmp_ne (tgt := 936) hx hb dL_guild_923 (by decide) (fun c14 => ?_) (fun c14 => ?_)
    · rw [if_neg c14] at hf; cases hf
    rw [if_pos c14] at hf
    refine lv_aload_n hx hb dL_guild_926 rfl (lv_at hl 0 rfl) ?_
    refine lv_iconst (v := 4) hx hb dL_guild_927 (by decide) ?_
    refine lv_bipush (v := 8) hx hb dL_guild_928 (by decide) ?_
    obtain ⟨q15, hq15, hf⟩ := ob_some hf
    refine lc_M (As := [.ref (a 0), .int 4, .int 8]) (rest := []) ⟨hx, hb, hml, hown, hts⟩ (k_L_refuses l hfl dC dI cA a q13.2 4 8 _ hq15 hap) gL_guild_L_refuses rfl rfl rfl cd_L_refuses (Nat.le_of_ble_eq_true rfl) (Nat.le_of_ble_eq_true rfl) (preLsH hK hP hE hN hS hA) rfl hl.1 rfl (Nat.le_of_ble_eq_true rfl) (by show (C + 14) + 633 ≤ 4350; omega) (by show (Z + 84) + 3798 ≤ 27208; omega) dL_guild_930 hS hA (fun H locs hP hS => ?_)
    refine lv_if_ne (tgt := 938) hx hb dL_guild_933 (by decide) (fun c16 => ?_) (fun c16 => ?_)
    · skip
      refine lv_aload_n hx hb dL_guild_938 rfl (lv_at hl 0 rfl) ?_
      obtain ⟨q17, hq17, hf⟩ := ob_some hf
      refine lc_M (As := [.ref (a 0)]) (rest := []) ⟨hx, hb, hml, hown, hts⟩ (k_L_greed l hfl dC dI cA a q15 _ hq17 hap) gL_guild_L_greed rfl rfl rfl cd_L_greed (Nat.le_of_ble_eq_true rfl) (Nat.le_of_ble_eq_true rfl) (preLsH hK hP hE hN hS hA) rfl hl.1 rfl (Nat.le_of_ble_eq_true rfl) (by show (C + 647) + 60 ≤ 4350; omega) (by show (Z + 3882) + 360 ≤ 27208; omega) dL_guild_939 hS hA (fun H locs hP hS => ?_)
      refine lv_if_eq (tgt := 962) hx hb dL_guild_942 (by decide) (fun c18 => ?_) (fun c18 => ?_)
      · exact absurd c18 (by decide)
      refine lv_aload_n hx hb dL_guild_945 rfl (lv_at hl 0 rfl) ?_
      obtain ⟨q19, hq19, hf⟩ := ob_some hf
      refine lc_M (As := [.ref (a 0)]) (rest := []) ⟨hx, hb, hml, hown, hts⟩ (k_L_orders l hfl dC dI cA a q17 _ hq19 hap) gL_guild_L_orders rfl rfl rfl cd_L_orders (Nat.le_of_ble_eq_true rfl) (Nat.le_of_ble_eq_true rfl) (preLsH hK hP hE hN hS hA) rfl hl.1 rfl (Nat.le_of_ble_eq_true rfl) (by show (C + 707) + 1343 ≤ 4350; omega) (by show (Z + 4242) + 8058 ≤ 27208; omega) dL_guild_946 hS hA (fun H locs hP hS => ?_)
      refine lv_if_eq (tgt := 962) hx hb dL_guild_949 (by decide) (fun c20 => ?_) (fun c20 => ?_)
      · exact absurd c20 (by decide)
      exact hW952 (C + 2050) (Z + 12300) q19 _ _ ls (by omega) (by omega) hf hP hS (lv_sub hl [0] rfl)
    · exact absurd c16 (by decide)
  have hW756 : ∀ (C Z : Nat) (S : St) (H : Heap) (locs : List Loc) (ls : Array Slot), C + (3542) ≤ 4350 → Z + (21806) ≤ 27208 → f_L_guild_756 S = some r → va_P (dC, dI) vwCl (wX cA a S) H → va_S (fun q => s.heap.size ≤ q) s.heap H locs → lv_has ls 1 [(0, .ref (a 0))] → W p l e (headSpec wsL_guild ({ frames := 16, cells := 4350, slots := 27208, locals := 443 })).room s m ([] : List Value).toArray below meth c H locs C Z (MQ below (gQ) ([] : List Value).toArray s 4350 27208 ((fun _ => False))) (F0 m 756 ls []) := by
    intro C Z S H locs ls hC hZ hf hP hS hl
    unfold f_L_guild_756 at hf
    refine lv_aload_n hx hb dL_guild_756 rfl (lv_at hl 0 rfl) ?_
    refine lv_iconst (v := 0) hx hb dL_guild_757 (by decide) ?_
    refine lv_iconst (v := 0) hx hb dL_guild_758 (by decide) ?_
    refine lv_iconst (v := 1) hx hb dL_guild_759 (by decide) ?_
    obtain ⟨v1, S2, hv1, hf⟩ := xv_some hf
    refine lc_P (As := [.int 0, .int 0, .int 1]) (rest := []) ⟨hx, hb, hml, hown, hts⟩ (k_X0_colour l dC dI cA a S 0 0 1 _ hv1 hap hfl) gL_guild_X0_colour rfl rfl rfl cd_X0_colour (Nat.le_of_ble_eq_true rfl) (Nat.le_of_ble_eq_true rfl) (preTsH hK hP hE hS hA) rfl hl.1 rfl (Nat.le_of_ble_eq_true rfl) (by show C + 1 ≤ 4350; omega) (by show Z + 6 ≤ 27208; omega) dL_guild_760 hS hA (fun H locs hP hS => ?_)
    refine lv_if_ne (tgt := 936) hx hb dL_guild_763 (by decide) (fun c3 => ?_) (fun c3 => ?_)
    · rw [if_neg c3] at hf; cases hf
    rw [if_pos c3] at hf
    refine lv_aload_n hx hb dL_guild_766 rfl (lv_at hl 0 rfl) ?_
    refine lv_iconst (v := 0) hx hb dL_guild_767 (by decide) ?_
    refine lv_iconst (v := 1) hx hb dL_guild_768 (by decide) ?_
    refine lv_iconst (v := 1) hx hb dL_guild_769 (by decide) ?_
    obtain ⟨v4, S5, hv4, hf⟩ := xv_some hf
    refine lc_P (As := [.int 0, .int 1, .int 1]) (rest := []) ⟨hx, hb, hml, hown, hts⟩ (k_X0_colour l dC dI cA a S2 0 1 1 _ hv4 hap hfl) gL_guild_X0_colour rfl rfl rfl cd_X0_colour (Nat.le_of_ble_eq_true rfl) (Nat.le_of_ble_eq_true rfl) (preTsH hK hP hE hS hA) rfl hl.1 rfl (Nat.le_of_ble_eq_true rfl) (by show (C + 1) + 1 ≤ 4350; omega) (by show (Z + 6) + 6 ≤ 27208; omega) dL_guild_770 hS hA (fun H locs hP hS => ?_)
    refine lv_if_ne (tgt := 936) hx hb dL_guild_773 (by decide) (fun c6 => ?_) (fun c6 => ?_)
    · rw [if_neg c6] at hf; cases hf
    rw [if_pos c6] at hf
    refine lv_aload_n hx hb dL_guild_776 rfl (lv_at hl 0 rfl) ?_
    refine lv_iconst (v := 0) hx hb dL_guild_777 (by decide) ?_
    refine lv_iconst (v := 2) hx hb dL_guild_778 (by decide) ?_
    refine lv_iconst (v := 2) hx hb dL_guild_779 (by decide) ?_
    obtain ⟨v7, S8, hv7, hf⟩ := xv_some hf
    refine lc_P (As := [.int 0, .int 2, .int 2]) (rest := []) ⟨hx, hb, hml, hown, hts⟩ (k_X0_colour l dC dI cA a S5 0 2 2 _ hv7 hap hfl) gL_guild_X0_colour rfl rfl rfl cd_X0_colour (Nat.le_of_ble_eq_true rfl) (Nat.le_of_ble_eq_true rfl) (preTsH hK hP hE hS hA) rfl hl.1 rfl (Nat.le_of_ble_eq_true rfl) (by show (C + 2) + 1 ≤ 4350; omega) (by show (Z + 12) + 6 ≤ 27208; omega) dL_guild_780 hS hA (fun H locs hP hS => ?_)
    refine lv_if_ne (tgt := 936) hx hb dL_guild_783 (by decide) (fun c9 => ?_) (fun c9 => ?_)
    · rw [if_neg c9] at hf; cases hf
    rw [if_pos c9] at hf
    refine lv_aload_n hx hb dL_guild_786 rfl (lv_at hl 0 rfl) ?_
    refine lv_iconst (v := 0) hx hb dL_guild_787 (by decide) ?_
    refine lv_iconst (v := 3) hx hb dL_guild_788 (by decide) ?_
    refine lv_iconst (v := 2) hx hb dL_guild_789 (by decide) ?_
    obtain ⟨v10, S11, hv10, hf⟩ := xv_some hf
    refine lc_P (As := [.int 0, .int 3, .int 2]) (rest := []) ⟨hx, hb, hml, hown, hts⟩ (k_X0_colour l dC dI cA a S8 0 3 2 _ hv10 hap hfl) gL_guild_X0_colour rfl rfl rfl cd_X0_colour (Nat.le_of_ble_eq_true rfl) (Nat.le_of_ble_eq_true rfl) (preTsH hK hP hE hS hA) rfl hl.1 rfl (Nat.le_of_ble_eq_true rfl) (by show (C + 3) + 1 ≤ 4350; omega) (by show (Z + 18) + 6 ≤ 27208; omega) dL_guild_790 hS hA (fun H locs hP hS => ?_)
    refine lv_if_ne (tgt := 936) hx hb dL_guild_793 (by decide) (fun c12 => ?_) (fun c12 => ?_)
    · rw [if_neg c12] at hf; cases hf
    rw [if_pos c12] at hf
    refine lv_aload_n hx hb dL_guild_796 rfl (lv_at hl 0 rfl) ?_
    refine lv_iconst (v := 0) hx hb dL_guild_797 (by decide) ?_
    refine lv_iconst (v := 1) hx hb dL_guild_798 (by decide) ?_
    refine lv_iconst (v := 2) hx hb dL_guild_799 (by decide) ?_
    obtain ⟨v13, S14, hv13, hf⟩ := xv_some hf
    refine lc_P (As := [.int 0, .int 1, .int 2]) (rest := []) ⟨hx, hb, hml, hown, hts⟩ (k_X0_room l dC dI cA a S11 0 1 2 _ hv13 hap hfl) gL_guild_X0_room rfl rfl rfl cd_X0_room (Nat.le_of_ble_eq_true rfl) (Nat.le_of_ble_eq_true rfl) (preTsH hK hP hE hS hA) rfl hl.1 rfl (Nat.le_of_ble_eq_true rfl) (by show (C + 4) + 2 ≤ 4350; omega) (by show (Z + 24) + 12 ≤ 27208; omega) dL_guild_800 hS hA (fun H locs hP hS => ?_)
    refine lv_iconst (v := 1) hx hb dL_guild_803 (by decide) ?_
    refine lv_icmp_ne (tgt := 936) hx hb dL_guild_804 (by decide) (fun c15 => ?_) (fun c15 => ?_)
    · rw [if_neg c15] at hf; cases hf
    rw [if_pos c15] at hf
    refine lv_aload_n hx hb dL_guild_807 rfl (lv_at hl 0 rfl) ?_
    refine lv_iconst (v := 2) hx hb dL_guild_808 (by decide) ?_
    obtain ⟨v16, S17, hv16, hf⟩ := xv_some hf
    refine lc_P (As := [.int 2]) (rest := []) ⟨hx, hb, hml, hown, hts⟩ (k_X0_make l dC dI cA a S14 2 _ hv16 hap hfl) gL_guild_X0_make rfl rfl rfl cd_X0_make (Nat.le_of_ble_eq_true rfl) (Nat.le_of_ble_eq_true rfl) (preTsH hK hP hE hS hA) rfl hl.1 rfl (Nat.le_of_ble_eq_true rfl) (by show (C + 6) + 2 ≤ 4350; omega) (by show (Z + 36) + 12 ≤ 27208; omega) dL_guild_809 hS hA (fun H locs hP hS => ?_)
    refine lv_bipush (v := 7) hx hb dL_guild_812 (by decide) ?_
    refine lv_icmp_ne (tgt := 936) hx hb dL_guild_814 (by decide) (fun c18 => ?_) (fun c18 => ?_)
    · rw [if_neg c18] at hf; cases hf
    rw [if_pos c18] at hf
    refine lv_aload_n hx hb dL_guild_817 rfl (lv_at hl 0 rfl) ?_
    refine lv_bipush (v := 7) hx hb dL_guild_818 (by decide) ?_
    refine lv_bipush (v := 15) hx hb dL_guild_820 (by decide) ?_
    obtain ⟨v19, S20, hv19, hf⟩ := xv_some hf
    refine lc_P (As := [.int 7, .int 15]) (rest := []) ⟨hx, hb, hml, hown, hts⟩ (k_X0_value l dC dI cA a S17 7 15 _ hv19 hap hfl) gL_guild_X0_value rfl rfl rfl cd_X0_value (Nat.le_of_ble_eq_true rfl) (Nat.le_of_ble_eq_true rfl) (preTsH hK hP hE hS hA) rfl hl.1 rfl (Nat.le_of_ble_eq_true rfl) (by show (C + 8) + 2 ≤ 4350; omega) (by show (Z + 48) + 12 ≤ 27208; omega) dL_guild_822 hS hA (fun H locs hP hS => ?_)
    refine lv_iconst (v := 3) hx hb dL_guild_825 (by decide) ?_
    refine lv_icmp_ne (tgt := 936) hx hb dL_guild_826 (by decide) (fun c21 => ?_) (fun c21 => ?_)
    · rw [if_neg c21] at hf; cases hf
    rw [if_pos c21] at hf
    refine lv_aload_n hx hb dL_guild_829 rfl (lv_at hl 0 rfl) ?_
    refine lv_bipush (v := 7) hx hb dL_guild_830 (by decide) ?_
    refine lv_bipush (v := 12) hx hb dL_guild_832 (by decide) ?_
    obtain ⟨v22, S23, hv22, hf⟩ := xv_some hf
    refine lc_P (As := [.int 7, .int 12]) (rest := []) ⟨hx, hb, hml, hown, hts⟩ (k_X0_value l dC dI cA a S20 7 12 _ hv22 hap hfl) gL_guild_X0_value rfl rfl rfl cd_X0_value (Nat.le_of_ble_eq_true rfl) (Nat.le_of_ble_eq_true rfl) (preTsH hK hP hE hS hA) rfl hl.1 rfl (Nat.le_of_ble_eq_true rfl) (by show (C + 10) + 2 ≤ 4350; omega) (by show (Z + 60) + 12 ≤ 27208; omega) dL_guild_834 hS hA (fun H locs hP hS => ?_)
    refine lv_iconst (v := 1) hx hb dL_guild_837 (by decide) ?_
    refine lv_icmp_ne (tgt := 936) hx hb dL_guild_838 (by decide) (fun c24 => ?_) (fun c24 => ?_)
    · rw [if_neg c24] at hf; cases hf
    rw [if_pos c24] at hf
    refine lv_aload_n hx hb dL_guild_841 rfl (lv_at hl 0 rfl) ?_
    refine lv_bipush (v := 7) hx hb dL_guild_842 (by decide) ?_
    refine lv_iconst (v := 3) hx hb dL_guild_844 (by decide) ?_
    obtain ⟨v25, S26, hv25, hf⟩ := xv_some hf
    refine lc_P (As := [.int 7, .int 3]) (rest := []) ⟨hx, hb, hml, hown, hts⟩ (k_X0_value l dC dI cA a S23 7 3 _ hv25 hap hfl) gL_guild_X0_value rfl rfl rfl cd_X0_value (Nat.le_of_ble_eq_true rfl) (Nat.le_of_ble_eq_true rfl) (preTsH hK hP hE hS hA) rfl hl.1 rfl (Nat.le_of_ble_eq_true rfl) (by show (C + 12) + 2 ≤ 4350; omega) (by show (Z + 72) + 12 ≤ 27208; omega) dL_guild_845 hS hA (fun H locs hP hS => ?_)
    refine lv_iconst (v := 2) hx hb dL_guild_848 (by decide) ?_
    refine lv_icmp_ne (tgt := 936) hx hb dL_guild_849 (by decide) (fun c27 => ?_) (fun c27 => ?_)
    · rw [if_neg c27] at hf; cases hf
    rw [if_pos c27] at hf
    exact hW852 (C + 14) (Z + 84) S26 _ _ ls (by omega) (by omega) hf hP hS (lv_sub hl [0] rfl)
  have hW650 : ∀ (C Z : Nat) (S : St) (H : Heap) (locs : List Loc) (ls : Array Slot), C + (3562) ≤ 4350 → Z + (21926) ≤ 27208 → f_L_guild_650 S = some r → va_P (dC, dI) vwCl (wX cA a S) H → va_S (fun q => s.heap.size ≤ q) s.heap H locs → lv_has ls 1 [(0, .ref (a 0))] → W p l e (headSpec wsL_guild ({ frames := 16, cells := 4350, slots := 27208, locals := 443 })).room s m ([] : List Value).toArray below meth c H locs C Z (MQ below (gQ) ([] : List Value).toArray s 4350 27208 ((fun _ => False))) (F0 m 650 ls []) := by
    intro C Z S H locs ls hC hZ hf hP hS hl
    unfold f_L_guild_650 at hf
    refine lv_aload_n hx hb dL_guild_650 rfl (lv_at hl 0 rfl) ?_
    refine lv_iconst (v := 5) hx hb dL_guild_651 (by decide) ?_
    obtain ⟨v1, S2, hv1, hf⟩ := xv_some hf
    refine lc_P (As := [.int 5]) (rest := []) ⟨hx, hb, hml, hown, hts⟩ (k_X0_rises l dC dI cA a S 5 _ hv1 hap hfl) gL_guild_X0_rises rfl rfl rfl cd_X0_rises (Nat.le_of_ble_eq_true rfl) (Nat.le_of_ble_eq_true rfl) (preTsH hK hP hE hS hA) rfl hl.1 rfl (Nat.le_of_ble_eq_true rfl) (by show C + 1 ≤ 4350; omega) (by show Z + 6 ≤ 27208; omega) dL_guild_652 hS hA (fun H locs hP hS => ?_)
    refine lv_if_eq (tgt := 936) hx hb dL_guild_655 (by decide) (fun c3 => ?_) (fun c3 => ?_)
    · rw [if_pos c3] at hf; cases hf
    rw [if_neg c3] at hf
    refine lv_aload_n hx hb dL_guild_658 rfl (lv_at hl 0 rfl) ?_
    refine lv_iconst (v := 2) hx hb dL_guild_659 (by decide) ?_
    refine lv_iconst (v := 0) hx hb dL_guild_660 (by decide) ?_
    obtain ⟨v4, S5, hv4, hf⟩ := xv_some hf
    refine lc_P (As := [.int 2, .int 0]) (rest := []) ⟨hx, hb, hml, hown, hts⟩ (k_X0_cap l dC dI cA a S2 2 0 _ hv4 hap hfl) gL_guild_X0_cap rfl rfl rfl cd_X0_cap (Nat.le_of_ble_eq_true rfl) (Nat.le_of_ble_eq_true rfl) (preTsH hK hP hE hS hA) rfl hl.1 rfl (Nat.le_of_ble_eq_true rfl) (by show (C + 1) + 3 ≤ 4350; omega) (by show (Z + 6) + 18 ≤ 27208; omega) dL_guild_661 hS hA (fun H locs hP hS => ?_)
    refine lv_bipush (v := 6) hx hb dL_guild_664 (by decide) ?_
    refine lv_icmp_ne (tgt := 936) hx hb dL_guild_666 (by decide) (fun c6 => ?_) (fun c6 => ?_)
    · rw [if_neg c6] at hf; cases hf
    rw [if_pos c6] at hf
    refine lv_aload_n hx hb dL_guild_669 rfl (lv_at hl 0 rfl) ?_
    refine lv_bipush (v := 6) hx hb dL_guild_670 (by decide) ?_
    refine lv_iconst (v := 2) hx hb dL_guild_672 (by decide) ?_
    obtain ⟨v7, S8, hv7, hf⟩ := xv_some hf
    refine lc_P (As := [.int 6, .int 2]) (rest := []) ⟨hx, hb, hml, hown, hts⟩ (k_X0_value l dC dI cA a S5 6 2 _ hv7 hap hfl) gL_guild_X0_value rfl rfl rfl cd_X0_value (Nat.le_of_ble_eq_true rfl) (Nat.le_of_ble_eq_true rfl) (preTsH hK hP hE hS hA) rfl hl.1 rfl (Nat.le_of_ble_eq_true rfl) (by show (C + 4) + 2 ≤ 4350; omega) (by show (Z + 24) + 12 ≤ 27208; omega) dL_guild_673 hS hA (fun H locs hP hS => ?_)
    refine lv_if_ne (tgt := 936) hx hb dL_guild_676 (by decide) (fun c9 => ?_) (fun c9 => ?_)
    · rw [if_neg c9] at hf; cases hf
    rw [if_pos c9] at hf
    refine lv_aload_n hx hb dL_guild_679 rfl (lv_at hl 0 rfl) ?_
    refine lv_bipush (v := 6) hx hb dL_guild_680 (by decide) ?_
    refine lv_iconst (v := 3) hx hb dL_guild_682 (by decide) ?_
    obtain ⟨v10, S11, hv10, hf⟩ := xv_some hf
    refine lc_P (As := [.int 6, .int 3]) (rest := []) ⟨hx, hb, hml, hown, hts⟩ (k_X0_value l dC dI cA a S8 6 3 _ hv10 hap hfl) gL_guild_X0_value rfl rfl rfl cd_X0_value (Nat.le_of_ble_eq_true rfl) (Nat.le_of_ble_eq_true rfl) (preTsH hK hP hE hS hA) rfl hl.1 rfl (Nat.le_of_ble_eq_true rfl) (by show (C + 6) + 2 ≤ 4350; omega) (by show (Z + 36) + 12 ≤ 27208; omega) dL_guild_683 hS hA (fun H locs hP hS => ?_)
    refine lv_iconst (v := (-1)) hx hb dL_guild_686 (by decide) ?_
    refine lv_icmp_ne (tgt := 936) hx hb dL_guild_687 (by decide) (fun c12 => ?_) (fun c12 => ?_)
    · rw [if_neg c12] at hf; cases hf
    rw [if_pos c12] at hf
    refine lv_aload_n hx hb dL_guild_690 rfl (lv_at hl 0 rfl) ?_
    refine lv_bipush (v := 6) hx hb dL_guild_691 (by decide) ?_
    refine lv_iconst (v := 1) hx hb dL_guild_693 (by decide) ?_
    obtain ⟨v13, S14, hv13, hf⟩ := xv_some hf
    refine lc_P (As := [.int 6, .int 1]) (rest := []) ⟨hx, hb, hml, hown, hts⟩ (k_X0_value l dC dI cA a S11 6 1 _ hv13 hap hfl) gL_guild_X0_value rfl rfl rfl cd_X0_value (Nat.le_of_ble_eq_true rfl) (Nat.le_of_ble_eq_true rfl) (preTsH hK hP hE hS hA) rfl hl.1 rfl (Nat.le_of_ble_eq_true rfl) (by show (C + 8) + 2 ≤ 4350; omega) (by show (Z + 48) + 12 ≤ 27208; omega) dL_guild_694 hS hA (fun H locs hP hS => ?_)
    refine lv_bipush (v := (-4)) hx hb dL_guild_697 (by decide) ?_
    refine lv_icmp_ne (tgt := 936) hx hb dL_guild_699 (by decide) (fun c15 => ?_) (fun c15 => ?_)
    · rw [if_neg c15] at hf; cases hf
    rw [if_pos c15] at hf
    refine lv_aload_n hx hb dL_guild_702 rfl (lv_at hl 0 rfl) ?_
    refine lv_bipush (v := 6) hx hb dL_guild_703 (by decide) ?_
    obtain ⟨v16, S17, hv16, hf⟩ := xv_some hf
    refine lc_P (As := [.int 6]) (rest := []) ⟨hx, hb, hml, hown, hts⟩ (k_X0_isLawful l dC dI cA a S14 6 _ hv16 hap hfl) gL_guild_X0_isLawful rfl rfl rfl cd_X0_isLawful (Nat.le_of_ble_eq_true rfl) (Nat.le_of_ble_eq_true rfl) (preTsH hK hP hE hS hA) rfl hl.1 rfl (Nat.le_of_ble_eq_true rfl) (by show (C + 10) + 1 ≤ 4350; omega) (by show (Z + 60) + 6 ≤ 27208; omega) dL_guild_705 hS hA (fun H locs hP hS => ?_)
    refine lv_if_ne (tgt := 936) hx hb dL_guild_708 (by decide) (fun c18 => ?_) (fun c18 => ?_)
    · rw [if_neg c18] at hf; cases hf
    rw [if_pos c18] at hf
    refine lv_aload_n hx hb dL_guild_711 rfl (lv_at hl 0 rfl) ?_
    refine lv_bipush (v := 13) hx hb dL_guild_712 (by decide) ?_
    refine lv_bipush (v := 6) hx hb dL_guild_714 (by decide) ?_
    refine lv_iconst (v := 0) hx hb dL_guild_716 (by decide) ?_
    refine lv_iconst (v := 0) hx hb dL_guild_717 (by decide) ?_
    obtain ⟨q19, hq19, hf⟩ := ob_some hf
    refine lc_W (As := [.ref (a 0), .int 13, .int 6, .int 0, .int 0]) (rest := []) ⟨hx, hb, hml, hown, hts⟩ (k_L_act l hfl dC dI cA a S17 13 6 0 0 _ hq19 hap) gL_guild_L_act rfl rfl rfl cd_L_act (Nat.le_of_ble_eq_true rfl) (Nat.le_of_ble_eq_true rfl) (preLsH hK hP hE hN hS hA) rfl hl.1 rfl (Nat.le_of_ble_eq_true rfl) (by show (C + 11) + 3 ≤ 4350; omega) (by show (Z + 66) + 18 ≤ 27208; omega) dL_guild_718 hS hA (fun H locs hP hS => ?_)
    refine lv_ldc (v := (-7000003)) hx hb hown hw5 dL_guild_721 ?_
    refine lv_icmp_ne (tgt := 936) hx hb dL_guild_723 (by decide) (fun c20 => ?_) (fun c20 => ?_)
    · rw [if_neg c20] at hf; cases hf
    rw [if_pos c20] at hf
    refine lv_aload_n hx hb dL_guild_726 rfl (lv_at hl 0 rfl) ?_
    refine lv_bipush (v := 14) hx hb dL_guild_727 (by decide) ?_
    refine lv_bipush (v := 6) hx hb dL_guild_729 (by decide) ?_
    refine lv_iconst (v := 1) hx hb dL_guild_731 (by decide) ?_
    refine lv_iconst (v := 0) hx hb dL_guild_732 (by decide) ?_
    obtain ⟨q21, hq21, hf⟩ := ob_some hf
    refine lc_W (As := [.ref (a 0), .int 14, .int 6, .int 1, .int 0]) (rest := []) ⟨hx, hb, hml, hown, hts⟩ (k_L_act l hfl dC dI cA a q19.2 14 6 1 0 _ hq21 hap) gL_guild_L_act rfl rfl rfl cd_L_act (Nat.le_of_ble_eq_true rfl) (Nat.le_of_ble_eq_true rfl) (preLsH hK hP hE hN hS hA) rfl hl.1 rfl (Nat.le_of_ble_eq_true rfl) (by show (C + 14) + 3 ≤ 4350; omega) (by show (Z + 84) + 18 ≤ 27208; omega) dL_guild_733 hS hA (fun H locs hP hS => ?_)
    refine lv_ldc (v := (-7000003)) hx hb hown hw5 dL_guild_736 ?_
    refine lv_icmp_ne (tgt := 936) hx hb dL_guild_738 (by decide) (fun c22 => ?_) (fun c22 => ?_)
    · rw [if_neg c22] at hf; cases hf
    rw [if_pos c22] at hf
    refine lv_aload_n hx hb dL_guild_741 rfl (lv_at hl 0 rfl) ?_
    refine lv_bipush (v := 15) hx hb dL_guild_742 (by decide) ?_
    refine lv_bipush (v := 6) hx hb dL_guild_744 (by decide) ?_
    refine lv_iconst (v := 0) hx hb dL_guild_746 (by decide) ?_
    refine lv_iconst (v := 0) hx hb dL_guild_747 (by decide) ?_
    obtain ⟨q23, hq23, hf⟩ := ob_some hf
    refine lc_W (As := [.ref (a 0), .int 15, .int 6, .int 0, .int 0]) (rest := []) ⟨hx, hb, hml, hown, hts⟩ (k_L_act l hfl dC dI cA a q21.2 15 6 0 0 _ hq23 hap) gL_guild_L_act rfl rfl rfl cd_L_act (Nat.le_of_ble_eq_true rfl) (Nat.le_of_ble_eq_true rfl) (preLsH hK hP hE hN hS hA) rfl hl.1 rfl (Nat.le_of_ble_eq_true rfl) (by show (C + 17) + 3 ≤ 4350; omega) (by show (Z + 102) + 18 ≤ 27208; omega) dL_guild_748 hS hA (fun H locs hP hS => ?_)
    refine lv_ldc (v := (-7000003)) hx hb hown hw5 dL_guild_751 ?_
    refine lv_icmp_ne (tgt := 936) hx hb dL_guild_753 (by decide) (fun c24 => ?_) (fun c24 => ?_)
    · rw [if_neg c24] at hf; cases hf
    rw [if_pos c24] at hf
    exact hW756 (C + 20) (Z + 120) q23.2 _ _ ls (by omega) (by omega) hf hP hS (lv_sub hl [0] rfl)
  have hW555 : ∀ (C Z : Nat) (S : St) (H : Heap) (locs : List Loc) (ls : Array Slot), C + (3587) ≤ 4350 → Z + (22076) ≤ 27208 → f_L_guild_555 S = some r → va_P (dC, dI) vwCl (wX cA a S) H → va_S (fun q => s.heap.size ≤ q) s.heap H locs → lv_has ls 1 [(0, .ref (a 0))] → W p l e (headSpec wsL_guild ({ frames := 16, cells := 4350, slots := 27208, locals := 443 })).room s m ([] : List Value).toArray below meth c H locs C Z (MQ below (gQ) ([] : List Value).toArray s 4350 27208 ((fun _ => False))) (F0 m 555 ls []) := by
    intro C Z S H locs ls hC hZ hf hP hS hl
    unfold f_L_guild_555 at hf
    refine lv_aload_n hx hb dL_guild_555 rfl (lv_at hl 0 rfl) ?_
    refine lv_iconst (v := 4) hx hb dL_guild_556 (by decide) ?_
    refine lv_iconst (v := 2) hx hb dL_guild_557 (by decide) ?_
    obtain ⟨v1, S2, hv1, hf⟩ := xv_some hf
    refine lc_P (As := [.int 4, .int 2]) (rest := []) ⟨hx, hb, hml, hown, hts⟩ (k_X0_value l dC dI cA a S 4 2 _ hv1 hap hfl) gL_guild_X0_value rfl rfl rfl cd_X0_value (Nat.le_of_ble_eq_true rfl) (Nat.le_of_ble_eq_true rfl) (preTsH hK hP hE hS hA) rfl hl.1 rfl (Nat.le_of_ble_eq_true rfl) (by show C + 2 ≤ 4350; omega) (by show Z + 12 ≤ 27208; omega) dL_guild_558 hS hA (fun H locs hP hS => ?_)
    refine lv_bipush (v := (-2)) hx hb dL_guild_561 (by decide) ?_
    refine lv_icmp_ne (tgt := 936) hx hb dL_guild_563 (by decide) (fun c3 => ?_) (fun c3 => ?_)
    · rw [if_neg c3] at hf; cases hf
    rw [if_pos c3] at hf
    refine lv_aload_n hx hb dL_guild_566 rfl (lv_at hl 0 rfl) ?_
    refine lv_iconst (v := 4) hx hb dL_guild_567 (by decide) ?_
    refine lv_iconst (v := 3) hx hb dL_guild_568 (by decide) ?_
    obtain ⟨v4, S5, hv4, hf⟩ := xv_some hf
    refine lc_P (As := [.int 4, .int 3]) (rest := []) ⟨hx, hb, hml, hown, hts⟩ (k_X0_value l dC dI cA a S2 4 3 _ hv4 hap hfl) gL_guild_X0_value rfl rfl rfl cd_X0_value (Nat.le_of_ble_eq_true rfl) (Nat.le_of_ble_eq_true rfl) (preTsH hK hP hE hS hA) rfl hl.1 rfl (Nat.le_of_ble_eq_true rfl) (by show (C + 2) + 2 ≤ 4350; omega) (by show (Z + 12) + 12 ≤ 27208; omega) dL_guild_569 hS hA (fun H locs hP hS => ?_)
    refine lv_bipush (v := (-2)) hx hb dL_guild_572 (by decide) ?_
    refine lv_icmp_ne (tgt := 936) hx hb dL_guild_574 (by decide) (fun c6 => ?_) (fun c6 => ?_)
    · rw [if_neg c6] at hf; cases hf
    rw [if_pos c6] at hf
    refine lv_aload_n hx hb dL_guild_577 rfl (lv_at hl 0 rfl) ?_
    refine lv_iconst (v := 4) hx hb dL_guild_578 (by decide) ?_
    refine lv_bipush (v := 14) hx hb dL_guild_579 (by decide) ?_
    obtain ⟨v7, S8, hv7, hf⟩ := xv_some hf
    refine lc_P (As := [.int 4, .int 14]) (rest := []) ⟨hx, hb, hml, hown, hts⟩ (k_X0_value l dC dI cA a S5 4 14 _ hv7 hap hfl) gL_guild_X0_value rfl rfl rfl cd_X0_value (Nat.le_of_ble_eq_true rfl) (Nat.le_of_ble_eq_true rfl) (preTsH hK hP hE hS hA) rfl hl.1 rfl (Nat.le_of_ble_eq_true rfl) (by show (C + 4) + 2 ≤ 4350; omega) (by show (Z + 24) + 12 ≤ 27208; omega) dL_guild_581 hS hA (fun H locs hP hS => ?_)
    refine lv_bipush (v := (-7)) hx hb dL_guild_584 (by decide) ?_
    refine lv_icmp_ne (tgt := 936) hx hb dL_guild_586 (by decide) (fun c9 => ?_) (fun c9 => ?_)
    · rw [if_neg c9] at hf; cases hf
    rw [if_pos c9] at hf
    refine lv_aload_n hx hb dL_guild_589 rfl (lv_at hl 0 rfl) ?_
    refine lv_iconst (v := 4) hx hb dL_guild_590 (by decide) ?_
    obtain ⟨v10, S11, hv10, hf⟩ := xv_some hf
    refine lc_P (As := [.int 4]) (rest := []) ⟨hx, hb, hml, hown, hts⟩ (k_X0_isLawful l dC dI cA a S8 4 _ hv10 hap hfl) gL_guild_X0_isLawful rfl rfl rfl cd_X0_isLawful (Nat.le_of_ble_eq_true rfl) (Nat.le_of_ble_eq_true rfl) (preTsH hK hP hE hS hA) rfl hl.1 rfl (Nat.le_of_ble_eq_true rfl) (by show (C + 6) + 1 ≤ 4350; omega) (by show (Z + 36) + 6 ≤ 27208; omega) dL_guild_591 hS hA (fun H locs hP hS => ?_)
    refine lv_if_eq (tgt := 936) hx hb dL_guild_594 (by decide) (fun c12 => ?_) (fun c12 => ?_)
    · rw [if_pos c12] at hf; cases hf
    rw [if_neg c12] at hf
    refine lv_aload_n hx hb dL_guild_597 rfl (lv_at hl 0 rfl) ?_
    refine lv_iconst (v := 4) hx hb dL_guild_598 (by decide) ?_
    refine lv_bipush (v := (-7)) hx hb dL_guild_599 (by decide) ?_
    refine lv_bipush (v := 14) hx hb dL_guild_601 (by decide) ?_
    refine lv_bipush (v := 15) hx hb dL_guild_603 (by decide) ?_
    obtain ⟨q13, hq13, hf⟩ := ob_some hf
    refine lc_M (As := [.ref (a 0), .int 4, .int (-7), .int 14, .int 15]) (rest := []) ⟨hx, hb, hml, hown, hts⟩ (k_L_least l hfl dC dI cA a S11 4 (-7) 14 15 _ hq13 hap) gL_guild_L_least rfl rfl rfl cd_L_least (Nat.le_of_ble_eq_true rfl) (Nat.le_of_ble_eq_true rfl) (preLsH hK hP hE hN hS hA) rfl hl.1 rfl (Nat.le_of_ble_eq_true rfl) (by show (C + 7) + 10 ≤ 4350; omega) (by show (Z + 42) + 60 ≤ 27208; omega) dL_guild_605 hS hA (fun H locs hP hS => ?_)
    refine lv_if_eq (tgt := 936) hx hb dL_guild_608 (by decide) (fun c14 => ?_) (fun c14 => ?_)
    · exact absurd c14 (by decide)
    refine lv_aload_n hx hb dL_guild_611 rfl (lv_at hl 0 rfl) ?_
    refine lv_iconst (v := 0) hx hb dL_guild_612 (by decide) ?_
    refine lv_iconst (v := 2) hx hb dL_guild_613 (by decide) ?_
    obtain ⟨v15, S16, hv15, hf⟩ := xv_some hf
    refine lc_P (As := [.int 0, .int 2]) (rest := []) ⟨hx, hb, hml, hown, hts⟩ (k_X0_cap l dC dI cA a q13 0 2 _ hv15 hap hfl) gL_guild_X0_cap rfl rfl rfl cd_X0_cap (Nat.le_of_ble_eq_true rfl) (Nat.le_of_ble_eq_true rfl) (preTsH hK hP hE hS hA) rfl hl.1 rfl (Nat.le_of_ble_eq_true rfl) (by show (C + 17) + 3 ≤ 4350; omega) (by show (Z + 102) + 18 ≤ 27208; omega) dL_guild_614 hS hA (fun H locs hP hS => ?_)
    refine lv_iconst (v := 5) hx hb dL_guild_617 (by decide) ?_
    refine lv_icmp_ne (tgt := 936) hx hb dL_guild_618 (by decide) (fun c17 => ?_) (fun c17 => ?_)
    · rw [if_neg c17] at hf; cases hf
    rw [if_pos c17] at hf
    refine lv_aload_n hx hb dL_guild_621 rfl (lv_at hl 0 rfl) ?_
    refine lv_iconst (v := 5) hx hb dL_guild_622 (by decide) ?_
    refine lv_bipush (v := 15) hx hb dL_guild_623 (by decide) ?_
    obtain ⟨v18, S19, hv18, hf⟩ := xv_some hf
    refine lc_P (As := [.int 5, .int 15]) (rest := []) ⟨hx, hb, hml, hown, hts⟩ (k_X0_value l dC dI cA a S16 5 15 _ hv18 hap hfl) gL_guild_X0_value rfl rfl rfl cd_X0_value (Nat.le_of_ble_eq_true rfl) (Nat.le_of_ble_eq_true rfl) (preTsH hK hP hE hS hA) rfl hl.1 rfl (Nat.le_of_ble_eq_true rfl) (by show (C + 20) + 2 ≤ 4350; omega) (by show (Z + 120) + 12 ≤ 27208; omega) dL_guild_625 hS hA (fun H locs hP hS => ?_)
    refine lv_iconst (v := 2) hx hb dL_guild_628 (by decide) ?_
    refine lv_icmp_ne (tgt := 936) hx hb dL_guild_629 (by decide) (fun c20 => ?_) (fun c20 => ?_)
    · rw [if_neg c20] at hf; cases hf
    rw [if_pos c20] at hf
    refine lv_aload_n hx hb dL_guild_632 rfl (lv_at hl 0 rfl) ?_
    refine lv_iconst (v := 5) hx hb dL_guild_633 (by decide) ?_
    refine lv_iconst (v := 4) hx hb dL_guild_634 (by decide) ?_
    obtain ⟨v21, S22, hv21, hf⟩ := xv_some hf
    refine lc_P (As := [.int 5, .int 4]) (rest := []) ⟨hx, hb, hml, hown, hts⟩ (k_X0_value l dC dI cA a S19 5 4 _ hv21 hap hfl) gL_guild_X0_value rfl rfl rfl cd_X0_value (Nat.le_of_ble_eq_true rfl) (Nat.le_of_ble_eq_true rfl) (preTsH hK hP hE hS hA) rfl hl.1 rfl (Nat.le_of_ble_eq_true rfl) (by show (C + 22) + 2 ≤ 4350; omega) (by show (Z + 132) + 12 ≤ 27208; omega) dL_guild_635 hS hA (fun H locs hP hS => ?_)
    refine lv_iconst (v := 1) hx hb dL_guild_638 (by decide) ?_
    refine lv_icmp_ne (tgt := 936) hx hb dL_guild_639 (by decide) (fun c23 => ?_) (fun c23 => ?_)
    · rw [if_neg c23] at hf; cases hf
    rw [if_pos c23] at hf
    refine lv_aload_n hx hb dL_guild_642 rfl (lv_at hl 0 rfl) ?_
    refine lv_iconst (v := 5) hx hb dL_guild_643 (by decide) ?_
    obtain ⟨v24, S25, hv24, hf⟩ := xv_some hf
    refine lc_P (As := [.int 5]) (rest := []) ⟨hx, hb, hml, hown, hts⟩ (k_X0_isLawful l dC dI cA a S22 5 _ hv24 hap hfl) gL_guild_X0_isLawful rfl rfl rfl cd_X0_isLawful (Nat.le_of_ble_eq_true rfl) (Nat.le_of_ble_eq_true rfl) (preTsH hK hP hE hS hA) rfl hl.1 rfl (Nat.le_of_ble_eq_true rfl) (by show (C + 24) + 1 ≤ 4350; omega) (by show (Z + 144) + 6 ≤ 27208; omega) dL_guild_644 hS hA (fun H locs hP hS => ?_)
    refine lv_if_eq (tgt := 936) hx hb dL_guild_647 (by decide) (fun c26 => ?_) (fun c26 => ?_)
    · rw [if_pos c26] at hf; cases hf
    rw [if_neg c26] at hf
    exact hW650 (C + 25) (Z + 150) S25 _ _ ls (by omega) (by omega) hf hP hS (lv_sub hl [0] rfl)
  have hW462 : ∀ (C Z : Nat) (S : St) (H : Heap) (locs : List Loc) (ls : Array Slot), C + (3613) ≤ 4350 → Z + (22232) ≤ 27208 → f_L_guild_462 S = some r → va_P (dC, dI) vwCl (wX cA a S) H → va_S (fun q => s.heap.size ≤ q) s.heap H locs → lv_has ls 1 [(0, .ref (a 0))] → W p l e (headSpec wsL_guild ({ frames := 16, cells := 4350, slots := 27208, locals := 443 })).room s m ([] : List Value).toArray below meth c H locs C Z (MQ below (gQ) ([] : List Value).toArray s 4350 27208 ((fun _ => False))) (F0 m 462 ls []) := by
    intro C Z S H locs ls hC hZ hf hP hS hl
    unfold f_L_guild_462 at hf
    refine lv_aload_n hx hb dL_guild_462 rfl (lv_at hl 0 rfl) ?_
    refine lv_iconst (v := 3) hx hb dL_guild_463 (by decide) ?_
    refine lv_iconst (v := 1) hx hb dL_guild_464 (by decide) ?_
    obtain ⟨v1, S2, hv1, hf⟩ := xv_some hf
    refine lc_P (As := [.int 3, .int 1]) (rest := []) ⟨hx, hb, hml, hown, hts⟩ (k_X0_value l dC dI cA a S 3 1 _ hv1 hap hfl) gL_guild_X0_value rfl rfl rfl cd_X0_value (Nat.le_of_ble_eq_true rfl) (Nat.le_of_ble_eq_true rfl) (preTsH hK hP hE hS hA) rfl hl.1 rfl (Nat.le_of_ble_eq_true rfl) (by show C + 2 ≤ 4350; omega) (by show Z + 12 ≤ 27208; omega) dL_guild_465 hS hA (fun H locs hP hS => ?_)
    refine lv_iconst (v := 3) hx hb dL_guild_468 (by decide) ?_
    refine lv_icmp_ne (tgt := 936) hx hb dL_guild_469 (by decide) (fun c3 => ?_) (fun c3 => ?_)
    · rw [if_neg c3] at hf; cases hf
    rw [if_pos c3] at hf
    refine lv_aload_n hx hb dL_guild_472 rfl (lv_at hl 0 rfl) ?_
    refine lv_iconst (v := 3) hx hb dL_guild_473 (by decide) ?_
    refine lv_bipush (v := 7) hx hb dL_guild_474 (by decide) ?_
    obtain ⟨v4, S5, hv4, hf⟩ := xv_some hf
    refine lc_P (As := [.int 3, .int 7]) (rest := []) ⟨hx, hb, hml, hown, hts⟩ (k_X0_value l dC dI cA a S2 3 7 _ hv4 hap hfl) gL_guild_X0_value rfl rfl rfl cd_X0_value (Nat.le_of_ble_eq_true rfl) (Nat.le_of_ble_eq_true rfl) (preTsH hK hP hE hS hA) rfl hl.1 rfl (Nat.le_of_ble_eq_true rfl) (by show (C + 2) + 2 ≤ 4350; omega) (by show (Z + 12) + 12 ≤ 27208; omega) dL_guild_476 hS hA (fun H locs hP hS => ?_)
    refine lv_if_ne (tgt := 936) hx hb dL_guild_479 (by decide) (fun c6 => ?_) (fun c6 => ?_)
    · rw [if_neg c6] at hf; cases hf
    rw [if_pos c6] at hf
    refine lv_aload_n hx hb dL_guild_482 rfl (lv_at hl 0 rfl) ?_
    refine lv_iconst (v := 3) hx hb dL_guild_483 (by decide) ?_
    refine lv_bipush (v := 9) hx hb dL_guild_484 (by decide) ?_
    obtain ⟨v7, S8, hv7, hf⟩ := xv_some hf
    refine lc_P (As := [.int 3, .int 9]) (rest := []) ⟨hx, hb, hml, hown, hts⟩ (k_X0_value l dC dI cA a S5 3 9 _ hv7 hap hfl) gL_guild_X0_value rfl rfl rfl cd_X0_value (Nat.le_of_ble_eq_true rfl) (Nat.le_of_ble_eq_true rfl) (preTsH hK hP hE hS hA) rfl hl.1 rfl (Nat.le_of_ble_eq_true rfl) (by show (C + 4) + 2 ≤ 4350; omega) (by show (Z + 24) + 12 ≤ 27208; omega) dL_guild_486 hS hA (fun H locs hP hS => ?_)
    refine lv_iconst (v := 1) hx hb dL_guild_489 (by decide) ?_
    refine lv_icmp_ne (tgt := 936) hx hb dL_guild_490 (by decide) (fun c9 => ?_) (fun c9 => ?_)
    · rw [if_neg c9] at hf; cases hf
    rw [if_pos c9] at hf
    refine lv_aload_n hx hb dL_guild_493 rfl (lv_at hl 0 rfl) ?_
    refine lv_iconst (v := 3) hx hb dL_guild_494 (by decide) ?_
    refine lv_bipush (v := 15) hx hb dL_guild_495 (by decide) ?_
    obtain ⟨v10, S11, hv10, hf⟩ := xv_some hf
    refine lc_P (As := [.int 3, .int 15]) (rest := []) ⟨hx, hb, hml, hown, hts⟩ (k_X0_value l dC dI cA a S8 3 15 _ hv10 hap hfl) gL_guild_X0_value rfl rfl rfl cd_X0_value (Nat.le_of_ble_eq_true rfl) (Nat.le_of_ble_eq_true rfl) (preTsH hK hP hE hS hA) rfl hl.1 rfl (Nat.le_of_ble_eq_true rfl) (by show (C + 6) + 2 ≤ 4350; omega) (by show (Z + 36) + 12 ≤ 27208; omega) dL_guild_497 hS hA (fun H locs hP hS => ?_)
    refine lv_bipush (v := (-2)) hx hb dL_guild_500 (by decide) ?_
    refine lv_icmp_ne (tgt := 936) hx hb dL_guild_502 (by decide) (fun c12 => ?_) (fun c12 => ?_)
    · rw [if_neg c12] at hf; cases hf
    rw [if_pos c12] at hf
    refine lv_aload_n hx hb dL_guild_505 rfl (lv_at hl 0 rfl) ?_
    refine lv_iconst (v := 3) hx hb dL_guild_506 (by decide) ?_
    obtain ⟨v13, S14, hv13, hf⟩ := xv_some hf
    refine lc_P (As := [.int 3]) (rest := []) ⟨hx, hb, hml, hown, hts⟩ (k_X0_isLawful l dC dI cA a S11 3 _ hv13 hap hfl) gL_guild_X0_isLawful rfl rfl rfl cd_X0_isLawful (Nat.le_of_ble_eq_true rfl) (Nat.le_of_ble_eq_true rfl) (preTsH hK hP hE hS hA) rfl hl.1 rfl (Nat.le_of_ble_eq_true rfl) (by show (C + 8) + 1 ≤ 4350; omega) (by show (Z + 48) + 6 ≤ 27208; omega) dL_guild_507 hS hA (fun H locs hP hS => ?_)
    refine lv_if_eq (tgt := 936) hx hb dL_guild_510 (by decide) (fun c15 => ?_) (fun c15 => ?_)
    · rw [if_pos c15] at hf; cases hf
    rw [if_neg c15] at hf
    refine lv_aload_n hx hb dL_guild_513 rfl (lv_at hl 0 rfl) ?_
    refine lv_iconst (v := 3) hx hb dL_guild_514 (by decide) ?_
    refine lv_bipush (v := (-2)) hx hb dL_guild_515 (by decide) ?_
    refine lv_bipush (v := 15) hx hb dL_guild_517 (by decide) ?_
    refine lv_bipush (v := 15) hx hb dL_guild_519 (by decide) ?_
    obtain ⟨q16, hq16, hf⟩ := ob_some hf
    refine lc_M (As := [.ref (a 0), .int 3, .int (-2), .int 15, .int 15]) (rest := []) ⟨hx, hb, hml, hown, hts⟩ (k_L_least l hfl dC dI cA a S14 3 (-2) 15 15 _ hq16 hap) gL_guild_L_least rfl rfl rfl cd_L_least (Nat.le_of_ble_eq_true rfl) (Nat.le_of_ble_eq_true rfl) (preLsH hK hP hE hN hS hA) rfl hl.1 rfl (Nat.le_of_ble_eq_true rfl) (by show (C + 9) + 10 ≤ 4350; omega) (by show (Z + 54) + 60 ≤ 27208; omega) dL_guild_521 hS hA (fun H locs hP hS => ?_)
    refine lv_if_eq (tgt := 936) hx hb dL_guild_524 (by decide) (fun c17 => ?_) (fun c17 => ?_)
    · exact absurd c17 (by decide)
    refine lv_aload_n hx hb dL_guild_527 rfl (lv_at hl 0 rfl) ?_
    refine lv_iconst (v := 1) hx hb dL_guild_528 (by decide) ?_
    refine lv_iconst (v := 1) hx hb dL_guild_529 (by decide) ?_
    obtain ⟨v18, S19, hv18, hf⟩ := xv_some hf
    refine lc_P (As := [.int 1, .int 1]) (rest := []) ⟨hx, hb, hml, hown, hts⟩ (k_X0_contract l dC dI cA a q16 1 1 _ hv18 hap hfl) gL_guild_X0_contract rfl rfl rfl cd_X0_contract (Nat.le_of_ble_eq_true rfl) (Nat.le_of_ble_eq_true rfl) (preTsH hK hP hE hS hA) rfl hl.1 rfl (Nat.le_of_ble_eq_true rfl) (by show (C + 19) + 3 ≤ 4350; omega) (by show (Z + 114) + 18 ≤ 27208; omega) dL_guild_530 hS hA (fun H locs hP hS => ?_)
    refine lv_iconst (v := 4) hx hb dL_guild_533 (by decide) ?_
    refine lv_icmp_ne (tgt := 936) hx hb dL_guild_534 (by decide) (fun c20 => ?_) (fun c20 => ?_)
    · rw [if_neg c20] at hf; cases hf
    rw [if_pos c20] at hf
    refine lv_aload_n hx hb dL_guild_537 rfl (lv_at hl 0 rfl) ?_
    refine lv_iconst (v := 4) hx hb dL_guild_538 (by decide) ?_
    refine lv_iconst (v := 0) hx hb dL_guild_539 (by decide) ?_
    obtain ⟨v21, S22, hv21, hf⟩ := xv_some hf
    refine lc_P (As := [.int 4, .int 0]) (rest := []) ⟨hx, hb, hml, hown, hts⟩ (k_X0_value l dC dI cA a S19 4 0 _ hv21 hap hfl) gL_guild_X0_value rfl rfl rfl cd_X0_value (Nat.le_of_ble_eq_true rfl) (Nat.le_of_ble_eq_true rfl) (preTsH hK hP hE hS hA) rfl hl.1 rfl (Nat.le_of_ble_eq_true rfl) (by show (C + 22) + 2 ≤ 4350; omega) (by show (Z + 132) + 12 ≤ 27208; omega) dL_guild_540 hS hA (fun H locs hP hS => ?_)
    refine lv_if_ne (tgt := 936) hx hb dL_guild_543 (by decide) (fun c23 => ?_) (fun c23 => ?_)
    · rw [if_neg c23] at hf; cases hf
    rw [if_pos c23] at hf
    refine lv_aload_n hx hb dL_guild_546 rfl (lv_at hl 0 rfl) ?_
    refine lv_iconst (v := 4) hx hb dL_guild_547 (by decide) ?_
    refine lv_iconst (v := 1) hx hb dL_guild_548 (by decide) ?_
    obtain ⟨v24, S25, hv24, hf⟩ := xv_some hf
    refine lc_P (As := [.int 4, .int 1]) (rest := []) ⟨hx, hb, hml, hown, hts⟩ (k_X0_value l dC dI cA a S22 4 1 _ hv24 hap hfl) gL_guild_X0_value rfl rfl rfl cd_X0_value (Nat.le_of_ble_eq_true rfl) (Nat.le_of_ble_eq_true rfl) (preTsH hK hP hE hS hA) rfl hl.1 rfl (Nat.le_of_ble_eq_true rfl) (by show (C + 24) + 2 ≤ 4350; omega) (by show (Z + 144) + 12 ≤ 27208; omega) dL_guild_549 hS hA (fun H locs hP hS => ?_)
    refine lv_if_ne (tgt := 936) hx hb dL_guild_552 (by decide) (fun c26 => ?_) (fun c26 => ?_)
    · rw [if_neg c26] at hf; cases hf
    rw [if_pos c26] at hf
    exact hW555 (C + 26) (Z + 156) S25 _ _ ls (by omega) (by omega) hf hP hS (lv_sub hl [0] rfl)
  have hW368 : ∀ (C Z : Nat) (S : St) (H : Heap) (locs : List Loc) (ls : Array Slot), C + (3637) ≤ 4350 → Z + (22376) ≤ 27208 → f_L_guild_368 S = some r → va_P (dC, dI) vwCl (wX cA a S) H → va_S (fun q => s.heap.size ≤ q) s.heap H locs → lv_has ls 1 [(0, .ref (a 0))] → W p l e (headSpec wsL_guild ({ frames := 16, cells := 4350, slots := 27208, locals := 443 })).room s m ([] : List Value).toArray below meth c H locs C Z (MQ below (gQ) ([] : List Value).toArray s 4350 27208 ((fun _ => False))) (F0 m 368 ls []) := by
    intro C Z S H locs ls hC hZ hf hP hS hl
    unfold f_L_guild_368 at hf
    refine lv_aload_n hx hb dL_guild_368 rfl (lv_at hl 0 rfl) ?_
    refine lv_iconst (v := 2) hx hb dL_guild_369 (by decide) ?_
    refine lv_bipush (v := 9) hx hb dL_guild_370 (by decide) ?_
    obtain ⟨v1, S2, hv1, hf⟩ := xv_some hf
    refine lc_P (As := [.int 2, .int 9]) (rest := []) ⟨hx, hb, hml, hown, hts⟩ (k_X0_weigh l dC dI cA a S 2 9 _ hv1 hap hfl) gL_guild_X0_weigh rfl rfl rfl cd_X0_weigh (Nat.le_of_ble_eq_true rfl) (Nat.le_of_ble_eq_true rfl) (preTsH hK hP hE hS hA) rfl hl.1 rfl (Nat.le_of_ble_eq_true rfl) (by show C + 2 ≤ 4350; omega) (by show Z + 12 ≤ 27208; omega) dL_guild_372 hS hA (fun H locs hP hS => ?_)
    refine lv_if_ne (tgt := 450) hx hb dL_guild_375 (by decide) (fun c3 => ?_) (fun c3 => ?_)
    · rw [if_neg c3] at hf; cases hf
    rw [if_pos c3] at hf
    refine lv_aload_n hx hb dL_guild_378 rfl (lv_at hl 0 rfl) ?_
    refine lv_iconst (v := 2) hx hb dL_guild_379 (by decide) ?_
    refine lv_iconst (v := (-1)) hx hb dL_guild_380 (by decide) ?_
    obtain ⟨v4, S5, hv4, hf⟩ := xv_some hf
    refine lc_P (As := [.int 2, .int (-1)]) (rest := []) ⟨hx, hb, hml, hown, hts⟩ (k_X0_weigh l dC dI cA a S2 2 (-1) _ hv4 hap hfl) gL_guild_X0_weigh rfl rfl rfl cd_X0_weigh (Nat.le_of_ble_eq_true rfl) (Nat.le_of_ble_eq_true rfl) (preTsH hK hP hE hS hA) rfl hl.1 rfl (Nat.le_of_ble_eq_true rfl) (by show (C + 2) + 2 ≤ 4350; omega) (by show (Z + 12) + 12 ≤ 27208; omega) dL_guild_381 hS hA (fun H locs hP hS => ?_)
    refine lv_bipush (v := 9) hx hb dL_guild_384 (by decide) ?_
    refine lv_icmp_ne (tgt := 450) hx hb dL_guild_386 (by decide) (fun c6 => ?_) (fun c6 => ?_)
    · rw [if_neg c6] at hf; cases hf
    rw [if_pos c6] at hf
    refine lv_aload_n hx hb dL_guild_389 rfl (lv_at hl 0 rfl) ?_
    refine lv_iconst (v := 4) hx hb dL_guild_390 (by decide) ?_
    obtain ⟨v7, S8, hv7, hf⟩ := xv_some hf
    refine lc_P (As := [.int 4]) (rest := []) ⟨hx, hb, hml, hown, hts⟩ (k_X0_make l dC dI cA a S5 4 _ hv7 hap hfl) gL_guild_X0_make rfl rfl rfl cd_X0_make (Nat.le_of_ble_eq_true rfl) (Nat.le_of_ble_eq_true rfl) (preTsH hK hP hE hS hA) rfl hl.1 rfl (Nat.le_of_ble_eq_true rfl) (by show (C + 4) + 2 ≤ 4350; omega) (by show (Z + 24) + 12 ≤ 27208; omega) dL_guild_391 hS hA (fun H locs hP hS => ?_)
    refine lv_iconst (v := 2) hx hb dL_guild_394 (by decide) ?_
    refine lv_icmp_ne (tgt := 450) hx hb dL_guild_395 (by decide) (fun c9 => ?_) (fun c9 => ?_)
    · rw [if_neg c9] at hf; cases hf
    rw [if_pos c9] at hf
    refine lv_aload_n hx hb dL_guild_398 rfl (lv_at hl 0 rfl) ?_
    refine lv_iconst (v := 2) hx hb dL_guild_399 (by decide) ?_
    refine lv_bipush (v := 15) hx hb dL_guild_400 (by decide) ?_
    obtain ⟨v10, S11, hv10, hf⟩ := xv_some hf
    refine lc_P (As := [.int 2, .int 15]) (rest := []) ⟨hx, hb, hml, hown, hts⟩ (k_X0_value l dC dI cA a S8 2 15 _ hv10 hap hfl) gL_guild_X0_value rfl rfl rfl cd_X0_value (Nat.le_of_ble_eq_true rfl) (Nat.le_of_ble_eq_true rfl) (preTsH hK hP hE hS hA) rfl hl.1 rfl (Nat.le_of_ble_eq_true rfl) (by show (C + 6) + 2 ≤ 4350; omega) (by show (Z + 36) + 12 ≤ 27208; omega) dL_guild_402 hS hA (fun H locs hP hS => ?_)
    refine lv_bipush (v := (-2)) hx hb dL_guild_405 (by decide) ?_
    refine lv_icmp_ne (tgt := 450) hx hb dL_guild_407 (by decide) (fun c12 => ?_) (fun c12 => ?_)
    · rw [if_neg c12] at hf; cases hf
    rw [if_pos c12] at hf
    refine lv_aload_n hx hb dL_guild_410 rfl (lv_at hl 0 rfl) ?_
    refine lv_iconst (v := 2) hx hb dL_guild_411 (by decide) ?_
    refine lv_bipush (v := 10) hx hb dL_guild_412 (by decide) ?_
    obtain ⟨v13, S14, hv13, hf⟩ := xv_some hf
    refine lc_P (As := [.int 2, .int 10]) (rest := []) ⟨hx, hb, hml, hown, hts⟩ (k_X0_value l dC dI cA a S11 2 10 _ hv13 hap hfl) gL_guild_X0_value rfl rfl rfl cd_X0_value (Nat.le_of_ble_eq_true rfl) (Nat.le_of_ble_eq_true rfl) (preTsH hK hP hE hS hA) rfl hl.1 rfl (Nat.le_of_ble_eq_true rfl) (by show (C + 8) + 2 ≤ 4350; omega) (by show (Z + 48) + 12 ≤ 27208; omega) dL_guild_414 hS hA (fun H locs hP hS => ?_)
    refine lv_iconst (v := 3) hx hb dL_guild_417 (by decide) ?_
    refine lv_icmp_ne (tgt := 450) hx hb dL_guild_418 (by decide) (fun c15 => ?_) (fun c15 => ?_)
    · rw [if_neg c15] at hf; cases hf
    rw [if_pos c15] at hf
    refine lv_aload_n hx hb dL_guild_421 rfl (lv_at hl 0 rfl) ?_
    refine lv_iconst (v := 2) hx hb dL_guild_422 (by decide) ?_
    obtain ⟨v16, S17, hv16, hf⟩ := xv_some hf
    refine lc_P (As := [.int 2]) (rest := []) ⟨hx, hb, hml, hown, hts⟩ (k_X0_isLawful l dC dI cA a S14 2 _ hv16 hap hfl) gL_guild_X0_isLawful rfl rfl rfl cd_X0_isLawful (Nat.le_of_ble_eq_true rfl) (Nat.le_of_ble_eq_true rfl) (preTsH hK hP hE hS hA) rfl hl.1 rfl (Nat.le_of_ble_eq_true rfl) (by show (C + 10) + 1 ≤ 4350; omega) (by show (Z + 60) + 6 ≤ 27208; omega) dL_guild_423 hS hA (fun H locs hP hS => ?_)
    refine lv_if_eq (tgt := 450) hx hb dL_guild_426 (by decide) (fun c18 => ?_) (fun c18 => ?_)
    · rw [if_pos c18] at hf; cases hf
    rw [if_neg c18] at hf
    refine lv_aload_n hx hb dL_guild_429 rfl (lv_at hl 0 rfl) ?_
    refine lv_iconst (v := 2) hx hb dL_guild_430 (by decide) ?_
    obtain ⟨v19, S20, hv19, hf⟩ := xv_some hf
    refine lc_P (As := [.int 2]) (rest := []) ⟨hx, hb, hml, hown, hts⟩ (k_X0_rises l dC dI cA a S17 2 _ hv19 hap hfl) gL_guild_X0_rises rfl rfl rfl cd_X0_rises (Nat.le_of_ble_eq_true rfl) (Nat.le_of_ble_eq_true rfl) (preTsH hK hP hE hS hA) rfl hl.1 rfl (Nat.le_of_ble_eq_true rfl) (by show (C + 11) + 1 ≤ 4350; omega) (by show (Z + 66) + 6 ≤ 27208; omega) dL_guild_431 hS hA (fun H locs hP hS => ?_)
    refine lv_if_ne (tgt := 450) hx hb dL_guild_434 (by decide) (fun c21 => ?_) (fun c21 => ?_)
    · rw [if_neg c21] at hf; cases hf
    rw [if_pos c21] at hf
    refine lv_aload_n hx hb dL_guild_437 rfl (lv_at hl 0 rfl) ?_
    refine lv_iconst (v := 2) hx hb dL_guild_438 (by decide) ?_
    refine lv_bipush (v := (-5)) hx hb dL_guild_439 (by decide) ?_
    refine lv_iconst (v := 5) hx hb dL_guild_441 (by decide) ?_
    refine lv_bipush (v := 13) hx hb dL_guild_442 (by decide) ?_
    obtain ⟨q22, hq22, hf⟩ := ob_some hf
    refine lc_M (As := [.ref (a 0), .int 2, .int (-5), .int 5, .int 13]) (rest := []) ⟨hx, hb, hml, hown, hts⟩ (k_L_least l hfl dC dI cA a S20 2 (-5) 5 13 _ hq22 hap) gL_guild_L_least rfl rfl rfl cd_L_least (Nat.le_of_ble_eq_true rfl) (Nat.le_of_ble_eq_true rfl) (preLsH hK hP hE hN hS hA) rfl hl.1 rfl (Nat.le_of_ble_eq_true rfl) (by show (C + 12) + 10 ≤ 4350; omega) (by show (Z + 72) + 60 ≤ 27208; omega) dL_guild_444 hS hA (fun H locs hP hS => ?_)
    refine lv_if_ne (tgt := 452) hx hb dL_guild_447 (by decide) (fun c23 => ?_) (fun c23 => ?_)
    · skip
      refine lv_aload_n hx hb dL_guild_452 rfl (lv_at hl 0 rfl) ?_
      refine lv_iconst (v := 1) hx hb dL_guild_453 (by decide) ?_
      refine lv_iconst (v := 2) hx hb dL_guild_454 (by decide) ?_
      obtain ⟨v24, S25, hv24, hf⟩ := xv_some hf
      refine lc_P (As := [.int 1, .int 2]) (rest := []) ⟨hx, hb, hml, hown, hts⟩ (k_X0_sum l dC dI cA a q22 1 2 _ hv24 hap hfl) gL_guild_X0_sum rfl rfl rfl cd_X0_sum (Nat.le_of_ble_eq_true rfl) (Nat.le_of_ble_eq_true rfl) (preTsH hK hP hE hS hA) rfl hl.1 rfl (Nat.le_of_ble_eq_true rfl) (by show (C + 22) + 2 ≤ 4350; omega) (by show (Z + 132) + 12 ≤ 27208; omega) dL_guild_455 hS hA (fun H locs hP hS => ?_)
      refine lv_iconst (v := 3) hx hb dL_guild_458 (by decide) ?_
      refine lv_icmp_ne (tgt := 936) hx hb dL_guild_459 (by decide) (fun c26 => ?_) (fun c26 => ?_)
      · rw [if_neg c26] at hf; cases hf
      rw [if_pos c26] at hf
      exact hW462 (C + 24) (Z + 144) S25 _ _ ls (by omega) (by omega) hf hP hS (lv_sub hl [0] rfl)
    · exact absurd c23 (by decide)
  have hW278 : ∀ (C Z : Nat) (S : St) (H : Heap) (locs : List Loc) (ls : Array Slot), C + (3661) ≤ 4350 → Z + (22520) ≤ 27208 → f_L_guild_278 S = some r → va_P (dC, dI) vwCl (wX cA a S) H → va_S (fun q => s.heap.size ≤ q) s.heap H locs → lv_has ls 1 [(0, .ref (a 0))] → W p l e (headSpec wsL_guild ({ frames := 16, cells := 4350, slots := 27208, locals := 443 })).room s m ([] : List Value).toArray below meth c H locs C Z (MQ below (gQ) ([] : List Value).toArray s 4350 27208 ((fun _ => False))) (F0 m 278 ls []) := by
    intro C Z S H locs ls hC hZ hf hP hS hl
    unfold f_L_guild_278 at hf
    refine lv_aload_n hx hb dL_guild_278 rfl (lv_at hl 0 rfl) ?_
    refine lv_iconst (v := 1) hx hb dL_guild_279 (by decide) ?_
    refine lv_iconst (v := 2) hx hb dL_guild_280 (by decide) ?_
    obtain ⟨v1, S2, hv1, hf⟩ := xv_some hf
    refine lc_P (As := [.int 1, .int 2]) (rest := []) ⟨hx, hb, hml, hown, hts⟩ (k_X0_value l dC dI cA a S 1 2 _ hv1 hap hfl) gL_guild_X0_value rfl rfl rfl cd_X0_value (Nat.le_of_ble_eq_true rfl) (Nat.le_of_ble_eq_true rfl) (preTsH hK hP hE hS hA) rfl hl.1 rfl (Nat.le_of_ble_eq_true rfl) (by show C + 2 ≤ 4350; omega) (by show Z + 12 ≤ 27208; omega) dL_guild_281 hS hA (fun H locs hP hS => ?_)
    refine lv_bipush (v := 8) hx hb dL_guild_284 (by decide) ?_
    refine lv_icmp_ne (tgt := 450) hx hb dL_guild_286 (by decide) (fun c3 => ?_) (fun c3 => ?_)
    · rw [if_neg c3] at hf; cases hf
    rw [if_pos c3] at hf
    refine lv_aload_n hx hb dL_guild_289 rfl (lv_at hl 0 rfl) ?_
    refine lv_iconst (v := 1) hx hb dL_guild_290 (by decide) ?_
    refine lv_iconst (v := 3) hx hb dL_guild_291 (by decide) ?_
    obtain ⟨v4, S5, hv4, hf⟩ := xv_some hf
    refine lc_P (As := [.int 1, .int 3]) (rest := []) ⟨hx, hb, hml, hown, hts⟩ (k_X0_value l dC dI cA a S2 1 3 _ hv4 hap hfl) gL_guild_X0_value rfl rfl rfl cd_X0_value (Nat.le_of_ble_eq_true rfl) (Nat.le_of_ble_eq_true rfl) (preTsH hK hP hE hS hA) rfl hl.1 rfl (Nat.le_of_ble_eq_true rfl) (by show (C + 2) + 2 ≤ 4350; omega) (by show (Z + 12) + 12 ≤ 27208; omega) dL_guild_292 hS hA (fun H locs hP hS => ?_)
    refine lv_iconst (v := 5) hx hb dL_guild_295 (by decide) ?_
    refine lv_icmp_ne (tgt := 450) hx hb dL_guild_296 (by decide) (fun c6 => ?_) (fun c6 => ?_)
    · rw [if_neg c6] at hf; cases hf
    rw [if_pos c6] at hf
    refine lv_aload_n hx hb dL_guild_299 rfl (lv_at hl 0 rfl) ?_
    refine lv_iconst (v := 1) hx hb dL_guild_300 (by decide) ?_
    refine lv_bipush (v := 10) hx hb dL_guild_301 (by decide) ?_
    obtain ⟨v7, S8, hv7, hf⟩ := xv_some hf
    refine lc_P (As := [.int 1, .int 10]) (rest := []) ⟨hx, hb, hml, hown, hts⟩ (k_X0_value l dC dI cA a S5 1 10 _ hv7 hap hfl) gL_guild_X0_value rfl rfl rfl cd_X0_value (Nat.le_of_ble_eq_true rfl) (Nat.le_of_ble_eq_true rfl) (preTsH hK hP hE hS hA) rfl hl.1 rfl (Nat.le_of_ble_eq_true rfl) (by show (C + 4) + 2 ≤ 4350; omega) (by show (Z + 24) + 12 ≤ 27208; omega) dL_guild_303 hS hA (fun H locs hP hS => ?_)
    refine lv_bipush (v := 10) hx hb dL_guild_306 (by decide) ?_
    refine lv_icmp_ne (tgt := 450) hx hb dL_guild_308 (by decide) (fun c9 => ?_) (fun c9 => ?_)
    · rw [if_neg c9] at hf; cases hf
    rw [if_pos c9] at hf
    refine lv_aload_n hx hb dL_guild_311 rfl (lv_at hl 0 rfl) ?_
    refine lv_iconst (v := 1) hx hb dL_guild_312 (by decide) ?_
    refine lv_bipush (v := 15) hx hb dL_guild_313 (by decide) ?_
    obtain ⟨v10, S11, hv10, hf⟩ := xv_some hf
    refine lc_P (As := [.int 1, .int 15]) (rest := []) ⟨hx, hb, hml, hown, hts⟩ (k_X0_value l dC dI cA a S8 1 15 _ hv10 hap hfl) gL_guild_X0_value rfl rfl rfl cd_X0_value (Nat.le_of_ble_eq_true rfl) (Nat.le_of_ble_eq_true rfl) (preTsH hK hP hE hS hA) rfl hl.1 rfl (Nat.le_of_ble_eq_true rfl) (by show (C + 6) + 2 ≤ 4350; omega) (by show (Z + 36) + 12 ≤ 27208; omega) dL_guild_315 hS hA (fun H locs hP hS => ?_)
    refine lv_if_ne (tgt := 450) hx hb dL_guild_318 (by decide) (fun c12 => ?_) (fun c12 => ?_)
    · rw [if_neg c12] at hf; cases hf
    rw [if_pos c12] at hf
    refine lv_aload_n hx hb dL_guild_321 rfl (lv_at hl 0 rfl) ?_
    refine lv_iconst (v := 1) hx hb dL_guild_322 (by decide) ?_
    obtain ⟨v13, S14, hv13, hf⟩ := xv_some hf
    refine lc_P (As := [.int 1]) (rest := []) ⟨hx, hb, hml, hown, hts⟩ (k_X0_isLawful l dC dI cA a S11 1 _ hv13 hap hfl) gL_guild_X0_isLawful rfl rfl rfl cd_X0_isLawful (Nat.le_of_ble_eq_true rfl) (Nat.le_of_ble_eq_true rfl) (preTsH hK hP hE hS hA) rfl hl.1 rfl (Nat.le_of_ble_eq_true rfl) (by show (C + 8) + 1 ≤ 4350; omega) (by show (Z + 48) + 6 ≤ 27208; omega) dL_guild_323 hS hA (fun H locs hP hS => ?_)
    refine lv_if_eq (tgt := 450) hx hb dL_guild_326 (by decide) (fun c15 => ?_) (fun c15 => ?_)
    · rw [if_pos c15] at hf; cases hf
    rw [if_neg c15] at hf
    refine lv_aload_n hx hb dL_guild_329 rfl (lv_at hl 0 rfl) ?_
    refine lv_iconst (v := 1) hx hb dL_guild_330 (by decide) ?_
    obtain ⟨v16, S17, hv16, hf⟩ := xv_some hf
    refine lc_P (As := [.int 1]) (rest := []) ⟨hx, hb, hml, hown, hts⟩ (k_X0_rises l dC dI cA a S14 1 _ hv16 hap hfl) gL_guild_X0_rises rfl rfl rfl cd_X0_rises (Nat.le_of_ble_eq_true rfl) (Nat.le_of_ble_eq_true rfl) (preTsH hK hP hE hS hA) rfl hl.1 rfl (Nat.le_of_ble_eq_true rfl) (by show (C + 9) + 1 ≤ 4350; omega) (by show (Z + 54) + 6 ≤ 27208; omega) dL_guild_331 hS hA (fun H locs hP hS => ?_)
    refine lv_if_ne (tgt := 450) hx hb dL_guild_334 (by decide) (fun c18 => ?_) (fun c18 => ?_)
    · rw [if_neg c18] at hf; cases hf
    rw [if_pos c18] at hf
    refine lv_aload_n hx hb dL_guild_337 rfl (lv_at hl 0 rfl) ?_
    refine lv_iconst (v := 1) hx hb dL_guild_338 (by decide) ?_
    refine lv_iconst (v := 0) hx hb dL_guild_339 (by decide) ?_
    refine lv_iconst (v := 0) hx hb dL_guild_340 (by decide) ?_
    refine lv_bipush (v := 15) hx hb dL_guild_341 (by decide) ?_
    obtain ⟨q19, hq19, hf⟩ := ob_some hf
    refine lc_M (As := [.ref (a 0), .int 1, .int 0, .int 0, .int 15]) (rest := []) ⟨hx, hb, hml, hown, hts⟩ (k_L_least l hfl dC dI cA a S17 1 0 0 15 _ hq19 hap) gL_guild_L_least rfl rfl rfl cd_L_least (Nat.le_of_ble_eq_true rfl) (Nat.le_of_ble_eq_true rfl) (preLsH hK hP hE hN hS hA) rfl hl.1 rfl (Nat.le_of_ble_eq_true rfl) (by show (C + 10) + 10 ≤ 4350; omega) (by show (Z + 60) + 60 ≤ 27208; omega) dL_guild_343 hS hA (fun H locs hP hS => ?_)
    refine lv_if_eq (tgt := 450) hx hb dL_guild_346 (by decide) (fun c20 => ?_) (fun c20 => ?_)
    · exact absurd c20 (by decide)
    refine lv_aload_n hx hb dL_guild_349 rfl (lv_at hl 0 rfl) ?_
    refine lv_iconst (v := 0) hx hb dL_guild_350 (by decide) ?_
    refine lv_bipush (v := (-4)) hx hb dL_guild_351 (by decide) ?_
    obtain ⟨v21, S22, hv21, hf⟩ := xv_some hf
    refine lc_P (As := [.int 0, .int (-4)]) (rest := []) ⟨hx, hb, hml, hown, hts⟩ (k_X0_weigh l dC dI cA a q19 0 (-4) _ hv21 hap hfl) gL_guild_X0_weigh rfl rfl rfl cd_X0_weigh (Nat.le_of_ble_eq_true rfl) (Nat.le_of_ble_eq_true rfl) (preTsH hK hP hE hS hA) rfl hl.1 rfl (Nat.le_of_ble_eq_true rfl) (by show (C + 20) + 2 ≤ 4350; omega) (by show (Z + 120) + 12 ≤ 27208; omega) dL_guild_353 hS hA (fun H locs hP hS => ?_)
    refine lv_if_ne (tgt := 450) hx hb dL_guild_356 (by decide) (fun c23 => ?_) (fun c23 => ?_)
    · rw [if_neg c23] at hf; cases hf
    rw [if_pos c23] at hf
    refine lv_aload_n hx hb dL_guild_359 rfl (lv_at hl 0 rfl) ?_
    refine lv_iconst (v := 1) hx hb dL_guild_360 (by decide) ?_
    refine lv_iconst (v := 3) hx hb dL_guild_361 (by decide) ?_
    obtain ⟨v24, S25, hv24, hf⟩ := xv_some hf
    refine lc_P (As := [.int 1, .int 3]) (rest := []) ⟨hx, hb, hml, hown, hts⟩ (k_X0_weigh l dC dI cA a S22 1 3 _ hv24 hap hfl) gL_guild_X0_weigh rfl rfl rfl cd_X0_weigh (Nat.le_of_ble_eq_true rfl) (Nat.le_of_ble_eq_true rfl) (preTsH hK hP hE hS hA) rfl hl.1 rfl (Nat.le_of_ble_eq_true rfl) (by show (C + 22) + 2 ≤ 4350; omega) (by show (Z + 132) + 12 ≤ 27208; omega) dL_guild_362 hS hA (fun H locs hP hS => ?_)
    refine lv_if_ne (tgt := 450) hx hb dL_guild_365 (by decide) (fun c26 => ?_) (fun c26 => ?_)
    · rw [if_neg c26] at hf; cases hf
    rw [if_pos c26] at hf
    exact hW368 (C + 24) (Z + 144) S25 _ _ ls (by omega) (by omega) hf hP hS (lv_sub hl [0] rfl)
  have hW184 : ∀ (C Z : Nat) (S : St) (H : Heap) (locs : List Loc) (ls : Array Slot), C + (3686) ≤ 4350 → Z + (22670) ≤ 27208 → f_L_guild_184 S = some r → va_P (dC, dI) vwCl (wX cA a S) H → va_S (fun q => s.heap.size ≤ q) s.heap H locs → lv_has ls 1 [(0, .ref (a 0))] → W p l e (headSpec wsL_guild ({ frames := 16, cells := 4350, slots := 27208, locals := 443 })).room s m ([] : List Value).toArray below meth c H locs C Z (MQ below (gQ) ([] : List Value).toArray s 4350 27208 ((fun _ => False))) (F0 m 184 ls []) := by
    intro C Z S H locs ls hC hZ hf hP hS hl
    unfold f_L_guild_184 at hf
    refine lv_aload_n hx hb dL_guild_184 rfl (lv_at hl 0 rfl) ?_
    refine lv_iconst (v := 0) hx hb dL_guild_185 (by decide) ?_
    refine lv_iconst (v := 0) hx hb dL_guild_186 (by decide) ?_
    refine lv_iconst (v := 0) hx hb dL_guild_187 (by decide) ?_
    refine lv_iconst (v := 0) hx hb dL_guild_188 (by decide) ?_
    obtain ⟨q1, hq1, hf⟩ := ob_some hf
    refine lc_M (As := [.ref (a 0), .int 0, .int 0, .int 0, .int 0]) (rest := []) ⟨hx, hb, hml, hown, hts⟩ (k_L_least l hfl dC dI cA a S 0 0 0 0 _ hq1 hap) gL_guild_L_least rfl rfl rfl cd_L_least (Nat.le_of_ble_eq_true rfl) (Nat.le_of_ble_eq_true rfl) (preLsH hK hP hE hN hS hA) rfl hl.1 rfl (Nat.le_of_ble_eq_true rfl) (by show C + 10 ≤ 4350; omega) (by show Z + 60 ≤ 27208; omega) dL_guild_189 hS hA (fun H locs hP hS => ?_)
    refine lv_if_eq (tgt := 215) hx hb dL_guild_192 (by decide) (fun c2 => ?_) (fun c2 => ?_)
    · exact absurd c2 (by decide)
    refine lv_aload_n hx hb dL_guild_195 rfl (lv_at hl 0 rfl) ?_
    refine lv_iconst (v := 0) hx hb dL_guild_196 (by decide) ?_
    refine lv_iconst (v := 0) hx hb dL_guild_197 (by decide) ?_
    refine lv_iconst (v := 0) hx hb dL_guild_198 (by decide) ?_
    obtain ⟨v3, S4, hv3, hf⟩ := xv_some hf
    refine lc_P (As := [.int 0, .int 0, .int 0]) (rest := []) ⟨hx, hb, hml, hown, hts⟩ (k_X0_cover l dC dI cA a q1 0 0 0 _ hv3 hap hfl) gL_guild_X0_cover rfl rfl rfl cd_X0_cover (Nat.le_of_ble_eq_true rfl) (Nat.le_of_ble_eq_true rfl) (preTsH hK hP hE hS hA) rfl hl.1 rfl (Nat.le_of_ble_eq_true rfl) (by show (C + 10) + 1 ≤ 4350; omega) (by show (Z + 60) + 6 ≤ 27208; omega) dL_guild_199 hS hA (fun H locs hP hS => ?_)
    refine lv_if_eq (tgt := 215) hx hb dL_guild_202 (by decide) (fun c5 => ?_) (fun c5 => ?_)
    · rw [if_pos c5] at hf; cases hf
    rw [if_neg c5] at hf
    refine lv_aload_n hx hb dL_guild_205 rfl (lv_at hl 0 rfl) ?_
    refine lv_iconst (v := 0) hx hb dL_guild_206 (by decide) ?_
    refine lv_iconst (v := 1) hx hb dL_guild_207 (by decide) ?_
    obtain ⟨v6, S7, hv6, hf⟩ := xv_some hf
    refine lc_P (As := [.int 0, .int 1]) (rest := []) ⟨hx, hb, hml, hown, hts⟩ (k_X0_value l dC dI cA a S4 0 1 _ hv6 hap hfl) gL_guild_X0_value rfl rfl rfl cd_X0_value (Nat.le_of_ble_eq_true rfl) (Nat.le_of_ble_eq_true rfl) (preTsH hK hP hE hS hA) rfl hl.1 rfl (Nat.le_of_ble_eq_true rfl) (by show (C + 11) + 2 ≤ 4350; omega) (by show (Z + 66) + 12 ≤ 27208; omega) dL_guild_208 hS hA (fun H locs hP hS => ?_)
    refine lv_iconst (v := 2) hx hb dL_guild_211 (by decide) ?_
    refine lv_icmp_eq (tgt := 217) hx hb dL_guild_212 (by decide) (fun c8 => ?_) (fun c8 => ?_)
    · rw [if_pos c8] at hf
      refine lv_aload_n hx hb dL_guild_217 rfl (lv_at hl 0 rfl) ?_
      refine lv_iconst (v := 0) hx hb dL_guild_218 (by decide) ?_
      refine lv_iconst (v := 1) hx hb dL_guild_219 (by decide) ?_
      refine lv_iconst (v := 4) hx hb dL_guild_220 (by decide) ?_
      obtain ⟨v9, S10, hv9, hf⟩ := xv_some hf
      refine lc_P (As := [.int 0, .int 1, .int 4]) (rest := []) ⟨hx, hb, hml, hown, hts⟩ (k_X0_edge l dC dI cA a S7 0 1 4 _ hv9 hap hfl) gL_guild_X0_edge rfl rfl rfl cd_X0_edge (Nat.le_of_ble_eq_true rfl) (Nat.le_of_ble_eq_true rfl) (preTsH hK hP hE hS hA) rfl hl.1 rfl (Nat.le_of_ble_eq_true rfl) (by show (C + 13) + 2 ≤ 4350; omega) (by show (Z + 78) + 12 ≤ 27208; omega) dL_guild_221 hS hA (fun H locs hP hS => ?_)
      refine lv_if_ne (tgt := 450) hx hb dL_guild_224 (by decide) (fun c11 => ?_) (fun c11 => ?_)
      · rw [if_neg c11] at hf; cases hf
      rw [if_pos c11] at hf
      refine lv_aload_n hx hb dL_guild_227 rfl (lv_at hl 0 rfl) ?_
      refine lv_iconst (v := 1) hx hb dL_guild_228 (by decide) ?_
      refine lv_iconst (v := 0) hx hb dL_guild_229 (by decide) ?_
      refine lv_iconst (v := 5) hx hb dL_guild_230 (by decide) ?_
      obtain ⟨v12, S13, hv12, hf⟩ := xv_some hf
      refine lc_P (As := [.int 1, .int 0, .int 5]) (rest := []) ⟨hx, hb, hml, hown, hts⟩ (k_X0_edge l dC dI cA a S10 1 0 5 _ hv12 hap hfl) gL_guild_X0_edge rfl rfl rfl cd_X0_edge (Nat.le_of_ble_eq_true rfl) (Nat.le_of_ble_eq_true rfl) (preTsH hK hP hE hS hA) rfl hl.1 rfl (Nat.le_of_ble_eq_true rfl) (by show (C + 15) + 2 ≤ 4350; omega) (by show (Z + 90) + 12 ≤ 27208; omega) dL_guild_231 hS hA (fun H locs hP hS => ?_)
      refine lv_iconst (v := 4) hx hb dL_guild_234 (by decide) ?_
      refine lv_icmp_ne (tgt := 450) hx hb dL_guild_235 (by decide) (fun c14 => ?_) (fun c14 => ?_)
      · rw [if_neg c14] at hf; cases hf
      rw [if_pos c14] at hf
      refine lv_aload_n hx hb dL_guild_238 rfl (lv_at hl 0 rfl) ?_
      refine lv_iconst (v := 1) hx hb dL_guild_239 (by decide) ?_
      refine lv_iconst (v := 2) hx hb dL_guild_240 (by decide) ?_
      refine lv_iconst (v := 3) hx hb dL_guild_241 (by decide) ?_
      obtain ⟨v15, S16, hv15, hf⟩ := xv_some hf
      refine lc_P (As := [.int 1, .int 2, .int 3]) (rest := []) ⟨hx, hb, hml, hown, hts⟩ (k_X0_edge l dC dI cA a S13 1 2 3 _ hv15 hap hfl) gL_guild_X0_edge rfl rfl rfl cd_X0_edge (Nat.le_of_ble_eq_true rfl) (Nat.le_of_ble_eq_true rfl) (preTsH hK hP hE hS hA) rfl hl.1 rfl (Nat.le_of_ble_eq_true rfl) (by show (C + 17) + 2 ≤ 4350; omega) (by show (Z + 102) + 12 ≤ 27208; omega) dL_guild_242 hS hA (fun H locs hP hS => ?_)
      refine lv_if_ne (tgt := 450) hx hb dL_guild_245 (by decide) (fun c17 => ?_) (fun c17 => ?_)
      · rw [if_neg c17] at hf; cases hf
      rw [if_pos c17] at hf
      refine lv_aload_n hx hb dL_guild_248 rfl (lv_at hl 0 rfl) ?_
      refine lv_iconst (v := 0) hx hb dL_guild_249 (by decide) ?_
      refine lv_iconst (v := 3) hx hb dL_guild_250 (by decide) ?_
      refine lv_iconst (v := 2) hx hb dL_guild_251 (by decide) ?_
      obtain ⟨v18, S19, hv18, hf⟩ := xv_some hf
      refine lc_P (As := [.int 0, .int 3, .int 2]) (rest := []) ⟨hx, hb, hml, hown, hts⟩ (k_X0_edge l dC dI cA a S16 0 3 2 _ hv18 hap hfl) gL_guild_X0_edge rfl rfl rfl cd_X0_edge (Nat.le_of_ble_eq_true rfl) (Nat.le_of_ble_eq_true rfl) (preTsH hK hP hE hS hA) rfl hl.1 rfl (Nat.le_of_ble_eq_true rfl) (by show (C + 19) + 2 ≤ 4350; omega) (by show (Z + 114) + 12 ≤ 27208; omega) dL_guild_252 hS hA (fun H locs hP hS => ?_)
      refine lv_if_ne (tgt := 450) hx hb dL_guild_255 (by decide) (fun c20 => ?_) (fun c20 => ?_)
      · rw [if_neg c20] at hf; cases hf
      rw [if_pos c20] at hf
      refine lv_aload_n hx hb dL_guild_258 rfl (lv_at hl 0 rfl) ?_
      refine lv_iconst (v := 1) hx hb dL_guild_259 (by decide) ?_
      obtain ⟨v21, S22, hv21, hf⟩ := xv_some hf
      refine lc_P (As := [.int 1]) (rest := []) ⟨hx, hb, hml, hown, hts⟩ (k_X0_make l dC dI cA a S19 1 _ hv21 hap hfl) gL_guild_X0_make rfl rfl rfl cd_X0_make (Nat.le_of_ble_eq_true rfl) (Nat.le_of_ble_eq_true rfl) (preTsH hK hP hE hS hA) rfl hl.1 rfl (Nat.le_of_ble_eq_true rfl) (by show (C + 21) + 2 ≤ 4350; omega) (by show (Z + 126) + 12 ≤ 27208; omega) dL_guild_260 hS hA (fun H locs hP hS => ?_)
      refine lv_iconst (v := 1) hx hb dL_guild_263 (by decide) ?_
      refine lv_icmp_ne (tgt := 450) hx hb dL_guild_264 (by decide) (fun c23 => ?_) (fun c23 => ?_)
      · rw [if_neg c23] at hf; cases hf
      rw [if_pos c23] at hf
      refine lv_aload_n hx hb dL_guild_267 rfl (lv_at hl 0 rfl) ?_
      refine lv_iconst (v := 1) hx hb dL_guild_268 (by decide) ?_
      refine lv_iconst (v := 1) hx hb dL_guild_269 (by decide) ?_
      obtain ⟨v24, S25, hv24, hf⟩ := xv_some hf
      refine lc_P (As := [.int 1, .int 1]) (rest := []) ⟨hx, hb, hml, hown, hts⟩ (k_X0_value l dC dI cA a S22 1 1 _ hv24 hap hfl) gL_guild_X0_value rfl rfl rfl cd_X0_value (Nat.le_of_ble_eq_true rfl) (Nat.le_of_ble_eq_true rfl) (preTsH hK hP hE hS hA) rfl hl.1 rfl (Nat.le_of_ble_eq_true rfl) (by show (C + 23) + 2 ≤ 4350; omega) (by show (Z + 138) + 12 ≤ 27208; omega) dL_guild_270 hS hA (fun H locs hP hS => ?_)
      refine lv_bipush (v := 7) hx hb dL_guild_273 (by decide) ?_
      refine lv_icmp_ne (tgt := 450) hx hb dL_guild_275 (by decide) (fun c26 => ?_) (fun c26 => ?_)
      · rw [if_neg c26] at hf; cases hf
      rw [if_pos c26] at hf
      exact hW278 (C + 25) (Z + 150) S25 _ _ ls (by omega) (by omega) hf hP hS (lv_sub hl [0] rfl)
    · rw [if_neg c8] at hf
      refine lv_iconst (v := 0) hx hb dL_guild_215 (by decide) ?_
      cases hf
  have hW97 : ∀ (C Z : Nat) (S : St) (H : Heap) (locs : List Loc) (ls : Array Slot), C + (3700) ≤ 4350 → Z + (22754) ≤ 27208 → f_L_guild_97 S = some r → va_P (dC, dI) vwCl (wX cA a S) H → va_S (fun q => s.heap.size ≤ q) s.heap H locs → lv_has ls 1 [(0, .ref (a 0))] → W p l e (headSpec wsL_guild ({ frames := 16, cells := 4350, slots := 27208, locals := 443 })).room s m ([] : List Value).toArray below meth c H locs C Z (MQ below (gQ) ([] : List Value).toArray s 4350 27208 ((fun _ => False))) (F0 m 97 ls []) := by
    intro C Z S H locs ls hC hZ hf hP hS hl
    unfold f_L_guild_97 at hf
    refine lv_aload_n hx hb dL_guild_97 rfl (lv_at hl 0 rfl) ?_
    refine lv_iconst (v := 3) hx hb dL_guild_98 (by decide) ?_
    refine lv_bipush (v := 8) hx hb dL_guild_99 (by decide) ?_
    refine lv_iconst (v := 0) hx hb dL_guild_101 (by decide) ?_
    obtain ⟨v1, S2, hv1, hf⟩ := xv_some hf
    refine lc_P (As := [.int 3, .int 8, .int 0]) (rest := []) ⟨hx, hb, hml, hown, hts⟩ (k_X0_cover l dC dI cA a S 3 8 0 _ hv1 hap hfl) gL_guild_X0_cover rfl rfl rfl cd_X0_cover (Nat.le_of_ble_eq_true rfl) (Nat.le_of_ble_eq_true rfl) (preTsH hK hP hE hS hA) rfl hl.1 rfl (Nat.le_of_ble_eq_true rfl) (by show C + 1 ≤ 4350; omega) (by show Z + 6 ≤ 27208; omega) dL_guild_102 hS hA (fun H locs hP hS => ?_)
    refine lv_if_eq (tgt := 215) hx hb dL_guild_105 (by decide) (fun c3 => ?_) (fun c3 => ?_)
    · rw [if_pos c3] at hf; cases hf
    rw [if_neg c3] at hf
    refine lv_aload_n hx hb dL_guild_108 rfl (lv_at hl 0 rfl) ?_
    refine lv_iconst (v := 3) hx hb dL_guild_109 (by decide) ?_
    refine lv_bipush (v := 9) hx hb dL_guild_110 (by decide) ?_
    refine lv_iconst (v := 1) hx hb dL_guild_112 (by decide) ?_
    obtain ⟨v4, S5, hv4, hf⟩ := xv_some hf
    refine lc_P (As := [.int 3, .int 9, .int 1]) (rest := []) ⟨hx, hb, hml, hown, hts⟩ (k_X0_cover l dC dI cA a S2 3 9 1 _ hv4 hap hfl) gL_guild_X0_cover rfl rfl rfl cd_X0_cover (Nat.le_of_ble_eq_true rfl) (Nat.le_of_ble_eq_true rfl) (preTsH hK hP hE hS hA) rfl hl.1 rfl (Nat.le_of_ble_eq_true rfl) (by show (C + 1) + 1 ≤ 4350; omega) (by show (Z + 6) + 6 ≤ 27208; omega) dL_guild_113 hS hA (fun H locs hP hS => ?_)
    refine lv_if_eq (tgt := 215) hx hb dL_guild_116 (by decide) (fun c6 => ?_) (fun c6 => ?_)
    · rw [if_pos c6] at hf; cases hf
    rw [if_neg c6] at hf
    refine lv_aload_n hx hb dL_guild_119 rfl (lv_at hl 0 rfl) ?_
    refine lv_iconst (v := 0) hx hb dL_guild_120 (by decide) ?_
    obtain ⟨v7, S8, hv7, hf⟩ := xv_some hf
    refine lc_P (As := [.int 0]) (rest := []) ⟨hx, hb, hml, hown, hts⟩ (k_X0_make l dC dI cA a S5 0 _ hv7 hap hfl) gL_guild_X0_make rfl rfl rfl cd_X0_make (Nat.le_of_ble_eq_true rfl) (Nat.le_of_ble_eq_true rfl) (preTsH hK hP hE hS hA) rfl hl.1 rfl (Nat.le_of_ble_eq_true rfl) (by show (C + 2) + 2 ≤ 4350; omega) (by show (Z + 12) + 12 ≤ 27208; omega) dL_guild_121 hS hA (fun H locs hP hS => ?_)
    refine lv_if_ne (tgt := 215) hx hb dL_guild_124 (by decide) (fun c9 => ?_) (fun c9 => ?_)
    · rw [if_neg c9] at hf; cases hf
    rw [if_pos c9] at hf
    refine lv_aload_n hx hb dL_guild_127 rfl (lv_at hl 0 rfl) ?_
    refine lv_iconst (v := 0) hx hb dL_guild_128 (by decide) ?_
    refine lv_iconst (v := 0) hx hb dL_guild_129 (by decide) ?_
    obtain ⟨v10, S11, hv10, hf⟩ := xv_some hf
    refine lc_P (As := [.int 0, .int 0]) (rest := []) ⟨hx, hb, hml, hown, hts⟩ (k_X0_value l dC dI cA a S8 0 0 _ hv10 hap hfl) gL_guild_X0_value rfl rfl rfl cd_X0_value (Nat.le_of_ble_eq_true rfl) (Nat.le_of_ble_eq_true rfl) (preTsH hK hP hE hS hA) rfl hl.1 rfl (Nat.le_of_ble_eq_true rfl) (by show (C + 4) + 2 ≤ 4350; omega) (by show (Z + 24) + 12 ≤ 27208; omega) dL_guild_130 hS hA (fun H locs hP hS => ?_)
    refine lv_if_ne (tgt := 215) hx hb dL_guild_133 (by decide) (fun c12 => ?_) (fun c12 => ?_)
    · rw [if_neg c12] at hf; cases hf
    rw [if_pos c12] at hf
    refine lv_aload_n hx hb dL_guild_136 rfl (lv_at hl 0 rfl) ?_
    refine lv_iconst (v := 0) hx hb dL_guild_137 (by decide) ?_
    refine lv_iconst (v := 3) hx hb dL_guild_138 (by decide) ?_
    obtain ⟨v13, S14, hv13, hf⟩ := xv_some hf
    refine lc_P (As := [.int 0, .int 3]) (rest := []) ⟨hx, hb, hml, hown, hts⟩ (k_X0_value l dC dI cA a S11 0 3 _ hv13 hap hfl) gL_guild_X0_value rfl rfl rfl cd_X0_value (Nat.le_of_ble_eq_true rfl) (Nat.le_of_ble_eq_true rfl) (preTsH hK hP hE hS hA) rfl hl.1 rfl (Nat.le_of_ble_eq_true rfl) (by show (C + 6) + 2 ≤ 4350; omega) (by show (Z + 36) + 12 ≤ 27208; omega) dL_guild_139 hS hA (fun H locs hP hS => ?_)
    refine lv_iconst (v := 3) hx hb dL_guild_142 (by decide) ?_
    refine lv_icmp_ne (tgt := 215) hx hb dL_guild_143 (by decide) (fun c15 => ?_) (fun c15 => ?_)
    · rw [if_neg c15] at hf; cases hf
    rw [if_pos c15] at hf
    refine lv_aload_n hx hb dL_guild_146 rfl (lv_at hl 0 rfl) ?_
    refine lv_iconst (v := 0) hx hb dL_guild_147 (by decide) ?_
    refine lv_bipush (v := 6) hx hb dL_guild_148 (by decide) ?_
    obtain ⟨v16, S17, hv16, hf⟩ := xv_some hf
    refine lc_P (As := [.int 0, .int 6]) (rest := []) ⟨hx, hb, hml, hown, hts⟩ (k_X0_value l dC dI cA a S14 0 6 _ hv16 hap hfl) gL_guild_X0_value rfl rfl rfl cd_X0_value (Nat.le_of_ble_eq_true rfl) (Nat.le_of_ble_eq_true rfl) (preTsH hK hP hE hS hA) rfl hl.1 rfl (Nat.le_of_ble_eq_true rfl) (by show (C + 8) + 2 ≤ 4350; omega) (by show (Z + 48) + 12 ≤ 27208; omega) dL_guild_150 hS hA (fun H locs hP hS => ?_)
    refine lv_iconst (v := 2) hx hb dL_guild_153 (by decide) ?_
    refine lv_icmp_ne (tgt := 215) hx hb dL_guild_154 (by decide) (fun c18 => ?_) (fun c18 => ?_)
    · rw [if_neg c18] at hf; cases hf
    rw [if_pos c18] at hf
    refine lv_aload_n hx hb dL_guild_157 rfl (lv_at hl 0 rfl) ?_
    refine lv_iconst (v := 0) hx hb dL_guild_158 (by decide) ?_
    refine lv_bipush (v := 15) hx hb dL_guild_159 (by decide) ?_
    obtain ⟨v19, S20, hv19, hf⟩ := xv_some hf
    refine lc_P (As := [.int 0, .int 15]) (rest := []) ⟨hx, hb, hml, hown, hts⟩ (k_X0_value l dC dI cA a S17 0 15 _ hv19 hap hfl) gL_guild_X0_value rfl rfl rfl cd_X0_value (Nat.le_of_ble_eq_true rfl) (Nat.le_of_ble_eq_true rfl) (preTsH hK hP hE hS hA) rfl hl.1 rfl (Nat.le_of_ble_eq_true rfl) (by show (C + 10) + 2 ≤ 4350; omega) (by show (Z + 60) + 12 ≤ 27208; omega) dL_guild_161 hS hA (fun H locs hP hS => ?_)
    refine lv_iconst (v := 4) hx hb dL_guild_164 (by decide) ?_
    refine lv_icmp_ne (tgt := 215) hx hb dL_guild_165 (by decide) (fun c21 => ?_) (fun c21 => ?_)
    · rw [if_neg c21] at hf; cases hf
    rw [if_pos c21] at hf
    refine lv_aload_n hx hb dL_guild_168 rfl (lv_at hl 0 rfl) ?_
    refine lv_iconst (v := 0) hx hb dL_guild_169 (by decide) ?_
    obtain ⟨v22, S23, hv22, hf⟩ := xv_some hf
    refine lc_P (As := [.int 0]) (rest := []) ⟨hx, hb, hml, hown, hts⟩ (k_X0_isLawful l dC dI cA a S20 0 _ hv22 hap hfl) gL_guild_X0_isLawful rfl rfl rfl cd_X0_isLawful (Nat.le_of_ble_eq_true rfl) (Nat.le_of_ble_eq_true rfl) (preTsH hK hP hE hS hA) rfl hl.1 rfl (Nat.le_of_ble_eq_true rfl) (by show (C + 12) + 1 ≤ 4350; omega) (by show (Z + 72) + 6 ≤ 27208; omega) dL_guild_170 hS hA (fun H locs hP hS => ?_)
    refine lv_if_eq (tgt := 215) hx hb dL_guild_173 (by decide) (fun c24 => ?_) (fun c24 => ?_)
    · rw [if_pos c24] at hf; cases hf
    rw [if_neg c24] at hf
    refine lv_aload_n hx hb dL_guild_176 rfl (lv_at hl 0 rfl) ?_
    refine lv_iconst (v := 0) hx hb dL_guild_177 (by decide) ?_
    obtain ⟨v25, S26, hv25, hf⟩ := xv_some hf
    refine lc_P (As := [.int 0]) (rest := []) ⟨hx, hb, hml, hown, hts⟩ (k_X0_rises l dC dI cA a S23 0 _ hv25 hap hfl) gL_guild_X0_rises rfl rfl rfl cd_X0_rises (Nat.le_of_ble_eq_true rfl) (Nat.le_of_ble_eq_true rfl) (preTsH hK hP hE hS hA) rfl hl.1 rfl (Nat.le_of_ble_eq_true rfl) (by show (C + 13) + 1 ≤ 4350; omega) (by show (Z + 78) + 6 ≤ 27208; omega) dL_guild_178 hS hA (fun H locs hP hS => ?_)
    refine lv_if_eq (tgt := 215) hx hb dL_guild_181 (by decide) (fun c27 => ?_) (fun c27 => ?_)
    · rw [if_pos c27] at hf; cases hf
    rw [if_neg c27] at hf
    exact hW184 (C + 14) (Z + 84) S26 _ _ ls (by omega) (by omega) hf hP hS (lv_sub hl [0] rfl)
  refine lv_astore_n (lv' := [(0, .ref (a 0))]) hx hb dL_guild_7 rfl hl (by decide) rfl (fun ls hl => ?_)
  refine lv_aload_n hx hb dL_guild_8 rfl (lv_at hl 0 rfl) ?_
  refine lv_iconst (v := 4) hx hb dL_guild_9 (by decide) ?_
  refine lv_iconst (v := 0) hx hb dL_guild_10 (by decide) ?_
  obtain ⟨q1, hq1, hf⟩ := ob_some hf
  refine lc_M (As := [.ref (a 0), .int 4, .int 0]) (rest := []) ⟨hx, hb, hml, hown, hts⟩ (k_L_refuses l hfl dC dI cA a S0X 4 0 _ hq1 hap) gL_guild_L_refuses rfl rfl rfl cd_L_refuses (Nat.le_of_ble_eq_true rfl) (Nat.le_of_ble_eq_true rfl) (preLsH hK hP hE hN hS hA) rfl hl.1 rfl (Nat.le_of_ble_eq_true rfl) (by show 10 + 633 ≤ 4350; omega) (by show 614 + 3798 ≤ 27208; omega) dL_guild_11 hS hA (fun H locs hP hS => ?_)
  refine lv_if_eq (tgt := 215) hx hb dL_guild_14 (by decide) (fun c2 => ?_) (fun c2 => ?_)
  · exact absurd c2 (by decide)
  refine lv_aload_n hx hb dL_guild_17 rfl (lv_at hl 0 rfl) ?_
  obtain ⟨q3, hq3, hf⟩ := ob_some hf
  refine lc_V (mc := 0) (ms := 0) (As := []) (rest := []) ⟨hx, hb, hml, hown, hts⟩ (k_X0_common l dC dI cA a q1 _ hq3 hap) gL_guild_X0_common rfl rfl rfl cd_X0_common (Nat.le_of_ble_eq_true rfl) (Nat.le_of_ble_eq_true rfl) (preX hK hP) rfl hl.1 rfl (Nat.le_of_ble_eq_true rfl) (by show 643 + 0 ≤ 4350; omega) (by show 4412 + 0 ≤ 27208; omega) dL_guild_18 hS hA (fun H locs hP hS => ?_)
  refine lv_iconst (v := 1) hx hb dL_guild_21 (by decide) ?_
  refine lv_icmp_ne (tgt := 215) hx hb dL_guild_22 (by decide) (fun c4 => ?_) (fun c4 => ?_)
  · rw [if_neg c4] at hf; cases hf
  rw [if_pos c4] at hf
  refine lv_aload_n hx hb dL_guild_25 rfl (lv_at hl 0 rfl) ?_
  refine lv_iconst (v := 0) hx hb dL_guild_26 (by decide) ?_
  refine lv_iconst (v := 0) hx hb dL_guild_27 (by decide) ?_
  refine lv_iconst (v := 1) hx hb dL_guild_28 (by decide) ?_
  obtain ⟨v5, S6, hv5, hf⟩ := xv_some hf
  refine lc_P (As := [.int 0, .int 0, .int 1]) (rest := []) ⟨hx, hb, hml, hown, hts⟩ (k_X0_cover l dC dI cA a q3.2 0 0 1 _ hv5 hap hfl) gL_guild_X0_cover rfl rfl rfl cd_X0_cover (Nat.le_of_ble_eq_true rfl) (Nat.le_of_ble_eq_true rfl) (preTsH hK hP hE hS hA) rfl hl.1 rfl (Nat.le_of_ble_eq_true rfl) (by show 643 + 1 ≤ 4350; omega) (by show 4412 + 6 ≤ 27208; omega) dL_guild_29 hS hA (fun H locs hP hS => ?_)
  refine lv_if_ne (tgt := 215) hx hb dL_guild_32 (by decide) (fun c7 => ?_) (fun c7 => ?_)
  · rw [if_neg c7] at hf; cases hf
  rw [if_pos c7] at hf
  refine lv_aload_n hx hb dL_guild_35 rfl (lv_at hl 0 rfl) ?_
  refine lv_iconst (v := 0) hx hb dL_guild_36 (by decide) ?_
  refine lv_iconst (v := 1) hx hb dL_guild_37 (by decide) ?_
  refine lv_iconst (v := 1) hx hb dL_guild_38 (by decide) ?_
  obtain ⟨v8, S9, hv8, hf⟩ := xv_some hf
  refine lc_P (As := [.int 0, .int 1, .int 1]) (rest := []) ⟨hx, hb, hml, hown, hts⟩ (k_X0_cover l dC dI cA a S6 0 1 1 _ hv8 hap hfl) gL_guild_X0_cover rfl rfl rfl cd_X0_cover (Nat.le_of_ble_eq_true rfl) (Nat.le_of_ble_eq_true rfl) (preTsH hK hP hE hS hA) rfl hl.1 rfl (Nat.le_of_ble_eq_true rfl) (by show 644 + 1 ≤ 4350; omega) (by show 4418 + 6 ≤ 27208; omega) dL_guild_39 hS hA (fun H locs hP hS => ?_)
  refine lv_if_ne (tgt := 215) hx hb dL_guild_42 (by decide) (fun c10 => ?_) (fun c10 => ?_)
  · rw [if_neg c10] at hf; cases hf
  rw [if_pos c10] at hf
  refine lv_aload_n hx hb dL_guild_45 rfl (lv_at hl 0 rfl) ?_
  refine lv_iconst (v := 1) hx hb dL_guild_46 (by decide) ?_
  refine lv_iconst (v := 1) hx hb dL_guild_47 (by decide) ?_
  refine lv_iconst (v := 1) hx hb dL_guild_48 (by decide) ?_
  obtain ⟨v11, S12, hv11, hf⟩ := xv_some hf
  refine lc_P (As := [.int 1, .int 1, .int 1]) (rest := []) ⟨hx, hb, hml, hown, hts⟩ (k_X0_cover l dC dI cA a S9 1 1 1 _ hv11 hap hfl) gL_guild_X0_cover rfl rfl rfl cd_X0_cover (Nat.le_of_ble_eq_true rfl) (Nat.le_of_ble_eq_true rfl) (preTsH hK hP hE hS hA) rfl hl.1 rfl (Nat.le_of_ble_eq_true rfl) (by show 645 + 1 ≤ 4350; omega) (by show 4424 + 6 ≤ 27208; omega) dL_guild_49 hS hA (fun H locs hP hS => ?_)
  refine lv_if_ne (tgt := 215) hx hb dL_guild_52 (by decide) (fun c13 => ?_) (fun c13 => ?_)
  · rw [if_neg c13] at hf; cases hf
  rw [if_pos c13] at hf
  refine lv_aload_n hx hb dL_guild_55 rfl (lv_at hl 0 rfl) ?_
  refine lv_iconst (v := 1) hx hb dL_guild_56 (by decide) ?_
  refine lv_iconst (v := 2) hx hb dL_guild_57 (by decide) ?_
  refine lv_iconst (v := 1) hx hb dL_guild_58 (by decide) ?_
  obtain ⟨v14, S15, hv14, hf⟩ := xv_some hf
  refine lc_P (As := [.int 1, .int 2, .int 1]) (rest := []) ⟨hx, hb, hml, hown, hts⟩ (k_X0_cover l dC dI cA a S12 1 2 1 _ hv14 hap hfl) gL_guild_X0_cover rfl rfl rfl cd_X0_cover (Nat.le_of_ble_eq_true rfl) (Nat.le_of_ble_eq_true rfl) (preTsH hK hP hE hS hA) rfl hl.1 rfl (Nat.le_of_ble_eq_true rfl) (by show 646 + 1 ≤ 4350; omega) (by show 4430 + 6 ≤ 27208; omega) dL_guild_59 hS hA (fun H locs hP hS => ?_)
  refine lv_if_ne (tgt := 215) hx hb dL_guild_62 (by decide) (fun c16 => ?_) (fun c16 => ?_)
  · rw [if_neg c16] at hf; cases hf
  rw [if_pos c16] at hf
  refine lv_aload_n hx hb dL_guild_65 rfl (lv_at hl 0 rfl) ?_
  refine lv_iconst (v := 2) hx hb dL_guild_66 (by decide) ?_
  refine lv_iconst (v := 2) hx hb dL_guild_67 (by decide) ?_
  refine lv_iconst (v := 1) hx hb dL_guild_68 (by decide) ?_
  obtain ⟨v17, S18, hv17, hf⟩ := xv_some hf
  refine lc_P (As := [.int 2, .int 2, .int 1]) (rest := []) ⟨hx, hb, hml, hown, hts⟩ (k_X0_cover l dC dI cA a S15 2 2 1 _ hv17 hap hfl) gL_guild_X0_cover rfl rfl rfl cd_X0_cover (Nat.le_of_ble_eq_true rfl) (Nat.le_of_ble_eq_true rfl) (preTsH hK hP hE hS hA) rfl hl.1 rfl (Nat.le_of_ble_eq_true rfl) (by show 647 + 1 ≤ 4350; omega) (by show 4436 + 6 ≤ 27208; omega) dL_guild_69 hS hA (fun H locs hP hS => ?_)
  refine lv_if_ne (tgt := 215) hx hb dL_guild_72 (by decide) (fun c19 => ?_) (fun c19 => ?_)
  · rw [if_neg c19] at hf; cases hf
  rw [if_pos c19] at hf
  refine lv_aload_n hx hb dL_guild_75 rfl (lv_at hl 0 rfl) ?_
  refine lv_iconst (v := 3) hx hb dL_guild_76 (by decide) ?_
  refine lv_bipush (v := 9) hx hb dL_guild_77 (by decide) ?_
  refine lv_iconst (v := 1) hx hb dL_guild_79 (by decide) ?_
  obtain ⟨v20, S21, hv20, hf⟩ := xv_some hf
  refine lc_P (As := [.int 3, .int 9, .int 1]) (rest := []) ⟨hx, hb, hml, hown, hts⟩ (k_X0_cover l dC dI cA a S18 3 9 1 _ hv20 hap hfl) gL_guild_X0_cover rfl rfl rfl cd_X0_cover (Nat.le_of_ble_eq_true rfl) (Nat.le_of_ble_eq_true rfl) (preTsH hK hP hE hS hA) rfl hl.1 rfl (Nat.le_of_ble_eq_true rfl) (by show 648 + 1 ≤ 4350; omega) (by show 4442 + 6 ≤ 27208; omega) dL_guild_80 hS hA (fun H locs hP hS => ?_)
  refine lv_if_ne (tgt := 215) hx hb dL_guild_83 (by decide) (fun c22 => ?_) (fun c22 => ?_)
  · rw [if_neg c22] at hf; cases hf
  rw [if_pos c22] at hf
  refine lv_aload_n hx hb dL_guild_86 rfl (lv_at hl 0 rfl) ?_
  refine lv_iconst (v := 3) hx hb dL_guild_87 (by decide) ?_
  refine lv_bipush (v := 8) hx hb dL_guild_88 (by decide) ?_
  refine lv_iconst (v := 1) hx hb dL_guild_90 (by decide) ?_
  obtain ⟨v23, S24, hv23, hf⟩ := xv_some hf
  refine lc_P (As := [.int 3, .int 8, .int 1]) (rest := []) ⟨hx, hb, hml, hown, hts⟩ (k_X0_cover l dC dI cA a S21 3 8 1 _ hv23 hap hfl) gL_guild_X0_cover rfl rfl rfl cd_X0_cover (Nat.le_of_ble_eq_true rfl) (Nat.le_of_ble_eq_true rfl) (preTsH hK hP hE hS hA) rfl hl.1 rfl (Nat.le_of_ble_eq_true rfl) (by show 649 + 1 ≤ 4350; omega) (by show 4448 + 6 ≤ 27208; omega) dL_guild_91 hS hA (fun H locs hP hS => ?_)
  refine lv_if_ne (tgt := 215) hx hb dL_guild_94 (by decide) (fun c25 => ?_) (fun c25 => ?_)
  · rw [if_neg c25] at hf; cases hf
  rw [if_pos c25] at hf
  exact hW97 650 4454 S24 _ _ ls (by omega) (by omega) hf hP hS (lv_sub hl [0] rfl)

def f_L_least (S : St) (p1 : Int32) (p2 : Int32) (p3 : Int32) (p4 : Int32) : Option St := (xv (f_X0_least S p1) fun v1 S2 => (if v1 = p2 then (xv (f_X0_leastSet S2 p1 0) fun v4 S5 => (if v4 = p3 then (xv (f_X0_leastSet S5 p1 1) fun v7 S8 => (if v7 = p4 then (xv (f_X0_leastSetAnew S8 p1 0) fun v10 S11 => (if v10 = p3 then (xv (f_X0_leastSetAnew S11 p1 1) fun v13 S14 => (if v13 = p4 then some S14 else none)) else none)) else none)) else none)) else none))
theorem cd_L_least : yL_least.cls ≠ "java/lang/invoke/MethodHandle" ∧ yL_least.cls ≠ "java/lang/invoke/VarHandle" ∧ (parseMethodDescriptor yL_least.desc).map (fun d => d.parameters.length) = some 5 := by decide +kernel
set_option maxHeartbeats 16000000 in
set_option maxRecDepth 100000 in
theorem k_L_least (l : Launch) (hfl : l.stackTraces = false) (dC : Nat → ClassId) (dI : Nat → Nat → Nat) (cA : ClassId) (a : Nat → Nat) (S : St) (p1 : Int32) (p2 : Int32) (p3 : Int32) (p4 : Int32) (r : St) (hf : f_L_least S p1 p2 p3 p4 = some r) (hap : apart a 10) : Met l yL_least wsL_least ({ frames := 13, cells := 10, slots := 60, locals := 363 }) (va_Pc [.ref (a 0), .int p1, .int p2, .int p3, .int p4] (PLs (dC, dI) cA a S)) (mXi (dC, dI) cA a 1 r) 10 60 (ad a 10) := by
  refine Met.ofW (cc := cL_least) (maxL := 5) (ret := (some .boolean)) (by decide) rfl ?_
  intro p e s m args below meth c s₁ B hml hv
  obtain ⟨rfl, hP, hK, hE, hN⟩ := hv
  have hx := B.exec
  have hb := B.bytes
  have hr := B.returns
  have hts := atoms_spec (ws := wsL_least) B.pre
  have hown : s.vm.findClass RL = some m.cls := findClass_of_methodNamed B.named
  have hlocks := B.notSynchronized
  have hA : ∀ q, ad a 10 q → ad a 10 q := fun _ h => h
  have hS : va_S (ad a 10) s.heap s.heap [] := va_S.rf
  have hl := lv_entry ([.ref (a 0), .int p1, .int p2, .int p3, .int p4]) (n := 5) (Nat.le_of_ble_eq_true rfl)
  rw [lg_entry_eq]
  generalize (lg_sl ([.ref (a 0), .int p1, .int p2, .int p3, .int p4]) ++ List.replicate (5 - (lg_sl ([.ref (a 0), .int p1, .int p2, .int p3, .int p4])).length) Slot.unset).toArray = ls at hl ⊢
  have hl : lv_has ls 5 [(0, .ref (a 0)), (1, .int p1), (2, .int p2), (3, .int p3), (4, .int p4)] := hl
  unfold f_L_least at hf
  refine lv_aload_n hx hb dL_least_0 rfl (lv_at hl 0 rfl) ?_
  refine lv_iload_n hx hb dL_least_1 rfl (lv_at hl 1 rfl) ?_
  obtain ⟨v1, S2, hv1, hf⟩ := xv_some hf
  refine lc_P (As := [.int p1]) (rest := []) ⟨hx, hb, hml, hown, hts⟩ (k_X0_least l dC dI cA a S p1 _ hv1 hap hfl) gL_least_X0_least rfl rfl rfl cd_X0_least (Nat.le_of_ble_eq_true rfl) (Nat.le_of_ble_eq_true rfl) (preTsH hK hP hE hS hA) rfl hl.1 rfl (Nat.le_of_ble_eq_true rfl) (by show 0 + 2 ≤ 10; omega) (by show 0 + 12 ≤ 60; omega) dL_least_2 hS hA (fun H locs hP hS => ?_)
  refine lv_iload_n hx hb dL_least_5 rfl (lv_at hl 2 rfl) ?_
  refine lv_icmp_ne (tgt := 55) hx hb dL_least_6 (by decide) (fun c3 => ?_) (fun c3 => ?_)
  · rw [if_neg c3] at hf; cases hf
  rw [if_pos c3] at hf
  refine lv_aload_n hx hb dL_least_9 rfl (lv_at hl 0 rfl) ?_
  refine lv_iload_n hx hb dL_least_10 rfl (lv_at hl 1 rfl) ?_
  refine lv_iconst (v := 0) hx hb dL_least_11 (by decide) ?_
  obtain ⟨v4, S5, hv4, hf⟩ := xv_some hf
  refine lc_P (As := [.int p1, .int 0]) (rest := []) ⟨hx, hb, hml, hown, hts⟩ (k_X0_leastSet l dC dI cA a S2 p1 0 _ hv4 hap hfl) gL_least_X0_leastSet rfl rfl rfl cd_X0_leastSet (Nat.le_of_ble_eq_true rfl) (Nat.le_of_ble_eq_true rfl) (preTsH hK hP hE hS hA) rfl hl.1 rfl (Nat.le_of_ble_eq_true rfl) (by show 2 + 2 ≤ 10; omega) (by show 12 + 12 ≤ 60; omega) dL_least_12 hS hA (fun H locs hP hS => ?_)
  refine lv_iload_n hx hb dL_least_15 rfl (lv_at hl 3 rfl) ?_
  refine lv_icmp_ne (tgt := 55) hx hb dL_least_16 (by decide) (fun c6 => ?_) (fun c6 => ?_)
  · rw [if_neg c6] at hf; cases hf
  rw [if_pos c6] at hf
  refine lv_aload_n hx hb dL_least_19 rfl (lv_at hl 0 rfl) ?_
  refine lv_iload_n hx hb dL_least_20 rfl (lv_at hl 1 rfl) ?_
  refine lv_iconst (v := 1) hx hb dL_least_21 (by decide) ?_
  obtain ⟨v7, S8, hv7, hf⟩ := xv_some hf
  refine lc_P (As := [.int p1, .int 1]) (rest := []) ⟨hx, hb, hml, hown, hts⟩ (k_X0_leastSet l dC dI cA a S5 p1 1 _ hv7 hap hfl) gL_least_X0_leastSet rfl rfl rfl cd_X0_leastSet (Nat.le_of_ble_eq_true rfl) (Nat.le_of_ble_eq_true rfl) (preTsH hK hP hE hS hA) rfl hl.1 rfl (Nat.le_of_ble_eq_true rfl) (by show 4 + 2 ≤ 10; omega) (by show 24 + 12 ≤ 60; omega) dL_least_22 hS hA (fun H locs hP hS => ?_)
  refine lv_iload hx hb dL_least_25 (lv_at hl 4 rfl) ?_
  refine lv_icmp_ne (tgt := 55) hx hb dL_least_27 (by decide) (fun c9 => ?_) (fun c9 => ?_)
  · rw [if_neg c9] at hf; cases hf
  rw [if_pos c9] at hf
  refine lv_aload_n hx hb dL_least_30 rfl (lv_at hl 0 rfl) ?_
  refine lv_iload_n hx hb dL_least_31 rfl (lv_at hl 1 rfl) ?_
  refine lv_iconst (v := 0) hx hb dL_least_32 (by decide) ?_
  obtain ⟨v10, S11, hv10, hf⟩ := xv_some hf
  refine lc_P (As := [.int p1, .int 0]) (rest := []) ⟨hx, hb, hml, hown, hts⟩ (k_X0_leastSetAnew l dC dI cA a S8 p1 0 _ hv10 hap hfl) gL_least_X0_leastSetAnew rfl rfl rfl cd_X0_leastSetAnew (Nat.le_of_ble_eq_true rfl) (Nat.le_of_ble_eq_true rfl) (preTsH hK hP hE hS hA) rfl hl.1 rfl (Nat.le_of_ble_eq_true rfl) (by show 6 + 2 ≤ 10; omega) (by show 36 + 12 ≤ 60; omega) dL_least_33 hS hA (fun H locs hP hS => ?_)
  refine lv_iload_n hx hb dL_least_36 rfl (lv_at hl 3 rfl) ?_
  refine lv_icmp_ne (tgt := 55) hx hb dL_least_37 (by decide) (fun c12 => ?_) (fun c12 => ?_)
  · rw [if_neg c12] at hf; cases hf
  rw [if_pos c12] at hf
  refine lv_aload_n hx hb dL_least_40 rfl (lv_at hl 0 rfl) ?_
  refine lv_iload_n hx hb dL_least_41 rfl (lv_at hl 1 rfl) ?_
  refine lv_iconst (v := 1) hx hb dL_least_42 (by decide) ?_
  obtain ⟨v13, S14, hv13, hf⟩ := xv_some hf
  refine lc_P (As := [.int p1, .int 1]) (rest := []) ⟨hx, hb, hml, hown, hts⟩ (k_X0_leastSetAnew l dC dI cA a S11 p1 1 _ hv13 hap hfl) gL_least_X0_leastSetAnew rfl rfl rfl cd_X0_leastSetAnew (Nat.le_of_ble_eq_true rfl) (Nat.le_of_ble_eq_true rfl) (preTsH hK hP hE hS hA) rfl hl.1 rfl (Nat.le_of_ble_eq_true rfl) (by show 8 + 2 ≤ 10; omega) (by show 48 + 12 ≤ 60; omega) dL_least_43 hS hA (fun H locs hP hS => ?_)
  refine lv_iload hx hb dL_least_46 (lv_at hl 4 rfl) ?_
  refine lv_icmp_ne (tgt := 55) hx hb dL_least_48 (by decide) (fun c15 => ?_) (fun c15 => ?_)
  · rw [if_neg c15] at hf; cases hf
  rw [if_pos c15] at hf
  refine lv_iconst (v := 1) hx hb dL_least_51 (by decide) ?_
  refine lv_goto (tgt := 56) hx hb dL_least_52 (by decide) ?_
  have hf := Option.some.inj hf; subst hf
  refine W.widen (k := 10) (n := 60) (by omega) (by omega) ?_
  exact W.zret hx hb hr rfl (fun t ht hW => ⟨⟨rfl, by rw [ht]; exact hP⟩, hS.F ht⟩) hS.2.2 dL_least_56
def f_L_share (S : St) (p1 : Int32) (p2 : Int32) (p3 : Int32) : Option St := (xv (f_X0_share S p1 p2) fun v1 S2 => (if v1 = p3 then (xv (f_X0_shareAnew S2 p1 p2) fun v4 S5 => (if v4 = p3 then some S5 else none)) else none))
theorem cd_L_share : yL_share.cls ≠ "java/lang/invoke/MethodHandle" ∧ yL_share.cls ≠ "java/lang/invoke/VarHandle" ∧ (parseMethodDescriptor yL_share.desc).map (fun d => d.parameters.length) = some 4 := by decide +kernel
set_option maxHeartbeats 16000000 in
set_option maxRecDepth 100000 in
theorem k_L_share (l : Launch) (hfl : l.stackTraces = false) (dC : Nat → ClassId) (dI : Nat → Nat → Nat) (cA : ClassId) (a : Nat → Nat) (S : St) (p1 : Int32) (p2 : Int32) (p3 : Int32) (r : St) (hf : f_L_share S p1 p2 p3 = some r) (hap : apart a 10) : Met l yL_share wsL_share ({ frames := 12, cells := 2, slots := 12, locals := 312 }) (va_Pc [.ref (a 0), .int p1, .int p2, .int p3] (PLs (dC, dI) cA a S)) (mXi (dC, dI) cA a 1 r) 2 12 (ad a 10) := by
  refine Met.ofW (cc := cL_share) (maxL := 4) (ret := (some .boolean)) (by decide) rfl ?_
  intro p e s m args below meth c s₁ B hml hv
  obtain ⟨rfl, hP, hK, hE, hN⟩ := hv
  have hx := B.exec
  have hb := B.bytes
  have hr := B.returns
  have hts := atoms_spec (ws := wsL_share) B.pre
  have hown : s.vm.findClass RL = some m.cls := findClass_of_methodNamed B.named
  have hlocks := B.notSynchronized
  have hA : ∀ q, ad a 10 q → ad a 10 q := fun _ h => h
  have hS : va_S (ad a 10) s.heap s.heap [] := va_S.rf
  have hl := lv_entry ([.ref (a 0), .int p1, .int p2, .int p3]) (n := 4) (Nat.le_of_ble_eq_true rfl)
  rw [lg_entry_eq]
  generalize (lg_sl ([.ref (a 0), .int p1, .int p2, .int p3]) ++ List.replicate (4 - (lg_sl ([.ref (a 0), .int p1, .int p2, .int p3])).length) Slot.unset).toArray = ls at hl ⊢
  have hl : lv_has ls 4 [(0, .ref (a 0)), (1, .int p1), (2, .int p2), (3, .int p3)] := hl
  unfold f_L_share at hf
  refine lv_aload_n hx hb dL_share_0 rfl (lv_at hl 0 rfl) ?_
  refine lv_iload_n hx hb dL_share_1 rfl (lv_at hl 1 rfl) ?_
  refine lv_iload_n hx hb dL_share_2 rfl (lv_at hl 2 rfl) ?_
  obtain ⟨v1, S2, hv1, hf⟩ := xv_some hf
  refine lc_P (As := [.int p1, .int p2]) (rest := []) ⟨hx, hb, hml, hown, hts⟩ (k_X0_share l dC dI cA a S p1 p2 _ hv1 hap hfl) gL_share_X0_share rfl rfl rfl cd_X0_share (Nat.le_of_ble_eq_true rfl) (Nat.le_of_ble_eq_true rfl) (preTsH hK hP hE hS hA) rfl hl.1 rfl (Nat.le_of_ble_eq_true rfl) (by show 0 + 1 ≤ 2; omega) (by show 0 + 6 ≤ 12; omega) dL_share_3 hS hA (fun H locs hP hS => ?_)
  refine lv_iload_n hx hb dL_share_6 rfl (lv_at hl 3 rfl) ?_
  refine lv_icmp_ne (tgt := 24) hx hb dL_share_7 (by decide) (fun c3 => ?_) (fun c3 => ?_)
  · rw [if_neg c3] at hf; cases hf
  rw [if_pos c3] at hf
  refine lv_aload_n hx hb dL_share_10 rfl (lv_at hl 0 rfl) ?_
  refine lv_iload_n hx hb dL_share_11 rfl (lv_at hl 1 rfl) ?_
  refine lv_iload_n hx hb dL_share_12 rfl (lv_at hl 2 rfl) ?_
  obtain ⟨v4, S5, hv4, hf⟩ := xv_some hf
  refine lc_P (As := [.int p1, .int p2]) (rest := []) ⟨hx, hb, hml, hown, hts⟩ (k_X0_shareAnew l dC dI cA a S2 p1 p2 _ hv4 hap hfl) gL_share_X0_shareAnew rfl rfl rfl cd_X0_shareAnew (Nat.le_of_ble_eq_true rfl) (Nat.le_of_ble_eq_true rfl) (preTsH hK hP hE hS hA) rfl hl.1 rfl (Nat.le_of_ble_eq_true rfl) (by show 1 + 1 ≤ 2; omega) (by show 6 + 6 ≤ 12; omega) dL_share_13 hS hA (fun H locs hP hS => ?_)
  refine lv_iload_n hx hb dL_share_16 rfl (lv_at hl 3 rfl) ?_
  refine lv_icmp_ne (tgt := 24) hx hb dL_share_17 (by decide) (fun c6 => ?_) (fun c6 => ?_)
  · rw [if_neg c6] at hf; cases hf
  rw [if_pos c6] at hf
  refine lv_iconst (v := 1) hx hb dL_share_20 (by decide) ?_
  refine lv_goto (tgt := 25) hx hb dL_share_21 (by decide) ?_
  have hf := Option.some.inj hf; subst hf
  refine W.widen (k := 2) (n := 12) (by omega) (by omega) ?_
  exact W.zret hx hb hr rfl (fun t ht hW => ⟨⟨rfl, by rw [ht]; exact hP⟩, hS.F ht⟩) hS.2.2 dL_share_25

theorem le_c {C X c Y M : Nat} (h : C + X ≤ M) (k : c + Y ≤ X) : C + c + Y ≤ M := by omega
theorem le_0 {C X Y M : Nat} (h : C + X ≤ M) (k : Y ≤ X) : C + Y ≤ M := by omega
set_option maxHeartbeats 16000000 in
set_option maxRecDepth 100000 in
theorem law_walk {p : Program} {l : Launch} {e : Env} {s : State} {m : MethodId} {below : List Frame} {meth : Method} {c : Code} (hfl : l.stackTraces = false) {dC : Nat → ClassId} {dI : Nat → Nat → Nat} {cA : ClassId} {sb L : Nat} {xs : Nat → Int32} (C0 : lw_At p s m meth c sb L xs) (hK : va_K (dC, dI) vwCl [(cA, .int)] s) (hE : TXo (fun q => s.heap.size ≤ q) s) (hN : NCs s) (r : Int32) (hf : f_L_law L xs = some r) (ls : Array Slot) (hl : lv_has ls 14 [(0, .ref sb)]) : W p l e room_1 s m #[Value.ref sb] below meth c s.heap [] 0 0 (lw_Z below #[Value.ref sb] s) (F0 m 0 ls []) := by
  obtain ⟨hx, hb, hr, hml, hown, hts, hX, hbl, hlocks, hgv⟩ := C0
  have hown : s.vm.findClass RL = some m.cls := hown
  have hts := fun w h => hts w (wsL_law_in w h)
  have hbA : ¬ (fun q : Nat => s.heap.size ≤ q) sb := Nat.not_le.mpr hbl
  have hS : va_S (fun q => s.heap.size ≤ q) s.heap s.heap [] := va_S.rf
  have hinl := inlX0
  have hw0 := hts (.classLink RL 8 RX0) (by decide +kernel)
  have hw1 := hts (.instantiable RX0 12) (by decide +kernel)
  have hw2 := hts (.initialized RX0) (by decide +kernel)
  have hw3 := hts (.methodLink RL 104 yX0_init) (by decide +kernel)
  have hw4 := hts (.instanceMethod yX0_init) (by decide +kernel)
  have hw5 := hts (.constant RL 89 (-7000003)) (by decide +kernel)
  have hw6 := hts (.constant RL 86 (-7000002)) (by decide +kernel)
  unfold f_L_law at hf
  obtain ⟨u1, hu1, hf⟩ := ob_some hf
  refine lc_G (As := []) (rest := []) ⟨hx, hb, hml, hown, hts⟩ (k_L_guild l hfl dC dI cA _ hu1) gL_law_L_guild rfl rfl rfl cd_L_guild (Nat.le_of_ble_eq_true rfl) (Nat.le_of_ble_eq_true rfl) (preGsH hK hE hN hS) rfl hl.1 rfl (Nat.le_of_ble_eq_true rfl) (by show 0 + 4350 ≤ 779948; omega) (by show 0 + 27208 ≤ 6761625; omega) dL_law_0 hS (fun H locs hk hS => ?_)
  refine lv_if_ne (tgt := 8) hx hb dL_law_3 (by decide) (fun c2 => ?_) (fun c2 => ?_)
  · skip
    refine lc_new (cc := cL_law) ⟨hx, hb, hml, hown, hts⟩ hinl hw0 hw1 hw2 gL_law_X0_init hw3 hw4 (Nat.le_of_ble_eq_true rfl) (Nat.le_of_ble_eq_true rfl) hl.1 (Nat.le_of_ble_eq_true rfl) (by show 4350 + 10 ≤ 779948; omega) (by show 27208 + 614 ≤ 6761625; omega) dL_law_8 dL_law_11 dL_law_12 hK hS (fun a H locs hap hA hP hS => ?_)
    have hW23 : ∀ (k23 : Nat) (C Z : Nat) (S : St) (x2 x3 x4 : Int32) (H : Heap) (locs : List Loc) (ls : Array Slot), C + (k23 * 656 + 0) ≤ 779948 → Z + (k23 * 3936 + 0) ≤ 6761625 → f_L_law_23 L xs k23 S x2 x3 x4 = some r → va_P (dC, dI) vwCl (wX cA a S) H → va_S (fun q => s.heap.size ≤ q) s.heap H locs → lv_has ls 14 [(0, .ref sb), (1, .ref (a 0)), (2, .int x2), (3, .int x3), (4, .int x4)] → W p l e room_1 s m #[Value.ref sb] below meth c H locs C Z (lw_Z below #[Value.ref sb] s) (F0 m 23 ls []) := by
      intro k23
      induction k23 with
      | zero =>
        intro C Z S x2 x3 x4 H locs ls hC hZ hf hP hS hl
        rw [f_L_law_23] at hf
        cases hf
      | succ k23 ih23 =>
        have hW912 : ∀ (C Z : Nat) (S : St) (x2 x3 x4 : Int32) (H : Heap) (locs : List Loc) (ls : Array Slot), C + (k23 * 656 + 633) ≤ 779948 → Z + (k23 * 3936 + 3798) ≤ 6761625 → f_L_law_912 L xs (f_L_law_23 L xs k23) S x2 x3 x4 = some r → va_P (dC, dI) vwCl (wX cA a S) H → va_S (fun q => s.heap.size ≤ q) s.heap H locs → lv_has ls 14 [(0, .ref sb), (1, .ref (a 0)), (2, .int x2), (3, .int x3), (4, .int x4)] → W p l e room_1 s m #[Value.ref sb] below meth c H locs C Z (lw_Z below #[Value.ref sb] s) (F0 m 912 ls []) := by
          intro C Z S x2 x3 x4 H locs ls hC hZ hf hP hS hl
          unfold f_L_law_912 at hf
          refine lv_aload_n hx hb dL_law_912 rfl (lv_at hl 1 rfl) ?_
          obtain ⟨q1, hq1, hf⟩ := ob_some hf
          refine lc_V (mc := 0) (ms := 0) (As := []) (rest := []) ⟨hx, hb, hml, hown, hts⟩ (k_X0_common l dC dI cA a S _ hq1 hap) gL_law_X0_common rfl rfl rfl cd_X0_common (Nat.le_of_ble_eq_true rfl) (Nat.le_of_ble_eq_true rfl) (preX hK hP) rfl hl.1 rfl (Nat.le_of_ble_eq_true rfl) (by show C + 0 ≤ 779948; exact le_0 hC (by omega)) (by show Z + 0 ≤ 6761625; exact le_0 hZ (by omega)) dL_law_913 hS hA (fun H locs hP hS => ?_)
          refine lv_aload_n hx hb dL_law_916 rfl (lv_at hl 1 rfl) ?_
          obtain ⟨v2, hv2, hf⟩ := ob_some hf
          refine pu_V (As := []) (rest := [.int q1.1]) ⟨hx, hb, hml, hown, hts⟩ (k_X0_commonAnew l dC dI cA a q1.2 _ hv2) gL_law_X0_commonAnew rfl rfl rfl cd_X0_commonAnew (Nat.le_of_ble_eq_true rfl) (Nat.le_of_ble_eq_true rfl) (preX hK hP) rfl hl.1 rfl (Nat.le_of_ble_eq_true rfl) (by show C ≤ 779948; exact Nat.le_trans (Nat.le_add_right _ _) hC) (by show Z ≤ 6761625; exact Nat.le_trans (Nat.le_add_right _ _) hZ) dL_law_917 ?_
          refine lv_icmp_ne (tgt := 940) hx hb dL_law_920 (by decide) (fun c3 => ?_) (fun c3 => ?_)
          · rw [if_neg c3] at hf; cases hf
          rw [if_pos c3] at hf
          refine lv_iload hx hb dL_law_923 (lv_at hl 4 rfl) ?_
          refine lv_bipush (v := 16) hx hb dL_law_925 (by decide) ?_
          refine lv_irem hx hb dL_law_927 (by decide) ?_
          refine lv_if_ne (tgt := 942) hx hb dL_law_928 (by decide) (fun c4 => ?_) (fun c4 => ?_)
          · rw [if_neg c4] at hf
            obtain ⟨y5, ey5⟩ : ∃ y : Int32, y = (x4 + 1) := ⟨_, rfl⟩
            have hf := bnd_at hf ey5
            refine lv_iinc (v := y5) (lv' := [(4, .int y5), (0, .ref sb), (1, .ref (a 0)), (2, .int x2), (3, .int x3)]) hx hb dL_law_942 hl (k := 4) rfl (by rw [ey5]; rfl) (by decide) rfl (fun ls hl => ?_)
            refine lv_goto (tgt := 23) hx hb dL_law_945 (by decide) ?_
            exact ih23 C Z q1.2 x2 x3 y5 _ _ ls (le_0 hC (by omega)) (le_0 hZ (by omega)) hf hP hS (lv_sub hl [1, 2, 3, 4, 0] rfl)
          · rw [if_pos c4] at hf
            refine lv_aload_n hx hb dL_law_931 rfl (lv_at hl 1 rfl) ?_
            refine lv_iload_n hx hb dL_law_932 rfl (lv_at hl 2 rfl) ?_
            refine lv_iload_n hx hb dL_law_933 rfl (lv_at hl 3 rfl) ?_
            obtain ⟨q6, hq6, hf⟩ := ob_some hf
            refine lc_M (As := [.ref (a 0), .int x2, .int x3]) (rest := []) ⟨hx, hb, hml, hown, hts⟩ (k_L_refuses l hfl dC dI cA a q1.2 x2 x3 _ hq6 hap) gL_law_L_refuses rfl rfl rfl cd_L_refuses (Nat.le_of_ble_eq_true rfl) (Nat.le_of_ble_eq_true rfl) (preLsH hK hP hE hN hS hA) rfl hl.1 rfl (Nat.le_of_ble_eq_true rfl) (by show C + 633 ≤ 779948; exact le_0 hC (by omega)) (by show Z + 3798 ≤ 6761625; exact le_0 hZ (by omega)) dL_law_934 hS hA (fun H locs hP hS => ?_)
            refine lv_if_ne (tgt := 942) hx hb dL_law_937 (by decide) (fun c7 => ?_) (fun c7 => ?_)
            · skip
              obtain ⟨y8, ey8⟩ : ∃ y : Int32, y = (x4 + 1) := ⟨_, rfl⟩
              have hf := bnd_at hf ey8
              refine lv_iinc (v := y8) (lv' := [(4, .int y8), (0, .ref sb), (1, .ref (a 0)), (2, .int x2), (3, .int x3)]) hx hb dL_law_942 hl (k := 4) rfl (by rw [ey8]; rfl) (by decide) rfl (fun ls hl => ?_)
              refine lv_goto (tgt := 23) hx hb dL_law_945 (by decide) ?_
              exact ih23 (C + 633) (Z + 3798) q6 x2 x3 y8 _ _ ls (le_c hC (by omega)) (le_c hZ (by omega)) hf hP hS (lv_sub hl [1, 2, 3, 4, 0] rfl)
            · exact absurd c7 (by decide)
        have hW556 : ∀ (C Z : Nat) (S : St) (x2 x4 s0 s1 : Int32) (H : Heap) (locs : List Loc) (ls : Array Slot), C + (k23 * 656 + 633) ≤ 779948 → Z + (k23 * 3936 + 3798) ≤ 6761625 → f_L_law_556 L xs (f_L_law_23 L xs k23) S x2 x4 s0 s1 = some r → va_P (dC, dI) vwCl (wX cA a S) H → va_S (fun q => s.heap.size ≤ q) s.heap H locs → lv_has ls 14 [(0, .ref sb), (1, .ref (a 0)), (2, .int x2), (4, .int x4)] → W p l e room_1 s m #[Value.ref sb] below meth c H locs C Z (lw_Z below #[Value.ref sb] s) (F0 m 556 ls [.int s1, .int s0]) := by
          intro C Z S x2 x4 s0 s1 H locs ls hC hZ hf hP hS hl
          unfold f_L_law_556 at hf
          refine lv_iadd hx hb dL_law_556 ?_
          refine lv_topi (fun y1 ey1 => ?_)
          have hf := bnd_at hf ey1
          refine lv_istore_n (lv' := [(3, .int y1), (0, .ref sb), (1, .ref (a 0)), (2, .int x2), (4, .int x4)]) hx hb dL_law_557 rfl hl (by decide) rfl (fun ls hl => ?_)
          refine lv_goto (tgt := 912) hx hb dL_law_558 (by decide) ?_
          exact hW912 C Z S x2 y1 x4 _ _ ls (le_0 hC (by omega)) (le_0 hZ (by omega)) hf hP hS (lv_sub hl [1, 2, 3, 0, 4] rfl)
        have hW544 : ∀ (C Z : Nat) (S : St) (x2 x3 x4 : Int32) (H : Heap) (locs : List Loc) (ls : Array Slot), C + (k23 * 656 + 633) ≤ 779948 → Z + (k23 * 3936 + 3798) ≤ 6761625 → f_L_law_544 L xs (f_L_law_23 L xs k23) S x2 x3 x4 = some r → va_P (dC, dI) vwCl (wX cA a S) H → va_S (fun q => s.heap.size ≤ q) s.heap H locs → lv_has ls 14 [(0, .ref sb), (1, .ref (a 0)), (2, .int x2), (3, .int x3), (4, .int x4)] → W p l e room_1 s m #[Value.ref sb] below meth c H locs C Z (lw_Z below #[Value.ref sb] s) (F0 m 544 ls []) := by
          intro C Z S x2 x3 x4 H locs ls hC hZ hf hP hS hl
          unfold f_L_law_544 at hf
          refine lv_iload_n hx hb dL_law_544 rfl (lv_at hl 3 rfl) ?_
          refine lv_iload_n hx hb dL_law_545 rfl (lv_at hl 3 rfl) ?_
          refine lv_bipush (v := 8) hx hb dL_law_546 (by decide) ?_
          refine lv_icmp_ge (tgt := 555) hx hb dL_law_548 (by decide) (fun c1 => ?_) (fun c1 => ?_)
          · rw [if_pos c1] at hf
            refine lv_iconst (v := 0) hx hb dL_law_555 (by decide) ?_
            exact hW556 C Z S x2 x4 x3 0 _ _ ls (le_0 hC (by omega)) (le_0 hZ (by omega)) hf hP hS (lv_sub hl [0, 1, 2, 4] rfl)
          · rw [if_neg c1] at hf
            refine lv_iconst (v := 1) hx hb dL_law_551 (by decide) ?_
            refine lv_goto (tgt := 556) hx hb dL_law_552 (by decide) ?_
            exact hW556 C Z S x2 x4 x3 1 _ _ ls (le_0 hC (by omega)) (le_0 hZ (by omega)) hf hP hS (lv_sub hl [0, 1, 2, 4] rfl)
        have hW498 : ∀ (C Z : Nat) (S : St) (x2 x3 x4 s0 s1 : Int32) (H : Heap) (locs : List Loc) (ls : Array Slot), C + (k23 * 656 + 639) ≤ 779948 → Z + (k23 * 3936 + 3834) ≤ 6761625 → f_L_law_498 L xs (f_L_law_23 L xs k23) S x2 x3 x4 s0 s1 = some r → va_P (dC, dI) vwCl (wX cA a S) H → va_S (fun q => s.heap.size ≤ q) s.heap H locs → lv_has ls 14 [(0, .ref sb), (1, .ref (a 0)), (2, .int x2), (3, .int x3), (4, .int x4)] → W p l e room_1 s m #[Value.ref sb] below meth c H locs C Z (lw_Z below #[Value.ref sb] s) (F0 m 498 ls [.int s1, .int s0]) := by
          intro C Z S x2 x3 x4 s0 s1 H locs ls hC hZ hf hP hS hl
          unfold f_L_law_498 at hf
          refine lv_icmp_eq (tgt := 503) hx hb dL_law_498 (by decide) (fun c1 => ?_) (fun c1 => ?_)
          · rw [if_pos c1] at hf
            refine lv_iload_n hx hb dL_law_503 rfl (lv_at hl 3 rfl) ?_
            refine lv_bipush (v := 8) hx hb dL_law_504 (by decide) ?_
            refine lv_icmp_ge (tgt := 544) hx hb dL_law_506 (by decide) (fun c2 => ?_) (fun c2 => ?_)
            · rw [if_pos c2] at hf
              exact hW544 C Z S x2 x3 x4 _ _ ls (le_0 hC (by omega)) (le_0 hZ (by omega)) hf hP hS (lv_sub hl [0, 1, 2, 3, 4] rfl)
            · rw [if_neg c2] at hf
              refine lv_aload_n hx hb dL_law_509 rfl (lv_at hl 1 rfl) ?_
              refine lv_iload_n hx hb dL_law_510 rfl (lv_at hl 3 rfl) ?_
              refine lv_iconst (v := 0) hx hb dL_law_511 (by decide) ?_
              obtain ⟨v3, S4, hv3, hf⟩ := xv_some hf
              refine lc_P (As := [.int x3, .int 0]) (rest := []) ⟨hx, hb, hml, hown, hts⟩ (k_X0_value l dC dI cA a S x3 0 _ hv3 hap hfl) gL_law_X0_value rfl rfl rfl cd_X0_value (Nat.le_of_ble_eq_true rfl) (Nat.le_of_ble_eq_true rfl) (preTsH hK hP hE hS hA) rfl hl.1 rfl (Nat.le_of_ble_eq_true rfl) (by show C + 2 ≤ 779948; exact le_0 hC (by omega)) (by show Z + 12 ≤ 6761625; exact le_0 hZ (by omega)) dL_law_512 hS hA (fun H locs hP hS => ?_)
              refine lv_if_ne (tgt := 542) hx hb dL_law_515 (by decide) (fun c5 => ?_) (fun c5 => ?_)
              · rw [if_neg c5] at hf; cases hf
              rw [if_pos c5] at hf
              refine lv_aload_n hx hb dL_law_518 rfl (lv_at hl 1 rfl) ?_
              refine lv_iload_n hx hb dL_law_519 rfl (lv_at hl 3 rfl) ?_
              obtain ⟨v6, S7, hv6, hf⟩ := xv_some hf
              refine lc_P (As := [.int x3]) (rest := []) ⟨hx, hb, hml, hown, hts⟩ (k_X0_isLawful l dC dI cA a S4 x3 _ hv6 hap hfl) gL_law_X0_isLawful rfl rfl rfl cd_X0_isLawful (Nat.le_of_ble_eq_true rfl) (Nat.le_of_ble_eq_true rfl) (preTsH hK hP hE hS hA) rfl hl.1 rfl (Nat.le_of_ble_eq_true rfl) (by show (C + 2) + 1 ≤ 779948; exact le_c hC (by omega)) (by show (Z + 12) + 6 ≤ 6761625; exact le_c hZ (by omega)) dL_law_520 hS hA (fun H locs hP hS => ?_)
              refine lv_if_eq (tgt := 542) hx hb dL_law_523 (by decide) (fun c8 => ?_) (fun c8 => ?_)
              · rw [if_pos c8] at hf; cases hf
              rw [if_neg c8] at hf
              refine lv_aload_n hx hb dL_law_526 rfl (lv_at hl 1 rfl) ?_
              refine lv_iload_n hx hb dL_law_527 rfl (lv_at hl 3 rfl) ?_
              obtain ⟨v9, S10, hv9, hf⟩ := xv_some hf
              refine lc_P (As := [.int x3]) (rest := []) ⟨hx, hb, hml, hown, hts⟩ (k_X0_rises l dC dI cA a S7 x3 _ hv9 hap hfl) gL_law_X0_rises rfl rfl rfl cd_X0_rises (Nat.le_of_ble_eq_true rfl) (Nat.le_of_ble_eq_true rfl) (preTsH hK hP hE hS hA) rfl hl.1 rfl (Nat.le_of_ble_eq_true rfl) (by show (C + 3) + 1 ≤ 779948; exact le_c hC (by omega)) (by show (Z + 18) + 6 ≤ 6761625; exact le_c hZ (by omega)) dL_law_528 hS hA (fun H locs hP hS => ?_)
              refine lv_if_eq (tgt := 544) hx hb dL_law_531 (by decide) (fun c11 => ?_) (fun c11 => ?_)
              · rw [if_pos c11] at hf
                exact hW544 (C + 4) (Z + 24) S10 x2 x3 x4 _ _ ls (le_c hC (by omega)) (le_c hZ (by omega)) hf hP hS (lv_sub hl [0, 1, 2, 3, 4] rfl)
              · rw [if_neg c11] at hf
                refine lv_aload_n hx hb dL_law_534 rfl (lv_at hl 1 rfl) ?_
                refine lv_iload_n hx hb dL_law_535 rfl (lv_at hl 3 rfl) ?_
                obtain ⟨v12, S13, hv12, hf⟩ := xv_some hf
                refine lc_P (As := [.int x3]) (rest := []) ⟨hx, hb, hml, hown, hts⟩ (k_X0_least l dC dI cA a S10 x3 _ hv12 hap hfl) gL_law_X0_least rfl rfl rfl cd_X0_least (Nat.le_of_ble_eq_true rfl) (Nat.le_of_ble_eq_true rfl) (preTsH hK hP hE hS hA) rfl hl.1 rfl (Nat.le_of_ble_eq_true rfl) (by show (C + 4) + 2 ≤ 779948; exact le_c hC (by omega)) (by show (Z + 24) + 12 ≤ 6761625; exact le_c hZ (by omega)) dL_law_536 hS hA (fun H locs hP hS => ?_)
                refine lv_if_eq (tgt := 544) hx hb dL_law_539 (by decide) (fun c14 => ?_) (fun c14 => ?_)
                · rw [if_pos c14] at hf
                  exact hW544 (C + 6) (Z + 36) S13 x2 x3 x4 _ _ ls (le_c hC (by omega)) (le_c hZ (by omega)) hf hP hS (lv_sub hl [0, 1, 2, 3, 4] rfl)
                · rw [if_neg c14] at hf
                  refine lv_iconst (v := 0) hx hb dL_law_542 (by decide) ?_
                  cases hf
          · rw [if_neg c1] at hf
            refine lv_iconst (v := 0) hx hb dL_law_501 (by decide) ?_
            cases hf
        have hW474 : ∀ (C Z : Nat) (S : St) (x2 x3 x4 x7 : Int32) (H : Heap) (locs : List Loc) (ls : Array Slot), C + (k23 * 656 + 642) ≤ 779948 → Z + (k23 * 3936 + 3852) ≤ 6761625 → f_L_law_474 L xs (f_L_law_23 L xs k23) S x2 x3 x4 x7 = some r → va_P (dC, dI) vwCl (wX cA a S) H → va_S (fun q => s.heap.size ≤ q) s.heap H locs → lv_has ls 14 [(0, .ref sb), (1, .ref (a 0)), (2, .int x2), (3, .int x3), (4, .int x4), (7, .int x7)] → W p l e room_1 s m #[Value.ref sb] below meth c H locs C Z (lw_Z below #[Value.ref sb] s) (F0 m 474 ls []) := by
          intro C Z S x2 x3 x4 x7 H locs ls hC hZ hf hP hS hl
          unfold f_L_law_474 at hf
          refine lv_aload_n hx hb dL_law_474 rfl (lv_at hl 1 rfl) ?_
          refine lv_bipush (v := 6) hx hb dL_law_475 (by decide) ?_
          refine lv_iload hx hb dL_law_477 (lv_at hl 5 rfl) ?_
          refine lv_iconst (v := 5) hx hb dL_law_479 (by decide) ?_
          refine lv_irem hx hb dL_law_480 (by decide) ?_
          refine lv_iconst (v := 0) hx hb dL_law_481 (by decide) ?_
          refine lv_iconst (v := 0) hx hb dL_law_482 (by decide) ?_
          obtain ⟨q1, hq1, hf⟩ := ob_some hf
          refine lc_W (As := [.ref (a 0), .int 6, .int (x7 - x7 / 5 * 5), .int 0, .int 0]) (rest := []) ⟨hx, hb, hml, hown, hts⟩ (k_L_act l hfl dC dI cA a S 6 (x7 - x7 / 5 * 5) 0 0 _ hq1 hap) gL_law_L_act rfl rfl rfl cd_L_act (Nat.le_of_ble_eq_true rfl) (Nat.le_of_ble_eq_true rfl) (preLsH hK hP hE hN hS hA) rfl hl.1 rfl (Nat.le_of_ble_eq_true rfl) (by show C + 3 ≤ 779948; exact le_0 hC (by omega)) (by show Z + 18 ≤ 6761625; exact le_0 hZ (by omega)) dL_law_483 hS hA (fun H locs hP hS => ?_)
          refine lv_iload_n hx hb dL_law_486 rfl (lv_at hl 3 rfl) ?_
          refine lv_bipush (v := 8) hx hb dL_law_487 (by decide) ?_
          refine lv_icmp_ge (tgt := 496) hx hb dL_law_489 (by decide) (fun c2 => ?_) (fun c2 => ?_)
          · rw [if_pos c2] at hf
            refine lv_ldc (v := (-7000003)) hx hb hown hw5 dL_law_496 ?_
            exact hW498 (C + 3) (Z + 18) q1.2 x2 x3 x4 q1.1 (-7000003) _ _ ls (le_c hC (by omega)) (le_c hZ (by omega)) hf hP hS (lv_sub hl [0, 1, 2, 3, 4] rfl)
          · rw [if_neg c2] at hf
            refine lv_iload_n hx hb dL_law_492 rfl (lv_at hl 3 rfl) ?_
            refine lv_goto (tgt := 498) hx hb dL_law_493 (by decide) ?_
            exact hW498 (C + 3) (Z + 18) q1.2 x2 x3 x4 q1.1 x3 _ _ ls (le_c hC (by omega)) (le_c hZ (by omega)) hf hP hS (lv_sub hl [0, 1, 2, 3, 4] rfl)
        have hW782 : ∀ (k782 : Nat) (C Z : Nat) (S : St) (x2 x3 x4 x9 x10 x11 x12 x13 : Int32) (H : Heap) (locs : List Loc) (ls : Array Slot), C + (k782 * 0 + k23 * 656 + 654) ≤ 779948 → Z + (k782 * 0 + k23 * 3936 + 3924) ≤ 6761625 → f_L_law_782 L xs (f_L_law_23 L xs k23) k782 S x2 x3 x4 x9 x10 x11 x12 x13 = some r → va_P (dC, dI) vwCl (wX cA a S) H → va_S (fun q => s.heap.size ≤ q) s.heap H locs → lv_has ls 14 [(0, .ref sb), (1, .ref (a 0)), (2, .int x2), (3, .int x3), (4, .int x4), (9, .int x9), (10, .int x10), (11, .int x11), (12, .int x12), (13, .int x13)] → W p l e room_1 s m #[Value.ref sb] below meth c H locs C Z (lw_Z below #[Value.ref sb] s) (F0 m 782 ls []) := by
          intro k782
          induction k782 with
          | zero =>
            intro C Z S x2 x3 x4 x9 x10 x11 x12 x13 H locs ls hC hZ hf hP hS hl
            rw [f_L_law_782] at hf
            cases hf
          | succ k782 ih782 =>
            intro C Z S x2 x3 x4 x9 x10 x11 x12 x13 H locs ls hC hZ hf hP hS hl
            rw [f_L_law_782] at hf
            rw [Nat.add_mul, Nat.one_mul] at hC hZ
            refine lv_iload hx hb dL_law_782 (lv_at hl 9 rfl) ?_
            refine lv_iload_n hx hb dL_law_784 rfl (lv_at hl 2 rfl) ?_
            refine lv_icmp_ge (tgt := 806) hx hb dL_law_785 (by decide) (fun c1 => ?_) (fun c1 => ?_)
            · rw [if_pos c1] at hf
              refine lv_iload hx hb dL_law_806 (lv_at hl 8 rfl) ?_
              refine lv_iload hx hb dL_law_808 (lv_at hl 6 rfl) ?_
              refine lv_icmp_gt (tgt := 843) hx hb dL_law_810 (by decide) (fun c2 => ?_) (fun c2 => ?_)
              · rw [if_pos c2] at hf; cases hf
              rw [if_neg c2] at hf
              refine lv_aload_n hx hb dL_law_813 rfl (lv_at hl 1 rfl) ?_
              refine lv_iload hx hb dL_law_814 (lv_at hl 5 rfl) ?_
              refine lv_iload hx hb dL_law_816 (lv_at hl 7 rfl) ?_
              obtain ⟨v3, S4, hv3, hf⟩ := xv_some hf
              refine lc_P (As := [.int x9, .int x11]) (rest := []) ⟨hx, hb, hml, hown, hts⟩ (k_X0_value l dC dI cA a S x9 x11 _ hv3 hap hfl) gL_law_X0_value rfl rfl rfl cd_X0_value (Nat.le_of_ble_eq_true rfl) (Nat.le_of_ble_eq_true rfl) (preTsH hK hP hE hS hA) rfl hl.1 rfl (Nat.le_of_ble_eq_true rfl) (by show C + 2 ≤ 779948; exact le_0 hC (by omega)) (by show Z + 12 ≤ 6761625; exact le_0 hZ (by omega)) dL_law_818 hS hA (fun H locs hP hS => ?_)
              refine lv_aload_n hx hb dL_law_821 rfl (lv_at hl 1 rfl) ?_
              refine lv_iload hx hb dL_law_822 (lv_at hl 5 rfl) ?_
              refine lv_iload hx hb dL_law_824 (lv_at hl 6 rfl) ?_
              obtain ⟨v5, S6, hv5, hf⟩ := xv_some hf
              refine lc_P (As := [.int x9, .int x10]) (rest := [.int v3]) ⟨hx, hb, hml, hown, hts⟩ (k_X0_best l dC dI cA a S4 x9 x10 _ hv5 hap hfl) gL_law_X0_best rfl rfl rfl cd_X0_best (Nat.le_of_ble_eq_true rfl) (Nat.le_of_ble_eq_true rfl) (preTsH hK hP hE hS hA) rfl hl.1 rfl (Nat.le_of_ble_eq_true rfl) (by show (C + 2) + 2 ≤ 779948; exact le_c hC (by omega)) (by show (Z + 12) + 12 ≤ 6761625; exact le_c hZ (by omega)) dL_law_826 hS hA (fun H locs hP hS => ?_)
              refine lv_icmp_gt (tgt := 843) hx hb dL_law_829 (by decide) (fun c7 => ?_) (fun c7 => ?_)
              · rw [if_pos c7] at hf; cases hf
              rw [if_neg c7] at hf
              refine lv_aload_n hx hb dL_law_832 rfl (lv_at hl 1 rfl) ?_
              refine lv_iload hx hb dL_law_833 (lv_at hl 5 rfl) ?_
              refine lv_iload hx hb dL_law_835 (lv_at hl 7 rfl) ?_
              obtain ⟨v8, S9, hv8, hf⟩ := xv_some hf
              refine lc_P (As := [.int x9, .int x11]) (rest := []) ⟨hx, hb, hml, hown, hts⟩ (k_X0_value l dC dI cA a S6 x9 x11 _ hv8 hap hfl) gL_law_X0_value rfl rfl rfl cd_X0_value (Nat.le_of_ble_eq_true rfl) (Nat.le_of_ble_eq_true rfl) (preTsH hK hP hE hS hA) rfl hl.1 rfl (Nat.le_of_ble_eq_true rfl) (by show (C + 4) + 2 ≤ 779948; exact le_c hC (by omega)) (by show (Z + 24) + 12 ≤ 6761625; exact le_c hZ (by omega)) dL_law_837 hS hA (fun H locs hP hS => ?_)
              refine lv_if_ge (tgt := 845) hx hb dL_law_840 (by decide) (fun c10 => ?_) (fun c10 => ?_)
              · rw [if_pos c10] at hf
                refine lv_aload_n hx hb dL_law_845 rfl (lv_at hl 1 rfl) ?_
                refine lv_iload hx hb dL_law_846 (lv_at hl 5 rfl) ?_
                obtain ⟨v11, S12, hv11, hf⟩ := xv_some hf
                refine lc_P (As := [.int x9]) (rest := []) ⟨hx, hb, hml, hown, hts⟩ (k_X0_isLawful l dC dI cA a S9 x9 _ hv11 hap hfl) gL_law_X0_isLawful rfl rfl rfl cd_X0_isLawful (Nat.le_of_ble_eq_true rfl) (Nat.le_of_ble_eq_true rfl) (preTsH hK hP hE hS hA) rfl hl.1 rfl (Nat.le_of_ble_eq_true rfl) (by show (C + 6) + 1 ≤ 779948; exact le_c hC (by omega)) (by show (Z + 36) + 6 ≤ 6761625; exact le_c hZ (by omega)) dL_law_848 hS hA (fun H locs hP hS => ?_)
                refine lv_if_eq (tgt := 912) hx hb dL_law_851 (by decide) (fun c13 => ?_) (fun c13 => ?_)
                · rw [if_pos c13] at hf
                  exact hW912 (C + 7) (Z + 42) S12 x2 x3 x4 _ _ ls (le_c hC (by omega)) (le_c hZ (by omega)) hf hP hS (lv_sub hl [0, 1, 2, 3, 4] rfl)
                · rw [if_neg c13] at hf
                  refine lv_aload_n hx hb dL_law_854 rfl (lv_at hl 1 rfl) ?_
                  refine lv_iload hx hb dL_law_855 (lv_at hl 5 rfl) ?_
                  refine lv_iconst (v := 0) hx hb dL_law_857 (by decide) ?_
                  obtain ⟨v14, S15, hv14, hf⟩ := xv_some hf
                  refine lc_P (As := [.int x9, .int 0]) (rest := []) ⟨hx, hb, hml, hown, hts⟩ (k_X0_leastSet l dC dI cA a S12 x9 0 _ hv14 hap hfl) gL_law_X0_leastSet rfl rfl rfl cd_X0_leastSet (Nat.le_of_ble_eq_true rfl) (Nat.le_of_ble_eq_true rfl) (preTsH hK hP hE hS hA) rfl hl.1 rfl (Nat.le_of_ble_eq_true rfl) (by show (C + 7) + 2 ≤ 779948; exact le_c hC (by omega)) (by show (Z + 42) + 12 ≤ 6761625; exact le_c hZ (by omega)) dL_law_858 hS hA (fun H locs hP hS => ?_)
                  refine lv_aload_n hx hb dL_law_861 rfl (lv_at hl 1 rfl) ?_
                  refine lv_iload hx hb dL_law_862 (lv_at hl 5 rfl) ?_
                  refine lv_iconst (v := 0) hx hb dL_law_864 (by decide) ?_
                  obtain ⟨v16, S17, hv16, hf⟩ := xv_some hf
                  refine lc_P (As := [.int x9, .int 0]) (rest := [.int v14]) ⟨hx, hb, hml, hown, hts⟩ (k_X0_leastSetAnew l dC dI cA a S15 x9 0 _ hv16 hap hfl) gL_law_X0_leastSetAnew rfl rfl rfl cd_X0_leastSetAnew (Nat.le_of_ble_eq_true rfl) (Nat.le_of_ble_eq_true rfl) (preTsH hK hP hE hS hA) rfl hl.1 rfl (Nat.le_of_ble_eq_true rfl) (by show (C + 9) + 2 ≤ 779948; exact le_c hC (by omega)) (by show (Z + 54) + 12 ≤ 6761625; exact le_c hZ (by omega)) dL_law_865 hS hA (fun H locs hP hS => ?_)
                  refine lv_icmp_ne (tgt := 910) hx hb dL_law_868 (by decide) (fun c18 => ?_) (fun c18 => ?_)
                  · rw [if_neg c18] at hf; cases hf
                  rw [if_pos c18] at hf
                  refine lv_aload_n hx hb dL_law_871 rfl (lv_at hl 1 rfl) ?_
                  refine lv_iload hx hb dL_law_872 (lv_at hl 5 rfl) ?_
                  refine lv_iconst (v := 1) hx hb dL_law_874 (by decide) ?_
                  obtain ⟨v19, S20, hv19, hf⟩ := xv_some hf
                  refine lc_P (As := [.int x9, .int 1]) (rest := []) ⟨hx, hb, hml, hown, hts⟩ (k_X0_leastSet l dC dI cA a S17 x9 1 _ hv19 hap hfl) gL_law_X0_leastSet rfl rfl rfl cd_X0_leastSet (Nat.le_of_ble_eq_true rfl) (Nat.le_of_ble_eq_true rfl) (preTsH hK hP hE hS hA) rfl hl.1 rfl (Nat.le_of_ble_eq_true rfl) (by show (C + 11) + 2 ≤ 779948; exact le_c hC (by omega)) (by show (Z + 66) + 12 ≤ 6761625; exact le_c hZ (by omega)) dL_law_875 hS hA (fun H locs hP hS => ?_)
                  refine lv_aload_n hx hb dL_law_878 rfl (lv_at hl 1 rfl) ?_
                  refine lv_iload hx hb dL_law_879 (lv_at hl 5 rfl) ?_
                  refine lv_iconst (v := 1) hx hb dL_law_881 (by decide) ?_
                  obtain ⟨v21, S22, hv21, hf⟩ := xv_some hf
                  refine lc_P (As := [.int x9, .int 1]) (rest := [.int v19]) ⟨hx, hb, hml, hown, hts⟩ (k_X0_leastSetAnew l dC dI cA a S20 x9 1 _ hv21 hap hfl) gL_law_X0_leastSetAnew rfl rfl rfl cd_X0_leastSetAnew (Nat.le_of_ble_eq_true rfl) (Nat.le_of_ble_eq_true rfl) (preTsH hK hP hE hS hA) rfl hl.1 rfl (Nat.le_of_ble_eq_true rfl) (by show (C + 13) + 2 ≤ 779948; exact le_c hC (by omega)) (by show (Z + 78) + 12 ≤ 6761625; exact le_c hZ (by omega)) dL_law_882 hS hA (fun H locs hP hS => ?_)
                  refine lv_icmp_ne (tgt := 910) hx hb dL_law_885 (by decide) (fun c23 => ?_) (fun c23 => ?_)
                  · rw [if_neg c23] at hf; cases hf
                  rw [if_pos c23] at hf
                  refine lv_aload_n hx hb dL_law_888 rfl (lv_at hl 1 rfl) ?_
                  refine lv_iload hx hb dL_law_889 (lv_at hl 5 rfl) ?_
                  refine lv_aload_n hx hb dL_law_891 rfl (lv_at hl 1 rfl) ?_
                  refine lv_iload hx hb dL_law_892 (lv_at hl 5 rfl) ?_
                  refine lv_iconst (v := 1) hx hb dL_law_894 (by decide) ?_
                  obtain ⟨v24, S25, hv24, hf⟩ := xv_some hf
                  refine lc_P (As := [.int x9, .int 1]) (rest := [.int x9, .ref (a 0)]) ⟨hx, hb, hml, hown, hts⟩ (k_X0_leastSet l dC dI cA a S22 x9 1 _ hv24 hap hfl) gL_law_X0_leastSet rfl rfl rfl cd_X0_leastSet (Nat.le_of_ble_eq_true rfl) (Nat.le_of_ble_eq_true rfl) (preTsH hK hP hE hS hA) rfl hl.1 rfl (Nat.le_of_ble_eq_true rfl) (by show (C + 15) + 2 ≤ 779948; exact le_c hC (by omega)) (by show (Z + 90) + 12 ≤ 6761625; exact le_c hZ (by omega)) dL_law_895 hS hA (fun H locs hP hS => ?_)
                  obtain ⟨v26, S27, hv26, hf⟩ := xv_some hf
                  refine lc_P (As := [.int x9, .int v24]) (rest := []) ⟨hx, hb, hml, hown, hts⟩ (k_X0_value l dC dI cA a S25 x9 v24 _ hv26 hap hfl) gL_law_X0_value rfl rfl rfl cd_X0_value (Nat.le_of_ble_eq_true rfl) (Nat.le_of_ble_eq_true rfl) (preTsH hK hP hE hS hA) rfl hl.1 rfl (Nat.le_of_ble_eq_true rfl) (by show (C + 17) + 2 ≤ 779948; exact le_c hC (by omega)) (by show (Z + 102) + 12 ≤ 6761625; exact le_c hZ (by omega)) dL_law_898 hS hA (fun H locs hP hS => ?_)
                  refine lv_aload_n hx hb dL_law_901 rfl (lv_at hl 1 rfl) ?_
                  refine lv_iload hx hb dL_law_902 (lv_at hl 5 rfl) ?_
                  obtain ⟨v28, S29, hv28, hf⟩ := xv_some hf
                  refine lc_P (As := [.int x9]) (rest := [.int v26]) ⟨hx, hb, hml, hown, hts⟩ (k_X0_least l dC dI cA a S27 x9 _ hv28 hap hfl) gL_law_X0_least rfl rfl rfl cd_X0_least (Nat.le_of_ble_eq_true rfl) (Nat.le_of_ble_eq_true rfl) (preTsH hK hP hE hS hA) rfl hl.1 rfl (Nat.le_of_ble_eq_true rfl) (by show (C + 19) + 2 ≤ 779948; exact le_c hC (by omega)) (by show (Z + 114) + 12 ≤ 6761625; exact le_c hZ (by omega)) dL_law_904 hS hA (fun H locs hP hS => ?_)
                  refine lv_icmp_eq (tgt := 912) hx hb dL_law_907 (by decide) (fun c30 => ?_) (fun c30 => ?_)
                  · rw [if_pos c30] at hf
                    exact hW912 (C + 21) (Z + 126) S29 x2 x3 x4 _ _ ls (le_c hC (by omega)) (le_c hZ (by omega)) hf hP hS (lv_sub hl [0, 1, 2, 3, 4] rfl)
                  · rw [if_neg c30] at hf
                    refine lv_iconst (v := 0) hx hb dL_law_910 (by decide) ?_
                    cases hf
              · rw [if_neg c10] at hf
                refine lv_iconst (v := 0) hx hb dL_law_843 (by decide) ?_
                cases hf
            · rw [if_neg c1] at hf
              refine lv_iload hx hb dL_law_788 (lv_at hl 8 rfl) ?_
              refine lv_iload hx hb dL_law_790 (lv_at hl 7 rfl) ?_
              refine lv_iload hx hb dL_law_792 (lv_at hl 9 rfl) ?_
              refine lv_ishr hx hb dL_law_794 ?_
              refine lv_iconst (v := 1) hx hb dL_law_795 (by decide) ?_
              refine lv_iand hx hb dL_law_796 ?_
              refine lv_iadd hx hb dL_law_797 ?_
              refine lv_topi (fun y31 ey31 => ?_)
              have hf := bnd_at hf ey31
              refine lv_istore (lv' := [(12, .int y31), (0, .ref sb), (1, .ref (a 0)), (2, .int x2), (3, .int x3), (4, .int x4), (9, .int x9), (10, .int x10), (11, .int x11), (13, .int x13)]) hx hb dL_law_798 hl (by decide) rfl (fun ls hl => ?_)
              obtain ⟨y32, ey32⟩ : ∃ y : Int32, y = (x13 + 1) := ⟨_, rfl⟩
              have hf := bnd_at hf ey32
              refine lv_iinc (v := y32) (lv' := [(13, .int y32), (12, .int y31), (0, .ref sb), (1, .ref (a 0)), (2, .int x2), (3, .int x3), (4, .int x4), (9, .int x9), (10, .int x10), (11, .int x11)]) hx hb dL_law_800 hl (k := 9) rfl (by rw [ey32]; rfl) (by decide) rfl (fun ls hl => ?_)
              refine lv_goto (tgt := 782) hx hb dL_law_803 (by decide) ?_
              exact ih782 C Z S x2 x3 x4 x9 x10 x11 y31 y32 _ _ ls (le_0 hC (by omega)) (le_0 hZ (by omega)) hf hP hS (lv_sub hl [2, 3, 4, 5, 6, 7, 8, 9, 1, 0] rfl)
        have hW669 : ∀ (C Z : Nat) (S : St) (x2 x4 x9 s0 s1 : Int32) (H : Heap) (locs : List Loc) (ls : Array Slot), C + (k23 * 656 + 635) ≤ 779948 → Z + (k23 * 3936 + 3810) ≤ 6761625 → f_L_law_669 L xs (f_L_law_23 L xs k23) S x2 x4 x9 s0 s1 = some r → va_P (dC, dI) vwCl (wX cA a S) H → va_S (fun q => s.heap.size ≤ q) s.heap H locs → lv_has ls 14 [(0, .ref sb), (1, .ref (a 0)), (2, .int x2), (4, .int x4), (9, .int x9)] → W p l e room_1 s m #[Value.ref sb] below meth c H locs C Z (lw_Z below #[Value.ref sb] s) (F0 m 669 ls [.int s1, .int s0]) := by
          intro C Z S x2 x4 x9 s0 s1 H locs ls hC hZ hf hP hS hl
          unfold f_L_law_669 at hf
          refine lv_iadd hx hb dL_law_669 ?_
          refine lv_topi (fun y1 ey1 => ?_)
          have hf := bnd_at hf ey1
          refine lv_istore_n (lv' := [(3, .int y1), (0, .ref sb), (1, .ref (a 0)), (2, .int x2), (4, .int x4), (9, .int x9)]) hx hb dL_law_670 rfl hl (by decide) rfl (fun ls hl => ?_)
          refine lv_iload hx hb dL_law_671 (lv_at hl 5 rfl) ?_
          refine lv_if_lt (tgt := 688) hx hb dL_law_673 (by decide) (fun c2 => ?_) (fun c2 => ?_)
          · rw [if_pos c2] at hf
            refine lv_goto (tgt := 912) hx hb dL_law_688 (by decide) ?_
            exact hW912 C Z S x2 y1 x4 _ _ ls (le_0 hC (by omega)) (le_0 hZ (by omega)) hf hP hS (lv_sub hl [1, 2, 3, 0, 4] rfl)
          · rw [if_neg c2] at hf
            refine lv_aload_n hx hb dL_law_676 rfl (lv_at hl 2 rfl) ?_
            refine lv_iload hx hb dL_law_677 (lv_at hl 5 rfl) ?_
            refine lv_iconst (v := 0) hx hb dL_law_679 (by decide) ?_
            obtain ⟨v3, S4, hv3, hf⟩ := xv_some hf
            refine lc_P (As := [.int x9, .int 0]) (rest := []) ⟨hx, hb, hml, hown, hts⟩ (k_X0_value l dC dI cA a S x9 0 _ hv3 hap hfl) gL_law_X0_value rfl rfl rfl cd_X0_value (Nat.le_of_ble_eq_true rfl) (Nat.le_of_ble_eq_true rfl) (preTsH hK hP hE hS hA) rfl hl.1 rfl (Nat.le_of_ble_eq_true rfl) (by show C + 2 ≤ 779948; exact le_0 hC (by omega)) (by show Z + 12 ≤ 6761625; exact le_0 hZ (by omega)) dL_law_680 hS hA (fun H locs hP hS => ?_)
            refine lv_if_eq (tgt := 688) hx hb dL_law_683 (by decide) (fun c5 => ?_) (fun c5 => ?_)
            · rw [if_pos c5] at hf
              refine lv_goto (tgt := 912) hx hb dL_law_688 (by decide) ?_
              exact hW912 (C + 2) (Z + 12) S4 x2 y1 x4 _ _ ls (le_c hC (by omega)) (le_c hZ (by omega)) hf hP hS (lv_sub hl [1, 2, 3, 0, 4] rfl)
            · rw [if_neg c5] at hf
              refine lv_iconst (v := 0) hx hb dL_law_686 (by decide) ?_
              cases hf
        have hW652 : ∀ (C Z : Nat) (S : St) (x2 x3 x4 x9 s0 s1 : Int32) (H : Heap) (locs : List Loc) (ls : Array Slot), C + (k23 * 656 + 635) ≤ 779948 → Z + (k23 * 3936 + 3810) ≤ 6761625 → f_L_law_652 L xs (f_L_law_23 L xs k23) S x2 x3 x4 x9 s0 s1 = some r → va_P (dC, dI) vwCl (wX cA a S) H → va_S (fun q => s.heap.size ≤ q) s.heap H locs → lv_has ls 14 [(0, .ref sb), (1, .ref (a 0)), (2, .int x2), (3, .int x3), (4, .int x4), (9, .int x9)] → W p l e room_1 s m #[Value.ref sb] below meth c H locs C Z (lw_Z below #[Value.ref sb] s) (F0 m 652 ls [.int s1, .int s0]) := by
          intro C Z S x2 x3 x4 x9 s0 s1 H locs ls hC hZ hf hP hS hl
          unfold f_L_law_652 at hf
          refine lv_icmp_eq (tgt := 657) hx hb dL_law_652 (by decide) (fun c1 => ?_) (fun c1 => ?_)
          · rw [if_pos c1] at hf
            refine lv_iload_n hx hb dL_law_657 rfl (lv_at hl 3 rfl) ?_
            refine lv_iload_n hx hb dL_law_658 rfl (lv_at hl 3 rfl) ?_
            refine lv_bipush (v := 8) hx hb dL_law_659 (by decide) ?_
            refine lv_icmp_ge (tgt := 668) hx hb dL_law_661 (by decide) (fun c2 => ?_) (fun c2 => ?_)
            · rw [if_pos c2] at hf
              refine lv_iconst (v := 0) hx hb dL_law_668 (by decide) ?_
              exact hW669 C Z S x2 x4 x9 x3 0 _ _ ls (le_0 hC (by omega)) (le_0 hZ (by omega)) hf hP hS (lv_sub hl [0, 1, 2, 4, 5] rfl)
            · rw [if_neg c2] at hf
              refine lv_iconst (v := 1) hx hb dL_law_664 (by decide) ?_
              refine lv_goto (tgt := 669) hx hb dL_law_665 (by decide) ?_
              exact hW669 C Z S x2 x4 x9 x3 1 _ _ ls (le_0 hC (by omega)) (le_0 hZ (by omega)) hf hP hS (lv_sub hl [0, 1, 2, 4, 5] rfl)
          · rw [if_neg c1] at hf
            refine lv_iconst (v := 0) hx hb dL_law_655 (by decide) ?_
            cases hf
        have hW636 : ∀ (C Z : Nat) (S : St) (x2 x3 x4 s0 : Int32) (H : Heap) (locs : List Loc) (ls : Array Slot), C + (k23 * 656 + 635) ≤ 779948 → Z + (k23 * 3936 + 3810) ≤ 6761625 → f_L_law_636 L xs (f_L_law_23 L xs k23) S x2 x3 x4 s0 = some r → va_P (dC, dI) vwCl (wX cA a S) H → va_S (fun q => s.heap.size ≤ q) s.heap H locs → lv_has ls 14 [(0, .ref sb), (1, .ref (a 0)), (2, .int x2), (3, .int x3), (4, .int x4)] → W p l e room_1 s m #[Value.ref sb] below meth c H locs C Z (lw_Z below #[Value.ref sb] s) (F0 m 636 ls [.int s0]) := by
          intro C Z S x2 x3 x4 s0 H locs ls hC hZ hf hP hS hl
          unfold f_L_law_636 at hf
          refine lv_istore (lv' := [(9, .int s0), (0, .ref sb), (1, .ref (a 0)), (2, .int x2), (3, .int x3), (4, .int x4)]) hx hb dL_law_636 hl (by decide) rfl (fun ls hl => ?_)
          refine lv_iload hx hb dL_law_638 (lv_at hl 0 rfl) ?_
          refine lv_iload_n hx hb dL_law_640 rfl (lv_at hl 4 rfl) ?_
          refine lv_bipush (v := 8) hx hb dL_law_641 (by decide) ?_
          refine lv_icmp_ge (tgt := 650) hx hb dL_law_643 (by decide) (fun c1 => ?_) (fun c1 => ?_)
          · rw [if_pos c1] at hf
            refine lv_ldc (v := (-7000003)) hx hb hown hw5 dL_law_650 ?_
            exact hW652 C Z S x2 x3 x4 s0 s0 (-7000003) _ _ ls (le_0 hC (by omega)) (le_0 hZ (by omega)) hf hP hS (lv_sub hl [1, 2, 3, 4, 5, 0] rfl)
          · rw [if_neg c1] at hf
            refine lv_iload_n hx hb dL_law_646 rfl (lv_at hl 4 rfl) ?_
            refine lv_goto (tgt := 652) hx hb dL_law_647 (by decide) ?_
            exact hW652 C Z S x2 x3 x4 s0 s0 x3 _ _ ls (le_0 hC (by omega)) (le_0 hZ (by omega)) hf hP hS (lv_sub hl [1, 2, 3, 4, 5, 0] rfl)
        have hW312 : ∀ (C Z : Nat) (S : St) (x2 x3 x4 s0 s1 : Int32) (H : Heap) (locs : List Loc) (ls : Array Slot), C + (k23 * 656 + 633) ≤ 779948 → Z + (k23 * 3936 + 3798) ≤ 6761625 → f_L_law_312 L xs (f_L_law_23 L xs k23) S x2 x3 x4 s0 s1 = some r → va_P (dC, dI) vwCl (wX cA a S) H → va_S (fun q => s.heap.size ≤ q) s.heap H locs → lv_has ls 14 [(0, .ref sb), (1, .ref (a 0)), (2, .int x2), (3, .int x3), (4, .int x4)] → W p l e room_1 s m #[Value.ref sb] below meth c H locs C Z (lw_Z below #[Value.ref sb] s) (F0 m 312 ls [.int s1, .int s0]) := by
          intro C Z S x2 x3 x4 s0 s1 H locs ls hC hZ hf hP hS hl
          unfold f_L_law_312 at hf
          refine lv_icmp_eq (tgt := 317) hx hb dL_law_312 (by decide) (fun c1 => ?_) (fun c1 => ?_)
          · rw [if_pos c1] at hf
            refine lv_goto (tgt := 912) hx hb dL_law_317 (by decide) ?_
            exact hW912 C Z S x2 x3 x4 _ _ ls (le_0 hC (by omega)) (le_0 hZ (by omega)) hf hP hS (lv_sub hl [0, 1, 2, 3, 4] rfl)
          · rw [if_neg c1] at hf
            refine lv_iconst (v := 0) hx hb dL_law_315 (by decide) ?_
            cases hf
        have hW296 : ∀ (C Z : Nat) (S : St) (x2 x3 x4 x7 x8 s0 : Int32) (H : Heap) (locs : List Loc) (ls : Array Slot), C + (k23 * 656 + 633) ≤ 779948 → Z + (k23 * 3936 + 3798) ≤ 6761625 → f_L_law_296 L xs (f_L_law_23 L xs k23) S x2 x3 x4 x7 x8 s0 = some r → va_P (dC, dI) vwCl (wX cA a S) H → va_S (fun q => s.heap.size ≤ q) s.heap H locs → lv_has ls 14 [(0, .ref sb), (1, .ref (a 0)), (2, .int x2), (3, .int x3), (4, .int x4), (7, .int x7), (8, .int x8)] → W p l e room_1 s m #[Value.ref sb] below meth c H locs C Z (lw_Z below #[Value.ref sb] s) (F0 m 296 ls [.int s0]) := by
          intro C Z S x2 x3 x4 x7 x8 s0 H locs ls hC hZ hf hP hS hl
          unfold f_L_law_296 at hf
          refine lv_iload hx hb dL_law_296 (lv_at hl 5 rfl) ?_
          refine lv_iload_n hx hb dL_law_298 rfl (lv_at hl 2 rfl) ?_
          by_cases c1 : x2 = 0
          · rw [if_pos c1] at hf; cases hf
          rw [if_neg c1] at hf
          refine lv_irem hx hb dL_law_299 c1 ?_
          refine lv_iload hx hb dL_law_300 (lv_at hl 6 rfl) ?_
          refine lv_iload_n hx hb dL_law_302 rfl (lv_at hl 2 rfl) ?_
          by_cases c2 : x2 = 0
          · rw [if_pos c2] at hf; cases hf
          rw [if_neg c2] at hf
          refine lv_irem hx hb dL_law_303 c2 ?_
          refine lv_icmp_ne (tgt := 311) hx hb dL_law_304 (by decide) (fun c3 => ?_) (fun c3 => ?_)
          · rw [if_neg c3] at hf
            refine lv_iconst (v := 0) hx hb dL_law_311 (by decide) ?_
            exact hW312 C Z S x2 x3 x4 s0 0 _ _ ls (le_0 hC (by omega)) (le_0 hZ (by omega)) hf hP hS (lv_sub hl [0, 1, 2, 3, 4] rfl)
          · rw [if_pos c3] at hf
            refine lv_iconst (v := 1) hx hb dL_law_307 (by decide) ?_
            refine lv_goto (tgt := 312) hx hb dL_law_308 (by decide) ?_
            exact hW312 C Z S x2 x3 x4 s0 1 _ _ ls (le_0 hC (by omega)) (le_0 hZ (by omega)) hf hP hS (lv_sub hl [0, 1, 2, 3, 4] rfl)
        have hW284 : ∀ (C Z : Nat) (S : St) (x2 x3 x4 x7 x8 x9 : Int32) (H : Heap) (locs : List Loc) (ls : Array Slot), C + (k23 * 656 + 633) ≤ 779948 → Z + (k23 * 3936 + 3798) ≤ 6761625 → f_L_law_284 L xs (f_L_law_23 L xs k23) S x2 x3 x4 x7 x8 x9 = some r → va_P (dC, dI) vwCl (wX cA a S) H → va_S (fun q => s.heap.size ≤ q) s.heap H locs → lv_has ls 14 [(0, .ref sb), (1, .ref (a 0)), (2, .int x2), (3, .int x3), (4, .int x4), (7, .int x7), (8, .int x8), (9, .int x9)] → W p l e room_1 s m #[Value.ref sb] below meth c H locs C Z (lw_Z below #[Value.ref sb] s) (F0 m 284 ls []) := by
          intro C Z S x2 x3 x4 x7 x8 x9 H locs ls hC hZ hf hP hS hl
          unfold f_L_law_284 at hf
          refine lv_iload hx hb dL_law_284 (lv_at hl 7 rfl) ?_
          refine lv_ldc (v := (-7000002)) hx hb hown hw6 dL_law_286 ?_
          refine lv_icmp_ne (tgt := 295) hx hb dL_law_288 (by decide) (fun c1 => ?_) (fun c1 => ?_)
          · rw [if_neg c1] at hf
            refine lv_iconst (v := 0) hx hb dL_law_295 (by decide) ?_
            exact hW296 C Z S x2 x3 x4 x7 x8 0 _ _ ls (le_0 hC (by omega)) (le_0 hZ (by omega)) hf hP hS (lv_sub hl [0, 1, 2, 3, 4, 5, 6] rfl)
          · rw [if_pos c1] at hf
            refine lv_iconst (v := 1) hx hb dL_law_291 (by decide) ?_
            refine lv_goto (tgt := 296) hx hb dL_law_292 (by decide) ?_
            exact hW296 C Z S x2 x3 x4 x7 x8 1 _ _ ls (le_0 hC (by omega)) (le_0 hZ (by omega)) hf hP hS (lv_sub hl [0, 1, 2, 3, 4, 5, 6] rfl)
        have hW192 : ∀ (C Z : Nat) (S : St) (x2 x3 x4 x7 x9 s0 s1 : Int32) (H : Heap) (locs : List Loc) (ls : Array Slot), C + (k23 * 656 + 633) ≤ 779948 → Z + (k23 * 3936 + 3798) ≤ 6761625 → f_L_law_192 L xs (f_L_law_23 L xs k23) S x2 x3 x4 x7 x9 s0 s1 = some r → va_P (dC, dI) vwCl (wX cA a S) H → va_S (fun q => s.heap.size ≤ q) s.heap H locs → lv_has ls 14 [(0, .ref sb), (1, .ref (a 0)), (2, .int x2), (3, .int x3), (4, .int x4), (7, .int x7), (9, .int x9)] → W p l e room_1 s m #[Value.ref sb] below meth c H locs C Z (lw_Z below #[Value.ref sb] s) (F0 m 192 ls [.int s1, .int s0]) := by
          intro C Z S x2 x3 x4 x7 x9 s0 s1 H locs ls hC hZ hf hP hS hl
          unfold f_L_law_192 at hf
          refine lv_icmp_ne (tgt := 208) hx hb dL_law_192 (by decide) (fun c1 => ?_) (fun c1 => ?_)
          · rw [if_neg c1] at hf; cases hf
          rw [if_pos c1] at hf
          refine lv_iload hx hb dL_law_195 (lv_at hl 6 rfl) ?_
          refine lv_if_eq (tgt := 210) hx hb dL_law_197 (by decide) (fun c2 => ?_) (fun c2 => ?_)
          · rw [if_pos c2] at hf
            refine lv_goto (tgt := 912) hx hb dL_law_210 (by decide) ?_
            exact hW912 C Z S x2 x3 x4 _ _ ls (le_0 hC (by omega)) (le_0 hZ (by omega)) hf hP hS (lv_sub hl [0, 1, 2, 3, 4] rfl)
          · rw [if_neg c2] at hf
            refine lv_iload hx hb dL_law_200 (lv_at hl 5 rfl) ?_
            refine lv_iload_n hx hb dL_law_202 rfl (lv_at hl 2 rfl) ?_
            by_cases c3 : x2 = 0
            · rw [if_pos c3] at hf; cases hf
            rw [if_neg c3] at hf
            refine lv_irem hx hb dL_law_203 c3 ?_
            refine lv_iload_n hx hb dL_law_204 rfl (lv_at hl 2 rfl) ?_
            refine lv_icmp_lt (tgt := 210) hx hb dL_law_205 (by decide) (fun c4 => ?_) (fun c4 => ?_)
            · rw [if_pos c4] at hf
              refine lv_goto (tgt := 912) hx hb dL_law_210 (by decide) ?_
              exact hW912 C Z S x2 x3 x4 _ _ ls (le_0 hC (by omega)) (le_0 hZ (by omega)) hf hP hS (lv_sub hl [0, 1, 2, 3, 4] rfl)
            · rw [if_neg c4] at hf
              refine lv_iconst (v := 0) hx hb dL_law_208 (by decide) ?_
              cases hf
        have hW177 : ∀ (C Z : Nat) (S : St) (x2 x3 x4 x7 x9 s1 s2 s3 : Int32) (H : Heap) (locs : List Loc) (ls : Array Slot), C + (k23 * 656 + 634) ≤ 779948 → Z + (k23 * 3936 + 3804) ≤ 6761625 → f_L_law_177 L xs (f_L_law_23 L xs k23) S x2 x3 x4 x7 x9 s1 s2 s3 = some r → va_P (dC, dI) vwCl (wX cA a S) H → va_S (fun q => s.heap.size ≤ q) s.heap H locs → lv_has ls 14 [(0, .ref sb), (1, .ref (a 0)), (2, .int x2), (3, .int x3), (4, .int x4), (7, .int x7), (9, .int x9)] → W p l e room_1 s m #[Value.ref sb] below meth c H locs C Z (lw_Z below #[Value.ref sb] s) (F0 m 177 ls [.int s3, .int s2, .int s1, .ref (a 0)]) := by
          intro C Z S x2 x3 x4 x7 x9 s1 s2 s3 H locs ls hC hZ hf hP hS hl
          unfold f_L_law_177 at hf
          obtain ⟨v1, S2, hv1, hf⟩ := xv_some hf
          refine lc_P (As := [.int s1, .int s2, .int s3]) (rest := []) ⟨hx, hb, hml, hown, hts⟩ (k_X0_cover l dC dI cA a S s1 s2 s3 _ hv1 hap hfl) gL_law_X0_cover rfl rfl rfl cd_X0_cover (Nat.le_of_ble_eq_true rfl) (Nat.le_of_ble_eq_true rfl) (preTsH hK hP hE hS hA) rfl hl.1 rfl (Nat.le_of_ble_eq_true rfl) (by show C + 1 ≤ 779948; exact le_0 hC (by omega)) (by show Z + 6 ≤ 6761625; exact le_0 hZ (by omega)) dL_law_177 hS hA (fun H locs hP hS => ?_)
          refine lv_iload hx hb dL_law_180 (lv_at hl 5 rfl) ?_
          refine lv_iconst (v := 3) hx hb dL_law_182 (by decide) ?_
          refine lv_irem hx hb dL_law_183 (by decide) ?_
          refine lv_if_le (tgt := 191) hx hb dL_law_184 (by decide) (fun c3 => ?_) (fun c3 => ?_)
          · rw [if_pos c3] at hf
            refine lv_iconst (v := 0) hx hb dL_law_191 (by decide) ?_
            exact hW192 (C + 1) (Z + 6) S2 x2 x3 x4 x7 x9 v1 0 _ _ ls (le_c hC (by omega)) (le_c hZ (by omega)) hf hP hS (lv_sub hl [0, 1, 2, 3, 4, 5, 6] rfl)
          · rw [if_neg c3] at hf
            refine lv_iconst (v := 1) hx hb dL_law_187 (by decide) ?_
            refine lv_goto (tgt := 192) hx hb dL_law_188 (by decide) ?_
            exact hW192 (C + 1) (Z + 6) S2 x2 x3 x4 x7 x9 v1 1 _ _ ls (le_c hC (by omega)) (le_c hZ (by omega)) hf hP hS (lv_sub hl [0, 1, 2, 3, 4, 5, 6] rfl)
        have hW150 : ∀ (C Z : Nat) (S : St) (x2 x3 x4 x7 x8 s1 s2 s3 : Int32) (H : Heap) (locs : List Loc) (ls : Array Slot), C + (k23 * 656 + 635) ≤ 779948 → Z + (k23 * 3936 + 3810) ≤ 6761625 → f_L_law_150 L xs (f_L_law_23 L xs k23) S x2 x3 x4 x7 x8 s1 s2 s3 = some r → va_P (dC, dI) vwCl (wX cA a S) H → va_S (fun q => s.heap.size ≤ q) s.heap H locs → lv_has ls 14 [(0, .ref sb), (1, .ref (a 0)), (2, .int x2), (3, .int x3), (4, .int x4), (7, .int x7), (8, .int x8)] → W p l e room_1 s m #[Value.ref sb] below meth c H locs C Z (lw_Z below #[Value.ref sb] s) (F0 m 150 ls [.int s3, .int s2, .int s1, .ref (a 0)]) := by
          intro C Z S x2 x3 x4 x7 x8 s1 s2 s3 H locs ls hC hZ hf hP hS hl
          unfold f_L_law_150 at hf
          obtain ⟨v1, S2, hv1, hf⟩ := xv_some hf
          refine lc_P (As := [.int s1, .int s2, .int s3]) (rest := []) ⟨hx, hb, hml, hown, hts⟩ (k_X0_cover l dC dI cA a S s1 s2 s3 _ hv1 hap hfl) gL_law_X0_cover rfl rfl rfl cd_X0_cover (Nat.le_of_ble_eq_true rfl) (Nat.le_of_ble_eq_true rfl) (preTsH hK hP hE hS hA) rfl hl.1 rfl (Nat.le_of_ble_eq_true rfl) (by show C + 1 ≤ 779948; exact le_0 hC (by omega)) (by show Z + 6 ≤ 6761625; exact le_0 hZ (by omega)) dL_law_150 hS hA (fun H locs hP hS => ?_)
          refine lv_istore (lv' := [(9, .int v1), (0, .ref sb), (1, .ref (a 0)), (2, .int x2), (3, .int x3), (4, .int x4), (7, .int x7), (8, .int x8)]) hx hb dL_law_153 hl (by decide) rfl (fun ls hl => ?_)
          refine lv_aload_n hx hb dL_law_155 rfl (lv_at hl 2 rfl) ?_
          refine lv_iload hx hb dL_law_156 (lv_at hl 6 rfl) ?_
          refine lv_iload_n hx hb dL_law_158 rfl (lv_at hl 3 rfl) ?_
          by_cases c3 : x2 = 0
          · rw [if_pos c3] at hf; cases hf
          rw [if_neg c3] at hf
          refine lv_irem hx hb dL_law_159 c3 ?_
          refine lv_iload hx hb dL_law_160 (lv_at hl 7 rfl) ?_
          refine lv_bipush (v := 10) hx hb dL_law_162 (by decide) ?_
          refine lv_irem hx hb dL_law_164 (by decide) ?_
          refine lv_iload hx hb dL_law_165 (lv_at hl 6 rfl) ?_
          refine lv_iconst (v := 3) hx hb dL_law_167 (by decide) ?_
          refine lv_irem hx hb dL_law_168 (by decide) ?_
          refine lv_if_le (tgt := 176) hx hb dL_law_169 (by decide) (fun c4 => ?_) (fun c4 => ?_)
          · rw [if_pos c4] at hf
            refine lv_iconst (v := 0) hx hb dL_law_176 (by decide) ?_
            exact hW177 (C + 1) (Z + 6) S2 x2 x3 x4 x7 v1 (x7 - x7 / x2 * x2) (x8 - x8 / 10 * 10) 0 _ _ ls (le_c hC (by omega)) (le_c hZ (by omega)) hf hP hS (lv_sub hl [1, 2, 3, 4, 5, 6, 0] rfl)
          · rw [if_neg c4] at hf
            refine lv_iconst (v := 1) hx hb dL_law_172 (by decide) ?_
            refine lv_goto (tgt := 177) hx hb dL_law_173 (by decide) ?_
            exact hW177 (C + 1) (Z + 6) S2 x2 x3 x4 x7 v1 (x7 - x7 / x2 * x2) (x8 - x8 / 10 * 10) 1 _ _ ls (le_c hC (by omega)) (le_c hZ (by omega)) hf hP hS (lv_sub hl [1, 2, 3, 4, 5, 6, 0] rfl)
        have hW122 : ∀ (C Z : Nat) (S : St) (x2 x3 x4 x6 x7 x8 : Int32) (H : Heap) (locs : List Loc) (ls : Array Slot), C + (k23 * 656 + 656) ≤ 779948 → Z + (k23 * 3936 + 3936) ≤ 6761625 → f_L_law_122 L xs (f_L_law_23 L xs k23) S x2 x3 x4 x6 x7 x8 = some r → va_P (dC, dI) vwCl (wX cA a S) H → va_S (fun q => s.heap.size ≤ q) s.heap H locs → lv_has ls 14 [(0, .ref sb), (1, .ref (a 0)), (2, .int x2), (3, .int x3), (4, .int x4), (6, .int x6), (7, .int x7), (8, .int x8)] → W p l e room_1 s m #[Value.ref sb] below meth c H locs C Z (lw_Z below #[Value.ref sb] s) (F0 m 122 ls []) := by
          intro C Z S x2 x3 x4 x6 x7 x8 H locs ls hC hZ hf hP hS hl
          unfold f_L_law_122 at hf
          refine lv_iload hx hb dL_law_122 (lv_at hl 5 rfl) ?_
          refine lv_iconst (v := 3) hx hb dL_law_124 (by decide) ?_
          refine lv_icmp_ge (tgt := 213) hx hb dL_law_125 (by decide) (fun c1 => ?_) (fun c1 => ?_)
          · rw [if_pos c1] at hf
            refine lv_iload hx hb dL_law_213 (lv_at hl 5 rfl) ?_
            refine lv_iconst (v := 5) hx hb dL_law_215 (by decide) ?_
            refine lv_icmp_ge (tgt := 320) hx hb dL_law_216 (by decide) (fun c2 => ?_) (fun c2 => ?_)
            · rw [if_pos c2] at hf
              refine lv_iload hx hb dL_law_320 (lv_at hl 5 rfl) ?_
              refine lv_bipush (v := 7) hx hb dL_law_322 (by decide) ?_
              refine lv_icmp_ge (tgt := 406) hx hb dL_law_324 (by decide) (fun c3 => ?_) (fun c3 => ?_)
              · rw [if_pos c3] at hf
                refine lv_iload hx hb dL_law_406 (lv_at hl 5 rfl) ?_
                refine lv_bipush (v := 7) hx hb dL_law_408 (by decide) ?_
                refine lv_icmp_ne (tgt := 463) hx hb dL_law_410 (by decide) (fun c4 => ?_) (fun c4 => ?_)
                · rw [if_neg c4] at hf
                  refine lv_iload hx hb dL_law_463 (lv_at hl 5 rfl) ?_
                  refine lv_bipush (v := 11) hx hb dL_law_465 (by decide) ?_
                  refine lv_icmp_lt (tgt := 474) hx hb dL_law_467 (by decide) (fun c5 => ?_) (fun c5 => ?_)
                  · rw [if_pos c5] at hf
                    exact hW474 C Z S x2 x3 x4 x7 _ _ ls (le_0 hC (by omega)) (le_0 hZ (by omega)) hf hP hS (lv_sub hl [0, 1, 2, 3, 4, 6] rfl)
                  · rw [if_neg c5] at hf
                    refine lv_iload_n hx hb dL_law_470 rfl (lv_at hl 3 rfl) ?_
                    refine lv_if_ne (tgt := 561) hx hb dL_law_471 (by decide) (fun c6 => ?_) (fun c6 => ?_)
                    · rw [if_neg c6] at hf
                      refine lv_iload hx hb dL_law_561 (lv_at hl 5 rfl) ?_
                      refine lv_bipush (v := 14) hx hb dL_law_563 (by decide) ?_
                      refine lv_icmp_ge (tgt := 691) hx hb dL_law_565 (by decide) (fun c7 => ?_) (fun c7 => ?_)
                      · rw [if_pos c7] at hf
                        refine lv_iload hx hb dL_law_691 (lv_at hl 5 rfl) ?_
                        refine lv_bipush (v := 14) hx hb dL_law_693 (by decide) ?_
                        refine lv_icmp_ne (tgt := 753) hx hb dL_law_695 (by decide) (fun c8 => ?_) (fun c8 => ?_)
                        · rw [if_neg c8] at hf
                          refine lv_iload hx hb dL_law_753 (lv_at hl 6 rfl) ?_
                          refine lv_iload_n hx hb dL_law_755 rfl (lv_at hl 3 rfl) ?_
                          by_cases c9 : x3 = 0
                          · rw [if_pos c9] at hf; cases hf
                          rw [if_neg c9] at hf
                          refine lv_irem hx hb dL_law_756 c9 ?_
                          refine lv_topi (fun y10 ey10 => ?_)
                          have hf := bnd_at hf ey10
                          refine lv_istore (lv' := [(9, .int y10), (0, .ref sb), (1, .ref (a 0)), (2, .int x2), (3, .int x3), (4, .int x4), (6, .int x6), (7, .int x7), (8, .int x8)]) hx hb dL_law_757 hl (by decide) rfl (fun ls hl => ?_)
                          refine lv_iload hx hb dL_law_759 (lv_at hl 8 rfl) ?_
                          refine lv_bipush (v := 7) hx hb dL_law_761 (by decide) ?_
                          refine lv_irem hx hb dL_law_763 (by decide) ?_
                          refine lv_topi (fun y11 ey11 => ?_)
                          have hf := bnd_at hf ey11
                          refine lv_istore (lv' := [(10, .int y11), (9, .int y10), (0, .ref sb), (1, .ref (a 0)), (2, .int x2), (3, .int x3), (4, .int x4), (6, .int x6), (7, .int x7), (8, .int x8)]) hx hb dL_law_764 hl (by decide) rfl (fun ls hl => ?_)
                          refine lv_aload_n hx hb dL_law_766 rfl (lv_at hl 3 rfl) ?_
                          refine lv_iload hx hb dL_law_767 (lv_at hl 1 rfl) ?_
                          refine lv_iload hx hb dL_law_769 (lv_at hl 0 rfl) ?_
                          obtain ⟨v12, S13, hv12, hf⟩ := xv_some hf
                          refine lc_P (As := [.int y10, .int y11]) (rest := []) ⟨hx, hb, hml, hown, hts⟩ (k_X0_greedy l dC dI cA a S y10 y11 _ hv12 hap hfl) gL_law_X0_greedy rfl rfl rfl cd_X0_greedy (Nat.le_of_ble_eq_true rfl) (Nat.le_of_ble_eq_true rfl) (preTsH hK hP hE hS hA) rfl hl.1 rfl (Nat.le_of_ble_eq_true rfl) (by show C + 2 ≤ 779948; exact le_0 hC (by omega)) (by show Z + 12 ≤ 6761625; exact le_0 hZ (by omega)) dL_law_771 hS hA (fun H locs hP hS => ?_)
                          refine lv_istore (lv' := [(11, .int v12), (10, .int y11), (9, .int y10), (0, .ref sb), (1, .ref (a 0)), (2, .int x2), (3, .int x3), (4, .int x4), (6, .int x6), (7, .int x7), (8, .int x8)]) hx hb dL_law_774 hl (by decide) rfl (fun ls hl => ?_)
                          refine lv_iconst (v := 0) hx hb dL_law_776 (by decide) ?_
                          refine lv_istore (lv' := [(12, .int 0), (11, .int v12), (10, .int y11), (9, .int y10), (0, .ref sb), (1, .ref (a 0)), (2, .int x2), (3, .int x3), (4, .int x4), (6, .int x6), (7, .int x7), (8, .int x8)]) hx hb dL_law_777 hl (by decide) rfl (fun ls hl => ?_)
                          refine lv_iconst (v := 0) hx hb dL_law_779 (by decide) ?_
                          refine lv_istore (lv' := [(13, .int 0), (12, .int 0), (11, .int v12), (10, .int y11), (9, .int y10), (0, .ref sb), (1, .ref (a 0)), (2, .int x2), (3, .int x3), (4, .int x4), (6, .int x6), (7, .int x7), (8, .int x8)]) hx hb dL_law_780 hl (by decide) rfl (fun ls hl => ?_)
                          exact hW782 7 (C + 2) (Z + 12) S13 x2 x3 x4 y10 y11 v12 0 0 _ _ ls (le_c hC (by omega)) (le_c hZ (by omega)) hf hP hS (lv_sub hl [5, 6, 7, 8, 9, 4, 3, 2, 1, 0] rfl)
                        · rw [if_pos c8] at hf
                          refine lv_aload_n hx hb dL_law_698 rfl (lv_at hl 1 rfl) ?_
                          refine lv_bipush (v := 16) hx hb dL_law_699 (by decide) ?_
                          refine lv_iload hx hb dL_law_701 (lv_at hl 7 rfl) ?_
                          refine lv_iload_n hx hb dL_law_703 rfl (lv_at hl 2 rfl) ?_
                          by_cases c14 : x2 = 0
                          · rw [if_pos c14] at hf; cases hf
                          rw [if_neg c14] at hf
                          refine lv_irem hx hb dL_law_704 c14 ?_
                          refine lv_iconst (v := 0) hx hb dL_law_705 (by decide) ?_
                          refine lv_iconst (v := 0) hx hb dL_law_706 (by decide) ?_
                          obtain ⟨q15, hq15, hf⟩ := ob_some hf
                          refine lc_W (As := [.ref (a 0), .int 16, .int (x8 - x8 / x2 * x2), .int 0, .int 0]) (rest := []) ⟨hx, hb, hml, hown, hts⟩ (k_L_act l hfl dC dI cA a S 16 (x8 - x8 / x2 * x2) 0 0 _ hq15 hap) gL_law_L_act rfl rfl rfl cd_L_act (Nat.le_of_ble_eq_true rfl) (Nat.le_of_ble_eq_true rfl) (preLsH hK hP hE hN hS hA) rfl hl.1 rfl (Nat.le_of_ble_eq_true rfl) (by show C + 3 ≤ 779948; exact le_0 hC (by omega)) (by show Z + 18 ≤ 6761625; exact le_0 hZ (by omega)) dL_law_707 hS hA (fun H locs hP hS => ?_)
                          refine lv_topi (fun y16 ey16 => ?_)
                          have hf := bnd_at hf ey16
                          refine lv_istore (lv' := [(9, .int y16), (0, .ref sb), (1, .ref (a 0)), (2, .int x2), (3, .int x3), (4, .int x4), (6, .int x6), (7, .int x7), (8, .int x8)]) hx hb dL_law_710 hl (by decide) rfl (fun ls hl => ?_)
                          refine lv_iload hx hb dL_law_712 (lv_at hl 0 rfl) ?_
                          refine lv_ldc (v := (-7000003)) hx hb hown hw5 dL_law_714 ?_
                          refine lv_icmp_eq (tgt := 750) hx hb dL_law_716 (by decide) (fun c17 => ?_) (fun c17 => ?_)
                          · rw [if_pos c17] at hf
                            refine lv_goto (tgt := 912) hx hb dL_law_750 (by decide) ?_
                            exact hW912 (C + 3) (Z + 18) q15.2 x2 x3 x4 _ _ ls (le_c hC (by omega)) (le_c hZ (by omega)) hf hP hS (lv_sub hl [1, 2, 3, 4, 5] rfl)
                          · rw [if_neg c17] at hf
                            refine lv_iload hx hb dL_law_719 (lv_at hl 0 rfl) ?_
                            refine lv_iconst (v := 1) hx hb dL_law_721 (by decide) ?_
                            refine lv_icmp_lt (tgt := 748) hx hb dL_law_722 (by decide) (fun c18 => ?_) (fun c18 => ?_)
                            · rw [if_pos c18] at hf; cases hf
                            rw [if_neg c18] at hf
                            refine lv_iload hx hb dL_law_725 (lv_at hl 0 rfl) ?_
                            refine lv_iload_n hx hb dL_law_727 rfl (lv_at hl 3 rfl) ?_
                            refine lv_icmp_gt (tgt := 748) hx hb dL_law_728 (by decide) (fun c19 => ?_) (fun c19 => ?_)
                            · rw [if_pos c19] at hf; cases hf
                            rw [if_neg c19] at hf
                            refine lv_aload_n hx hb dL_law_731 rfl (lv_at hl 2 rfl) ?_
                            refine lv_bipush (v := 17) hx hb dL_law_732 (by decide) ?_
                            refine lv_iconst (v := 0) hx hb dL_law_734 (by decide) ?_
                            refine lv_iload hx hb dL_law_735 (lv_at hl 8 rfl) ?_
                            refine lv_iload_n hx hb dL_law_737 rfl (lv_at hl 3 rfl) ?_
                            by_cases c20 : x2 = 0
                            · rw [if_pos c20] at hf; cases hf
                            rw [if_neg c20] at hf
                            refine lv_irem hx hb dL_law_738 c20 ?_
                            refine lv_iconst (v := 0) hx hb dL_law_739 (by decide) ?_
                            obtain ⟨q21, hq21, hf⟩ := ob_some hf
                            refine lc_W (As := [.ref (a 0), .int 17, .int 0, .int (x8 - x8 / x2 * x2), .int 0]) (rest := []) ⟨hx, hb, hml, hown, hts⟩ (k_L_act l hfl dC dI cA a q15.2 17 0 (x8 - x8 / x2 * x2) 0 _ hq21 hap) gL_law_L_act rfl rfl rfl cd_L_act (Nat.le_of_ble_eq_true rfl) (Nat.le_of_ble_eq_true rfl) (preLsH hK hP hE hN hS hA) rfl hl.1 rfl (Nat.le_of_ble_eq_true rfl) (by show (C + 3) + 3 ≤ 779948; exact le_c hC (by omega)) (by show (Z + 18) + 18 ≤ 6761625; exact le_c hZ (by omega)) dL_law_740 hS hA (fun H locs hP hS => ?_)
                            refine lv_ldc (v := (-7000003)) hx hb hown hw5 dL_law_743 ?_
                            refine lv_icmp_ne (tgt := 750) hx hb dL_law_745 (by decide) (fun c22 => ?_) (fun c22 => ?_)
                            · rw [if_neg c22] at hf
                              refine lv_goto (tgt := 912) hx hb dL_law_750 (by decide) ?_
                              exact hW912 (C + 6) (Z + 36) q21.2 x2 x3 x4 _ _ ls (le_c hC (by omega)) (le_c hZ (by omega)) hf hP hS (lv_sub hl [1, 2, 3, 4, 5] rfl)
                            · rw [if_pos c22] at hf
                              refine lv_iconst (v := 0) hx hb dL_law_748 (by decide) ?_
                              cases hf
                      · rw [if_neg c7] at hf
                        refine lv_iload hx hb dL_law_568 (lv_at hl 5 rfl) ?_
                        refine lv_bipush (v := 11) hx hb dL_law_570 (by decide) ?_
                        refine lv_icmp_ne (tgt := 593) hx hb dL_law_572 (by decide) (fun c23 => ?_) (fun c23 => ?_)
                        · rw [if_neg c23] at hf
                          refine lv_iload hx hb dL_law_593 (lv_at hl 5 rfl) ?_
                          refine lv_bipush (v := 12) hx hb dL_law_595 (by decide) ?_
                          refine lv_icmp_ne (tgt := 620) hx hb dL_law_597 (by decide) (fun c24 => ?_) (fun c24 => ?_)
                          · rw [if_neg c24] at hf
                            refine lv_aload_n hx hb dL_law_620 rfl (lv_at hl 1 rfl) ?_
                            refine lv_bipush (v := 9) hx hb dL_law_621 (by decide) ?_
                            refine lv_iload hx hb dL_law_623 (lv_at hl 6 rfl) ?_
                            refine lv_iload_n hx hb dL_law_625 rfl (lv_at hl 3 rfl) ?_
                            by_cases c25 : x3 = 0
                            · rw [if_pos c25] at hf; cases hf
                            rw [if_neg c25] at hf
                            refine lv_irem hx hb dL_law_626 c25 ?_
                            refine lv_iload hx hb dL_law_627 (lv_at hl 7 rfl) ?_
                            refine lv_bipush (v := 101) hx hb dL_law_629 (by decide) ?_
                            refine lv_irem hx hb dL_law_631 (by decide) ?_
                            refine lv_iconst (v := 0) hx hb dL_law_632 (by decide) ?_
                            obtain ⟨q26, hq26, hf⟩ := ob_some hf
                            refine lc_W (As := [.ref (a 0), .int 9, .int (x7 - x7 / x3 * x3), .int (x8 - x8 / 101 * 101), .int 0]) (rest := []) ⟨hx, hb, hml, hown, hts⟩ (k_L_act l hfl dC dI cA a S 9 (x7 - x7 / x3 * x3) (x8 - x8 / 101 * 101) 0 _ hq26 hap) gL_law_L_act rfl rfl rfl cd_L_act (Nat.le_of_ble_eq_true rfl) (Nat.le_of_ble_eq_true rfl) (preLsH hK hP hE hN hS hA) rfl hl.1 rfl (Nat.le_of_ble_eq_true rfl) (by show C + 3 ≤ 779948; exact le_0 hC (by omega)) (by show Z + 18 ≤ 6761625; exact le_0 hZ (by omega)) dL_law_633 hS hA (fun H locs hP hS => ?_)
                            exact hW636 (C + 3) (Z + 18) q26.2 x2 x3 x4 q26.1 _ _ ls (le_c hC (by omega)) (le_c hZ (by omega)) hf hP hS (lv_sub hl [0, 1, 2, 3, 4] rfl)
                          · rw [if_pos c24] at hf
                            refine lv_aload_n hx hb dL_law_600 rfl (lv_at hl 1 rfl) ?_
                            refine lv_bipush (v := 8) hx hb dL_law_601 (by decide) ?_
                            refine lv_iload hx hb dL_law_603 (lv_at hl 6 rfl) ?_
                            refine lv_iload_n hx hb dL_law_605 rfl (lv_at hl 3 rfl) ?_
                            by_cases c27 : x3 = 0
                            · rw [if_pos c27] at hf; cases hf
                            rw [if_neg c27] at hf
                            refine lv_irem hx hb dL_law_606 c27 ?_
                            refine lv_iload hx hb dL_law_607 (lv_at hl 7 rfl) ?_
                            refine lv_iconst (v := 1) hx hb dL_law_609 (by decide) ?_
                            refine lv_iload_n hx hb dL_law_610 rfl (lv_at hl 2 rfl) ?_
                            refine lv_ishl hx hb dL_law_611 ?_
                            by_cases c28 : ((1 : Int32) <<< (x2 &&& 31)) = 0
                            · rw [if_pos c28] at hf; cases hf
                            rw [if_neg c28] at hf
                            refine lv_irem hx hb dL_law_612 c28 ?_
                            refine lv_iconst (v := 0) hx hb dL_law_613 (by decide) ?_
                            obtain ⟨q29, hq29, hf⟩ := ob_some hf
                            refine lc_W (As := [.ref (a 0), .int 8, .int (x7 - x7 / x3 * x3), .int (x8 - x8 / ((1 : Int32) <<< (x2 &&& 31)) * ((1 : Int32) <<< (x2 &&& 31))), .int 0]) (rest := []) ⟨hx, hb, hml, hown, hts⟩ (k_L_act l hfl dC dI cA a S 8 (x7 - x7 / x3 * x3) (x8 - x8 / ((1 : Int32) <<< (x2 &&& 31)) * ((1 : Int32) <<< (x2 &&& 31))) 0 _ hq29 hap) gL_law_L_act rfl rfl rfl cd_L_act (Nat.le_of_ble_eq_true rfl) (Nat.le_of_ble_eq_true rfl) (preLsH hK hP hE hN hS hA) rfl hl.1 rfl (Nat.le_of_ble_eq_true rfl) (by show C + 3 ≤ 779948; exact le_0 hC (by omega)) (by show Z + 18 ≤ 6761625; exact le_0 hZ (by omega)) dL_law_614 hS hA (fun H locs hP hS => ?_)
                            refine lv_goto (tgt := 636) hx hb dL_law_617 (by decide) ?_
                            exact hW636 (C + 3) (Z + 18) q29.2 x2 x3 x4 q29.1 _ _ ls (le_c hC (by omega)) (le_c hZ (by omega)) hf hP hS (lv_sub hl [0, 1, 2, 3, 4] rfl)
                        · rw [if_pos c23] at hf
                          refine lv_aload_n hx hb dL_law_575 rfl (lv_at hl 1 rfl) ?_
                          refine lv_bipush (v := 7) hx hb dL_law_576 (by decide) ?_
                          refine lv_iload hx hb dL_law_578 (lv_at hl 6 rfl) ?_
                          refine lv_iload_n hx hb dL_law_580 rfl (lv_at hl 3 rfl) ?_
                          by_cases c30 : x3 = 0
                          · rw [if_pos c30] at hf; cases hf
                          rw [if_neg c30] at hf
                          refine lv_irem hx hb dL_law_581 c30 ?_
                          refine lv_iload hx hb dL_law_582 (lv_at hl 7 rfl) ?_
                          refine lv_iload_n hx hb dL_law_584 rfl (lv_at hl 3 rfl) ?_
                          by_cases c31 : x3 = 0
                          · rw [if_pos c31] at hf; cases hf
                          rw [if_neg c31] at hf
                          refine lv_irem hx hb dL_law_585 c31 ?_
                          refine lv_iconst (v := 0) hx hb dL_law_586 (by decide) ?_
                          obtain ⟨q32, hq32, hf⟩ := ob_some hf
                          refine lc_W (As := [.ref (a 0), .int 7, .int (x7 - x7 / x3 * x3), .int (x8 - x8 / x3 * x3), .int 0]) (rest := []) ⟨hx, hb, hml, hown, hts⟩ (k_L_act l hfl dC dI cA a S 7 (x7 - x7 / x3 * x3) (x8 - x8 / x3 * x3) 0 _ hq32 hap) gL_law_L_act rfl rfl rfl cd_L_act (Nat.le_of_ble_eq_true rfl) (Nat.le_of_ble_eq_true rfl) (preLsH hK hP hE hN hS hA) rfl hl.1 rfl (Nat.le_of_ble_eq_true rfl) (by show C + 3 ≤ 779948; exact le_0 hC (by omega)) (by show Z + 18 ≤ 6761625; exact le_0 hZ (by omega)) dL_law_587 hS hA (fun H locs hP hS => ?_)
                          refine lv_goto (tgt := 636) hx hb dL_law_590 (by decide) ?_
                          exact hW636 (C + 3) (Z + 18) q32.2 x2 x3 x4 q32.1 _ _ ls (le_c hC (by omega)) (le_c hZ (by omega)) hf hP hS (lv_sub hl [0, 1, 2, 3, 4] rfl)
                    · rw [if_pos c6] at hf
                      exact hW474 C Z S x2 x3 x4 x7 _ _ ls (le_0 hC (by omega)) (le_0 hZ (by omega)) hf hP hS (lv_sub hl [0, 1, 2, 3, 4, 6] rfl)
                · rw [if_pos c4] at hf
                  refine lv_aload_n hx hb dL_law_413 rfl (lv_at hl 1 rfl) ?_
                  refine lv_iload hx hb dL_law_414 (lv_at hl 6 rfl) ?_
                  refine lv_iload_n hx hb dL_law_416 rfl (lv_at hl 2 rfl) ?_
                  by_cases c33 : x2 = 0
                  · rw [if_pos c33] at hf; cases hf
                  rw [if_neg c33] at hf
                  refine lv_irem hx hb dL_law_417 c33 ?_
                  refine lv_iload hx hb dL_law_418 (lv_at hl 7 rfl) ?_
                  refine lv_bipush (v := 41) hx hb dL_law_420 (by decide) ?_
                  refine lv_irem hx hb dL_law_422 (by decide) ?_
                  refine lv_bipush (v := 20) hx hb dL_law_423 (by decide) ?_
                  refine lv_isub hx hb dL_law_425 ?_
                  obtain ⟨v34, S35, hv34, hf⟩ := xv_some hf
                  refine lc_P (As := [.int (x7 - x7 / x2 * x2), .int ((x8 - x8 / 41 * 41) - 20)]) (rest := []) ⟨hx, hb, hml, hown, hts⟩ (k_X0_weigh l dC dI cA a S (x7 - x7 / x2 * x2) ((x8 - x8 / 41 * 41) - 20) _ hv34 hap hfl) gL_law_X0_weigh rfl rfl rfl cd_X0_weigh (Nat.le_of_ble_eq_true rfl) (Nat.le_of_ble_eq_true rfl) (preTsH hK hP hE hS hA) rfl hl.1 rfl (Nat.le_of_ble_eq_true rfl) (by show C + 2 ≤ 779948; exact le_0 hC (by omega)) (by show Z + 12 ≤ 6761625; exact le_0 hZ (by omega)) dL_law_426 hS hA (fun H locs hP hS => ?_)
                  refine lv_bipush (v := 20) hx hb dL_law_429 (by decide) ?_
                  refine lv_icmp_gt (tgt := 461) hx hb dL_law_431 (by decide) (fun c36 => ?_) (fun c36 => ?_)
                  · rw [if_pos c36] at hf; cases hf
                  rw [if_neg c36] at hf
                  refine lv_aload_n hx hb dL_law_434 rfl (lv_at hl 1 rfl) ?_
                  refine lv_iload hx hb dL_law_435 (lv_at hl 6 rfl) ?_
                  refine lv_iload_n hx hb dL_law_437 rfl (lv_at hl 2 rfl) ?_
                  by_cases c37 : x2 = 0
                  · rw [if_pos c37] at hf; cases hf
                  rw [if_neg c37] at hf
                  refine lv_irem hx hb dL_law_438 c37 ?_
                  refine lv_iload hx hb dL_law_439 (lv_at hl 7 rfl) ?_
                  refine lv_bipush (v := 41) hx hb dL_law_441 (by decide) ?_
                  refine lv_irem hx hb dL_law_443 (by decide) ?_
                  refine lv_bipush (v := 20) hx hb dL_law_444 (by decide) ?_
                  refine lv_isub hx hb dL_law_446 ?_
                  obtain ⟨v38, S39, hv38, hf⟩ := xv_some hf
                  refine lc_P (As := [.int (x7 - x7 / x2 * x2), .int ((x8 - x8 / 41 * 41) - 20)]) (rest := []) ⟨hx, hb, hml, hown, hts⟩ (k_X0_weigh l dC dI cA a S35 (x7 - x7 / x2 * x2) ((x8 - x8 / 41 * 41) - 20) _ hv38 hap hfl) gL_law_X0_weigh rfl rfl rfl cd_X0_weigh (Nat.le_of_ble_eq_true rfl) (Nat.le_of_ble_eq_true rfl) (preTsH hK hP hE hS hA) rfl hl.1 rfl (Nat.le_of_ble_eq_true rfl) (by show (C + 2) + 2 ≤ 779948; exact le_c hC (by omega)) (by show (Z + 12) + 12 ≤ 6761625; exact le_c hZ (by omega)) dL_law_447 hS hA (fun H locs hP hS => ?_)
                  refine lv_iload hx hb dL_law_450 (lv_at hl 7 rfl) ?_
                  refine lv_bipush (v := 41) hx hb dL_law_452 (by decide) ?_
                  refine lv_irem hx hb dL_law_454 (by decide) ?_
                  refine lv_bipush (v := 20) hx hb dL_law_455 (by decide) ?_
                  refine lv_isub hx hb dL_law_457 ?_
                  refine lv_icmp_eq (tgt := 912) hx hb dL_law_458 (by decide) (fun c40 => ?_) (fun c40 => ?_)
                  · rw [if_pos c40] at hf
                    exact hW912 (C + 4) (Z + 24) S39 x2 x3 x4 _ _ ls (le_c hC (by omega)) (le_c hZ (by omega)) hf hP hS (lv_sub hl [0, 1, 2, 3, 4] rfl)
                  · rw [if_neg c40] at hf
                    refine lv_iconst (v := 0) hx hb dL_law_461 (by decide) ?_
                    cases hf
              · rw [if_neg c3] at hf
                refine lv_aload_n hx hb dL_law_327 rfl (lv_at hl 1 rfl) ?_
                refine lv_iload hx hb dL_law_328 (lv_at hl 6 rfl) ?_
                refine lv_iconst (v := 2) hx hb dL_law_330 (by decide) ?_
                refine lv_irem hx hb dL_law_331 (by decide) ?_
                refine lv_iload hx hb dL_law_332 (lv_at hl 7 rfl) ?_
                refine lv_iload_n hx hb dL_law_334 rfl (lv_at hl 2 rfl) ?_
                by_cases c41 : x2 = 0
                · rw [if_pos c41] at hf; cases hf
                rw [if_neg c41] at hf
                refine lv_irem hx hb dL_law_335 c41 ?_
                refine lv_iload hx hb dL_law_336 (lv_at hl 6 rfl) ?_
                refine lv_iconst (v := 2) hx hb dL_law_338 (by decide) ?_
                refine lv_idiv hx hb dL_law_339 (by decide) ?_
                refine lv_bipush (v := 6) hx hb dL_law_340 (by decide) ?_
                refine lv_irem hx hb dL_law_342 (by decide) ?_
                obtain ⟨v42, S43, hv42, hf⟩ := xv_some hf
                refine lc_P (As := [.int (x7 - x7 / 2 * 2), .int (x8 - x8 / x2 * x2), .int ((x7 / 2) - (x7 / 2) / 6 * 6)]) (rest := []) ⟨hx, hb, hml, hown, hts⟩ (k_X0_colour l dC dI cA a S (x7 - x7 / 2 * 2) (x8 - x8 / x2 * x2) ((x7 / 2) - (x7 / 2) / 6 * 6) _ hv42 hap hfl) gL_law_X0_colour rfl rfl rfl cd_X0_colour (Nat.le_of_ble_eq_true rfl) (Nat.le_of_ble_eq_true rfl) (preTsH hK hP hE hS hA) rfl hl.1 rfl (Nat.le_of_ble_eq_true rfl) (by show C + 1 ≤ 779948; exact le_0 hC (by omega)) (by show Z + 6 ≤ 6761625; exact le_0 hZ (by omega)) dL_law_343 hS hA (fun H locs hP hS => ?_)
                refine lv_iconst (v := 5) hx hb dL_law_346 (by decide) ?_
                refine lv_icmp_gt (tgt := 404) hx hb dL_law_347 (by decide) (fun c44 => ?_) (fun c44 => ?_)
                · rw [if_pos c44] at hf; cases hf
                rw [if_neg c44] at hf
                refine lv_aload_n hx hb dL_law_350 rfl (lv_at hl 1 rfl) ?_
                refine lv_iload hx hb dL_law_351 (lv_at hl 6 rfl) ?_
                refine lv_iconst (v := 2) hx hb dL_law_353 (by decide) ?_
                refine lv_irem hx hb dL_law_354 (by decide) ?_
                refine lv_iload hx hb dL_law_355 (lv_at hl 7 rfl) ?_
                refine lv_iload_n hx hb dL_law_357 rfl (lv_at hl 2 rfl) ?_
                by_cases c45 : x2 = 0
                · rw [if_pos c45] at hf; cases hf
                rw [if_neg c45] at hf
                refine lv_irem hx hb dL_law_358 c45 ?_
                refine lv_iload hx hb dL_law_359 (lv_at hl 6 rfl) ?_
                refine lv_iconst (v := 2) hx hb dL_law_361 (by decide) ?_
                refine lv_idiv hx hb dL_law_362 (by decide) ?_
                refine lv_bipush (v := 6) hx hb dL_law_363 (by decide) ?_
                refine lv_irem hx hb dL_law_365 (by decide) ?_
                obtain ⟨v46, S47, hv46, hf⟩ := xv_some hf
                refine lc_P (As := [.int (x7 - x7 / 2 * 2), .int (x8 - x8 / x2 * x2), .int ((x7 / 2) - (x7 / 2) / 6 * 6)]) (rest := []) ⟨hx, hb, hml, hown, hts⟩ (k_X0_colour l dC dI cA a S43 (x7 - x7 / 2 * 2) (x8 - x8 / x2 * x2) ((x7 / 2) - (x7 / 2) / 6 * 6) _ hv46 hap hfl) gL_law_X0_colour rfl rfl rfl cd_X0_colour (Nat.le_of_ble_eq_true rfl) (Nat.le_of_ble_eq_true rfl) (preTsH hK hP hE hS hA) rfl hl.1 rfl (Nat.le_of_ble_eq_true rfl) (by show (C + 1) + 1 ≤ 779948; exact le_c hC (by omega)) (by show (Z + 6) + 6 ≤ 6761625; exact le_c hZ (by omega)) dL_law_366 hS hA (fun H locs hP hS => ?_)
                refine lv_iload hx hb dL_law_369 (lv_at hl 6 rfl) ?_
                refine lv_iconst (v := 2) hx hb dL_law_371 (by decide) ?_
                refine lv_idiv hx hb dL_law_372 (by decide) ?_
                refine lv_bipush (v := 6) hx hb dL_law_373 (by decide) ?_
                refine lv_irem hx hb dL_law_375 (by decide) ?_
                refine lv_icmp_ne (tgt := 404) hx hb dL_law_376 (by decide) (fun c48 => ?_) (fun c48 => ?_)
                · rw [if_neg c48] at hf; cases hf
                rw [if_pos c48] at hf
                refine lv_aload_n hx hb dL_law_379 rfl (lv_at hl 1 rfl) ?_
                refine lv_iload hx hb dL_law_380 (lv_at hl 6 rfl) ?_
                refine lv_iconst (v := 2) hx hb dL_law_382 (by decide) ?_
                refine lv_irem hx hb dL_law_383 (by decide) ?_
                refine lv_iload hx hb dL_law_384 (lv_at hl 7 rfl) ?_
                refine lv_bipush (v := 6) hx hb dL_law_386 (by decide) ?_
                refine lv_irem hx hb dL_law_388 (by decide) ?_
                refine lv_iload hx hb dL_law_389 (lv_at hl 6 rfl) ?_
                refine lv_iconst (v := 2) hx hb dL_law_391 (by decide) ?_
                refine lv_idiv hx hb dL_law_392 (by decide) ?_
                refine lv_bipush (v := 7) hx hb dL_law_393 (by decide) ?_
                refine lv_irem hx hb dL_law_395 (by decide) ?_
                obtain ⟨v49, S50, hv49, hf⟩ := xv_some hf
                refine lc_P (As := [.int (x7 - x7 / 2 * 2), .int (x8 - x8 / 6 * 6), .int ((x7 / 2) - (x7 / 2) / 7 * 7)]) (rest := []) ⟨hx, hb, hml, hown, hts⟩ (k_X0_room l dC dI cA a S47 (x7 - x7 / 2 * 2) (x8 - x8 / 6 * 6) ((x7 / 2) - (x7 / 2) / 7 * 7) _ hv49 hap hfl) gL_law_X0_room rfl rfl rfl cd_X0_room (Nat.le_of_ble_eq_true rfl) (Nat.le_of_ble_eq_true rfl) (preTsH hK hP hE hS hA) rfl hl.1 rfl (Nat.le_of_ble_eq_true rfl) (by show (C + 2) + 2 ≤ 779948; exact le_c hC (by omega)) (by show (Z + 12) + 12 ≤ 6761625; exact le_c hZ (by omega)) dL_law_396 hS hA (fun H locs hP hS => ?_)
                refine lv_bipush (v := 6) hx hb dL_law_399 (by decide) ?_
                refine lv_icmp_le (tgt := 912) hx hb dL_law_401 (by decide) (fun c51 => ?_) (fun c51 => ?_)
                · rw [if_pos c51] at hf
                  exact hW912 (C + 4) (Z + 24) S50 x2 x3 x4 _ _ ls (le_c hC (by omega)) (le_c hZ (by omega)) hf hP hS (lv_sub hl [0, 1, 2, 3, 4] rfl)
                · rw [if_neg c51] at hf
                  refine lv_iconst (v := 0) hx hb dL_law_404 (by decide) ?_
                  cases hf
            · rw [if_neg c2] at hf
              refine lv_aload_n hx hb dL_law_219 rfl (lv_at hl 1 rfl) ?_
              refine lv_iconst (v := 2) hx hb dL_law_220 (by decide) ?_
              refine lv_iload hx hb dL_law_221 (lv_at hl 6 rfl) ?_
              refine lv_iload_n hx hb dL_law_223 rfl (lv_at hl 2 rfl) ?_
              by_cases c52 : x2 = 0
              · rw [if_pos c52] at hf; cases hf
              rw [if_neg c52] at hf
              refine lv_irem hx hb dL_law_224 c52 ?_
              refine lv_iload hx hb dL_law_225 (lv_at hl 7 rfl) ?_
              refine lv_iload_n hx hb dL_law_227 rfl (lv_at hl 2 rfl) ?_
              by_cases c53 : x2 = 0
              · rw [if_pos c53] at hf; cases hf
              rw [if_neg c53] at hf
              refine lv_irem hx hb dL_law_228 c53 ?_
              refine lv_iload hx hb dL_law_229 (lv_at hl 7 rfl) ?_
              refine lv_bipush (v := 21) hx hb dL_law_231 (by decide) ?_
              refine lv_irem hx hb dL_law_233 (by decide) ?_
              obtain ⟨q54, hq54, hf⟩ := ob_some hf
              refine lc_W (As := [.ref (a 0), .int 2, .int (x7 - x7 / x2 * x2), .int (x8 - x8 / x2 * x2), .int (x8 - x8 / 21 * 21)]) (rest := []) ⟨hx, hb, hml, hown, hts⟩ (k_L_act l hfl dC dI cA a S 2 (x7 - x7 / x2 * x2) (x8 - x8 / x2 * x2) (x8 - x8 / 21 * 21) _ hq54 hap) gL_law_L_act rfl rfl rfl cd_L_act (Nat.le_of_ble_eq_true rfl) (Nat.le_of_ble_eq_true rfl) (preLsH hK hP hE hN hS hA) rfl hl.1 rfl (Nat.le_of_ble_eq_true rfl) (by show C + 3 ≤ 779948; exact le_0 hC (by omega)) (by show Z + 18 ≤ 6761625; exact le_0 hZ (by omega)) dL_law_234 hS hA (fun H locs hP hS => ?_)
              refine lv_topi (fun y55 ey55 => ?_)
              have hf := bnd_at hf ey55
              refine lv_istore (lv' := [(9, .int y55), (0, .ref sb), (1, .ref (a 0)), (2, .int x2), (3, .int x3), (4, .int x4), (6, .int x6), (7, .int x7), (8, .int x8)]) hx hb dL_law_237 hl (by decide) rfl (fun ls hl => ?_)
              refine lv_iload hx hb dL_law_239 (lv_at hl 0 rfl) ?_
              refine lv_ldc (v := (-7000002)) hx hb hown hw6 dL_law_241 ?_
              refine lv_icmp_eq (tgt := 284) hx hb dL_law_243 (by decide) (fun c56 => ?_) (fun c56 => ?_)
              · rw [if_pos c56] at hf
                exact hW284 (C + 3) (Z + 18) q54.2 x2 x3 x4 x7 x8 y55 _ _ ls (le_c hC (by omega)) (le_c hZ (by omega)) hf hP hS (lv_sub hl [1, 2, 3, 4, 5, 7, 8, 0] rfl)
              · rw [if_neg c56] at hf
                refine lv_iload hx hb dL_law_246 (lv_at hl 0 rfl) ?_
                refine lv_if_lt (tgt := 315) hx hb dL_law_248 (by decide) (fun c57 => ?_) (fun c57 => ?_)
                · rw [if_pos c57] at hf; cases hf
                rw [if_neg c57] at hf
                refine lv_iload hx hb dL_law_251 (lv_at hl 0 rfl) ?_
                refine lv_bipush (v := 20) hx hb dL_law_253 (by decide) ?_
                refine lv_icmp_gt (tgt := 315) hx hb dL_law_255 (by decide) (fun c58 => ?_) (fun c58 => ?_)
                · rw [if_pos c58] at hf; cases hf
                rw [if_neg c58] at hf
                refine lv_aload_n hx hb dL_law_258 rfl (lv_at hl 2 rfl) ?_
                refine lv_iconst (v := 2) hx hb dL_law_259 (by decide) ?_
                refine lv_iload hx hb dL_law_260 (lv_at hl 8 rfl) ?_
                refine lv_iload_n hx hb dL_law_262 rfl (lv_at hl 3 rfl) ?_
                by_cases c59 : x2 = 0
                · rw [if_pos c59] at hf; cases hf
                rw [if_neg c59] at hf
                refine lv_irem hx hb dL_law_263 c59 ?_
                refine lv_iload hx hb dL_law_264 (lv_at hl 7 rfl) ?_
                refine lv_iload_n hx hb dL_law_266 rfl (lv_at hl 3 rfl) ?_
                by_cases c60 : x2 = 0
                · rw [if_pos c60] at hf; cases hf
                rw [if_neg c60] at hf
                refine lv_irem hx hb dL_law_267 c60 ?_
                refine lv_iload hx hb dL_law_268 (lv_at hl 8 rfl) ?_
                refine lv_bipush (v := 21) hx hb dL_law_270 (by decide) ?_
                refine lv_irem hx hb dL_law_272 (by decide) ?_
                obtain ⟨q61, hq61, hf⟩ := ob_some hf
                refine lc_W (As := [.ref (a 0), .int 2, .int (x8 - x8 / x2 * x2), .int (x7 - x7 / x2 * x2), .int (x8 - x8 / 21 * 21)]) (rest := []) ⟨hx, hb, hml, hown, hts⟩ (k_L_act l hfl dC dI cA a q54.2 2 (x8 - x8 / x2 * x2) (x7 - x7 / x2 * x2) (x8 - x8 / 21 * 21) _ hq61 hap) gL_law_L_act rfl rfl rfl cd_L_act (Nat.le_of_ble_eq_true rfl) (Nat.le_of_ble_eq_true rfl) (preLsH hK hP hE hN hS hA) rfl hl.1 rfl (Nat.le_of_ble_eq_true rfl) (by show (C + 3) + 3 ≤ 779948; exact le_c hC (by omega)) (by show (Z + 18) + 18 ≤ 6761625; exact le_c hZ (by omega)) dL_law_273 hS hA (fun H locs hP hS => ?_)
                refine lv_iload hx hb dL_law_276 (lv_at hl 8 rfl) ?_
                refine lv_bipush (v := 21) hx hb dL_law_278 (by decide) ?_
                refine lv_irem hx hb dL_law_280 (by decide) ?_
                refine lv_icmp_ne (tgt := 315) hx hb dL_law_281 (by decide) (fun c62 => ?_) (fun c62 => ?_)
                · rw [if_neg c62] at hf; cases hf
                rw [if_pos c62] at hf
                exact hW284 (C + 6) (Z + 36) q61.2 x2 x3 x4 x7 x8 y55 _ _ ls (le_c hC (by omega)) (le_c hZ (by omega)) hf hP hS (lv_sub hl [1, 2, 3, 4, 5, 7, 8, 0] rfl)
          · rw [if_neg c1] at hf
            refine lv_aload_n hx hb dL_law_128 rfl (lv_at hl 1 rfl) ?_
            refine lv_iload hx hb dL_law_129 (lv_at hl 6 rfl) ?_
            refine lv_iload_n hx hb dL_law_131 rfl (lv_at hl 2 rfl) ?_
            by_cases c63 : x2 = 0
            · rw [if_pos c63] at hf; cases hf
            rw [if_neg c63] at hf
            refine lv_irem hx hb dL_law_132 c63 ?_
            refine lv_iload hx hb dL_law_133 (lv_at hl 7 rfl) ?_
            refine lv_bipush (v := 10) hx hb dL_law_135 (by decide) ?_
            refine lv_irem hx hb dL_law_137 (by decide) ?_
            refine lv_iload hx hb dL_law_138 (lv_at hl 6 rfl) ?_
            refine lv_iconst (v := 3) hx hb dL_law_140 (by decide) ?_
            refine lv_irem hx hb dL_law_141 (by decide) ?_
            refine lv_if_le (tgt := 149) hx hb dL_law_142 (by decide) (fun c64 => ?_) (fun c64 => ?_)
            · rw [if_pos c64] at hf
              refine lv_iconst (v := 0) hx hb dL_law_149 (by decide) ?_
              exact hW150 C Z S x2 x3 x4 x7 x8 (x7 - x7 / x2 * x2) (x8 - x8 / 10 * 10) 0 _ _ ls (le_0 hC (by omega)) (le_0 hZ (by omega)) hf hP hS (lv_sub hl [0, 1, 2, 3, 4, 6, 7] rfl)
            · rw [if_neg c64] at hf
              refine lv_iconst (v := 1) hx hb dL_law_145 (by decide) ?_
              refine lv_goto (tgt := 150) hx hb dL_law_146 (by decide) ?_
              exact hW150 C Z S x2 x3 x4 x7 x8 (x7 - x7 / x2 * x2) (x8 - x8 / 10 * 10) 1 _ _ ls (le_0 hC (by omega)) (le_0 hZ (by omega)) hf hP hS (lv_sub hl [0, 1, 2, 3, 4, 6, 7] rfl)
        have hW53 : ∀ (C Z : Nat) (S : St) (x2 x3 x4 s0 : Int32) (H : Heap) (locs : List Loc) (ls : Array Slot), C + (k23 * 656 + 656) ≤ 779948 → Z + (k23 * 3936 + 3936) ≤ 6761625 → f_L_law_53 L xs (f_L_law_23 L xs k23) S x2 x3 x4 s0 = some r → va_P (dC, dI) vwCl (wX cA a S) H → va_S (fun q => s.heap.size ≤ q) s.heap H locs → lv_has ls 14 [(0, .ref sb), (1, .ref (a 0)), (2, .int x2), (3, .int x3), (4, .int x4)] → W p l e room_1 s m #[Value.ref sb] below meth c H locs C Z (lw_Z below #[Value.ref sb] s) (F0 m 53 ls [.int s0]) := by
          intro C Z S x2 x3 x4 s0 H locs ls hC hZ hf hP hS hl
          unfold f_L_law_53 at hf
          refine lv_istore (lv' := [(5, .int s0), (0, .ref sb), (1, .ref (a 0)), (2, .int x2), (3, .int x3), (4, .int x4)]) hx hb dL_law_53 hl (by decide) rfl (fun ls hl => ?_)
          refine lv_iload hx hb dL_law_55 (lv_at hl 0 rfl) ?_
          refine lv_bipush (v := 17) hx hb dL_law_57 (by decide) ?_
          refine lv_irem hx hb dL_law_59 (by decide) ?_
          refine lv_topi (fun y1 ey1 => ?_)
          have hf := bnd_at hf ey1
          refine lv_istore (lv' := [(6, .int y1), (5, .int s0), (0, .ref sb), (1, .ref (a 0)), (2, .int x2), (3, .int x3), (4, .int x4)]) hx hb dL_law_60 hl (by decide) rfl (fun ls hl => ?_)
          refine lv_iload hx hb dL_law_62 (lv_at hl 1 rfl) ?_
          refine lv_bipush (v := 17) hx hb dL_law_64 (by decide) ?_
          refine lv_idiv hx hb dL_law_66 (by decide) ?_
          refine lv_topi (fun y2 ey2 => ?_)
          have hf := bnd_at hf ey2
          refine lv_istore (lv' := [(7, .int y2), (6, .int y1), (5, .int s0), (0, .ref sb), (1, .ref (a 0)), (2, .int x2), (3, .int x3), (4, .int x4)]) hx hb dL_law_67 hl (by decide) rfl (fun ls hl => ?_)
          refine lv_iload hx hb dL_law_69 (lv_at hl 0 rfl) ?_
          refine lv_bipush (v := 30) hx hb dL_law_71 (by decide) ?_
          refine lv_idiv hx hb dL_law_73 (by decide) ?_
          refine lv_topi (fun y3 ey3 => ?_)
          have hf := bnd_at hf ey3
          refine lv_istore (lv' := [(8, .int y3), (7, .int y2), (6, .int y1), (5, .int s0), (0, .ref sb), (1, .ref (a 0)), (2, .int x2), (3, .int x3), (4, .int x4)]) hx hb dL_law_74 hl (by decide) rfl (fun ls hl => ?_)
          refine lv_iload hx hb dL_law_76 (lv_at hl 2 rfl) ?_
          refine lv_if_ne (tgt := 122) hx hb dL_law_78 (by decide) (fun c4 => ?_) (fun c4 => ?_)
          · rw [if_neg c4] at hf
            exact hW122 C Z S x2 x3 x4 y1 y2 y3 _ _ ls (le_0 hC (by omega)) (le_0 hZ (by omega)) hf hP hS (lv_sub hl [4, 5, 6, 7, 8, 2, 1, 0] rfl)
          · rw [if_pos c4] at hf
            refine lv_iload hx hb dL_law_81 (lv_at hl 1 rfl) ?_
            refine lv_iconst (v := 5) hx hb dL_law_83 (by decide) ?_
            refine lv_irem hx hb dL_law_84 (by decide) ?_
            refine lv_if_ne (tgt := 122) hx hb dL_law_85 (by decide) (fun c5 => ?_) (fun c5 => ?_)
            · rw [if_neg c5] at hf
              exact hW122 C Z S x2 x3 x4 y1 y2 y3 _ _ ls (le_0 hC (by omega)) (le_0 hZ (by omega)) hf hP hS (lv_sub hl [4, 5, 6, 7, 8, 2, 1, 0] rfl)
            · rw [if_pos c5] at hf
              refine lv_aload_n hx hb dL_law_88 rfl (lv_at hl 5 rfl) ?_
              refine lv_iconst (v := 1) hx hb dL_law_89 (by decide) ?_
              refine lv_iload hx hb dL_law_90 (lv_at hl 1 rfl) ?_
              refine lv_iconst (v := 5) hx hb dL_law_92 (by decide) ?_
              refine lv_idiv hx hb dL_law_93 (by decide) ?_
              refine lv_bipush (v := 6) hx hb dL_law_94 (by decide) ?_
              refine lv_irem hx hb dL_law_96 (by decide) ?_
              refine lv_iadd hx hb dL_law_97 ?_
              obtain ⟨v6, S7, hv6, hf⟩ := xv_some hf
              refine lc_P (As := [.int (1 + ((y2 / 5) - (y2 / 5) / 6 * 6))]) (rest := []) ⟨hx, hb, hml, hown, hts⟩ (k_X0_elements l dC dI cA a S (1 + ((y2 / 5) - (y2 / 5) / 6 * 6)) _ hv6 hap hfl) gL_law_X0_elements rfl rfl rfl cd_X0_elements (Nat.le_of_ble_eq_true rfl) (Nat.le_of_ble_eq_true rfl) (preTsH hK hP hE hS hA) rfl hl.1 rfl (Nat.le_of_ble_eq_true rfl) (by show C + 1 ≤ 779948; exact le_0 hC (by omega)) (by show Z + 6 ≤ 6761625; exact le_0 hZ (by omega)) dL_law_98 hS hA (fun H locs hP hS => ?_)
              refine lv_iload_n hx hb dL_law_101 rfl (lv_at hl 6 rfl) ?_
              refine lv_icmp_eq (tgt := 107) hx hb dL_law_102 (by decide) (fun c8 => ?_) (fun c8 => ?_)
              · rw [if_pos c8] at hf
                refine lv_iconst (v := 1) hx hb dL_law_107 (by decide) ?_
                refine lv_iload hx hb dL_law_108 (lv_at hl 1 rfl) ?_
                refine lv_iconst (v := 5) hx hb dL_law_110 (by decide) ?_
                refine lv_idiv hx hb dL_law_111 (by decide) ?_
                refine lv_bipush (v := 6) hx hb dL_law_112 (by decide) ?_
                refine lv_irem hx hb dL_law_114 (by decide) ?_
                refine lv_iadd hx hb dL_law_115 ?_
                refine lv_topi (fun y9 ey9 => ?_)
                have hf := bnd_at hf ey9
                refine lv_istore_n (lv' := [(2, .int y9), (8, .int y3), (7, .int y2), (6, .int y1), (5, .int s0), (0, .ref sb), (1, .ref (a 0)), (3, .int x3), (4, .int x4)]) hx hb dL_law_116 rfl hl (by decide) rfl (fun ls hl => ?_)
                refine lv_iconst (v := 0) hx hb dL_law_117 (by decide) ?_
                refine lv_istore_n (lv' := [(3, .int 0), (2, .int y9), (8, .int y3), (7, .int y2), (6, .int y1), (5, .int s0), (0, .ref sb), (1, .ref (a 0)), (4, .int x4)]) hx hb dL_law_118 rfl hl (by decide) rfl (fun ls hl => ?_)
                refine lv_goto (tgt := 912) hx hb dL_law_119 (by decide) ?_
                exact hW912 (C + 1) (Z + 6) S7 y9 0 x4 _ _ ls (le_c hC (by omega)) (le_c hZ (by omega)) hf hP hS (lv_sub hl [6, 7, 1, 0, 8] rfl)
              · rw [if_neg c8] at hf
                refine lv_iconst (v := 0) hx hb dL_law_105 (by decide) ?_
                cases hf
        intro C Z S x2 x3 x4 H locs ls hC hZ hf hP hS hl
        rw [f_L_law_23] at hf
        rw [Nat.add_mul, Nat.one_mul] at hC hZ
        refine lv_iload hx hb dL_law_23 (lv_at hl 4 rfl) ?_
        refine lv_bipush (v := 80) hx hb dL_law_25 (by decide) ?_
        refine lv_icmp_ge (tgt := 948) hx hb dL_law_27 (by decide) (fun c1 => ?_) (fun c1 => ?_)
        · rw [if_pos c1] at hf
          refine lv_iconst (v := 1) hx hb dL_law_948 (by decide) ?_
          refine va_forget (fun q hq => hS.2.2 q hq) ?_
          refine W.widen (k := 779948) (n := 6761625) (by show C ≤ 779948; exact Nat.le_trans (Nat.le_add_right _ _) hC) (by show Z ≤ 6761625; exact Nat.le_trans (Nat.le_add_right _ _) hZ) ?_
          exact lw_ret hx hb hr hlocks dL_law_949
        · rw [if_neg c1] at hf
          refine lv_aload_n hx hb dL_law_30 rfl (lv_at hl 0 rfl) ?_
          refine va_slen hx hb hX hbl hbA hS dL_law_31 ?_
          refine lv_if_ne (tgt := 43) hx hb dL_law_32 (by decide) (fun c2 => ?_) (fun c2 => ?_)
          · rw [if_neg c2] at hf
            refine lv_aload_n hx hb dL_law_43 rfl (lv_at hl 0 rfl) ?_
            refine lv_iload hx hb dL_law_44 (lv_at hl 4 rfl) ?_
            refine lv_aload_n hx hb dL_law_46 rfl (lv_at hl 0 rfl) ?_
            refine va_slen hx hb hX hbl hbA hS dL_law_47 ?_
            by_cases c3 : (Int32.ofNat L) = 0
            · rw [if_pos c3] at hf; cases hf
            rw [if_neg c3] at hf
            refine lv_irem hx hb dL_law_48 c3 ?_
            obtain ⟨v4, hv4, hf⟩ := ob_some hf
            refine rdSc hx hb hX hbl hbA hS hv4 dL_law_49 ?_
            refine lv_bipush (v := 8) hx hb dL_law_50 (by decide) ?_
            refine lv_iushr hx hb dL_law_52 rfl ?_
            exact hW53 C Z S x2 x3 x4 ((v4.toUInt32 >>> ((8 : Int32).toUInt32 &&& Int32.toUInt32 31)).toInt32) _ _ ls (le_0 hC (by omega)) (le_0 hZ (by omega)) hf hP hS (lv_sub hl [0, 1, 2, 3, 4] rfl)
          · rw [if_pos c2] at hf
            refine lv_bipush (v := 103) hx hb dL_law_35 (by decide) ?_
            refine lv_iload hx hb dL_law_37 (lv_at hl 4 rfl) ?_
            refine lv_imul hx hb dL_law_39 ?_
            refine lv_goto (tgt := 53) hx hb dL_law_40 (by decide) ?_
            exact hW53 C Z S x2 x3 x4 (103 * x4) _ _ ls (le_0 hC (by omega)) (le_0 hZ (by omega)) hf hP hS (lv_sub hl [0, 1, 2, 3, 4] rfl)
    refine lv_astore_n (lv' := [(1, .ref (a 0)), (0, .ref sb)]) hx hb dL_law_15 rfl hl (by decide) rfl (fun ls hl => ?_)
    refine lv_iconst (v := 4) hx hb dL_law_16 (by decide) ?_
    refine lv_istore_n (lv' := [(2, .int 4), (1, .ref (a 0)), (0, .ref sb)]) hx hb dL_law_17 rfl hl (by decide) rfl (fun ls hl => ?_)
    refine lv_iconst (v := 0) hx hb dL_law_18 (by decide) ?_
    refine lv_istore_n (lv' := [(3, .int 0), (2, .int 4), (1, .ref (a 0)), (0, .ref sb)]) hx hb dL_law_19 rfl hl (by decide) rfl (fun ls hl => ?_)
    refine lv_iconst (v := 0) hx hb dL_law_20 (by decide) ?_
    refine lv_istore (lv' := [(4, .int 0), (3, .int 0), (2, .int 4), (1, .ref (a 0)), (0, .ref sb)]) hx hb dL_law_21 hl (by decide) rfl (fun ls hl => ?_)
    exact hW23 81 4360 27822 S0X 4 0 0 _ _ ls (by omega) (by omega) hf hP hS (lv_sub hl [4, 3, 2, 1, 0] rfl)
  · exact absurd c2 (by decide)

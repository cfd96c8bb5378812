def f_L_refuses_678 (p1 p2 : Int32) (K12 : St → Int32 → Int32 → Int32 → Option St) (S : St) (x3 : Int32) (x4 : Int32) (x5 : Int32) (s0 : Int32) : Option St := (if s0 = 0 then none else (bnd (x5 + 1) fun y2 => (K12 S x3 x4 y2)))
def f_L_refuses_619 (p1 p2 : Int32) (K12 : St → Int32 → Int32 → Int32 → Option St) (S : St) (x3 : Int32) (x4 : Int32) (x5 : Int32) (x10 : Int32) (x11 : Int32) (s1 : Int32) (s2 : Int32) (s3 : Int32) : Option St := ((f_L_act S s1 s2 s3 0).bind fun q1 => (if q1.1 = (-7000002) then ((f_L_act q1.2 10 0 x10 0).bind fun q3 => (if q3.1 = (-7000002) then ((f_L_act q3.2 18 0 x11 0).bind fun q5 => (if q5.1 = (-7000002) then ((f_L_act q5.2 19 0 x11 0).bind fun q7 => (if q7.1 = (-7000002) then (f_L_refuses_678 p1 p2 K12 q7.2 x3 x4 x5 1) else (f_L_refuses_678 p1 p2 K12 q7.2 x3 x4 x5 0))) else (f_L_refuses_678 p1 p2 K12 q5.2 x3 x4 x5 0))) else (f_L_refuses_678 p1 p2 K12 q3.2 x3 x4 x5 0))) else (f_L_refuses_678 p1 p2 K12 q1.2 x3 x4 x5 0)))
def f_L_refuses_576 (p1 p2 : Int32) (K12 : St → Int32 → Int32 → Int32 → Option St) (S : St) (x3 : Int32) (x4 : Int32) (x5 : Int32) (x6 : Int32) (x10 : Int32) (x11 : Int32) (s0 : Int32) : Option St := (if s0 = 0 then (f_L_refuses_678 p1 p2 K12 S x3 x4 x5 0) else (if p2 = 0 then (f_L_refuses_678 p1 p2 K12 S x3 x4 x5 1) else ((f_L_act S 8 0 x10 0).bind fun q3 => (if q3.1 = (-7000002) then (if x5 = 1 then (f_L_refuses_619 p1 p2 K12 q3.2 x3 x4 x5 x10 x11 9 0 101) else (f_L_refuses_619 p1 p2 K12 q3.2 x3 x4 x5 x10 x11 9 0 x6)) else (f_L_refuses_678 p1 p2 K12 q3.2 x3 x4 x5 0)))))
def f_L_refuses_491 (p1 p2 : Int32) (K12 : St → Int32 → Int32 → Int32 → Option St) (S : St) (x3 : Int32) (x4 : Int32) (x5 : Int32) (x6 : Int32) (x7 : Int32) (x8 : Int32) (x10 : Int32) (x11 : Int32) (x12 : Int32) : Option St := (if x12 = 0 then (f_L_refuses_576 p1 p2 K12 S x3 x4 x5 x6 x10 x11 0) else ((f_L_act S 7 0 x8 0).bind fun q2 => (if q2.1 = (-7000001) then ((f_L_act q2.2 16 x7 0 0).bind fun q4 => (if q4.1 = (-7000001) then ((f_L_act q4.2 17 0 x7 0).bind fun q6 => (if q6.1 = (-7000001) then ((f_L_act q6.2 20 0 x7 0).bind fun q8 => (if q8.1 = (-7000001) then ((f_L_act q8.2 21 0 x7 0).bind fun q10 => (if q10.1 = (-7000001) then (f_L_refuses_576 p1 p2 K12 q10.2 x3 x4 x5 x6 x10 x11 1) else (f_L_refuses_576 p1 p2 K12 q10.2 x3 x4 x5 x6 x10 x11 0))) else (f_L_refuses_576 p1 p2 K12 q8.2 x3 x4 x5 x6 x10 x11 0))) else (f_L_refuses_576 p1 p2 K12 q6.2 x3 x4 x5 x6 x10 x11 0))) else (f_L_refuses_576 p1 p2 K12 q4.2 x3 x4 x5 x6 x10 x11 0))) else (f_L_refuses_576 p1 p2 K12 q2.2 x3 x4 x5 x6 x10 x11 0))))
def f_L_refuses_444 (p1 p2 : Int32) (K12 : St → Int32 → Int32 → Int32 → Option St) : Nat → St → Int32 → Int32 → Int32 → Int32 → Int32 → Int32 → Int32 → Int32 → Int32 → Int32 → Option St
  | 0, _, _, _, _, _, _, _, _, _, _, _ => none
  | k + 1, S, x3, x4, x5, x6, x7, x8, x10, x11, x12, x13 => (if 22 ≤ x13 then (f_L_refuses_491 p1 p2 K12 S x3 x4 x5 x6 x7 x8 x10 x11 x12) else (if x12 = 0 then (f_L_refuses_491 p1 p2 K12 S x3 x4 x5 x6 x7 x8 x10 x11 x12) else (if x13 = 16 then (bnd (x13 + 1) fun y4 => ((f_L_refuses_444 p1 p2 K12 k) S x3 x4 x5 x6 x7 x8 x10 x11 1 y4)) else ((f_L_act S x13 x8 0 0).bind fun q5 => (if q5.1 = (-7000001) then (bnd (x13 + 1) fun y8 => ((f_L_refuses_444 p1 p2 K12 k) q5.2 x3 x4 x5 x6 x7 x8 x10 x11 1 y8)) else (bnd (x13 + 1) fun y7 => ((f_L_refuses_444 p1 p2 K12 k) q5.2 x3 x4 x5 x6 x7 x8 x10 x11 0 y7)))))))
def f_L_refuses_423 (p1 p2 : Int32) (K12 : St → Int32 → Int32 → Int32 → Option St) (S : St) (x3 : Int32) (x4 : Int32) (x5 : Int32) (x6 : Int32) (x7 : Int32) (x8 : Int32) (x10 : Int32) (x11 : Int32) (s1 : Int32) (s2 : Int32) : Option St := ((f_L_act S s1 s2 0 0).bind fun q1 => (if q1.1 = (-7000002) then (f_L_refuses_444 p1 p2 K12 16 q1.2 x3 x4 x5 x6 x7 x8 x10 x11 1 7) else (f_L_refuses_444 p1 p2 K12 16 q1.2 x3 x4 x5 x6 x7 x8 x10 x11 0 7)))
def f_L_refuses_399 (p1 p2 : Int32) (K12 : St → Int32 → Int32 → Int32 → Option St) (S : St) (x3 : Int32) (x4 : Int32) (x5 : Int32) (x6 : Int32) (x7 : Int32) (x8 : Int32) (x10 : Int32) (x11 : Int32) (s1 : Int32) (s2 : Int32) (s3 : Int32) : Option St := ((f_L_act S s1 s2 s3 0).bind fun q1 => (if q1.1 = (-7000002) then (if x5 = 1 then (f_L_refuses_423 p1 p2 K12 q1.2 x3 x4 x5 x6 x7 x8 x10 x11 6 5) else (f_L_refuses_423 p1 p2 K12 q1.2 x3 x4 x5 x6 x7 x8 x10 x11 6 x6)) else (f_L_refuses_444 p1 p2 K12 16 q1.2 x3 x4 x5 x6 x7 x8 x10 x11 0 7)))
def f_L_refuses_318 (p1 p2 : Int32) (K12 : St → Int32 → Int32 → Int32 → Option St) (S : St) (x3 : Int32) (x4 : Int32) (x5 : Int32) (x6 : Int32) (x7 : Int32) (x8 : Int32) (x9 : Int32) (x10 : Int32) (x11 : Int32) (s1 : Int32) (s2 : Int32) : Option St := ((f_L_act S s1 s2 0 99).bind fun q1 => (if q1.1 = (-7000001) then ((f_L_act q1.2 4 0 x9 99).bind fun q3 => (if q3.1 = (-7000001) then ((f_L_act q3.2 4 0 0 x11).bind fun q5 => (if q5.1 = (-7000002) then ((f_L_act q5.2 5 x7 99 0).bind fun q7 => (if q7.1 = (-7000001) then (if x5 = 0 then (f_L_refuses_399 p1 p2 K12 q7.2 x3 x4 x5 x6 x7 x8 x10 x11 5 0 (-21)) else (if x5 = 1 then (f_L_refuses_399 p1 p2 K12 q7.2 x3 x4 x5 x6 x7 x8 x10 x11 5 0 21) else (f_L_refuses_399 p1 p2 K12 q7.2 x3 x4 x5 x6 x7 x8 x10 x11 5 0 x6))) else (f_L_refuses_444 p1 p2 K12 16 q7.2 x3 x4 x5 x6 x7 x8 x10 x11 0 7))) else (f_L_refuses_444 p1 p2 K12 16 q5.2 x3 x4 x5 x6 x7 x8 x10 x11 0 7))) else (f_L_refuses_444 p1 p2 K12 16 q3.2 x3 x4 x5 x6 x7 x8 x10 x11 0 7))) else (f_L_refuses_444 p1 p2 K12 16 q1.2 x3 x4 x5 x6 x7 x8 x10 x11 0 7)))
def f_L_refuses_266 (p1 p2 : Int32) (K12 : St → Int32 → Int32 → Int32 → Option St) (S : St) (x3 : Int32) (x4 : Int32) (x5 : Int32) (x6 : Int32) (x7 : Int32) (x8 : Int32) (x9 : Int32) (x10 : Int32) (x11 : Int32) (s1 : Int32) (s2 : Int32) : Option St := ((f_L_act S s1 s2 0 0).bind fun q1 => (if q1.1 = (-7000001) then ((f_L_act q1.2 3 0 x7 0).bind fun q3 => (if q3.1 = (-7000001) then ((f_L_act q3.2 3 0 0 x9).bind fun q5 => (if q5.1 = (-7000001) then (if x5 = 1 then (f_L_refuses_318 p1 p2 K12 q5.2 x3 x4 x5 x6 x7 x8 x9 x10 x11 4 2) else (f_L_refuses_318 p1 p2 K12 q5.2 x3 x4 x5 x6 x7 x8 x9 x10 x11 4 x6)) else (f_L_refuses_444 p1 p2 K12 16 q5.2 x3 x4 x5 x6 x7 x8 x10 x11 0 7))) else (f_L_refuses_444 p1 p2 K12 16 q3.2 x3 x4 x5 x6 x7 x8 x10 x11 0 7))) else (f_L_refuses_444 p1 p2 K12 16 q1.2 x3 x4 x5 x6 x7 x8 x10 x11 0 7)))
def f_L_refuses_252 (p1 p2 : Int32) (K12 : St → Int32 → Int32 → Int32 → Option St) (S : St) (x3 : Int32) (x4 : Int32) (x5 : Int32) (x6 : Int32) (x7 : Int32) (x8 : Int32) (x9 : Int32) (x10 : Int32) (x11 : Int32) : Option St := (if x5 = 1 then (f_L_refuses_266 p1 p2 K12 S x3 x4 x5 x6 x7 x8 x9 x10 x11 3 2) else (f_L_refuses_266 p1 p2 K12 S x3 x4 x5 x6 x7 x8 x9 x10 x11 3 x6))
def f_L_refuses_244 (p1 p2 : Int32) (K12 : St → Int32 → Int32 → Int32 → Option St) (S : St) (x3 : Int32) (x4 : Int32) (x5 : Int32) (x6 : Int32) (x7 : Int32) (x8 : Int32) (x9 : Int32) (x10 : Int32) (x11 : Int32) (s1 : Int32) (s2 : Int32) (s3 : Int32) (s4 : Int32) : Option St := ((f_L_act S s1 s2 s3 s4).bind fun q1 => (if q1.1 = (-7000002) then (f_L_refuses_252 p1 p2 K12 q1.2 x3 x4 x5 x6 x7 x8 x9 x10 x11) else (f_L_refuses_444 p1 p2 K12 16 q1.2 x3 x4 x5 x6 x7 x8 x10 x11 0 7)))
def f_L_refuses_170 (p1 p2 : Int32) (K12 : St → Int32 → Int32 → Int32 → Option St) (S : St) (x3 : Int32) (x4 : Int32) (x5 : Int32) (x6 : Int32) (x7 : Int32) (x8 : Int32) (x9 : Int32) (x10 : Int32) (x11 : Int32) (s1 : Int32) (s2 : Int32) (s3 : Int32) : Option St := ((f_L_act S s1 s2 s3 1).bind fun q1 => (if q1.1 = (-7000001) then ((f_L_act q1.2 2 x7 0 99).bind fun q3 => (if q3.1 = (-7000001) then ((f_L_act q3.2 2 0 x7 99).bind fun q5 => (if q5.1 = (-7000001) then ((f_L_act q5.2 2 0 0 5).bind fun q7 => (if q7.1 = (-7000002) then (if p1 < 2 then (f_L_refuses_252 p1 p2 K12 q7.2 x3 x4 x5 x6 x7 x8 x9 x10 x11) else (if x5 = 1 then (f_L_refuses_244 p1 p2 K12 q7.2 x3 x4 x5 x6 x7 x8 x9 x10 x11 2 0 1 21) else (f_L_refuses_244 p1 p2 K12 q7.2 x3 x4 x5 x6 x7 x8 x9 x10 x11 2 0 1 x6))) else (f_L_refuses_444 p1 p2 K12 16 q7.2 x3 x4 x5 x6 x7 x8 x10 x11 0 7))) else (f_L_refuses_444 p1 p2 K12 16 q5.2 x3 x4 x5 x6 x7 x8 x10 x11 0 7))) else (f_L_refuses_444 p1 p2 K12 16 q3.2 x3 x4 x5 x6 x7 x8 x10 x11 0 7))) else (f_L_refuses_444 p1 p2 K12 16 q1.2 x3 x4 x5 x6 x7 x8 x10 x11 0 7)))
def f_L_refuses_130 (p1 p2 : Int32) (K12 : St → Int32 → Int32 → Int32 → Option St) (S : St) (x3 : Int32) (x4 : Int32) (x5 : Int32) (x6 : Int32) (x7 : Int32) (x8 : Int32) (x9 : Int32) (x10 : Int32) (x11 : Int32) (s1 : Int32) (s2 : Int32) : Option St := ((f_L_act S s1 s2 0 0).bind fun q1 => (if q1.1 = (-7000002) then ((f_L_act q1.2 1 x7 0 1).bind fun q3 => (if q3.1 = (-7000001) then (if x5 = 1 then (f_L_refuses_170 p1 p2 K12 q3.2 x3 x4 x5 x6 x7 x8 x9 x10 x11 1 0 10) else (f_L_refuses_170 p1 p2 K12 q3.2 x3 x4 x5 x6 x7 x8 x9 x10 x11 1 0 x6)) else (f_L_refuses_444 p1 p2 K12 16 q3.2 x3 x4 x5 x6 x7 x8 x10 x11 0 7))) else (f_L_refuses_444 p1 p2 K12 16 q1.2 x3 x4 x5 x6 x7 x8 x10 x11 0 7)))
def f_L_refuses_115 (p1 p2 : Int32) (K12 : St → Int32 → Int32 → Int32 → Option St) (S : St) (x3 : Int32) (x4 : Int32) (x5 : Int32) (x6 : Int32) (x7 : Int32) (x8 : Int32) (x9 : Int32) (x10 : Int32) (s0 : Int32) : Option St := (if x5 = 0 then (f_L_refuses_130 p1 p2 K12 S x3 x4 x5 x6 x7 x8 x9 x10 s0 0 0) else (f_L_refuses_130 p1 p2 K12 S x3 x4 x5 x6 x7 x8 x9 x10 s0 0 s0))
def f_L_refuses_100 (p1 p2 : Int32) (K12 : St → Int32 → Int32 → Int32 → Option St) (S : St) (x3 : Int32) (x4 : Int32) (x5 : Int32) (x6 : Int32) (x7 : Int32) (x8 : Int32) (x9 : Int32) (s0 : Int32) : Option St := (if x5 = 1 then (f_L_refuses_115 p1 p2 K12 S x3 x4 x5 x6 x7 x8 x9 s0 7) else (f_L_refuses_115 p1 p2 K12 S x3 x4 x5 x6 x7 x8 x9 s0 x6))
def f_L_refuses_84 (p1 p2 : Int32) (K12 : St → Int32 → Int32 → Int32 → Option St) (S : St) (x3 : Int32) (x4 : Int32) (x5 : Int32) (x6 : Int32) (x7 : Int32) (x8 : Int32) (s0 : Int32) : Option St := (if x5 = 1 then (f_L_refuses_100 p1 p2 K12 S x3 x4 x5 x6 x7 x8 s0 ((1 : Int32) <<< (p1 &&& 31))) else (f_L_refuses_100 p1 p2 K12 S x3 x4 x5 x6 x7 x8 s0 x6))
def f_L_refuses_69 (p1 p2 : Int32) (K12 : St → Int32 → Int32 → Int32 → Option St) (S : St) (x3 : Int32) (x4 : Int32) (x5 : Int32) (x6 : Int32) (x7 : Int32) (s0 : Int32) : Option St := (if x5 = 1 then (f_L_refuses_84 p1 p2 K12 S x3 x4 x5 x6 x7 s0 6) else (f_L_refuses_84 p1 p2 K12 S x3 x4 x5 x6 x7 s0 x6))
def f_L_refuses_55 (p1 p2 : Int32) (K12 : St → Int32 → Int32 → Int32 → Option St) (S : St) (x3 : Int32) (x4 : Int32) (x5 : Int32) (x6 : Int32) (s0 : Int32) : Option St := (if x5 = 1 then (f_L_refuses_69 p1 p2 K12 S x3 x4 x5 x6 s0 p2) else (f_L_refuses_69 p1 p2 K12 S x3 x4 x5 x6 s0 x6))
def f_L_refuses_41 (p1 p2 : Int32) (K12 : St → Int32 → Int32 → Int32 → Option St) (S : St) (x3 : Int32) (x4 : Int32) (x5 : Int32) (s0 : Int32) : Option St := (if x5 = 1 then (f_L_refuses_55 p1 p2 K12 S x3 x4 x5 s0 p1) else (f_L_refuses_55 p1 p2 K12 S x3 x4 x5 s0 s0))
def f_L_refuses_12 (p1 p2 : Int32) : Nat → St → Int32 → Int32 → Int32 → Option St
  | 0, _, _, _, _ => none
  | k + 1, S, x3, x4, x5 => (if 4 ≤ x5 then ((f_X0_common S).bind fun q2 => (if q2.1 = x4 then ((f_X0_commonAnew q2.2).bind fun v4 => (if v4 = x4 then ((f_L_act q2.2 10 p2 0 0).bind fun q6 => (if q6.1 = (-7000001) then some q6.2 else none)) else none)) else none)) else (if x5 = 0 then (f_L_refuses_41 p1 p2 (f_L_refuses_12 p1 p2 k) S x3 x4 x5 (-1)) else (if x5 = 2 then (f_L_refuses_41 p1 p2 (f_L_refuses_12 p1 p2 k) S x3 x4 x5 x3) else (f_L_refuses_41 p1 p2 (f_L_refuses_12 p1 p2 k) S x3 x4 x5 ((-x3) - 1)))))
def f_L_refuses (S : St) (p1 : Int32) (p2 : Int32) : Option St := ((f_X0_common S).bind fun q1 => (bnd q1.1 fun y2 => (f_L_refuses_12 p1 p2 5 q1.2 2147483647 y2 0)))
theorem cd_L_refuses : yL_refuses.cls ≠ "java/lang/invoke/MethodHandle" ∧ yL_refuses.cls ≠ "java/lang/invoke/VarHandle" ∧ (parseMethodDescriptor yL_refuses.desc).map (fun d => d.parameters.length) = some 3 := by decide +kernel
set_option maxHeartbeats 16000000 in
set_option maxRecDepth 100000 in
theorem k_L_refuses (l : Launch) (hfl : l.stackTraces = false) (dC : Nat → ClassId) (dI : Nat → Nat → Nat) (cA : ClassId) (a : Nat → Nat) (S : St) (p1 : Int32) (p2 : Int32) (r : St) (hf : f_L_refuses S p1 p2 = some r) (hap : apart a 10) : Met l yL_refuses wsL_refuses ({ frames := 14, cells := 633, slots := 3798, locals := 388 }) (va_Pc [.ref (a 0), .int p1, .int p2] (PLs (dC, dI) cA a S)) (mXi (dC, dI) cA a 1 r) 633 3798 (ad a 10) := by
  refine Met.ofW (cc := cL_refuses) (maxL := 14) (ret := (some .boolean)) (by decide) rfl ?_
  intro p e s m args below meth c s₁ B hml hv
  obtain ⟨rfl, hP, hK, hE, hN⟩ := hv
  have hx := B.exec
  have hb := B.bytes
  have hr := B.returns
  have hts := atoms_spec (ws := wsL_refuses) B.pre
  have hown : s.vm.findClass RL = some m.cls := findClass_of_methodNamed B.named
  have hlocks := B.notSynchronized
  have hA : ∀ q, ad a 10 q → ad a 10 q := fun _ h => h
  have hS : va_S (ad a 10) s.heap s.heap [] := va_S.rf
  have hl := lv_entry ([.ref (a 0), .int p1, .int p2]) (n := 14) (Nat.le_of_ble_eq_true rfl)
  rw [lg_entry_eq]
  generalize (lg_sl ([.ref (a 0), .int p1, .int p2]) ++ List.replicate (14 - (lg_sl ([.ref (a 0), .int p1, .int p2])).length) Slot.unset).toArray = ls at hl ⊢
  have hl : lv_has ls 14 [(0, .ref (a 0)), (1, .int p1), (2, .int p2)] := hl
  have hw0 := hts (.constant RL 90 (2147483647)) (by decide +kernel)
  have hw1 := hts (.constant RL 86 (-7000002)) (by decide +kernel)
  have hw2 := hts (.constant RL 83 (-7000001)) (by decide +kernel)
  have hW12 : ∀ (k12 : Nat) (C Z : Nat) (S : St) (x3 x4 x5 : Int32) (H : Heap) (locs : List Loc) (ls : Array Slot), C + (k12 * 126 + 3) ≤ 633 → Z + (k12 * 756 + 18) ≤ 3798 → f_L_refuses_12 p1 p2 k12 S x3 x4 x5 = some r → va_P (dC, dI) vwCl (wX cA a S) H → va_S (ad a 10) s.heap H locs → lv_has ls 14 [(0, .ref (a 0)), (1, .int p1), (2, .int p2), (3, .int x3), (4, .int x4), (5, .int x5)] → W p l e (headSpec wsL_refuses ({ frames := 14, cells := 633, slots := 3798, locals := 388 })).room s m ([.ref (a 0), .int p1, .int p2] : List Value).toArray below meth c H locs C Z (MQ below (mXi (dC, dI) cA a 1 r) ([.ref (a 0), .int p1, .int p2] : List Value).toArray s 633 3798 (ad a 10)) (F0 m 12 ls []) := by
    intro k12
    induction k12 with
    | zero =>
      intro C Z S x3 x4 x5 H locs ls hC hZ hf hP hS hl
      rw [f_L_refuses_12] at hf
      cases hf
    | succ k12 ih12 =>
      have hW678 : ∀ (C Z : Nat) (S : St) (x3 x4 x5 s0 : Int32) (H : Heap) (locs : List Loc) (ls : Array Slot), C + (k12 * 126 + 3) ≤ 633 → Z + (k12 * 756 + 18) ≤ 3798 → f_L_refuses_678 p1 p2 (f_L_refuses_12 p1 p2 k12) S x3 x4 x5 s0 = some r → va_P (dC, dI) vwCl (wX cA a S) H → va_S (ad a 10) s.heap H locs → lv_has ls 14 [(0, .ref (a 0)), (1, .int p1), (2, .int p2), (3, .int x3), (4, .int x4), (5, .int x5)] → W p l e (headSpec wsL_refuses ({ frames := 14, cells := 633, slots := 3798, locals := 388 })).room s m ([.ref (a 0), .int p1, .int p2] : List Value).toArray below meth c H locs C Z (MQ below (mXi (dC, dI) cA a 1 r) ([.ref (a 0), .int p1, .int p2] : List Value).toArray s 633 3798 (ad a 10)) (F0 m 678 ls [.int s0]) := by
        intro C Z S x3 x4 x5 s0 H locs ls hC hZ hf hP hS hl
        unfold f_L_refuses_678 at hf
        refine lv_istore (lv' := [(12, .int s0), (0, .ref (a 0)), (1, .int p1), (2, .int p2), (3, .int x3), (4, .int x4), (5, .int x5)]) hx hb dL_refuses_678 hl (by decide) rfl (fun ls hl => ?_)
        refine lv_iload hx hb dL_refuses_680 (lv_at hl 0 rfl) ?_
        refine lv_if_ne (tgt := 687) hx hb dL_refuses_682 (by decide) (fun c1 => ?_) (fun c1 => ?_)
        · rw [if_neg c1] at hf
          obtain ⟨y2, ey2⟩ : ∃ y : Int32, y = (x5 + 1) := ⟨_, rfl⟩
          have hf := bnd_at hf ey2
          refine lv_iinc (v := y2) (lv' := [(5, .int y2), (12, .int s0), (0, .ref (a 0)), (1, .int p1), (2, .int p2), (3, .int x3), (4, .int x4)]) hx hb dL_refuses_687 hl (k := 6) rfl (by rw [ey2]; rfl) (by decide) rfl (fun ls hl => ?_)
          refine lv_goto (tgt := 12) hx hb dL_refuses_690 (by decide) ?_
          exact ih12 C Z S x3 x4 y2 _ _ ls (by omega) (by omega) hf hP hS (lv_sub hl [2, 3, 4, 5, 6, 0] rfl)
        · rw [if_pos c1] at hf
          refine lv_iconst (v := 0) hx hb dL_refuses_685 (by decide) ?_
          cases hf
      have hW619 : ∀ (C Z : Nat) (S : St) (x3 x4 x5 x10 x11 s1 s2 s3 : Int32) (H : Heap) (locs : List Loc) (ls : Array Slot), C + (k12 * 126 + 15) ≤ 633 → Z + (k12 * 756 + 90) ≤ 3798 → f_L_refuses_619 p1 p2 (f_L_refuses_12 p1 p2 k12) S x3 x4 x5 x10 x11 s1 s2 s3 = some r → va_P (dC, dI) vwCl (wX cA a S) H → va_S (ad a 10) s.heap H locs → lv_has ls 14 [(0, .ref (a 0)), (1, .int p1), (2, .int p2), (3, .int x3), (4, .int x4), (5, .int x5), (10, .int x10), (11, .int x11)] → W p l e (headSpec wsL_refuses ({ frames := 14, cells := 633, slots := 3798, locals := 388 })).room s m ([.ref (a 0), .int p1, .int p2] : List Value).toArray below meth c H locs C Z (MQ below (mXi (dC, dI) cA a 1 r) ([.ref (a 0), .int p1, .int p2] : List Value).toArray s 633 3798 (ad a 10)) (F0 m 619 ls [.int s3, .int s2, .int s1, .ref (a 0)]) := by
        intro C Z S x3 x4 x5 x10 x11 s1 s2 s3 H locs ls hC hZ hf hP hS hl
        unfold f_L_refuses_619 at hf
        refine lv_iconst (v := 0) hx hb dL_refuses_619 (by decide) ?_
        obtain ⟨q1, hq1, hf⟩ := ob_some hf
        refine lc_W (As := [.ref (a 0), .int s1, .int s2, .int s3, .int 0]) (rest := []) ⟨hx, hb, hml, hown, hts⟩ (k_L_act l hfl dC dI cA a S s1 s2 s3 0 _ hq1 hap) gL_refuses_L_act rfl rfl rfl cd_L_act (Nat.le_of_ble_eq_true rfl) (Nat.le_of_ble_eq_true rfl) (preLsH hK hP hE hN hS hA) rfl hl.1 rfl (Nat.le_of_ble_eq_true rfl) (by show C + 3 ≤ 633; omega) (by show Z + 18 ≤ 3798; omega) dL_refuses_620 hS hA (fun H locs hP hS => ?_)
        refine lv_ldc (v := (-7000002)) hx hb hown hw1 dL_refuses_623 ?_
        refine lv_icmp_ne (tgt := 677) hx hb dL_refuses_625 (by decide) (fun c2 => ?_) (fun c2 => ?_)
        · rw [if_neg c2] at hf
          refine lv_iconst (v := 0) hx hb dL_refuses_677 (by decide) ?_
          exact hW678 (C + 3) (Z + 18) q1.2 x3 x4 x5 0 _ _ ls (by omega) (by omega) hf hP hS (lv_sub hl [0, 1, 2, 3, 4, 5] rfl)
        · rw [if_pos c2] at hf
          refine lv_aload_n hx hb dL_refuses_628 rfl (lv_at hl 0 rfl) ?_
          refine lv_bipush (v := 10) hx hb dL_refuses_629 (by decide) ?_
          refine lv_iconst (v := 0) hx hb dL_refuses_631 (by decide) ?_
          refine lv_iload hx hb dL_refuses_632 (lv_at hl 6 rfl) ?_
          refine lv_iconst (v := 0) hx hb dL_refuses_634 (by decide) ?_
          obtain ⟨q3, hq3, hf⟩ := ob_some hf
          refine lc_W (As := [.ref (a 0), .int 10, .int 0, .int x10, .int 0]) (rest := []) ⟨hx, hb, hml, hown, hts⟩ (k_L_act l hfl dC dI cA a q1.2 10 0 x10 0 _ hq3 hap) gL_refuses_L_act rfl rfl rfl cd_L_act (Nat.le_of_ble_eq_true rfl) (Nat.le_of_ble_eq_true rfl) (preLsH hK hP hE hN hS hA) rfl hl.1 rfl (Nat.le_of_ble_eq_true rfl) (by show (C + 3) + 3 ≤ 633; omega) (by show (Z + 18) + 18 ≤ 3798; omega) dL_refuses_635 hS hA (fun H locs hP hS => ?_)
          refine lv_ldc (v := (-7000002)) hx hb hown hw1 dL_refuses_638 ?_
          refine lv_icmp_ne (tgt := 677) hx hb dL_refuses_640 (by decide) (fun c4 => ?_) (fun c4 => ?_)
          · rw [if_neg c4] at hf
            refine lv_iconst (v := 0) hx hb dL_refuses_677 (by decide) ?_
            exact hW678 (C + 6) (Z + 36) q3.2 x3 x4 x5 0 _ _ ls (by omega) (by omega) hf hP hS (lv_sub hl [0, 1, 2, 3, 4, 5] rfl)
          · rw [if_pos c4] at hf
            refine lv_aload_n hx hb dL_refuses_643 rfl (lv_at hl 0 rfl) ?_
            refine lv_bipush (v := 18) hx hb dL_refuses_644 (by decide) ?_
            refine lv_iconst (v := 0) hx hb dL_refuses_646 (by decide) ?_
            refine lv_iload hx hb dL_refuses_647 (lv_at hl 7 rfl) ?_
            refine lv_iconst (v := 0) hx hb dL_refuses_649 (by decide) ?_
            obtain ⟨q5, hq5, hf⟩ := ob_some hf
            refine lc_W (As := [.ref (a 0), .int 18, .int 0, .int x11, .int 0]) (rest := []) ⟨hx, hb, hml, hown, hts⟩ (k_L_act l hfl dC dI cA a q3.2 18 0 x11 0 _ hq5 hap) gL_refuses_L_act rfl rfl rfl cd_L_act (Nat.le_of_ble_eq_true rfl) (Nat.le_of_ble_eq_true rfl) (preLsH hK hP hE hN hS hA) rfl hl.1 rfl (Nat.le_of_ble_eq_true rfl) (by show (C + 6) + 3 ≤ 633; omega) (by show (Z + 36) + 18 ≤ 3798; omega) dL_refuses_650 hS hA (fun H locs hP hS => ?_)
            refine lv_ldc (v := (-7000002)) hx hb hown hw1 dL_refuses_653 ?_
            refine lv_icmp_ne (tgt := 677) hx hb dL_refuses_655 (by decide) (fun c6 => ?_) (fun c6 => ?_)
            · rw [if_neg c6] at hf
              refine lv_iconst (v := 0) hx hb dL_refuses_677 (by decide) ?_
              exact hW678 (C + 9) (Z + 54) q5.2 x3 x4 x5 0 _ _ ls (by omega) (by omega) hf hP hS (lv_sub hl [0, 1, 2, 3, 4, 5] rfl)
            · rw [if_pos c6] at hf
              refine lv_aload_n hx hb dL_refuses_658 rfl (lv_at hl 0 rfl) ?_
              refine lv_bipush (v := 19) hx hb dL_refuses_659 (by decide) ?_
              refine lv_iconst (v := 0) hx hb dL_refuses_661 (by decide) ?_
              refine lv_iload hx hb dL_refuses_662 (lv_at hl 7 rfl) ?_
              refine lv_iconst (v := 0) hx hb dL_refuses_664 (by decide) ?_
              obtain ⟨q7, hq7, hf⟩ := ob_some hf
              refine lc_W (As := [.ref (a 0), .int 19, .int 0, .int x11, .int 0]) (rest := []) ⟨hx, hb, hml, hown, hts⟩ (k_L_act l hfl dC dI cA a q5.2 19 0 x11 0 _ hq7 hap) gL_refuses_L_act rfl rfl rfl cd_L_act (Nat.le_of_ble_eq_true rfl) (Nat.le_of_ble_eq_true rfl) (preLsH hK hP hE hN hS hA) rfl hl.1 rfl (Nat.le_of_ble_eq_true rfl) (by show (C + 9) + 3 ≤ 633; omega) (by show (Z + 54) + 18 ≤ 3798; omega) dL_refuses_665 hS hA (fun H locs hP hS => ?_)
              refine lv_ldc (v := (-7000002)) hx hb hown hw1 dL_refuses_668 ?_
              refine lv_icmp_ne (tgt := 677) hx hb dL_refuses_670 (by decide) (fun c8 => ?_) (fun c8 => ?_)
              · rw [if_neg c8] at hf
                refine lv_iconst (v := 0) hx hb dL_refuses_677 (by decide) ?_
                exact hW678 (C + 12) (Z + 72) q7.2 x3 x4 x5 0 _ _ ls (by omega) (by omega) hf hP hS (lv_sub hl [0, 1, 2, 3, 4, 5] rfl)
              · rw [if_pos c8] at hf
                refine lv_iconst (v := 1) hx hb dL_refuses_673 (by decide) ?_
                refine lv_goto (tgt := 678) hx hb dL_refuses_674 (by decide) ?_
                exact hW678 (C + 12) (Z + 72) q7.2 x3 x4 x5 1 _ _ ls (by omega) (by omega) hf hP hS (lv_sub hl [0, 1, 2, 3, 4, 5] rfl)
      have hW576 : ∀ (C Z : Nat) (S : St) (x3 x4 x5 x6 x10 x11 s0 : Int32) (H : Heap) (locs : List Loc) (ls : Array Slot), C + (k12 * 126 + 18) ≤ 633 → Z + (k12 * 756 + 108) ≤ 3798 → f_L_refuses_576 p1 p2 (f_L_refuses_12 p1 p2 k12) S x3 x4 x5 x6 x10 x11 s0 = some r → va_P (dC, dI) vwCl (wX cA a S) H → va_S (ad a 10) s.heap H locs → lv_has ls 14 [(0, .ref (a 0)), (1, .int p1), (2, .int p2), (3, .int x3), (4, .int x4), (5, .int x5), (6, .int x6), (10, .int x10), (11, .int x11)] → W p l e (headSpec wsL_refuses ({ frames := 14, cells := 633, slots := 3798, locals := 388 })).room s m ([.ref (a 0), .int p1, .int p2] : List Value).toArray below meth c H locs C Z (MQ below (mXi (dC, dI) cA a 1 r) ([.ref (a 0), .int p1, .int p2] : List Value).toArray s 633 3798 (ad a 10)) (F0 m 576 ls [.int s0]) := by
        intro C Z S x3 x4 x5 x6 x10 x11 s0 H locs ls hC hZ hf hP hS hl
        unfold f_L_refuses_576 at hf
        refine lv_istore (lv' := [(12, .int s0), (0, .ref (a 0)), (1, .int p1), (2, .int p2), (3, .int x3), (4, .int x4), (5, .int x5), (6, .int x6), (10, .int x10), (11, .int x11)]) hx hb dL_refuses_576 hl (by decide) rfl (fun ls hl => ?_)
        refine lv_iload hx hb dL_refuses_578 (lv_at hl 0 rfl) ?_
        refine lv_if_eq (tgt := 677) hx hb dL_refuses_580 (by decide) (fun c1 => ?_) (fun c1 => ?_)
        · rw [if_pos c1] at hf
          refine lv_iconst (v := 0) hx hb dL_refuses_677 (by decide) ?_
          exact hW678 C Z S x3 x4 x5 0 _ _ ls (by omega) (by omega) hf hP hS (lv_sub hl [1, 2, 3, 4, 5, 6] rfl)
        · rw [if_neg c1] at hf
          refine lv_iload_n hx hb dL_refuses_583 rfl (lv_at hl 3 rfl) ?_
          refine lv_if_eq (tgt := 673) hx hb dL_refuses_584 (by decide) (fun c2 => ?_) (fun c2 => ?_)
          · rw [if_pos c2] at hf
            refine lv_iconst (v := 1) hx hb dL_refuses_673 (by decide) ?_
            refine lv_goto (tgt := 678) hx hb dL_refuses_674 (by decide) ?_
            exact hW678 C Z S x3 x4 x5 1 _ _ ls (by omega) (by omega) hf hP hS (lv_sub hl [1, 2, 3, 4, 5, 6] rfl)
          · rw [if_neg c2] at hf
            refine lv_aload_n hx hb dL_refuses_587 rfl (lv_at hl 1 rfl) ?_
            refine lv_bipush (v := 8) hx hb dL_refuses_588 (by decide) ?_
            refine lv_iconst (v := 0) hx hb dL_refuses_590 (by decide) ?_
            refine lv_iload hx hb dL_refuses_591 (lv_at hl 8 rfl) ?_
            refine lv_iconst (v := 0) hx hb dL_refuses_593 (by decide) ?_
            obtain ⟨q3, hq3, hf⟩ := ob_some hf
            refine lc_W (As := [.ref (a 0), .int 8, .int 0, .int x10, .int 0]) (rest := []) ⟨hx, hb, hml, hown, hts⟩ (k_L_act l hfl dC dI cA a S 8 0 x10 0 _ hq3 hap) gL_refuses_L_act rfl rfl rfl cd_L_act (Nat.le_of_ble_eq_true rfl) (Nat.le_of_ble_eq_true rfl) (preLsH hK hP hE hN hS hA) rfl hl.1 rfl (Nat.le_of_ble_eq_true rfl) (by show C + 3 ≤ 633; omega) (by show Z + 18 ≤ 3798; omega) dL_refuses_594 hS hA (fun H locs hP hS => ?_)
            refine lv_ldc (v := (-7000002)) hx hb hown hw1 dL_refuses_597 ?_
            refine lv_icmp_ne (tgt := 677) hx hb dL_refuses_599 (by decide) (fun c4 => ?_) (fun c4 => ?_)
            · rw [if_neg c4] at hf
              refine lv_iconst (v := 0) hx hb dL_refuses_677 (by decide) ?_
              exact hW678 (C + 3) (Z + 18) q3.2 x3 x4 x5 0 _ _ ls (by omega) (by omega) hf hP hS (lv_sub hl [1, 2, 3, 4, 5, 6] rfl)
            · rw [if_pos c4] at hf
              refine lv_aload_n hx hb dL_refuses_602 rfl (lv_at hl 1 rfl) ?_
              refine lv_bipush (v := 9) hx hb dL_refuses_603 (by decide) ?_
              refine lv_iconst (v := 0) hx hb dL_refuses_605 (by decide) ?_
              refine lv_iload hx hb dL_refuses_606 (lv_at hl 6 rfl) ?_
              refine lv_iconst (v := 1) hx hb dL_refuses_608 (by decide) ?_
              refine lv_icmp_ne (tgt := 617) hx hb dL_refuses_609 (by decide) (fun c5 => ?_) (fun c5 => ?_)
              · rw [if_neg c5] at hf
                refine lv_iload hx hb dL_refuses_617 (lv_at hl 7 rfl) ?_
                exact hW619 (C + 3) (Z + 18) q3.2 x3 x4 x5 x10 x11 9 0 x6 _ _ ls (by omega) (by omega) hf hP hS (lv_sub hl [1, 2, 3, 4, 5, 6, 8, 9] rfl)
              · rw [if_pos c5] at hf
                refine lv_bipush (v := 101) hx hb dL_refuses_612 (by decide) ?_
                refine lv_goto (tgt := 619) hx hb dL_refuses_614 (by decide) ?_
                exact hW619 (C + 3) (Z + 18) q3.2 x3 x4 x5 x10 x11 9 0 101 _ _ ls (by omega) (by omega) hf hP hS (lv_sub hl [1, 2, 3, 4, 5, 6, 8, 9] rfl)
      have hW491 : ∀ (C Z : Nat) (S : St) (x3 x4 x5 x6 x7 x8 x10 x11 x12 : Int32) (H : Heap) (locs : List Loc) (ls : Array Slot), C + (k12 * 126 + 33) ≤ 633 → Z + (k12 * 756 + 198) ≤ 3798 → f_L_refuses_491 p1 p2 (f_L_refuses_12 p1 p2 k12) S x3 x4 x5 x6 x7 x8 x10 x11 x12 = some r → va_P (dC, dI) vwCl (wX cA a S) H → va_S (ad a 10) s.heap H locs → lv_has ls 14 [(0, .ref (a 0)), (1, .int p1), (2, .int p2), (3, .int x3), (4, .int x4), (5, .int x5), (6, .int x6), (7, .int x7), (8, .int x8), (10, .int x10), (11, .int x11), (12, .int x12)] → W p l e (headSpec wsL_refuses ({ frames := 14, cells := 633, slots := 3798, locals := 388 })).room s m ([.ref (a 0), .int p1, .int p2] : List Value).toArray below meth c H locs C Z (MQ below (mXi (dC, dI) cA a 1 r) ([.ref (a 0), .int p1, .int p2] : List Value).toArray s 633 3798 (ad a 10)) (F0 m 491 ls []) := by
        intro C Z S x3 x4 x5 x6 x7 x8 x10 x11 x12 H locs ls hC hZ hf hP hS hl
        unfold f_L_refuses_491 at hf
        refine lv_iload hx hb dL_refuses_491 (lv_at hl 11 rfl) ?_
        refine lv_if_eq (tgt := 575) hx hb dL_refuses_493 (by decide) (fun c1 => ?_) (fun c1 => ?_)
        · rw [if_pos c1] at hf
          refine lv_iconst (v := 0) hx hb dL_refuses_575 (by decide) ?_
          exact hW576 C Z S x3 x4 x5 x6 x10 x11 0 _ _ ls (by omega) (by omega) hf hP hS (lv_sub hl [0, 1, 2, 3, 4, 5, 6, 9, 10] rfl)
        · rw [if_neg c1] at hf
          refine lv_aload_n hx hb dL_refuses_496 rfl (lv_at hl 0 rfl) ?_
          refine lv_bipush (v := 7) hx hb dL_refuses_497 (by decide) ?_
          refine lv_iconst (v := 0) hx hb dL_refuses_499 (by decide) ?_
          refine lv_iload hx hb dL_refuses_500 (lv_at hl 8 rfl) ?_
          refine lv_iconst (v := 0) hx hb dL_refuses_502 (by decide) ?_
          obtain ⟨q2, hq2, hf⟩ := ob_some hf
          refine lc_W (As := [.ref (a 0), .int 7, .int 0, .int x8, .int 0]) (rest := []) ⟨hx, hb, hml, hown, hts⟩ (k_L_act l hfl dC dI cA a S 7 0 x8 0 _ hq2 hap) gL_refuses_L_act rfl rfl rfl cd_L_act (Nat.le_of_ble_eq_true rfl) (Nat.le_of_ble_eq_true rfl) (preLsH hK hP hE hN hS hA) rfl hl.1 rfl (Nat.le_of_ble_eq_true rfl) (by show C + 3 ≤ 633; omega) (by show Z + 18 ≤ 3798; omega) dL_refuses_503 hS hA (fun H locs hP hS => ?_)
          refine lv_ldc (v := (-7000001)) hx hb hown hw2 dL_refuses_506 ?_
          refine lv_icmp_ne (tgt := 575) hx hb dL_refuses_508 (by decide) (fun c3 => ?_) (fun c3 => ?_)
          · rw [if_neg c3] at hf
            refine lv_iconst (v := 0) hx hb dL_refuses_575 (by decide) ?_
            exact hW576 (C + 3) (Z + 18) q2.2 x3 x4 x5 x6 x10 x11 0 _ _ ls (by omega) (by omega) hf hP hS (lv_sub hl [0, 1, 2, 3, 4, 5, 6, 9, 10] rfl)
          · rw [if_pos c3] at hf
            refine lv_aload_n hx hb dL_refuses_511 rfl (lv_at hl 0 rfl) ?_
            refine lv_bipush (v := 16) hx hb dL_refuses_512 (by decide) ?_
            refine lv_iload hx hb dL_refuses_514 (lv_at hl 7 rfl) ?_
            refine lv_iconst (v := 0) hx hb dL_refuses_516 (by decide) ?_
            refine lv_iconst (v := 0) hx hb dL_refuses_517 (by decide) ?_
            obtain ⟨q4, hq4, hf⟩ := ob_some hf
            refine lc_W (As := [.ref (a 0), .int 16, .int x7, .int 0, .int 0]) (rest := []) ⟨hx, hb, hml, hown, hts⟩ (k_L_act l hfl dC dI cA a q2.2 16 x7 0 0 _ hq4 hap) gL_refuses_L_act rfl rfl rfl cd_L_act (Nat.le_of_ble_eq_true rfl) (Nat.le_of_ble_eq_true rfl) (preLsH hK hP hE hN hS hA) rfl hl.1 rfl (Nat.le_of_ble_eq_true rfl) (by show (C + 3) + 3 ≤ 633; omega) (by show (Z + 18) + 18 ≤ 3798; omega) dL_refuses_518 hS hA (fun H locs hP hS => ?_)
            refine lv_ldc (v := (-7000001)) hx hb hown hw2 dL_refuses_521 ?_
            refine lv_icmp_ne (tgt := 575) hx hb dL_refuses_523 (by decide) (fun c5 => ?_) (fun c5 => ?_)
            · rw [if_neg c5] at hf
              refine lv_iconst (v := 0) hx hb dL_refuses_575 (by decide) ?_
              exact hW576 (C + 6) (Z + 36) q4.2 x3 x4 x5 x6 x10 x11 0 _ _ ls (by omega) (by omega) hf hP hS (lv_sub hl [0, 1, 2, 3, 4, 5, 6, 9, 10] rfl)
            · rw [if_pos c5] at hf
              refine lv_aload_n hx hb dL_refuses_526 rfl (lv_at hl 0 rfl) ?_
              refine lv_bipush (v := 17) hx hb dL_refuses_527 (by decide) ?_
              refine lv_iconst (v := 0) hx hb dL_refuses_529 (by decide) ?_
              refine lv_iload hx hb dL_refuses_530 (lv_at hl 7 rfl) ?_
              refine lv_iconst (v := 0) hx hb dL_refuses_532 (by decide) ?_
              obtain ⟨q6, hq6, hf⟩ := ob_some hf
              refine lc_W (As := [.ref (a 0), .int 17, .int 0, .int x7, .int 0]) (rest := []) ⟨hx, hb, hml, hown, hts⟩ (k_L_act l hfl dC dI cA a q4.2 17 0 x7 0 _ hq6 hap) gL_refuses_L_act rfl rfl rfl cd_L_act (Nat.le_of_ble_eq_true rfl) (Nat.le_of_ble_eq_true rfl) (preLsH hK hP hE hN hS hA) rfl hl.1 rfl (Nat.le_of_ble_eq_true rfl) (by show (C + 6) + 3 ≤ 633; omega) (by show (Z + 36) + 18 ≤ 3798; omega) dL_refuses_533 hS hA (fun H locs hP hS => ?_)
              refine lv_ldc (v := (-7000001)) hx hb hown hw2 dL_refuses_536 ?_
              refine lv_icmp_ne (tgt := 575) hx hb dL_refuses_538 (by decide) (fun c7 => ?_) (fun c7 => ?_)
              · rw [if_neg c7] at hf
                refine lv_iconst (v := 0) hx hb dL_refuses_575 (by decide) ?_
                exact hW576 (C + 9) (Z + 54) q6.2 x3 x4 x5 x6 x10 x11 0 _ _ ls (by omega) (by omega) hf hP hS (lv_sub hl [0, 1, 2, 3, 4, 5, 6, 9, 10] rfl)
              · rw [if_pos c7] at hf
                refine lv_aload_n hx hb dL_refuses_541 rfl (lv_at hl 0 rfl) ?_
                refine lv_bipush (v := 20) hx hb dL_refuses_542 (by decide) ?_
                refine lv_iconst (v := 0) hx hb dL_refuses_544 (by decide) ?_
                refine lv_iload hx hb dL_refuses_545 (lv_at hl 7 rfl) ?_
                refine lv_iconst (v := 0) hx hb dL_refuses_547 (by decide) ?_
                obtain ⟨q8, hq8, hf⟩ := ob_some hf
                refine lc_W (As := [.ref (a 0), .int 20, .int 0, .int x7, .int 0]) (rest := []) ⟨hx, hb, hml, hown, hts⟩ (k_L_act l hfl dC dI cA a q6.2 20 0 x7 0 _ hq8 hap) gL_refuses_L_act rfl rfl rfl cd_L_act (Nat.le_of_ble_eq_true rfl) (Nat.le_of_ble_eq_true rfl) (preLsH hK hP hE hN hS hA) rfl hl.1 rfl (Nat.le_of_ble_eq_true rfl) (by show (C + 9) + 3 ≤ 633; omega) (by show (Z + 54) + 18 ≤ 3798; omega) dL_refuses_548 hS hA (fun H locs hP hS => ?_)
                refine lv_ldc (v := (-7000001)) hx hb hown hw2 dL_refuses_551 ?_
                refine lv_icmp_ne (tgt := 575) hx hb dL_refuses_553 (by decide) (fun c9 => ?_) (fun c9 => ?_)
                · rw [if_neg c9] at hf
                  refine lv_iconst (v := 0) hx hb dL_refuses_575 (by decide) ?_
                  exact hW576 (C + 12) (Z + 72) q8.2 x3 x4 x5 x6 x10 x11 0 _ _ ls (by omega) (by omega) hf hP hS (lv_sub hl [0, 1, 2, 3, 4, 5, 6, 9, 10] rfl)
                · rw [if_pos c9] at hf
                  refine lv_aload_n hx hb dL_refuses_556 rfl (lv_at hl 0 rfl) ?_
                  refine lv_bipush (v := 21) hx hb dL_refuses_557 (by decide) ?_
                  refine lv_iconst (v := 0) hx hb dL_refuses_559 (by decide) ?_
                  refine lv_iload hx hb dL_refuses_560 (lv_at hl 7 rfl) ?_
                  refine lv_iconst (v := 0) hx hb dL_refuses_562 (by decide) ?_
                  obtain ⟨q10, hq10, hf⟩ := ob_some hf
                  refine lc_W (As := [.ref (a 0), .int 21, .int 0, .int x7, .int 0]) (rest := []) ⟨hx, hb, hml, hown, hts⟩ (k_L_act l hfl dC dI cA a q8.2 21 0 x7 0 _ hq10 hap) gL_refuses_L_act rfl rfl rfl cd_L_act (Nat.le_of_ble_eq_true rfl) (Nat.le_of_ble_eq_true rfl) (preLsH hK hP hE hN hS hA) rfl hl.1 rfl (Nat.le_of_ble_eq_true rfl) (by show (C + 12) + 3 ≤ 633; omega) (by show (Z + 72) + 18 ≤ 3798; omega) dL_refuses_563 hS hA (fun H locs hP hS => ?_)
                  refine lv_ldc (v := (-7000001)) hx hb hown hw2 dL_refuses_566 ?_
                  refine lv_icmp_ne (tgt := 575) hx hb dL_refuses_568 (by decide) (fun c11 => ?_) (fun c11 => ?_)
                  · rw [if_neg c11] at hf
                    refine lv_iconst (v := 0) hx hb dL_refuses_575 (by decide) ?_
                    exact hW576 (C + 15) (Z + 90) q10.2 x3 x4 x5 x6 x10 x11 0 _ _ ls (by omega) (by omega) hf hP hS (lv_sub hl [0, 1, 2, 3, 4, 5, 6, 9, 10] rfl)
                  · rw [if_pos c11] at hf
                    refine lv_iconst (v := 1) hx hb dL_refuses_571 (by decide) ?_
                    refine lv_goto (tgt := 576) hx hb dL_refuses_572 (by decide) ?_
                    exact hW576 (C + 15) (Z + 90) q10.2 x3 x4 x5 x6 x10 x11 1 _ _ ls (by omega) (by omega) hf hP hS (lv_sub hl [0, 1, 2, 3, 4, 5, 6, 9, 10] rfl)
      have hW444 : ∀ (k444 : Nat) (C Z : Nat) (S : St) (x3 x4 x5 x6 x7 x8 x10 x11 x12 x13 : Int32) (H : Heap) (locs : List Loc) (ls : Array Slot), C + (k444 * 3 + k12 * 126 + 33) ≤ 633 → Z + (k444 * 18 + k12 * 756 + 198) ≤ 3798 → f_L_refuses_444 p1 p2 (f_L_refuses_12 p1 p2 k12) k444 S x3 x4 x5 x6 x7 x8 x10 x11 x12 x13 = some r → va_P (dC, dI) vwCl (wX cA a S) H → va_S (ad a 10) s.heap H locs → lv_has ls 14 [(0, .ref (a 0)), (1, .int p1), (2, .int p2), (3, .int x3), (4, .int x4), (5, .int x5), (6, .int x6), (7, .int x7), (8, .int x8), (10, .int x10), (11, .int x11), (12, .int x12), (13, .int x13)] → W p l e (headSpec wsL_refuses ({ frames := 14, cells := 633, slots := 3798, locals := 388 })).room s m ([.ref (a 0), .int p1, .int p2] : List Value).toArray below meth c H locs C Z (MQ below (mXi (dC, dI) cA a 1 r) ([.ref (a 0), .int p1, .int p2] : List Value).toArray s 633 3798 (ad a 10)) (F0 m 444 ls []) := by
        intro k444
        induction k444 with
        | zero =>
          intro C Z S x3 x4 x5 x6 x7 x8 x10 x11 x12 x13 H locs ls hC hZ hf hP hS hl
          rw [f_L_refuses_444] at hf
          cases hf
        | succ k444 ih444 =>
          intro C Z S x3 x4 x5 x6 x7 x8 x10 x11 x12 x13 H locs ls hC hZ hf hP hS hl
          rw [f_L_refuses_444] at hf
          rw [Nat.add_mul, Nat.one_mul] at hC hZ
          refine lv_iload hx hb dL_refuses_444 (lv_at hl 12 rfl) ?_
          refine lv_bipush (v := 22) hx hb dL_refuses_446 (by decide) ?_
          refine lv_icmp_ge (tgt := 491) hx hb dL_refuses_448 (by decide) (fun c1 => ?_) (fun c1 => ?_)
          · rw [if_pos c1] at hf
            exact hW491 C Z S x3 x4 x5 x6 x7 x8 x10 x11 x12 _ _ ls (by omega) (by omega) hf hP hS (lv_sub hl [0, 1, 2, 3, 4, 5, 6, 7, 8, 9, 10, 11] rfl)
          · rw [if_neg c1] at hf
            refine lv_iload hx hb dL_refuses_451 (lv_at hl 11 rfl) ?_
            refine lv_if_eq (tgt := 491) hx hb dL_refuses_453 (by decide) (fun c2 => ?_) (fun c2 => ?_)
            · rw [if_pos c2] at hf
              exact hW491 C Z S x3 x4 x5 x6 x7 x8 x10 x11 x12 _ _ ls (by omega) (by omega) hf hP hS (lv_sub hl [0, 1, 2, 3, 4, 5, 6, 7, 8, 9, 10, 11] rfl)
            · rw [if_neg c2] at hf
              refine lv_iload hx hb dL_refuses_456 (lv_at hl 12 rfl) ?_
              refine lv_bipush (v := 16) hx hb dL_refuses_458 (by decide) ?_
              refine lv_icmp_eq (tgt := 478) hx hb dL_refuses_460 (by decide) (fun c3 => ?_) (fun c3 => ?_)
              · rw [if_pos c3] at hf
                refine lv_iconst (v := 1) hx hb dL_refuses_478 (by decide) ?_
                refine lv_goto (tgt := 483) hx hb dL_refuses_479 (by decide) ?_
                refine lv_istore (lv' := [(12, .int 1), (0, .ref (a 0)), (1, .int p1), (2, .int p2), (3, .int x3), (4, .int x4), (5, .int x5), (6, .int x6), (7, .int x7), (8, .int x8), (10, .int x10), (11, .int x11), (13, .int x13)]) hx hb dL_refuses_483 hl (by decide) rfl (fun ls hl => ?_)
                obtain ⟨y4, ey4⟩ : ∃ y : Int32, y = (x13 + 1) := ⟨_, rfl⟩
                have hf := bnd_at hf ey4
                refine lv_iinc (v := y4) (lv' := [(13, .int y4), (12, .int 1), (0, .ref (a 0)), (1, .int p1), (2, .int p2), (3, .int x3), (4, .int x4), (5, .int x5), (6, .int x6), (7, .int x7), (8, .int x8), (10, .int x10), (11, .int x11)]) hx hb dL_refuses_485 hl (k := 12) rfl (by rw [ey4]; rfl) (by decide) rfl (fun ls hl => ?_)
                refine lv_goto (tgt := 444) hx hb dL_refuses_488 (by decide) ?_
                exact ih444 C Z S x3 x4 x5 x6 x7 x8 x10 x11 1 y4 _ _ ls (by omega) (by omega) hf hP hS (lv_sub hl [2, 3, 4, 5, 6, 7, 8, 9, 10, 11, 12, 1, 0] rfl)
              · rw [if_neg c3] at hf
                refine lv_aload_n hx hb dL_refuses_463 rfl (lv_at hl 0 rfl) ?_
                refine lv_iload hx hb dL_refuses_464 (lv_at hl 12 rfl) ?_
                refine lv_iload hx hb dL_refuses_466 (lv_at hl 8 rfl) ?_
                refine lv_iconst (v := 0) hx hb dL_refuses_468 (by decide) ?_
                refine lv_iconst (v := 0) hx hb dL_refuses_469 (by decide) ?_
                obtain ⟨q5, hq5, hf⟩ := ob_some hf
                refine lc_W (As := [.ref (a 0), .int x13, .int x8, .int 0, .int 0]) (rest := []) ⟨hx, hb, hml, hown, hts⟩ (k_L_act l hfl dC dI cA a S x13 x8 0 0 _ hq5 hap) gL_refuses_L_act rfl rfl rfl cd_L_act (Nat.le_of_ble_eq_true rfl) (Nat.le_of_ble_eq_true rfl) (preLsH hK hP hE hN hS hA) rfl hl.1 rfl (Nat.le_of_ble_eq_true rfl) (by show C + 3 ≤ 633; omega) (by show Z + 18 ≤ 3798; omega) dL_refuses_470 hS hA (fun H locs hP hS => ?_)
                refine lv_ldc (v := (-7000001)) hx hb hown hw2 dL_refuses_473 ?_
                refine lv_icmp_ne (tgt := 482) hx hb dL_refuses_475 (by decide) (fun c6 => ?_) (fun c6 => ?_)
                · rw [if_neg c6] at hf
                  refine lv_iconst (v := 0) hx hb dL_refuses_482 (by decide) ?_
                  refine lv_istore (lv' := [(12, .int 0), (0, .ref (a 0)), (1, .int p1), (2, .int p2), (3, .int x3), (4, .int x4), (5, .int x5), (6, .int x6), (7, .int x7), (8, .int x8), (10, .int x10), (11, .int x11), (13, .int x13)]) hx hb dL_refuses_483 hl (by decide) rfl (fun ls hl => ?_)
                  obtain ⟨y7, ey7⟩ : ∃ y : Int32, y = (x13 + 1) := ⟨_, rfl⟩
                  have hf := bnd_at hf ey7
                  refine lv_iinc (v := y7) (lv' := [(13, .int y7), (12, .int 0), (0, .ref (a 0)), (1, .int p1), (2, .int p2), (3, .int x3), (4, .int x4), (5, .int x5), (6, .int x6), (7, .int x7), (8, .int x8), (10, .int x10), (11, .int x11)]) hx hb dL_refuses_485 hl (k := 12) rfl (by rw [ey7]; rfl) (by decide) rfl (fun ls hl => ?_)
                  refine lv_goto (tgt := 444) hx hb dL_refuses_488 (by decide) ?_
                  exact ih444 (C + 3) (Z + 18) q5.2 x3 x4 x5 x6 x7 x8 x10 x11 0 y7 _ _ ls (by omega) (by omega) hf hP hS (lv_sub hl [2, 3, 4, 5, 6, 7, 8, 9, 10, 11, 12, 1, 0] rfl)
                · rw [if_pos c6] at hf
                  refine lv_iconst (v := 1) hx hb dL_refuses_478 (by decide) ?_
                  refine lv_goto (tgt := 483) hx hb dL_refuses_479 (by decide) ?_
                  refine lv_istore (lv' := [(12, .int 1), (0, .ref (a 0)), (1, .int p1), (2, .int p2), (3, .int x3), (4, .int x4), (5, .int x5), (6, .int x6), (7, .int x7), (8, .int x8), (10, .int x10), (11, .int x11), (13, .int x13)]) hx hb dL_refuses_483 hl (by decide) rfl (fun ls hl => ?_)
                  obtain ⟨y8, ey8⟩ : ∃ y : Int32, y = (x13 + 1) := ⟨_, rfl⟩
                  have hf := bnd_at hf ey8
                  refine lv_iinc (v := y8) (lv' := [(13, .int y8), (12, .int 1), (0, .ref (a 0)), (1, .int p1), (2, .int p2), (3, .int x3), (4, .int x4), (5, .int x5), (6, .int x6), (7, .int x7), (8, .int x8), (10, .int x10), (11, .int x11)]) hx hb dL_refuses_485 hl (k := 12) rfl (by rw [ey8]; rfl) (by decide) rfl (fun ls hl => ?_)
                  refine lv_goto (tgt := 444) hx hb dL_refuses_488 (by decide) ?_
                  exact ih444 (C + 3) (Z + 18) q5.2 x3 x4 x5 x6 x7 x8 x10 x11 1 y8 _ _ ls (by omega) (by omega) hf hP hS (lv_sub hl [2, 3, 4, 5, 6, 7, 8, 9, 10, 11, 12, 1, 0] rfl)
      have hW423 : ∀ (C Z : Nat) (S : St) (x3 x4 x5 x6 x7 x8 x10 x11 s1 s2 : Int32) (H : Heap) (locs : List Loc) (ls : Array Slot), C + (k12 * 126 + 84) ≤ 633 → Z + (k12 * 756 + 504) ≤ 3798 → f_L_refuses_423 p1 p2 (f_L_refuses_12 p1 p2 k12) S x3 x4 x5 x6 x7 x8 x10 x11 s1 s2 = some r → va_P (dC, dI) vwCl (wX cA a S) H → va_S (ad a 10) s.heap H locs → lv_has ls 14 [(0, .ref (a 0)), (1, .int p1), (2, .int p2), (3, .int x3), (4, .int x4), (5, .int x5), (6, .int x6), (7, .int x7), (8, .int x8), (10, .int x10), (11, .int x11)] → W p l e (headSpec wsL_refuses ({ frames := 14, cells := 633, slots := 3798, locals := 388 })).room s m ([.ref (a 0), .int p1, .int p2] : List Value).toArray below meth c H locs C Z (MQ below (mXi (dC, dI) cA a 1 r) ([.ref (a 0), .int p1, .int p2] : List Value).toArray s 633 3798 (ad a 10)) (F0 m 423 ls [.int s2, .int s1, .ref (a 0)]) := by
        intro C Z S x3 x4 x5 x6 x7 x8 x10 x11 s1 s2 H locs ls hC hZ hf hP hS hl
        unfold f_L_refuses_423 at hf
        refine lv_iconst (v := 0) hx hb dL_refuses_423 (by decide) ?_
        refine lv_iconst (v := 0) hx hb dL_refuses_424 (by decide) ?_
        obtain ⟨q1, hq1, hf⟩ := ob_some hf
        refine lc_W (As := [.ref (a 0), .int s1, .int s2, .int 0, .int 0]) (rest := []) ⟨hx, hb, hml, hown, hts⟩ (k_L_act l hfl dC dI cA a S s1 s2 0 0 _ hq1 hap) gL_refuses_L_act rfl rfl rfl cd_L_act (Nat.le_of_ble_eq_true rfl) (Nat.le_of_ble_eq_true rfl) (preLsH hK hP hE hN hS hA) rfl hl.1 rfl (Nat.le_of_ble_eq_true rfl) (by show C + 3 ≤ 633; omega) (by show Z + 18 ≤ 3798; omega) dL_refuses_425 hS hA (fun H locs hP hS => ?_)
        refine lv_ldc (v := (-7000002)) hx hb hown hw1 dL_refuses_428 ?_
        refine lv_icmp_ne (tgt := 437) hx hb dL_refuses_430 (by decide) (fun c2 => ?_) (fun c2 => ?_)
        · rw [if_neg c2] at hf
          refine lv_iconst (v := 0) hx hb dL_refuses_437 (by decide) ?_
          refine lv_istore (lv' := [(12, .int 0), (0, .ref (a 0)), (1, .int p1), (2, .int p2), (3, .int x3), (4, .int x4), (5, .int x5), (6, .int x6), (7, .int x7), (8, .int x8), (10, .int x10), (11, .int x11)]) hx hb dL_refuses_438 hl (by decide) rfl (fun ls hl => ?_)
          refine lv_bipush (v := 7) hx hb dL_refuses_440 (by decide) ?_
          refine lv_istore (lv' := [(13, .int 7), (12, .int 0), (0, .ref (a 0)), (1, .int p1), (2, .int p2), (3, .int x3), (4, .int x4), (5, .int x5), (6, .int x6), (7, .int x7), (8, .int x8), (10, .int x10), (11, .int x11)]) hx hb dL_refuses_442 hl (by decide) rfl (fun ls hl => ?_)
          exact hW444 16 (C + 3) (Z + 18) q1.2 x3 x4 x5 x6 x7 x8 x10 x11 0 7 _ _ ls (by omega) (by omega) hf hP hS (lv_sub hl [2, 3, 4, 5, 6, 7, 8, 9, 10, 11, 12, 1, 0] rfl)
        · rw [if_pos c2] at hf
          refine lv_iconst (v := 1) hx hb dL_refuses_433 (by decide) ?_
          refine lv_goto (tgt := 438) hx hb dL_refuses_434 (by decide) ?_
          refine lv_istore (lv' := [(12, .int 1), (0, .ref (a 0)), (1, .int p1), (2, .int p2), (3, .int x3), (4, .int x4), (5, .int x5), (6, .int x6), (7, .int x7), (8, .int x8), (10, .int x10), (11, .int x11)]) hx hb dL_refuses_438 hl (by decide) rfl (fun ls hl => ?_)
          refine lv_bipush (v := 7) hx hb dL_refuses_440 (by decide) ?_
          refine lv_istore (lv' := [(13, .int 7), (12, .int 1), (0, .ref (a 0)), (1, .int p1), (2, .int p2), (3, .int x3), (4, .int x4), (5, .int x5), (6, .int x6), (7, .int x7), (8, .int x8), (10, .int x10), (11, .int x11)]) hx hb dL_refuses_442 hl (by decide) rfl (fun ls hl => ?_)
          exact hW444 16 (C + 3) (Z + 18) q1.2 x3 x4 x5 x6 x7 x8 x10 x11 1 7 _ _ ls (by omega) (by omega) hf hP hS (lv_sub hl [2, 3, 4, 5, 6, 7, 8, 9, 10, 11, 12, 1, 0] rfl)
      have hW399 : ∀ (C Z : Nat) (S : St) (x3 x4 x5 x6 x7 x8 x10 x11 s1 s2 s3 : Int32) (H : Heap) (locs : List Loc) (ls : Array Slot), C + (k12 * 126 + 87) ≤ 633 → Z + (k12 * 756 + 522) ≤ 3798 → f_L_refuses_399 p1 p2 (f_L_refuses_12 p1 p2 k12) S x3 x4 x5 x6 x7 x8 x10 x11 s1 s2 s3 = some r → va_P (dC, dI) vwCl (wX cA a S) H → va_S (ad a 10) s.heap H locs → lv_has ls 14 [(0, .ref (a 0)), (1, .int p1), (2, .int p2), (3, .int x3), (4, .int x4), (5, .int x5), (6, .int x6), (7, .int x7), (8, .int x8), (10, .int x10), (11, .int x11)] → W p l e (headSpec wsL_refuses ({ frames := 14, cells := 633, slots := 3798, locals := 388 })).room s m ([.ref (a 0), .int p1, .int p2] : List Value).toArray below meth c H locs C Z (MQ below (mXi (dC, dI) cA a 1 r) ([.ref (a 0), .int p1, .int p2] : List Value).toArray s 633 3798 (ad a 10)) (F0 m 399 ls [.int s3, .int s2, .int s1, .ref (a 0)]) := by
        intro C Z S x3 x4 x5 x6 x7 x8 x10 x11 s1 s2 s3 H locs ls hC hZ hf hP hS hl
        unfold f_L_refuses_399 at hf
        refine lv_iconst (v := 0) hx hb dL_refuses_399 (by decide) ?_
        obtain ⟨q1, hq1, hf⟩ := ob_some hf
        refine lc_W (As := [.ref (a 0), .int s1, .int s2, .int s3, .int 0]) (rest := []) ⟨hx, hb, hml, hown, hts⟩ (k_L_act l hfl dC dI cA a S s1 s2 s3 0 _ hq1 hap) gL_refuses_L_act rfl rfl rfl cd_L_act (Nat.le_of_ble_eq_true rfl) (Nat.le_of_ble_eq_true rfl) (preLsH hK hP hE hN hS hA) rfl hl.1 rfl (Nat.le_of_ble_eq_true rfl) (by show C + 3 ≤ 633; omega) (by show Z + 18 ≤ 3798; omega) dL_refuses_400 hS hA (fun H locs hP hS => ?_)
        refine lv_ldc (v := (-7000002)) hx hb hown hw1 dL_refuses_403 ?_
        refine lv_icmp_ne (tgt := 437) hx hb dL_refuses_405 (by decide) (fun c2 => ?_) (fun c2 => ?_)
        · rw [if_neg c2] at hf
          refine lv_iconst (v := 0) hx hb dL_refuses_437 (by decide) ?_
          refine lv_istore (lv' := [(12, .int 0), (0, .ref (a 0)), (1, .int p1), (2, .int p2), (3, .int x3), (4, .int x4), (5, .int x5), (6, .int x6), (7, .int x7), (8, .int x8), (10, .int x10), (11, .int x11)]) hx hb dL_refuses_438 hl (by decide) rfl (fun ls hl => ?_)
          refine lv_bipush (v := 7) hx hb dL_refuses_440 (by decide) ?_
          refine lv_istore (lv' := [(13, .int 7), (12, .int 0), (0, .ref (a 0)), (1, .int p1), (2, .int p2), (3, .int x3), (4, .int x4), (5, .int x5), (6, .int x6), (7, .int x7), (8, .int x8), (10, .int x10), (11, .int x11)]) hx hb dL_refuses_442 hl (by decide) rfl (fun ls hl => ?_)
          exact hW444 16 (C + 3) (Z + 18) q1.2 x3 x4 x5 x6 x7 x8 x10 x11 0 7 _ _ ls (by omega) (by omega) hf hP hS (lv_sub hl [2, 3, 4, 5, 6, 7, 8, 9, 10, 11, 12, 1, 0] rfl)
        · rw [if_pos c2] at hf
          refine lv_aload_n hx hb dL_refuses_408 rfl (lv_at hl 0 rfl) ?_
          refine lv_bipush (v := 6) hx hb dL_refuses_409 (by decide) ?_
          refine lv_iload hx hb dL_refuses_411 (lv_at hl 5 rfl) ?_
          refine lv_iconst (v := 1) hx hb dL_refuses_413 (by decide) ?_
          refine lv_icmp_ne (tgt := 421) hx hb dL_refuses_414 (by decide) (fun c3 => ?_) (fun c3 => ?_)
          · rw [if_neg c3] at hf
            refine lv_iload hx hb dL_refuses_421 (lv_at hl 6 rfl) ?_
            exact hW423 (C + 3) (Z + 18) q1.2 x3 x4 x5 x6 x7 x8 x10 x11 6 x6 _ _ ls (by omega) (by omega) hf hP hS (lv_sub hl [0, 1, 2, 3, 4, 5, 6, 7, 8, 9, 10] rfl)
          · rw [if_pos c3] at hf
            refine lv_iconst (v := 5) hx hb dL_refuses_417 (by decide) ?_
            refine lv_goto (tgt := 423) hx hb dL_refuses_418 (by decide) ?_
            exact hW423 (C + 3) (Z + 18) q1.2 x3 x4 x5 x6 x7 x8 x10 x11 6 5 _ _ ls (by omega) (by omega) hf hP hS (lv_sub hl [0, 1, 2, 3, 4, 5, 6, 7, 8, 9, 10] rfl)
      have hW318 : ∀ (C Z : Nat) (S : St) (x3 x4 x5 x6 x7 x8 x9 x10 x11 s1 s2 : Int32) (H : Heap) (locs : List Loc) (ls : Array Slot), C + (k12 * 126 + 99) ≤ 633 → Z + (k12 * 756 + 594) ≤ 3798 → f_L_refuses_318 p1 p2 (f_L_refuses_12 p1 p2 k12) S x3 x4 x5 x6 x7 x8 x9 x10 x11 s1 s2 = some r → va_P (dC, dI) vwCl (wX cA a S) H → va_S (ad a 10) s.heap H locs → lv_has ls 14 [(0, .ref (a 0)), (1, .int p1), (2, .int p2), (3, .int x3), (4, .int x4), (5, .int x5), (6, .int x6), (7, .int x7), (8, .int x8), (9, .int x9), (10, .int x10), (11, .int x11)] → W p l e (headSpec wsL_refuses ({ frames := 14, cells := 633, slots := 3798, locals := 388 })).room s m ([.ref (a 0), .int p1, .int p2] : List Value).toArray below meth c H locs C Z (MQ below (mXi (dC, dI) cA a 1 r) ([.ref (a 0), .int p1, .int p2] : List Value).toArray s 633 3798 (ad a 10)) (F0 m 318 ls [.int s2, .int s1, .ref (a 0)]) := by
        intro C Z S x3 x4 x5 x6 x7 x8 x9 x10 x11 s1 s2 H locs ls hC hZ hf hP hS hl
        unfold f_L_refuses_318 at hf
        refine lv_iconst (v := 0) hx hb dL_refuses_318 (by decide) ?_
        refine lv_bipush (v := 99) hx hb dL_refuses_319 (by decide) ?_
        obtain ⟨q1, hq1, hf⟩ := ob_some hf
        refine lc_W (As := [.ref (a 0), .int s1, .int s2, .int 0, .int 99]) (rest := []) ⟨hx, hb, hml, hown, hts⟩ (k_L_act l hfl dC dI cA a S s1 s2 0 99 _ hq1 hap) gL_refuses_L_act rfl rfl rfl cd_L_act (Nat.le_of_ble_eq_true rfl) (Nat.le_of_ble_eq_true rfl) (preLsH hK hP hE hN hS hA) rfl hl.1 rfl (Nat.le_of_ble_eq_true rfl) (by show C + 3 ≤ 633; omega) (by show Z + 18 ≤ 3798; omega) dL_refuses_321 hS hA (fun H locs hP hS => ?_)
        refine lv_ldc (v := (-7000001)) hx hb hown hw2 dL_refuses_324 ?_
        refine lv_icmp_ne (tgt := 437) hx hb dL_refuses_326 (by decide) (fun c2 => ?_) (fun c2 => ?_)
        · rw [if_neg c2] at hf
          refine lv_iconst (v := 0) hx hb dL_refuses_437 (by decide) ?_
          refine lv_istore (lv' := [(12, .int 0), (0, .ref (a 0)), (1, .int p1), (2, .int p2), (3, .int x3), (4, .int x4), (5, .int x5), (6, .int x6), (7, .int x7), (8, .int x8), (9, .int x9), (10, .int x10), (11, .int x11)]) hx hb dL_refuses_438 hl (by decide) rfl (fun ls hl => ?_)
          refine lv_bipush (v := 7) hx hb dL_refuses_440 (by decide) ?_
          refine lv_istore (lv' := [(13, .int 7), (12, .int 0), (0, .ref (a 0)), (1, .int p1), (2, .int p2), (3, .int x3), (4, .int x4), (5, .int x5), (6, .int x6), (7, .int x7), (8, .int x8), (9, .int x9), (10, .int x10), (11, .int x11)]) hx hb dL_refuses_442 hl (by decide) rfl (fun ls hl => ?_)
          exact hW444 16 (C + 3) (Z + 18) q1.2 x3 x4 x5 x6 x7 x8 x10 x11 0 7 _ _ ls (by omega) (by omega) hf hP hS (lv_sub hl [2, 3, 4, 5, 6, 7, 8, 9, 10, 12, 13, 1, 0] rfl)
        · rw [if_pos c2] at hf
          refine lv_aload_n hx hb dL_refuses_329 rfl (lv_at hl 0 rfl) ?_
          refine lv_iconst (v := 4) hx hb dL_refuses_330 (by decide) ?_
          refine lv_iconst (v := 0) hx hb dL_refuses_331 (by decide) ?_
          refine lv_iload hx hb dL_refuses_332 (lv_at hl 9 rfl) ?_
          refine lv_bipush (v := 99) hx hb dL_refuses_334 (by decide) ?_
          obtain ⟨q3, hq3, hf⟩ := ob_some hf
          refine lc_W (As := [.ref (a 0), .int 4, .int 0, .int x9, .int 99]) (rest := []) ⟨hx, hb, hml, hown, hts⟩ (k_L_act l hfl dC dI cA a q1.2 4 0 x9 99 _ hq3 hap) gL_refuses_L_act rfl rfl rfl cd_L_act (Nat.le_of_ble_eq_true rfl) (Nat.le_of_ble_eq_true rfl) (preLsH hK hP hE hN hS hA) rfl hl.1 rfl (Nat.le_of_ble_eq_true rfl) (by show (C + 3) + 3 ≤ 633; omega) (by show (Z + 18) + 18 ≤ 3798; omega) dL_refuses_336 hS hA (fun H locs hP hS => ?_)
          refine lv_ldc (v := (-7000001)) hx hb hown hw2 dL_refuses_339 ?_
          refine lv_icmp_ne (tgt := 437) hx hb dL_refuses_341 (by decide) (fun c4 => ?_) (fun c4 => ?_)
          · rw [if_neg c4] at hf
            refine lv_iconst (v := 0) hx hb dL_refuses_437 (by decide) ?_
            refine lv_istore (lv' := [(12, .int 0), (0, .ref (a 0)), (1, .int p1), (2, .int p2), (3, .int x3), (4, .int x4), (5, .int x5), (6, .int x6), (7, .int x7), (8, .int x8), (9, .int x9), (10, .int x10), (11, .int x11)]) hx hb dL_refuses_438 hl (by decide) rfl (fun ls hl => ?_)
            refine lv_bipush (v := 7) hx hb dL_refuses_440 (by decide) ?_
            refine lv_istore (lv' := [(13, .int 7), (12, .int 0), (0, .ref (a 0)), (1, .int p1), (2, .int p2), (3, .int x3), (4, .int x4), (5, .int x5), (6, .int x6), (7, .int x7), (8, .int x8), (9, .int x9), (10, .int x10), (11, .int x11)]) hx hb dL_refuses_442 hl (by decide) rfl (fun ls hl => ?_)
            exact hW444 16 (C + 6) (Z + 36) q3.2 x3 x4 x5 x6 x7 x8 x10 x11 0 7 _ _ ls (by omega) (by omega) hf hP hS (lv_sub hl [2, 3, 4, 5, 6, 7, 8, 9, 10, 12, 13, 1, 0] rfl)
          · rw [if_pos c4] at hf
            refine lv_aload_n hx hb dL_refuses_344 rfl (lv_at hl 0 rfl) ?_
            refine lv_iconst (v := 4) hx hb dL_refuses_345 (by decide) ?_
            refine lv_iconst (v := 0) hx hb dL_refuses_346 (by decide) ?_
            refine lv_iconst (v := 0) hx hb dL_refuses_347 (by decide) ?_
            refine lv_iload hx hb dL_refuses_348 (lv_at hl 11 rfl) ?_
            obtain ⟨q5, hq5, hf⟩ := ob_some hf
            refine lc_W (As := [.ref (a 0), .int 4, .int 0, .int 0, .int x11]) (rest := []) ⟨hx, hb, hml, hown, hts⟩ (k_L_act l hfl dC dI cA a q3.2 4 0 0 x11 _ hq5 hap) gL_refuses_L_act rfl rfl rfl cd_L_act (Nat.le_of_ble_eq_true rfl) (Nat.le_of_ble_eq_true rfl) (preLsH hK hP hE hN hS hA) rfl hl.1 rfl (Nat.le_of_ble_eq_true rfl) (by show (C + 6) + 3 ≤ 633; omega) (by show (Z + 36) + 18 ≤ 3798; omega) dL_refuses_350 hS hA (fun H locs hP hS => ?_)
            refine lv_ldc (v := (-7000002)) hx hb hown hw1 dL_refuses_353 ?_
            refine lv_icmp_ne (tgt := 437) hx hb dL_refuses_355 (by decide) (fun c6 => ?_) (fun c6 => ?_)
            · rw [if_neg c6] at hf
              refine lv_iconst (v := 0) hx hb dL_refuses_437 (by decide) ?_
              refine lv_istore (lv' := [(12, .int 0), (0, .ref (a 0)), (1, .int p1), (2, .int p2), (3, .int x3), (4, .int x4), (5, .int x5), (6, .int x6), (7, .int x7), (8, .int x8), (9, .int x9), (10, .int x10), (11, .int x11)]) hx hb dL_refuses_438 hl (by decide) rfl (fun ls hl => ?_)
              refine lv_bipush (v := 7) hx hb dL_refuses_440 (by decide) ?_
              refine lv_istore (lv' := [(13, .int 7), (12, .int 0), (0, .ref (a 0)), (1, .int p1), (2, .int p2), (3, .int x3), (4, .int x4), (5, .int x5), (6, .int x6), (7, .int x7), (8, .int x8), (9, .int x9), (10, .int x10), (11, .int x11)]) hx hb dL_refuses_442 hl (by decide) rfl (fun ls hl => ?_)
              exact hW444 16 (C + 9) (Z + 54) q5.2 x3 x4 x5 x6 x7 x8 x10 x11 0 7 _ _ ls (by omega) (by omega) hf hP hS (lv_sub hl [2, 3, 4, 5, 6, 7, 8, 9, 10, 12, 13, 1, 0] rfl)
            · rw [if_pos c6] at hf
              refine lv_aload_n hx hb dL_refuses_358 rfl (lv_at hl 0 rfl) ?_
              refine lv_iconst (v := 5) hx hb dL_refuses_359 (by decide) ?_
              refine lv_iload hx hb dL_refuses_360 (lv_at hl 7 rfl) ?_
              refine lv_bipush (v := 99) hx hb dL_refuses_362 (by decide) ?_
              refine lv_iconst (v := 0) hx hb dL_refuses_364 (by decide) ?_
              obtain ⟨q7, hq7, hf⟩ := ob_some hf
              refine lc_W (As := [.ref (a 0), .int 5, .int x7, .int 99, .int 0]) (rest := []) ⟨hx, hb, hml, hown, hts⟩ (k_L_act l hfl dC dI cA a q5.2 5 x7 99 0 _ hq7 hap) gL_refuses_L_act rfl rfl rfl cd_L_act (Nat.le_of_ble_eq_true rfl) (Nat.le_of_ble_eq_true rfl) (preLsH hK hP hE hN hS hA) rfl hl.1 rfl (Nat.le_of_ble_eq_true rfl) (by show (C + 9) + 3 ≤ 633; omega) (by show (Z + 54) + 18 ≤ 3798; omega) dL_refuses_365 hS hA (fun H locs hP hS => ?_)
              refine lv_ldc (v := (-7000001)) hx hb hown hw2 dL_refuses_368 ?_
              refine lv_icmp_ne (tgt := 437) hx hb dL_refuses_370 (by decide) (fun c8 => ?_) (fun c8 => ?_)
              · rw [if_neg c8] at hf
                refine lv_iconst (v := 0) hx hb dL_refuses_437 (by decide) ?_
                refine lv_istore (lv' := [(12, .int 0), (0, .ref (a 0)), (1, .int p1), (2, .int p2), (3, .int x3), (4, .int x4), (5, .int x5), (6, .int x6), (7, .int x7), (8, .int x8), (9, .int x9), (10, .int x10), (11, .int x11)]) hx hb dL_refuses_438 hl (by decide) rfl (fun ls hl => ?_)
                refine lv_bipush (v := 7) hx hb dL_refuses_440 (by decide) ?_
                refine lv_istore (lv' := [(13, .int 7), (12, .int 0), (0, .ref (a 0)), (1, .int p1), (2, .int p2), (3, .int x3), (4, .int x4), (5, .int x5), (6, .int x6), (7, .int x7), (8, .int x8), (9, .int x9), (10, .int x10), (11, .int x11)]) hx hb dL_refuses_442 hl (by decide) rfl (fun ls hl => ?_)
                exact hW444 16 (C + 12) (Z + 72) q7.2 x3 x4 x5 x6 x7 x8 x10 x11 0 7 _ _ ls (by omega) (by omega) hf hP hS (lv_sub hl [2, 3, 4, 5, 6, 7, 8, 9, 10, 12, 13, 1, 0] rfl)
              · rw [if_pos c8] at hf
                refine lv_aload_n hx hb dL_refuses_373 rfl (lv_at hl 0 rfl) ?_
                refine lv_iconst (v := 5) hx hb dL_refuses_374 (by decide) ?_
                refine lv_iconst (v := 0) hx hb dL_refuses_375 (by decide) ?_
                refine lv_iload hx hb dL_refuses_376 (lv_at hl 5 rfl) ?_
                refine lv_if_ne (tgt := 386) hx hb dL_refuses_378 (by decide) (fun c9 => ?_) (fun c9 => ?_)
                · rw [if_neg c9] at hf
                  refine lv_iload hx hb dL_refuses_386 (lv_at hl 5 rfl) ?_
                  refine lv_iconst (v := 1) hx hb dL_refuses_388 (by decide) ?_
                  refine lv_icmp_ne (tgt := 397) hx hb dL_refuses_389 (by decide) (fun c10 => ?_) (fun c10 => ?_)
                  · rw [if_neg c10] at hf
                    refine lv_iload hx hb dL_refuses_397 (lv_at hl 6 rfl) ?_
                    exact hW399 (C + 12) (Z + 72) q7.2 x3 x4 x5 x6 x7 x8 x10 x11 5 0 x6 _ _ ls (by omega) (by omega) hf hP hS (lv_sub hl [0, 1, 2, 3, 4, 5, 6, 7, 8, 10, 11] rfl)
                  · rw [if_pos c10] at hf
                    refine lv_bipush (v := 21) hx hb dL_refuses_392 (by decide) ?_
                    refine lv_goto (tgt := 399) hx hb dL_refuses_394 (by decide) ?_
                    exact hW399 (C + 12) (Z + 72) q7.2 x3 x4 x5 x6 x7 x8 x10 x11 5 0 21 _ _ ls (by omega) (by omega) hf hP hS (lv_sub hl [0, 1, 2, 3, 4, 5, 6, 7, 8, 10, 11] rfl)
                · rw [if_pos c9] at hf
                  refine lv_bipush (v := (-21)) hx hb dL_refuses_381 (by decide) ?_
                  refine lv_goto (tgt := 399) hx hb dL_refuses_383 (by decide) ?_
                  exact hW399 (C + 12) (Z + 72) q7.2 x3 x4 x5 x6 x7 x8 x10 x11 5 0 (-21) _ _ ls (by omega) (by omega) hf hP hS (lv_sub hl [0, 1, 2, 3, 4, 5, 6, 7, 8, 10, 11] rfl)
      have hW266 : ∀ (C Z : Nat) (S : St) (x3 x4 x5 x6 x7 x8 x9 x10 x11 s1 s2 : Int32) (H : Heap) (locs : List Loc) (ls : Array Slot), C + (k12 * 126 + 108) ≤ 633 → Z + (k12 * 756 + 648) ≤ 3798 → f_L_refuses_266 p1 p2 (f_L_refuses_12 p1 p2 k12) S x3 x4 x5 x6 x7 x8 x9 x10 x11 s1 s2 = some r → va_P (dC, dI) vwCl (wX cA a S) H → va_S (ad a 10) s.heap H locs → lv_has ls 14 [(0, .ref (a 0)), (1, .int p1), (2, .int p2), (3, .int x3), (4, .int x4), (5, .int x5), (6, .int x6), (7, .int x7), (8, .int x8), (9, .int x9), (10, .int x10), (11, .int x11)] → W p l e (headSpec wsL_refuses ({ frames := 14, cells := 633, slots := 3798, locals := 388 })).room s m ([.ref (a 0), .int p1, .int p2] : List Value).toArray below meth c H locs C Z (MQ below (mXi (dC, dI) cA a 1 r) ([.ref (a 0), .int p1, .int p2] : List Value).toArray s 633 3798 (ad a 10)) (F0 m 266 ls [.int s2, .int s1, .ref (a 0)]) := by
        intro C Z S x3 x4 x5 x6 x7 x8 x9 x10 x11 s1 s2 H locs ls hC hZ hf hP hS hl
        unfold f_L_refuses_266 at hf
        refine lv_iconst (v := 0) hx hb dL_refuses_266 (by decide) ?_
        refine lv_iconst (v := 0) hx hb dL_refuses_267 (by decide) ?_
        obtain ⟨q1, hq1, hf⟩ := ob_some hf
        refine lc_W (As := [.ref (a 0), .int s1, .int s2, .int 0, .int 0]) (rest := []) ⟨hx, hb, hml, hown, hts⟩ (k_L_act l hfl dC dI cA a S s1 s2 0 0 _ hq1 hap) gL_refuses_L_act rfl rfl rfl cd_L_act (Nat.le_of_ble_eq_true rfl) (Nat.le_of_ble_eq_true rfl) (preLsH hK hP hE hN hS hA) rfl hl.1 rfl (Nat.le_of_ble_eq_true rfl) (by show C + 3 ≤ 633; omega) (by show Z + 18 ≤ 3798; omega) dL_refuses_268 hS hA (fun H locs hP hS => ?_)
        refine lv_ldc (v := (-7000001)) hx hb hown hw2 dL_refuses_271 ?_
        refine lv_icmp_ne (tgt := 437) hx hb dL_refuses_273 (by decide) (fun c2 => ?_) (fun c2 => ?_)
        · rw [if_neg c2] at hf
          refine lv_iconst (v := 0) hx hb dL_refuses_437 (by decide) ?_
          refine lv_istore (lv' := [(12, .int 0), (0, .ref (a 0)), (1, .int p1), (2, .int p2), (3, .int x3), (4, .int x4), (5, .int x5), (6, .int x6), (7, .int x7), (8, .int x8), (9, .int x9), (10, .int x10), (11, .int x11)]) hx hb dL_refuses_438 hl (by decide) rfl (fun ls hl => ?_)
          refine lv_bipush (v := 7) hx hb dL_refuses_440 (by decide) ?_
          refine lv_istore (lv' := [(13, .int 7), (12, .int 0), (0, .ref (a 0)), (1, .int p1), (2, .int p2), (3, .int x3), (4, .int x4), (5, .int x5), (6, .int x6), (7, .int x7), (8, .int x8), (9, .int x9), (10, .int x10), (11, .int x11)]) hx hb dL_refuses_442 hl (by decide) rfl (fun ls hl => ?_)
          exact hW444 16 (C + 3) (Z + 18) q1.2 x3 x4 x5 x6 x7 x8 x10 x11 0 7 _ _ ls (by omega) (by omega) hf hP hS (lv_sub hl [2, 3, 4, 5, 6, 7, 8, 9, 10, 12, 13, 1, 0] rfl)
        · rw [if_pos c2] at hf
          refine lv_aload_n hx hb dL_refuses_276 rfl (lv_at hl 0 rfl) ?_
          refine lv_iconst (v := 3) hx hb dL_refuses_277 (by decide) ?_
          refine lv_iconst (v := 0) hx hb dL_refuses_278 (by decide) ?_
          refine lv_iload hx hb dL_refuses_279 (lv_at hl 7 rfl) ?_
          refine lv_iconst (v := 0) hx hb dL_refuses_281 (by decide) ?_
          obtain ⟨q3, hq3, hf⟩ := ob_some hf
          refine lc_W (As := [.ref (a 0), .int 3, .int 0, .int x7, .int 0]) (rest := []) ⟨hx, hb, hml, hown, hts⟩ (k_L_act l hfl dC dI cA a q1.2 3 0 x7 0 _ hq3 hap) gL_refuses_L_act rfl rfl rfl cd_L_act (Nat.le_of_ble_eq_true rfl) (Nat.le_of_ble_eq_true rfl) (preLsH hK hP hE hN hS hA) rfl hl.1 rfl (Nat.le_of_ble_eq_true rfl) (by show (C + 3) + 3 ≤ 633; omega) (by show (Z + 18) + 18 ≤ 3798; omega) dL_refuses_282 hS hA (fun H locs hP hS => ?_)
          refine lv_ldc (v := (-7000001)) hx hb hown hw2 dL_refuses_285 ?_
          refine lv_icmp_ne (tgt := 437) hx hb dL_refuses_287 (by decide) (fun c4 => ?_) (fun c4 => ?_)
          · rw [if_neg c4] at hf
            refine lv_iconst (v := 0) hx hb dL_refuses_437 (by decide) ?_
            refine lv_istore (lv' := [(12, .int 0), (0, .ref (a 0)), (1, .int p1), (2, .int p2), (3, .int x3), (4, .int x4), (5, .int x5), (6, .int x6), (7, .int x7), (8, .int x8), (9, .int x9), (10, .int x10), (11, .int x11)]) hx hb dL_refuses_438 hl (by decide) rfl (fun ls hl => ?_)
            refine lv_bipush (v := 7) hx hb dL_refuses_440 (by decide) ?_
            refine lv_istore (lv' := [(13, .int 7), (12, .int 0), (0, .ref (a 0)), (1, .int p1), (2, .int p2), (3, .int x3), (4, .int x4), (5, .int x5), (6, .int x6), (7, .int x7), (8, .int x8), (9, .int x9), (10, .int x10), (11, .int x11)]) hx hb dL_refuses_442 hl (by decide) rfl (fun ls hl => ?_)
            exact hW444 16 (C + 6) (Z + 36) q3.2 x3 x4 x5 x6 x7 x8 x10 x11 0 7 _ _ ls (by omega) (by omega) hf hP hS (lv_sub hl [2, 3, 4, 5, 6, 7, 8, 9, 10, 12, 13, 1, 0] rfl)
          · rw [if_pos c4] at hf
            refine lv_aload_n hx hb dL_refuses_290 rfl (lv_at hl 0 rfl) ?_
            refine lv_iconst (v := 3) hx hb dL_refuses_291 (by decide) ?_
            refine lv_iconst (v := 0) hx hb dL_refuses_292 (by decide) ?_
            refine lv_iconst (v := 0) hx hb dL_refuses_293 (by decide) ?_
            refine lv_iload hx hb dL_refuses_294 (lv_at hl 9 rfl) ?_
            obtain ⟨q5, hq5, hf⟩ := ob_some hf
            refine lc_W (As := [.ref (a 0), .int 3, .int 0, .int 0, .int x9]) (rest := []) ⟨hx, hb, hml, hown, hts⟩ (k_L_act l hfl dC dI cA a q3.2 3 0 0 x9 _ hq5 hap) gL_refuses_L_act rfl rfl rfl cd_L_act (Nat.le_of_ble_eq_true rfl) (Nat.le_of_ble_eq_true rfl) (preLsH hK hP hE hN hS hA) rfl hl.1 rfl (Nat.le_of_ble_eq_true rfl) (by show (C + 6) + 3 ≤ 633; omega) (by show (Z + 36) + 18 ≤ 3798; omega) dL_refuses_296 hS hA (fun H locs hP hS => ?_)
            refine lv_ldc (v := (-7000001)) hx hb hown hw2 dL_refuses_299 ?_
            refine lv_icmp_ne (tgt := 437) hx hb dL_refuses_301 (by decide) (fun c6 => ?_) (fun c6 => ?_)
            · rw [if_neg c6] at hf
              refine lv_iconst (v := 0) hx hb dL_refuses_437 (by decide) ?_
              refine lv_istore (lv' := [(12, .int 0), (0, .ref (a 0)), (1, .int p1), (2, .int p2), (3, .int x3), (4, .int x4), (5, .int x5), (6, .int x6), (7, .int x7), (8, .int x8), (9, .int x9), (10, .int x10), (11, .int x11)]) hx hb dL_refuses_438 hl (by decide) rfl (fun ls hl => ?_)
              refine lv_bipush (v := 7) hx hb dL_refuses_440 (by decide) ?_
              refine lv_istore (lv' := [(13, .int 7), (12, .int 0), (0, .ref (a 0)), (1, .int p1), (2, .int p2), (3, .int x3), (4, .int x4), (5, .int x5), (6, .int x6), (7, .int x7), (8, .int x8), (9, .int x9), (10, .int x10), (11, .int x11)]) hx hb dL_refuses_442 hl (by decide) rfl (fun ls hl => ?_)
              exact hW444 16 (C + 9) (Z + 54) q5.2 x3 x4 x5 x6 x7 x8 x10 x11 0 7 _ _ ls (by omega) (by omega) hf hP hS (lv_sub hl [2, 3, 4, 5, 6, 7, 8, 9, 10, 12, 13, 1, 0] rfl)
            · rw [if_pos c6] at hf
              refine lv_aload_n hx hb dL_refuses_304 rfl (lv_at hl 0 rfl) ?_
              refine lv_iconst (v := 4) hx hb dL_refuses_305 (by decide) ?_
              refine lv_iload hx hb dL_refuses_306 (lv_at hl 5 rfl) ?_
              refine lv_iconst (v := 1) hx hb dL_refuses_308 (by decide) ?_
              refine lv_icmp_ne (tgt := 316) hx hb dL_refuses_309 (by decide) (fun c7 => ?_) (fun c7 => ?_)
              · rw [if_neg c7] at hf
                refine lv_iload hx hb dL_refuses_316 (lv_at hl 6 rfl) ?_
                exact hW318 (C + 9) (Z + 54) q5.2 x3 x4 x5 x6 x7 x8 x9 x10 x11 4 x6 _ _ ls (by omega) (by omega) hf hP hS (lv_sub hl [0, 1, 2, 3, 4, 5, 6, 7, 8, 9, 10, 11] rfl)
              · rw [if_pos c7] at hf
                refine lv_iconst (v := 2) hx hb dL_refuses_312 (by decide) ?_
                refine lv_goto (tgt := 318) hx hb dL_refuses_313 (by decide) ?_
                exact hW318 (C + 9) (Z + 54) q5.2 x3 x4 x5 x6 x7 x8 x9 x10 x11 4 2 _ _ ls (by omega) (by omega) hf hP hS (lv_sub hl [0, 1, 2, 3, 4, 5, 6, 7, 8, 9, 10, 11] rfl)
      have hW252 : ∀ (C Z : Nat) (S : St) (x3 x4 x5 x6 x7 x8 x9 x10 x11 : Int32) (H : Heap) (locs : List Loc) (ls : Array Slot), C + (k12 * 126 + 108) ≤ 633 → Z + (k12 * 756 + 648) ≤ 3798 → f_L_refuses_252 p1 p2 (f_L_refuses_12 p1 p2 k12) S x3 x4 x5 x6 x7 x8 x9 x10 x11 = some r → va_P (dC, dI) vwCl (wX cA a S) H → va_S (ad a 10) s.heap H locs → lv_has ls 14 [(0, .ref (a 0)), (1, .int p1), (2, .int p2), (3, .int x3), (4, .int x4), (5, .int x5), (6, .int x6), (7, .int x7), (8, .int x8), (9, .int x9), (10, .int x10), (11, .int x11)] → W p l e (headSpec wsL_refuses ({ frames := 14, cells := 633, slots := 3798, locals := 388 })).room s m ([.ref (a 0), .int p1, .int p2] : List Value).toArray below meth c H locs C Z (MQ below (mXi (dC, dI) cA a 1 r) ([.ref (a 0), .int p1, .int p2] : List Value).toArray s 633 3798 (ad a 10)) (F0 m 252 ls []) := by
        intro C Z S x3 x4 x5 x6 x7 x8 x9 x10 x11 H locs ls hC hZ hf hP hS hl
        unfold f_L_refuses_252 at hf
        refine lv_aload_n hx hb dL_refuses_252 rfl (lv_at hl 0 rfl) ?_
        refine lv_iconst (v := 3) hx hb dL_refuses_253 (by decide) ?_
        refine lv_iload hx hb dL_refuses_254 (lv_at hl 5 rfl) ?_
        refine lv_iconst (v := 1) hx hb dL_refuses_256 (by decide) ?_
        refine lv_icmp_ne (tgt := 264) hx hb dL_refuses_257 (by decide) (fun c1 => ?_) (fun c1 => ?_)
        · rw [if_neg c1] at hf
          refine lv_iload hx hb dL_refuses_264 (lv_at hl 6 rfl) ?_
          exact hW266 C Z S x3 x4 x5 x6 x7 x8 x9 x10 x11 3 x6 _ _ ls (by omega) (by omega) hf hP hS (lv_sub hl [0, 1, 2, 3, 4, 5, 6, 7, 8, 9, 10, 11] rfl)
        · rw [if_pos c1] at hf
          refine lv_iconst (v := 2) hx hb dL_refuses_260 (by decide) ?_
          refine lv_goto (tgt := 266) hx hb dL_refuses_261 (by decide) ?_
          exact hW266 C Z S x3 x4 x5 x6 x7 x8 x9 x10 x11 3 2 _ _ ls (by omega) (by omega) hf hP hS (lv_sub hl [0, 1, 2, 3, 4, 5, 6, 7, 8, 9, 10, 11] rfl)
      have hW244 : ∀ (C Z : Nat) (S : St) (x3 x4 x5 x6 x7 x8 x9 x10 x11 s1 s2 s3 s4 : Int32) (H : Heap) (locs : List Loc) (ls : Array Slot), C + (k12 * 126 + 111) ≤ 633 → Z + (k12 * 756 + 666) ≤ 3798 → f_L_refuses_244 p1 p2 (f_L_refuses_12 p1 p2 k12) S x3 x4 x5 x6 x7 x8 x9 x10 x11 s1 s2 s3 s4 = some r → va_P (dC, dI) vwCl (wX cA a S) H → va_S (ad a 10) s.heap H locs → lv_has ls 14 [(0, .ref (a 0)), (1, .int p1), (2, .int p2), (3, .int x3), (4, .int x4), (5, .int x5), (6, .int x6), (7, .int x7), (8, .int x8), (9, .int x9), (10, .int x10), (11, .int x11)] → W p l e (headSpec wsL_refuses ({ frames := 14, cells := 633, slots := 3798, locals := 388 })).room s m ([.ref (a 0), .int p1, .int p2] : List Value).toArray below meth c H locs C Z (MQ below (mXi (dC, dI) cA a 1 r) ([.ref (a 0), .int p1, .int p2] : List Value).toArray s 633 3798 (ad a 10)) (F0 m 244 ls [.int s4, .int s3, .int s2, .int s1, .ref (a 0)]) := by
        intro C Z S x3 x4 x5 x6 x7 x8 x9 x10 x11 s1 s2 s3 s4 H locs ls hC hZ hf hP hS hl
        unfold f_L_refuses_244 at hf
        obtain ⟨q1, hq1, hf⟩ := ob_some hf
        refine lc_W (As := [.ref (a 0), .int s1, .int s2, .int s3, .int s4]) (rest := []) ⟨hx, hb, hml, hown, hts⟩ (k_L_act l hfl dC dI cA a S s1 s2 s3 s4 _ hq1 hap) gL_refuses_L_act rfl rfl rfl cd_L_act (Nat.le_of_ble_eq_true rfl) (Nat.le_of_ble_eq_true rfl) (preLsH hK hP hE hN hS hA) rfl hl.1 rfl (Nat.le_of_ble_eq_true rfl) (by show C + 3 ≤ 633; omega) (by show Z + 18 ≤ 3798; omega) dL_refuses_244 hS hA (fun H locs hP hS => ?_)
        refine lv_ldc (v := (-7000002)) hx hb hown hw1 dL_refuses_247 ?_
        refine lv_icmp_ne (tgt := 437) hx hb dL_refuses_249 (by decide) (fun c2 => ?_) (fun c2 => ?_)
        · rw [if_neg c2] at hf
          refine lv_iconst (v := 0) hx hb dL_refuses_437 (by decide) ?_
          refine lv_istore (lv' := [(12, .int 0), (0, .ref (a 0)), (1, .int p1), (2, .int p2), (3, .int x3), (4, .int x4), (5, .int x5), (6, .int x6), (7, .int x7), (8, .int x8), (9, .int x9), (10, .int x10), (11, .int x11)]) hx hb dL_refuses_438 hl (by decide) rfl (fun ls hl => ?_)
          refine lv_bipush (v := 7) hx hb dL_refuses_440 (by decide) ?_
          refine lv_istore (lv' := [(13, .int 7), (12, .int 0), (0, .ref (a 0)), (1, .int p1), (2, .int p2), (3, .int x3), (4, .int x4), (5, .int x5), (6, .int x6), (7, .int x7), (8, .int x8), (9, .int x9), (10, .int x10), (11, .int x11)]) hx hb dL_refuses_442 hl (by decide) rfl (fun ls hl => ?_)
          exact hW444 16 (C + 3) (Z + 18) q1.2 x3 x4 x5 x6 x7 x8 x10 x11 0 7 _ _ ls (by omega) (by omega) hf hP hS (lv_sub hl [2, 3, 4, 5, 6, 7, 8, 9, 10, 12, 13, 1, 0] rfl)
        · rw [if_pos c2] at hf
          exact hW252 (C + 3) (Z + 18) q1.2 x3 x4 x5 x6 x7 x8 x9 x10 x11 _ _ ls (by omega) (by omega) hf hP hS (lv_sub hl [0, 1, 2, 3, 4, 5, 6, 7, 8, 9, 10, 11] rfl)
      have hW170 : ∀ (C Z : Nat) (S : St) (x3 x4 x5 x6 x7 x8 x9 x10 x11 s1 s2 s3 : Int32) (H : Heap) (locs : List Loc) (ls : Array Slot), C + (k12 * 126 + 123) ≤ 633 → Z + (k12 * 756 + 738) ≤ 3798 → f_L_refuses_170 p1 p2 (f_L_refuses_12 p1 p2 k12) S x3 x4 x5 x6 x7 x8 x9 x10 x11 s1 s2 s3 = some r → va_P (dC, dI) vwCl (wX cA a S) H → va_S (ad a 10) s.heap H locs → lv_has ls 14 [(0, .ref (a 0)), (1, .int p1), (2, .int p2), (3, .int x3), (4, .int x4), (5, .int x5), (6, .int x6), (7, .int x7), (8, .int x8), (9, .int x9), (10, .int x10), (11, .int x11)] → W p l e (headSpec wsL_refuses ({ frames := 14, cells := 633, slots := 3798, locals := 388 })).room s m ([.ref (a 0), .int p1, .int p2] : List Value).toArray below meth c H locs C Z (MQ below (mXi (dC, dI) cA a 1 r) ([.ref (a 0), .int p1, .int p2] : List Value).toArray s 633 3798 (ad a 10)) (F0 m 170 ls [.int s3, .int s2, .int s1, .ref (a 0)]) := by
        intro C Z S x3 x4 x5 x6 x7 x8 x9 x10 x11 s1 s2 s3 H locs ls hC hZ hf hP hS hl
        unfold f_L_refuses_170 at hf
        refine lv_iconst (v := 1) hx hb dL_refuses_170 (by decide) ?_
        obtain ⟨q1, hq1, hf⟩ := ob_some hf
        refine lc_W (As := [.ref (a 0), .int s1, .int s2, .int s3, .int 1]) (rest := []) ⟨hx, hb, hml, hown, hts⟩ (k_L_act l hfl dC dI cA a S s1 s2 s3 1 _ hq1 hap) gL_refuses_L_act rfl rfl rfl cd_L_act (Nat.le_of_ble_eq_true rfl) (Nat.le_of_ble_eq_true rfl) (preLsH hK hP hE hN hS hA) rfl hl.1 rfl (Nat.le_of_ble_eq_true rfl) (by show C + 3 ≤ 633; omega) (by show Z + 18 ≤ 3798; omega) dL_refuses_171 hS hA (fun H locs hP hS => ?_)
        refine lv_ldc (v := (-7000001)) hx hb hown hw2 dL_refuses_174 ?_
        refine lv_icmp_ne (tgt := 437) hx hb dL_refuses_176 (by decide) (fun c2 => ?_) (fun c2 => ?_)
        · rw [if_neg c2] at hf
          refine lv_iconst (v := 0) hx hb dL_refuses_437 (by decide) ?_
          refine lv_istore (lv' := [(12, .int 0), (0, .ref (a 0)), (1, .int p1), (2, .int p2), (3, .int x3), (4, .int x4), (5, .int x5), (6, .int x6), (7, .int x7), (8, .int x8), (9, .int x9), (10, .int x10), (11, .int x11)]) hx hb dL_refuses_438 hl (by decide) rfl (fun ls hl => ?_)
          refine lv_bipush (v := 7) hx hb dL_refuses_440 (by decide) ?_
          refine lv_istore (lv' := [(13, .int 7), (12, .int 0), (0, .ref (a 0)), (1, .int p1), (2, .int p2), (3, .int x3), (4, .int x4), (5, .int x5), (6, .int x6), (7, .int x7), (8, .int x8), (9, .int x9), (10, .int x10), (11, .int x11)]) hx hb dL_refuses_442 hl (by decide) rfl (fun ls hl => ?_)
          exact hW444 16 (C + 3) (Z + 18) q1.2 x3 x4 x5 x6 x7 x8 x10 x11 0 7 _ _ ls (by omega) (by omega) hf hP hS (lv_sub hl [2, 3, 4, 5, 6, 7, 8, 9, 10, 12, 13, 1, 0] rfl)
        · rw [if_pos c2] at hf
          refine lv_aload_n hx hb dL_refuses_179 rfl (lv_at hl 0 rfl) ?_
          refine lv_iconst (v := 2) hx hb dL_refuses_180 (by decide) ?_
          refine lv_iload hx hb dL_refuses_181 (lv_at hl 7 rfl) ?_
          refine lv_iconst (v := 0) hx hb dL_refuses_183 (by decide) ?_
          refine lv_bipush (v := 99) hx hb dL_refuses_184 (by decide) ?_
          obtain ⟨q3, hq3, hf⟩ := ob_some hf
          refine lc_W (As := [.ref (a 0), .int 2, .int x7, .int 0, .int 99]) (rest := []) ⟨hx, hb, hml, hown, hts⟩ (k_L_act l hfl dC dI cA a q1.2 2 x7 0 99 _ hq3 hap) gL_refuses_L_act rfl rfl rfl cd_L_act (Nat.le_of_ble_eq_true rfl) (Nat.le_of_ble_eq_true rfl) (preLsH hK hP hE hN hS hA) rfl hl.1 rfl (Nat.le_of_ble_eq_true rfl) (by show (C + 3) + 3 ≤ 633; omega) (by show (Z + 18) + 18 ≤ 3798; omega) dL_refuses_186 hS hA (fun H locs hP hS => ?_)
          refine lv_ldc (v := (-7000001)) hx hb hown hw2 dL_refuses_189 ?_
          refine lv_icmp_ne (tgt := 437) hx hb dL_refuses_191 (by decide) (fun c4 => ?_) (fun c4 => ?_)
          · rw [if_neg c4] at hf
            refine lv_iconst (v := 0) hx hb dL_refuses_437 (by decide) ?_
            refine lv_istore (lv' := [(12, .int 0), (0, .ref (a 0)), (1, .int p1), (2, .int p2), (3, .int x3), (4, .int x4), (5, .int x5), (6, .int x6), (7, .int x7), (8, .int x8), (9, .int x9), (10, .int x10), (11, .int x11)]) hx hb dL_refuses_438 hl (by decide) rfl (fun ls hl => ?_)
            refine lv_bipush (v := 7) hx hb dL_refuses_440 (by decide) ?_
            refine lv_istore (lv' := [(13, .int 7), (12, .int 0), (0, .ref (a 0)), (1, .int p1), (2, .int p2), (3, .int x3), (4, .int x4), (5, .int x5), (6, .int x6), (7, .int x7), (8, .int x8), (9, .int x9), (10, .int x10), (11, .int x11)]) hx hb dL_refuses_442 hl (by decide) rfl (fun ls hl => ?_)
            exact hW444 16 (C + 6) (Z + 36) q3.2 x3 x4 x5 x6 x7 x8 x10 x11 0 7 _ _ ls (by omega) (by omega) hf hP hS (lv_sub hl [2, 3, 4, 5, 6, 7, 8, 9, 10, 12, 13, 1, 0] rfl)
          · rw [if_pos c4] at hf
            refine lv_aload_n hx hb dL_refuses_194 rfl (lv_at hl 0 rfl) ?_
            refine lv_iconst (v := 2) hx hb dL_refuses_195 (by decide) ?_
            refine lv_iconst (v := 0) hx hb dL_refuses_196 (by decide) ?_
            refine lv_iload hx hb dL_refuses_197 (lv_at hl 7 rfl) ?_
            refine lv_bipush (v := 99) hx hb dL_refuses_199 (by decide) ?_
            obtain ⟨q5, hq5, hf⟩ := ob_some hf
            refine lc_W (As := [.ref (a 0), .int 2, .int 0, .int x7, .int 99]) (rest := []) ⟨hx, hb, hml, hown, hts⟩ (k_L_act l hfl dC dI cA a q3.2 2 0 x7 99 _ hq5 hap) gL_refuses_L_act rfl rfl rfl cd_L_act (Nat.le_of_ble_eq_true rfl) (Nat.le_of_ble_eq_true rfl) (preLsH hK hP hE hN hS hA) rfl hl.1 rfl (Nat.le_of_ble_eq_true rfl) (by show (C + 6) + 3 ≤ 633; omega) (by show (Z + 36) + 18 ≤ 3798; omega) dL_refuses_201 hS hA (fun H locs hP hS => ?_)
            refine lv_ldc (v := (-7000001)) hx hb hown hw2 dL_refuses_204 ?_
            refine lv_icmp_ne (tgt := 437) hx hb dL_refuses_206 (by decide) (fun c6 => ?_) (fun c6 => ?_)
            · rw [if_neg c6] at hf
              refine lv_iconst (v := 0) hx hb dL_refuses_437 (by decide) ?_
              refine lv_istore (lv' := [(12, .int 0), (0, .ref (a 0)), (1, .int p1), (2, .int p2), (3, .int x3), (4, .int x4), (5, .int x5), (6, .int x6), (7, .int x7), (8, .int x8), (9, .int x9), (10, .int x10), (11, .int x11)]) hx hb dL_refuses_438 hl (by decide) rfl (fun ls hl => ?_)
              refine lv_bipush (v := 7) hx hb dL_refuses_440 (by decide) ?_
              refine lv_istore (lv' := [(13, .int 7), (12, .int 0), (0, .ref (a 0)), (1, .int p1), (2, .int p2), (3, .int x3), (4, .int x4), (5, .int x5), (6, .int x6), (7, .int x7), (8, .int x8), (9, .int x9), (10, .int x10), (11, .int x11)]) hx hb dL_refuses_442 hl (by decide) rfl (fun ls hl => ?_)
              exact hW444 16 (C + 9) (Z + 54) q5.2 x3 x4 x5 x6 x7 x8 x10 x11 0 7 _ _ ls (by omega) (by omega) hf hP hS (lv_sub hl [2, 3, 4, 5, 6, 7, 8, 9, 10, 12, 13, 1, 0] rfl)
            · rw [if_pos c6] at hf
              refine lv_aload_n hx hb dL_refuses_209 rfl (lv_at hl 0 rfl) ?_
              refine lv_iconst (v := 2) hx hb dL_refuses_210 (by decide) ?_
              refine lv_iconst (v := 0) hx hb dL_refuses_211 (by decide) ?_
              refine lv_iconst (v := 0) hx hb dL_refuses_212 (by decide) ?_
              refine lv_iconst (v := 5) hx hb dL_refuses_213 (by decide) ?_
              obtain ⟨q7, hq7, hf⟩ := ob_some hf
              refine lc_W (As := [.ref (a 0), .int 2, .int 0, .int 0, .int 5]) (rest := []) ⟨hx, hb, hml, hown, hts⟩ (k_L_act l hfl dC dI cA a q5.2 2 0 0 5 _ hq7 hap) gL_refuses_L_act rfl rfl rfl cd_L_act (Nat.le_of_ble_eq_true rfl) (Nat.le_of_ble_eq_true rfl) (preLsH hK hP hE hN hS hA) rfl hl.1 rfl (Nat.le_of_ble_eq_true rfl) (by show (C + 9) + 3 ≤ 633; omega) (by show (Z + 54) + 18 ≤ 3798; omega) dL_refuses_214 hS hA (fun H locs hP hS => ?_)
              refine lv_ldc (v := (-7000002)) hx hb hown hw1 dL_refuses_217 ?_
              refine lv_icmp_ne (tgt := 437) hx hb dL_refuses_219 (by decide) (fun c8 => ?_) (fun c8 => ?_)
              · rw [if_neg c8] at hf
                refine lv_iconst (v := 0) hx hb dL_refuses_437 (by decide) ?_
                refine lv_istore (lv' := [(12, .int 0), (0, .ref (a 0)), (1, .int p1), (2, .int p2), (3, .int x3), (4, .int x4), (5, .int x5), (6, .int x6), (7, .int x7), (8, .int x8), (9, .int x9), (10, .int x10), (11, .int x11)]) hx hb dL_refuses_438 hl (by decide) rfl (fun ls hl => ?_)
                refine lv_bipush (v := 7) hx hb dL_refuses_440 (by decide) ?_
                refine lv_istore (lv' := [(13, .int 7), (12, .int 0), (0, .ref (a 0)), (1, .int p1), (2, .int p2), (3, .int x3), (4, .int x4), (5, .int x5), (6, .int x6), (7, .int x7), (8, .int x8), (9, .int x9), (10, .int x10), (11, .int x11)]) hx hb dL_refuses_442 hl (by decide) rfl (fun ls hl => ?_)
                exact hW444 16 (C + 12) (Z + 72) q7.2 x3 x4 x5 x6 x7 x8 x10 x11 0 7 _ _ ls (by omega) (by omega) hf hP hS (lv_sub hl [2, 3, 4, 5, 6, 7, 8, 9, 10, 12, 13, 1, 0] rfl)
              · rw [if_pos c8] at hf
                refine lv_iload_n hx hb dL_refuses_222 rfl (lv_at hl 1 rfl) ?_
                refine lv_iconst (v := 2) hx hb dL_refuses_223 (by decide) ?_
                refine lv_icmp_lt (tgt := 252) hx hb dL_refuses_224 (by decide) (fun c9 => ?_) (fun c9 => ?_)
                · rw [if_pos c9] at hf
                  exact hW252 (C + 12) (Z + 72) q7.2 x3 x4 x5 x6 x7 x8 x9 x10 x11 _ _ ls (by omega) (by omega) hf hP hS (lv_sub hl [0, 1, 2, 3, 4, 5, 6, 7, 8, 9, 10, 11] rfl)
                · rw [if_neg c9] at hf
                  refine lv_aload_n hx hb dL_refuses_227 rfl (lv_at hl 0 rfl) ?_
                  refine lv_iconst (v := 2) hx hb dL_refuses_228 (by decide) ?_
                  refine lv_iconst (v := 0) hx hb dL_refuses_229 (by decide) ?_
                  refine lv_iconst (v := 1) hx hb dL_refuses_230 (by decide) ?_
                  refine lv_iload hx hb dL_refuses_231 (lv_at hl 5 rfl) ?_
                  refine lv_iconst (v := 1) hx hb dL_refuses_233 (by decide) ?_
                  refine lv_icmp_ne (tgt := 242) hx hb dL_refuses_234 (by decide) (fun c10 => ?_) (fun c10 => ?_)
                  · rw [if_neg c10] at hf
                    refine lv_iload hx hb dL_refuses_242 (lv_at hl 6 rfl) ?_
                    exact hW244 (C + 12) (Z + 72) q7.2 x3 x4 x5 x6 x7 x8 x9 x10 x11 2 0 1 x6 _ _ ls (by omega) (by omega) hf hP hS (lv_sub hl [0, 1, 2, 3, 4, 5, 6, 7, 8, 9, 10, 11] rfl)
                  · rw [if_pos c10] at hf
                    refine lv_bipush (v := 21) hx hb dL_refuses_237 (by decide) ?_
                    refine lv_goto (tgt := 244) hx hb dL_refuses_239 (by decide) ?_
                    exact hW244 (C + 12) (Z + 72) q7.2 x3 x4 x5 x6 x7 x8 x9 x10 x11 2 0 1 21 _ _ ls (by omega) (by omega) hf hP hS (lv_sub hl [0, 1, 2, 3, 4, 5, 6, 7, 8, 9, 10, 11] rfl)
      have hW130 : ∀ (C Z : Nat) (S : St) (x3 x4 x5 x6 x7 x8 x9 x10 x11 s1 s2 : Int32) (H : Heap) (locs : List Loc) (ls : Array Slot), C + (k12 * 126 + 129) ≤ 633 → Z + (k12 * 756 + 774) ≤ 3798 → f_L_refuses_130 p1 p2 (f_L_refuses_12 p1 p2 k12) S x3 x4 x5 x6 x7 x8 x9 x10 x11 s1 s2 = some r → va_P (dC, dI) vwCl (wX cA a S) H → va_S (ad a 10) s.heap H locs → lv_has ls 14 [(0, .ref (a 0)), (1, .int p1), (2, .int p2), (3, .int x3), (4, .int x4), (5, .int x5), (6, .int x6), (7, .int x7), (8, .int x8), (9, .int x9), (10, .int x10), (11, .int x11)] → W p l e (headSpec wsL_refuses ({ frames := 14, cells := 633, slots := 3798, locals := 388 })).room s m ([.ref (a 0), .int p1, .int p2] : List Value).toArray below meth c H locs C Z (MQ below (mXi (dC, dI) cA a 1 r) ([.ref (a 0), .int p1, .int p2] : List Value).toArray s 633 3798 (ad a 10)) (F0 m 130 ls [.int s2, .int s1, .ref (a 0)]) := by
        intro C Z S x3 x4 x5 x6 x7 x8 x9 x10 x11 s1 s2 H locs ls hC hZ hf hP hS hl
        unfold f_L_refuses_130 at hf
        refine lv_iconst (v := 0) hx hb dL_refuses_130 (by decide) ?_
        refine lv_iconst (v := 0) hx hb dL_refuses_131 (by decide) ?_
        obtain ⟨q1, hq1, hf⟩ := ob_some hf
        refine lc_W (As := [.ref (a 0), .int s1, .int s2, .int 0, .int 0]) (rest := []) ⟨hx, hb, hml, hown, hts⟩ (k_L_act l hfl dC dI cA a S s1 s2 0 0 _ hq1 hap) gL_refuses_L_act rfl rfl rfl cd_L_act (Nat.le_of_ble_eq_true rfl) (Nat.le_of_ble_eq_true rfl) (preLsH hK hP hE hN hS hA) rfl hl.1 rfl (Nat.le_of_ble_eq_true rfl) (by show C + 3 ≤ 633; omega) (by show Z + 18 ≤ 3798; omega) dL_refuses_132 hS hA (fun H locs hP hS => ?_)
        refine lv_ldc (v := (-7000002)) hx hb hown hw1 dL_refuses_135 ?_
        refine lv_icmp_ne (tgt := 437) hx hb dL_refuses_137 (by decide) (fun c2 => ?_) (fun c2 => ?_)
        · rw [if_neg c2] at hf
          refine lv_iconst (v := 0) hx hb dL_refuses_437 (by decide) ?_
          refine lv_istore (lv' := [(12, .int 0), (0, .ref (a 0)), (1, .int p1), (2, .int p2), (3, .int x3), (4, .int x4), (5, .int x5), (6, .int x6), (7, .int x7), (8, .int x8), (9, .int x9), (10, .int x10), (11, .int x11)]) hx hb dL_refuses_438 hl (by decide) rfl (fun ls hl => ?_)
          refine lv_bipush (v := 7) hx hb dL_refuses_440 (by decide) ?_
          refine lv_istore (lv' := [(13, .int 7), (12, .int 0), (0, .ref (a 0)), (1, .int p1), (2, .int p2), (3, .int x3), (4, .int x4), (5, .int x5), (6, .int x6), (7, .int x7), (8, .int x8), (9, .int x9), (10, .int x10), (11, .int x11)]) hx hb dL_refuses_442 hl (by decide) rfl (fun ls hl => ?_)
          exact hW444 16 (C + 3) (Z + 18) q1.2 x3 x4 x5 x6 x7 x8 x10 x11 0 7 _ _ ls (by omega) (by omega) hf hP hS (lv_sub hl [2, 3, 4, 5, 6, 7, 8, 9, 10, 12, 13, 1, 0] rfl)
        · rw [if_pos c2] at hf
          refine lv_aload_n hx hb dL_refuses_140 rfl (lv_at hl 0 rfl) ?_
          refine lv_iconst (v := 1) hx hb dL_refuses_141 (by decide) ?_
          refine lv_iload hx hb dL_refuses_142 (lv_at hl 7 rfl) ?_
          refine lv_iconst (v := 0) hx hb dL_refuses_144 (by decide) ?_
          refine lv_iconst (v := 1) hx hb dL_refuses_145 (by decide) ?_
          obtain ⟨q3, hq3, hf⟩ := ob_some hf
          refine lc_W (As := [.ref (a 0), .int 1, .int x7, .int 0, .int 1]) (rest := []) ⟨hx, hb, hml, hown, hts⟩ (k_L_act l hfl dC dI cA a q1.2 1 x7 0 1 _ hq3 hap) gL_refuses_L_act rfl rfl rfl cd_L_act (Nat.le_of_ble_eq_true rfl) (Nat.le_of_ble_eq_true rfl) (preLsH hK hP hE hN hS hA) rfl hl.1 rfl (Nat.le_of_ble_eq_true rfl) (by show (C + 3) + 3 ≤ 633; omega) (by show (Z + 18) + 18 ≤ 3798; omega) dL_refuses_146 hS hA (fun H locs hP hS => ?_)
          refine lv_ldc (v := (-7000001)) hx hb hown hw2 dL_refuses_149 ?_
          refine lv_icmp_ne (tgt := 437) hx hb dL_refuses_151 (by decide) (fun c4 => ?_) (fun c4 => ?_)
          · rw [if_neg c4] at hf
            refine lv_iconst (v := 0) hx hb dL_refuses_437 (by decide) ?_
            refine lv_istore (lv' := [(12, .int 0), (0, .ref (a 0)), (1, .int p1), (2, .int p2), (3, .int x3), (4, .int x4), (5, .int x5), (6, .int x6), (7, .int x7), (8, .int x8), (9, .int x9), (10, .int x10), (11, .int x11)]) hx hb dL_refuses_438 hl (by decide) rfl (fun ls hl => ?_)
            refine lv_bipush (v := 7) hx hb dL_refuses_440 (by decide) ?_
            refine lv_istore (lv' := [(13, .int 7), (12, .int 0), (0, .ref (a 0)), (1, .int p1), (2, .int p2), (3, .int x3), (4, .int x4), (5, .int x5), (6, .int x6), (7, .int x7), (8, .int x8), (9, .int x9), (10, .int x10), (11, .int x11)]) hx hb dL_refuses_442 hl (by decide) rfl (fun ls hl => ?_)
            exact hW444 16 (C + 6) (Z + 36) q3.2 x3 x4 x5 x6 x7 x8 x10 x11 0 7 _ _ ls (by omega) (by omega) hf hP hS (lv_sub hl [2, 3, 4, 5, 6, 7, 8, 9, 10, 12, 13, 1, 0] rfl)
          · rw [if_pos c4] at hf
            refine lv_aload_n hx hb dL_refuses_154 rfl (lv_at hl 0 rfl) ?_
            refine lv_iconst (v := 1) hx hb dL_refuses_155 (by decide) ?_
            refine lv_iconst (v := 0) hx hb dL_refuses_156 (by decide) ?_
            refine lv_iload hx hb dL_refuses_157 (lv_at hl 5 rfl) ?_
            refine lv_iconst (v := 1) hx hb dL_refuses_159 (by decide) ?_
            refine lv_icmp_ne (tgt := 168) hx hb dL_refuses_160 (by decide) (fun c5 => ?_) (fun c5 => ?_)
            · rw [if_neg c5] at hf
              refine lv_iload hx hb dL_refuses_168 (lv_at hl 6 rfl) ?_
              exact hW170 (C + 6) (Z + 36) q3.2 x3 x4 x5 x6 x7 x8 x9 x10 x11 1 0 x6 _ _ ls (by omega) (by omega) hf hP hS (lv_sub hl [0, 1, 2, 3, 4, 5, 6, 7, 8, 9, 10, 11] rfl)
            · rw [if_pos c5] at hf
              refine lv_bipush (v := 10) hx hb dL_refuses_163 (by decide) ?_
              refine lv_goto (tgt := 170) hx hb dL_refuses_165 (by decide) ?_
              exact hW170 (C + 6) (Z + 36) q3.2 x3 x4 x5 x6 x7 x8 x9 x10 x11 1 0 10 _ _ ls (by omega) (by omega) hf hP hS (lv_sub hl [0, 1, 2, 3, 4, 5, 6, 7, 8, 9, 10, 11] rfl)
      have hW115 : ∀ (C Z : Nat) (S : St) (x3 x4 x5 x6 x7 x8 x9 x10 s0 : Int32) (H : Heap) (locs : List Loc) (ls : Array Slot), C + (k12 * 126 + 129) ≤ 633 → Z + (k12 * 756 + 774) ≤ 3798 → f_L_refuses_115 p1 p2 (f_L_refuses_12 p1 p2 k12) S x3 x4 x5 x6 x7 x8 x9 x10 s0 = some r → va_P (dC, dI) vwCl (wX cA a S) H → va_S (ad a 10) s.heap H locs → lv_has ls 14 [(0, .ref (a 0)), (1, .int p1), (2, .int p2), (3, .int x3), (4, .int x4), (5, .int x5), (6, .int x6), (7, .int x7), (8, .int x8), (9, .int x9), (10, .int x10)] → W p l e (headSpec wsL_refuses ({ frames := 14, cells := 633, slots := 3798, locals := 388 })).room s m ([.ref (a 0), .int p1, .int p2] : List Value).toArray below meth c H locs C Z (MQ below (mXi (dC, dI) cA a 1 r) ([.ref (a 0), .int p1, .int p2] : List Value).toArray s 633 3798 (ad a 10)) (F0 m 115 ls [.int s0]) := by
        intro C Z S x3 x4 x5 x6 x7 x8 x9 x10 s0 H locs ls hC hZ hf hP hS hl
        unfold f_L_refuses_115 at hf
        refine lv_istore (lv' := [(11, .int s0), (0, .ref (a 0)), (1, .int p1), (2, .int p2), (3, .int x3), (4, .int x4), (5, .int x5), (6, .int x6), (7, .int x7), (8, .int x8), (9, .int x9), (10, .int x10)]) hx hb dL_refuses_115 hl (by decide) rfl (fun ls hl => ?_)
        refine lv_aload_n hx hb dL_refuses_117 rfl (lv_at hl 1 rfl) ?_
        refine lv_iconst (v := 0) hx hb dL_refuses_118 (by decide) ?_
        refine lv_iload hx hb dL_refuses_119 (lv_at hl 6 rfl) ?_
        refine lv_if_ne (tgt := 128) hx hb dL_refuses_121 (by decide) (fun c1 => ?_) (fun c1 => ?_)
        · rw [if_neg c1] at hf
          refine lv_iload hx hb dL_refuses_128 (lv_at hl 0 rfl) ?_
          exact hW130 C Z S x3 x4 x5 x6 x7 x8 x9 x10 s0 0 s0 _ _ ls (by omega) (by omega) hf hP hS (lv_sub hl [1, 2, 3, 4, 5, 6, 7, 8, 9, 10, 11, 0] rfl)
        · rw [if_pos c1] at hf
          refine lv_iconst (v := 0) hx hb dL_refuses_124 (by decide) ?_
          refine lv_goto (tgt := 130) hx hb dL_refuses_125 (by decide) ?_
          exact hW130 C Z S x3 x4 x5 x6 x7 x8 x9 x10 s0 0 0 _ _ ls (by omega) (by omega) hf hP hS (lv_sub hl [1, 2, 3, 4, 5, 6, 7, 8, 9, 10, 11, 0] rfl)
      have hW100 : ∀ (C Z : Nat) (S : St) (x3 x4 x5 x6 x7 x8 x9 s0 : Int32) (H : Heap) (locs : List Loc) (ls : Array Slot), C + (k12 * 126 + 129) ≤ 633 → Z + (k12 * 756 + 774) ≤ 3798 → f_L_refuses_100 p1 p2 (f_L_refuses_12 p1 p2 k12) S x3 x4 x5 x6 x7 x8 x9 s0 = some r → va_P (dC, dI) vwCl (wX cA a S) H → va_S (ad a 10) s.heap H locs → lv_has ls 14 [(0, .ref (a 0)), (1, .int p1), (2, .int p2), (3, .int x3), (4, .int x4), (5, .int x5), (6, .int x6), (7, .int x7), (8, .int x8), (9, .int x9)] → W p l e (headSpec wsL_refuses ({ frames := 14, cells := 633, slots := 3798, locals := 388 })).room s m ([.ref (a 0), .int p1, .int p2] : List Value).toArray below meth c H locs C Z (MQ below (mXi (dC, dI) cA a 1 r) ([.ref (a 0), .int p1, .int p2] : List Value).toArray s 633 3798 (ad a 10)) (F0 m 100 ls [.int s0]) := by
        intro C Z S x3 x4 x5 x6 x7 x8 x9 s0 H locs ls hC hZ hf hP hS hl
        unfold f_L_refuses_100 at hf
        refine lv_istore (lv' := [(10, .int s0), (0, .ref (a 0)), (1, .int p1), (2, .int p2), (3, .int x3), (4, .int x4), (5, .int x5), (6, .int x6), (7, .int x7), (8, .int x8), (9, .int x9)]) hx hb dL_refuses_100 hl (by decide) rfl (fun ls hl => ?_)
        refine lv_iload hx hb dL_refuses_102 (lv_at hl 6 rfl) ?_
        refine lv_iconst (v := 1) hx hb dL_refuses_104 (by decide) ?_
        refine lv_icmp_ne (tgt := 113) hx hb dL_refuses_105 (by decide) (fun c1 => ?_) (fun c1 => ?_)
        · rw [if_neg c1] at hf
          refine lv_iload hx hb dL_refuses_113 (lv_at hl 7 rfl) ?_
          exact hW115 C Z S x3 x4 x5 x6 x7 x8 x9 s0 x6 _ _ ls (by omega) (by omega) hf hP hS (lv_sub hl [1, 2, 3, 4, 5, 6, 7, 8, 9, 10, 0] rfl)
        · rw [if_pos c1] at hf
          refine lv_bipush (v := 7) hx hb dL_refuses_108 (by decide) ?_
          refine lv_goto (tgt := 115) hx hb dL_refuses_110 (by decide) ?_
          exact hW115 C Z S x3 x4 x5 x6 x7 x8 x9 s0 7 _ _ ls (by omega) (by omega) hf hP hS (lv_sub hl [1, 2, 3, 4, 5, 6, 7, 8, 9, 10, 0] rfl)
      have hW84 : ∀ (C Z : Nat) (S : St) (x3 x4 x5 x6 x7 x8 s0 : Int32) (H : Heap) (locs : List Loc) (ls : Array Slot), C + (k12 * 126 + 129) ≤ 633 → Z + (k12 * 756 + 774) ≤ 3798 → f_L_refuses_84 p1 p2 (f_L_refuses_12 p1 p2 k12) S x3 x4 x5 x6 x7 x8 s0 = some r → va_P (dC, dI) vwCl (wX cA a S) H → va_S (ad a 10) s.heap H locs → lv_has ls 14 [(0, .ref (a 0)), (1, .int p1), (2, .int p2), (3, .int x3), (4, .int x4), (5, .int x5), (6, .int x6), (7, .int x7), (8, .int x8)] → W p l e (headSpec wsL_refuses ({ frames := 14, cells := 633, slots := 3798, locals := 388 })).room s m ([.ref (a 0), .int p1, .int p2] : List Value).toArray below meth c H locs C Z (MQ below (mXi (dC, dI) cA a 1 r) ([.ref (a 0), .int p1, .int p2] : List Value).toArray s 633 3798 (ad a 10)) (F0 m 84 ls [.int s0]) := by
        intro C Z S x3 x4 x5 x6 x7 x8 s0 H locs ls hC hZ hf hP hS hl
        unfold f_L_refuses_84 at hf
        refine lv_istore (lv' := [(9, .int s0), (0, .ref (a 0)), (1, .int p1), (2, .int p2), (3, .int x3), (4, .int x4), (5, .int x5), (6, .int x6), (7, .int x7), (8, .int x8)]) hx hb dL_refuses_84 hl (by decide) rfl (fun ls hl => ?_)
        refine lv_iload hx hb dL_refuses_86 (lv_at hl 6 rfl) ?_
        refine lv_iconst (v := 1) hx hb dL_refuses_88 (by decide) ?_
        refine lv_icmp_ne (tgt := 98) hx hb dL_refuses_89 (by decide) (fun c1 => ?_) (fun c1 => ?_)
        · rw [if_neg c1] at hf
          refine lv_iload hx hb dL_refuses_98 (lv_at hl 7 rfl) ?_
          exact hW100 C Z S x3 x4 x5 x6 x7 x8 s0 x6 _ _ ls (by omega) (by omega) hf hP hS (lv_sub hl [1, 2, 3, 4, 5, 6, 7, 8, 9, 0] rfl)
        · rw [if_pos c1] at hf
          refine lv_iconst (v := 1) hx hb dL_refuses_92 (by decide) ?_
          refine lv_iload_n hx hb dL_refuses_93 rfl (lv_at hl 2 rfl) ?_
          refine lv_ishl hx hb dL_refuses_94 ?_
          refine lv_goto (tgt := 100) hx hb dL_refuses_95 (by decide) ?_
          exact hW100 C Z S x3 x4 x5 x6 x7 x8 s0 ((1 : Int32) <<< (p1 &&& 31)) _ _ ls (by omega) (by omega) hf hP hS (lv_sub hl [1, 2, 3, 4, 5, 6, 7, 8, 9, 0] rfl)
      have hW69 : ∀ (C Z : Nat) (S : St) (x3 x4 x5 x6 x7 s0 : Int32) (H : Heap) (locs : List Loc) (ls : Array Slot), C + (k12 * 126 + 129) ≤ 633 → Z + (k12 * 756 + 774) ≤ 3798 → f_L_refuses_69 p1 p2 (f_L_refuses_12 p1 p2 k12) S x3 x4 x5 x6 x7 s0 = some r → va_P (dC, dI) vwCl (wX cA a S) H → va_S (ad a 10) s.heap H locs → lv_has ls 14 [(0, .ref (a 0)), (1, .int p1), (2, .int p2), (3, .int x3), (4, .int x4), (5, .int x5), (6, .int x6), (7, .int x7)] → W p l e (headSpec wsL_refuses ({ frames := 14, cells := 633, slots := 3798, locals := 388 })).room s m ([.ref (a 0), .int p1, .int p2] : List Value).toArray below meth c H locs C Z (MQ below (mXi (dC, dI) cA a 1 r) ([.ref (a 0), .int p1, .int p2] : List Value).toArray s 633 3798 (ad a 10)) (F0 m 69 ls [.int s0]) := by
        intro C Z S x3 x4 x5 x6 x7 s0 H locs ls hC hZ hf hP hS hl
        unfold f_L_refuses_69 at hf
        refine lv_istore (lv' := [(8, .int s0), (0, .ref (a 0)), (1, .int p1), (2, .int p2), (3, .int x3), (4, .int x4), (5, .int x5), (6, .int x6), (7, .int x7)]) hx hb dL_refuses_69 hl (by decide) rfl (fun ls hl => ?_)
        refine lv_iload hx hb dL_refuses_71 (lv_at hl 6 rfl) ?_
        refine lv_iconst (v := 1) hx hb dL_refuses_73 (by decide) ?_
        refine lv_icmp_ne (tgt := 82) hx hb dL_refuses_74 (by decide) (fun c1 => ?_) (fun c1 => ?_)
        · rw [if_neg c1] at hf
          refine lv_iload hx hb dL_refuses_82 (lv_at hl 7 rfl) ?_
          exact hW84 C Z S x3 x4 x5 x6 x7 s0 x6 _ _ ls (by omega) (by omega) hf hP hS (lv_sub hl [1, 2, 3, 4, 5, 6, 7, 8, 0] rfl)
        · rw [if_pos c1] at hf
          refine lv_bipush (v := 6) hx hb dL_refuses_77 (by decide) ?_
          refine lv_goto (tgt := 84) hx hb dL_refuses_79 (by decide) ?_
          exact hW84 C Z S x3 x4 x5 x6 x7 s0 6 _ _ ls (by omega) (by omega) hf hP hS (lv_sub hl [1, 2, 3, 4, 5, 6, 7, 8, 0] rfl)
      have hW55 : ∀ (C Z : Nat) (S : St) (x3 x4 x5 x6 s0 : Int32) (H : Heap) (locs : List Loc) (ls : Array Slot), C + (k12 * 126 + 129) ≤ 633 → Z + (k12 * 756 + 774) ≤ 3798 → f_L_refuses_55 p1 p2 (f_L_refuses_12 p1 p2 k12) S x3 x4 x5 x6 s0 = some r → va_P (dC, dI) vwCl (wX cA a S) H → va_S (ad a 10) s.heap H locs → lv_has ls 14 [(0, .ref (a 0)), (1, .int p1), (2, .int p2), (3, .int x3), (4, .int x4), (5, .int x5), (6, .int x6)] → W p l e (headSpec wsL_refuses ({ frames := 14, cells := 633, slots := 3798, locals := 388 })).room s m ([.ref (a 0), .int p1, .int p2] : List Value).toArray below meth c H locs C Z (MQ below (mXi (dC, dI) cA a 1 r) ([.ref (a 0), .int p1, .int p2] : List Value).toArray s 633 3798 (ad a 10)) (F0 m 55 ls [.int s0]) := by
        intro C Z S x3 x4 x5 x6 s0 H locs ls hC hZ hf hP hS hl
        unfold f_L_refuses_55 at hf
        refine lv_istore (lv' := [(7, .int s0), (0, .ref (a 0)), (1, .int p1), (2, .int p2), (3, .int x3), (4, .int x4), (5, .int x5), (6, .int x6)]) hx hb dL_refuses_55 hl (by decide) rfl (fun ls hl => ?_)
        refine lv_iload hx hb dL_refuses_57 (lv_at hl 6 rfl) ?_
        refine lv_iconst (v := 1) hx hb dL_refuses_59 (by decide) ?_
        refine lv_icmp_ne (tgt := 67) hx hb dL_refuses_60 (by decide) (fun c1 => ?_) (fun c1 => ?_)
        · rw [if_neg c1] at hf
          refine lv_iload hx hb dL_refuses_67 (lv_at hl 7 rfl) ?_
          exact hW69 C Z S x3 x4 x5 x6 s0 x6 _ _ ls (by omega) (by omega) hf hP hS (lv_sub hl [1, 2, 3, 4, 5, 6, 7, 0] rfl)
        · rw [if_pos c1] at hf
          refine lv_iload_n hx hb dL_refuses_63 rfl (lv_at hl 3 rfl) ?_
          refine lv_goto (tgt := 69) hx hb dL_refuses_64 (by decide) ?_
          exact hW69 C Z S x3 x4 x5 x6 s0 p2 _ _ ls (by omega) (by omega) hf hP hS (lv_sub hl [1, 2, 3, 4, 5, 6, 7, 0] rfl)
      have hW41 : ∀ (C Z : Nat) (S : St) (x3 x4 x5 s0 : Int32) (H : Heap) (locs : List Loc) (ls : Array Slot), C + (k12 * 126 + 129) ≤ 633 → Z + (k12 * 756 + 774) ≤ 3798 → f_L_refuses_41 p1 p2 (f_L_refuses_12 p1 p2 k12) S x3 x4 x5 s0 = some r → va_P (dC, dI) vwCl (wX cA a S) H → va_S (ad a 10) s.heap H locs → lv_has ls 14 [(0, .ref (a 0)), (1, .int p1), (2, .int p2), (3, .int x3), (4, .int x4), (5, .int x5)] → W p l e (headSpec wsL_refuses ({ frames := 14, cells := 633, slots := 3798, locals := 388 })).room s m ([.ref (a 0), .int p1, .int p2] : List Value).toArray below meth c H locs C Z (MQ below (mXi (dC, dI) cA a 1 r) ([.ref (a 0), .int p1, .int p2] : List Value).toArray s 633 3798 (ad a 10)) (F0 m 41 ls [.int s0]) := by
        intro C Z S x3 x4 x5 s0 H locs ls hC hZ hf hP hS hl
        unfold f_L_refuses_41 at hf
        refine lv_istore (lv' := [(6, .int s0), (0, .ref (a 0)), (1, .int p1), (2, .int p2), (3, .int x3), (4, .int x4), (5, .int x5)]) hx hb dL_refuses_41 hl (by decide) rfl (fun ls hl => ?_)
        refine lv_iload hx hb dL_refuses_43 (lv_at hl 6 rfl) ?_
        refine lv_iconst (v := 1) hx hb dL_refuses_45 (by decide) ?_
        refine lv_icmp_ne (tgt := 53) hx hb dL_refuses_46 (by decide) (fun c1 => ?_) (fun c1 => ?_)
        · rw [if_neg c1] at hf
          refine lv_iload hx hb dL_refuses_53 (lv_at hl 0 rfl) ?_
          exact hW55 C Z S x3 x4 x5 s0 s0 _ _ ls (by omega) (by omega) hf hP hS (lv_sub hl [1, 2, 3, 4, 5, 6, 0] rfl)
        · rw [if_pos c1] at hf
          refine lv_iload_n hx hb dL_refuses_49 rfl (lv_at hl 2 rfl) ?_
          refine lv_goto (tgt := 55) hx hb dL_refuses_50 (by decide) ?_
          exact hW55 C Z S x3 x4 x5 s0 p1 _ _ ls (by omega) (by omega) hf hP hS (lv_sub hl [1, 2, 3, 4, 5, 6, 0] rfl)
      intro C Z S x3 x4 x5 H locs ls hC hZ hf hP hS hl
      rw [f_L_refuses_12] at hf
      rw [Nat.add_mul, Nat.one_mul] at hC hZ
      refine lv_iload hx hb dL_refuses_12 (lv_at hl 5 rfl) ?_
      refine lv_iconst (v := 4) hx hb dL_refuses_14 (by decide) ?_
      refine lv_icmp_ge (tgt := 693) hx hb dL_refuses_15 (by decide) (fun c1 => ?_) (fun c1 => ?_)
      · rw [if_pos c1] at hf
        refine lv_aload_n hx hb dL_refuses_693 rfl (lv_at hl 0 rfl) ?_
        obtain ⟨q2, hq2, hf⟩ := ob_some hf
        refine lc_V (mc := 0) (ms := 0) (As := []) (rest := []) ⟨hx, hb, hml, hown, hts⟩ (k_X0_common l dC dI cA a S _ hq2 hap) gL_refuses_X0_common rfl rfl rfl cd_X0_common (Nat.le_of_ble_eq_true rfl) (Nat.le_of_ble_eq_true rfl) (preX hK hP) rfl hl.1 rfl (Nat.le_of_ble_eq_true rfl) (by show C + 0 ≤ 633; omega) (by show Z + 0 ≤ 3798; omega) dL_refuses_694 hS hA (fun H locs hP hS => ?_)
        refine lv_iload hx hb dL_refuses_697 (lv_at hl 4 rfl) ?_
        refine lv_icmp_ne (tgt := 729) hx hb dL_refuses_699 (by decide) (fun c3 => ?_) (fun c3 => ?_)
        · rw [if_neg c3] at hf; cases hf
        rw [if_pos c3] at hf
        refine lv_aload_n hx hb dL_refuses_702 rfl (lv_at hl 0 rfl) ?_
        obtain ⟨v4, hv4, hf⟩ := ob_some hf
        refine pu_V (As := []) (rest := []) ⟨hx, hb, hml, hown, hts⟩ (k_X0_commonAnew l dC dI cA a q2.2 _ hv4) gL_refuses_X0_commonAnew rfl rfl rfl cd_X0_commonAnew (Nat.le_of_ble_eq_true rfl) (Nat.le_of_ble_eq_true rfl) (preX hK hP) rfl hl.1 rfl (Nat.le_of_ble_eq_true rfl) (by show C ≤ 633; omega) (by show Z ≤ 3798; omega) dL_refuses_703 ?_
        refine lv_iload hx hb dL_refuses_706 (lv_at hl 4 rfl) ?_
        refine lv_icmp_ne (tgt := 729) hx hb dL_refuses_708 (by decide) (fun c5 => ?_) (fun c5 => ?_)
        · rw [if_neg c5] at hf; cases hf
        rw [if_pos c5] at hf
        refine lv_aload_n hx hb dL_refuses_711 rfl (lv_at hl 0 rfl) ?_
        refine lv_bipush (v := 10) hx hb dL_refuses_712 (by decide) ?_
        refine lv_iload_n hx hb dL_refuses_714 rfl (lv_at hl 2 rfl) ?_
        refine lv_iconst (v := 0) hx hb dL_refuses_715 (by decide) ?_
        refine lv_iconst (v := 0) hx hb dL_refuses_716 (by decide) ?_
        obtain ⟨q6, hq6, hf⟩ := ob_some hf
        refine lc_W (As := [.ref (a 0), .int 10, .int p2, .int 0, .int 0]) (rest := []) ⟨hx, hb, hml, hown, hts⟩ (k_L_act l hfl dC dI cA a q2.2 10 p2 0 0 _ hq6 hap) gL_refuses_L_act rfl rfl rfl cd_L_act (Nat.le_of_ble_eq_true rfl) (Nat.le_of_ble_eq_true rfl) (preLsH hK hP hE hN hS hA) rfl hl.1 rfl (Nat.le_of_ble_eq_true rfl) (by show C + 3 ≤ 633; omega) (by show Z + 18 ≤ 3798; omega) dL_refuses_717 hS hA (fun H locs hP hS => ?_)
        refine lv_ldc (v := (-7000001)) hx hb hown hw2 dL_refuses_720 ?_
        refine lv_icmp_ne (tgt := 729) hx hb dL_refuses_722 (by decide) (fun c7 => ?_) (fun c7 => ?_)
        · rw [if_neg c7] at hf; cases hf
        rw [if_pos c7] at hf
        refine lv_iconst (v := 1) hx hb dL_refuses_725 (by decide) ?_
        refine lv_goto (tgt := 730) hx hb dL_refuses_726 (by decide) ?_
        have hf := Option.some.inj hf; subst hf
        refine W.widen (k := 633) (n := 3798) (by omega) (by omega) ?_
        exact W.zret hx hb hr rfl (fun t ht hW => ⟨⟨rfl, by rw [ht]; exact hP⟩, hS.F ht⟩) hS.2.2 dL_refuses_730
      · rw [if_neg c1] at hf
        refine lv_iload hx hb dL_refuses_18 (lv_at hl 5 rfl) ?_
        refine lv_if_ne (tgt := 27) hx hb dL_refuses_20 (by decide) (fun c8 => ?_) (fun c8 => ?_)
        · rw [if_neg c8] at hf
          refine lv_iload hx hb dL_refuses_27 (lv_at hl 5 rfl) ?_
          refine lv_iconst (v := 2) hx hb dL_refuses_29 (by decide) ?_
          refine lv_icmp_ne (tgt := 37) hx hb dL_refuses_30 (by decide) (fun c9 => ?_) (fun c9 => ?_)
          · rw [if_neg c9] at hf
            refine lv_iload_n hx hb dL_refuses_37 rfl (lv_at hl 3 rfl) ?_
            refine lv_ineg hx hb dL_refuses_38 ?_
            refine lv_iconst (v := 1) hx hb dL_refuses_39 (by decide) ?_
            refine lv_isub hx hb dL_refuses_40 ?_
            exact hW41 C Z S x3 x4 x5 ((-x3) - 1) _ _ ls (by omega) (by omega) hf hP hS (lv_sub hl [0, 1, 2, 3, 4, 5] rfl)
          · rw [if_pos c9] at hf
            refine lv_iload_n hx hb dL_refuses_33 rfl (lv_at hl 3 rfl) ?_
            refine lv_goto (tgt := 41) hx hb dL_refuses_34 (by decide) ?_
            exact hW41 C Z S x3 x4 x5 x3 _ _ ls (by omega) (by omega) hf hP hS (lv_sub hl [0, 1, 2, 3, 4, 5] rfl)
        · rw [if_pos c8] at hf
          refine lv_iconst (v := (-1)) hx hb dL_refuses_23 (by decide) ?_
          refine lv_goto (tgt := 41) hx hb dL_refuses_24 (by decide) ?_
          exact hW41 C Z S x3 x4 x5 (-1) _ _ ls (by omega) (by omega) hf hP hS (lv_sub hl [0, 1, 2, 3, 4, 5] rfl)
  unfold f_L_refuses at hf
  refine lv_ldc (v := 2147483647) hx hb hown hw0 dL_refuses_0 ?_
  refine lv_istore_n (lv' := [(3, .int 2147483647), (0, .ref (a 0)), (1, .int p1), (2, .int p2)]) hx hb dL_refuses_2 rfl hl (by decide) rfl (fun ls hl => ?_)
  refine lv_aload_n hx hb dL_refuses_3 rfl (lv_at hl 1 rfl) ?_
  obtain ⟨q1, hq1, hf⟩ := ob_some hf
  refine lc_V (mc := 0) (ms := 0) (As := []) (rest := []) ⟨hx, hb, hml, hown, hts⟩ (k_X0_common l dC dI cA a S _ hq1 hap) gL_refuses_X0_common rfl rfl rfl cd_X0_common (Nat.le_of_ble_eq_true rfl) (Nat.le_of_ble_eq_true rfl) (preX hK hP) rfl hl.1 rfl (Nat.le_of_ble_eq_true rfl) (by show 0 + 0 ≤ 633; omega) (by show 0 + 0 ≤ 3798; omega) dL_refuses_4 hS hA (fun H locs hP hS => ?_)
  refine lv_topi (fun y2 ey2 => ?_)
  have hf := bnd_at hf ey2
  refine lv_istore (lv' := [(4, .int y2), (3, .int 2147483647), (0, .ref (a 0)), (1, .int p1), (2, .int p2)]) hx hb dL_refuses_7 hl (by decide) rfl (fun ls hl => ?_)
  refine lv_iconst (v := 0) hx hb dL_refuses_9 (by decide) ?_
  refine lv_istore (lv' := [(5, .int 0), (4, .int y2), (3, .int 2147483647), (0, .ref (a 0)), (1, .int p1), (2, .int p2)]) hx hb dL_refuses_10 hl (by decide) rfl (fun ls hl => ?_)
  exact hW12 5 0 0 q1.2 2147483647 y2 0 _ _ ls (by omega) (by omega) hf hP hS (lv_sub hl [3, 4, 5, 2, 1, 0] rfl)

section
-- ===== PART A: goes FIRST, ahead of the names: the tables' words, and 'selects' of the private methods out of them =====
/-- a private method of a class that the tables say can be made, by its rows of tables_1 -/
def lw_okq (q : MethodName × Nat) : Prop := (q.1.cls ≠ "java/lang/invoke/MethodHandle" ∧ q.1.cls ≠ "java/lang/invoke/VarHandle") ∧ Cond.instantiable q.1.cls q.2 ∈ tables_1 ∧ Cond.privateMethod q.1 ∈ tables_1 ∧ Cond.instanceMethod q.1 ∈ tables_1
theorem lw_p0 : lw_okq (⟨"java/lang/Throwable", "fillInStackTrace", "(I)Ljava/lang/Throwable;"⟩, 6) := ⟨⟨by decide +kernel, by decide +kernel⟩, List.mem_of_getElem? (i := 109) (by decide +kernel), List.mem_of_getElem? (i := 107) (by decide +kernel), List.mem_of_getElem? (i := 108) (by decide +kernel)⟩
theorem lw_p1 : lw_okq (⟨"Submodulary", "isElement", "(I)Z"⟩, 12) := ⟨⟨by decide +kernel, by decide +kernel⟩, List.mem_of_getElem? (i := 12) (by decide +kernel), List.mem_of_getElem? (i := 143) (by decide +kernel), List.mem_of_getElem? (i := 144) (by decide +kernel)⟩
theorem lw_p2 : lw_okq (⟨"Submodulary", "colourOf", "(II)I"⟩, 12) := ⟨⟨by decide +kernel, by decide +kernel⟩, List.mem_of_getElem? (i := 12) (by decide +kernel), List.mem_of_getElem? (i := 191) (by decide +kernel), List.mem_of_getElem? (i := 192) (by decide +kernel)⟩
theorem lw_p3 : lw_okq (⟨"Submodulary", "roomOf", "(II)I"⟩, 12) := ⟨⟨by decide +kernel, by decide +kernel⟩, List.mem_of_getElem? (i := 12) (by decide +kernel), List.mem_of_getElem? (i := 199) (by decide +kernel), List.mem_of_getElem? (i := 200) (by decide +kernel)⟩
theorem lw_p4 : lw_okq (⟨"Submodulary", "isFunction", "(I)Z"⟩, 12) := ⟨⟨by decide +kernel, by decide +kernel⟩, List.mem_of_getElem? (i := 12) (by decide +kernel), List.mem_of_getElem? (i := 211) (by decide +kernel), List.mem_of_getElem? (i := 212) (by decide +kernel)⟩
theorem lw_p5 : lw_okq (⟨"Submodulary", "isSet", "(I)Z"⟩, 12) := ⟨⟨by decide +kernel, by decide +kernel⟩, List.mem_of_getElem? (i := 12) (by decide +kernel), List.mem_of_getElem? (i := 215) (by decide +kernel), List.mem_of_getElem? (i := 216) (by decide +kernel)⟩
theorem lw_p6 : lw_okq (⟨"Submodulary", "sets", "()I"⟩, 12) := ⟨⟨by decide +kernel, by decide +kernel⟩, List.mem_of_getElem? (i := 12) (by decide +kernel), List.mem_of_getElem? (i := 219) (by decide +kernel), List.mem_of_getElem? (i := 220) (by decide +kernel)⟩
theorem lw_p7 : lw_okq (⟨"Submodulary", "valueOf", "(II)I"⟩, 12) := ⟨⟨by decide +kernel, by decide +kernel⟩, List.mem_of_getElem? (i := 12) (by decide +kernel), List.mem_of_getElem? (i := 223) (by decide +kernel), List.mem_of_getElem? (i := 224) (by decide +kernel)⟩
theorem lw_p8 : lw_okq (⟨"Submodulary", "hasLaw", "(I)Z"⟩, 12) := ⟨⟨by decide +kernel, by decide +kernel⟩, List.mem_of_getElem? (i := 12) (by decide +kernel), List.mem_of_getElem? (i := 231) (by decide +kernel), List.mem_of_getElem? (i := 232) (by decide +kernel)⟩
theorem lw_p9 : lw_okq (⟨"Submodulary", "hasLawAbove", "(II)Z"⟩, 12) := ⟨⟨by decide +kernel, by decide +kernel⟩, List.mem_of_getElem? (i := 12) (by decide +kernel), List.mem_of_getElem? (i := 235) (by decide +kernel), List.mem_of_getElem? (i := 236) (by decide +kernel)⟩
theorem lw_p10 : lw_okq (⟨"Submodulary", "gain", "(III)I"⟩, 12) := ⟨⟨by decide +kernel, by decide +kernel⟩, List.mem_of_getElem? (i := 12) (by decide +kernel), List.mem_of_getElem? (i := 239) (by decide +kernel), List.mem_of_getElem? (i := 240) (by decide +kernel)⟩
theorem lw_p11 : lw_okq (⟨"Submodulary", "leastBetween", "(IIIZI)I"⟩, 12) := ⟨⟨by decide +kernel, by decide +kernel⟩, List.mem_of_getElem? (i := 12) (by decide +kernel), List.mem_of_getElem? (i := 270) (by decide +kernel), List.mem_of_getElem? (i := 271) (by decide +kernel)⟩
theorem lw_p12 : lw_okq (⟨"Submodulary", "takenIn", "(IIIZ)I"⟩, 12) := ⟨⟨by decide +kernel, by decide +kernel⟩, List.mem_of_getElem? (i := 12) (by decide +kernel), List.mem_of_getElem? (i := 274) (by decide +kernel), List.mem_of_getElem? (i := 275) (by decide +kernel)⟩
theorem lw_p13 : lw_okq (⟨"Submodulary", "takenOut", "(IIIZ)I"⟩, 12) := ⟨⟨by decide +kernel, by decide +kernel⟩, List.mem_of_getElem? (i := 12) (by decide +kernel), List.mem_of_getElem? (i := 278) (by decide +kernel), List.mem_of_getElem? (i := 279) (by decide +kernel)⟩
theorem lw_p14 : lw_okq (⟨"Submodulary", "lowest", "(I)I"⟩, 12) := ⟨⟨by decide +kernel, by decide +kernel⟩, List.mem_of_getElem? (i := 12) (by decide +kernel), List.mem_of_getElem? (i := 282) (by decide +kernel), List.mem_of_getElem? (i := 283) (by decide +kernel)⟩
theorem lw_p15 : lw_okq (⟨"Submodulary", "greediest", "(II)I"⟩, 12) := ⟨⟨by decide +kernel, by decide +kernel⟩, List.mem_of_getElem? (i := 12) (by decide +kernel), List.mem_of_getElem? (i := 301) (by decide +kernel), List.mem_of_getElem? (i := 302) (by decide +kernel)⟩
def lw_privs_1 : List (MethodName × Nat) := [(⟨"java/lang/Throwable", "fillInStackTrace", "(I)Ljava/lang/Throwable;"⟩, 6), (⟨"Submodulary", "isElement", "(I)Z"⟩, 12), (⟨"Submodulary", "colourOf", "(II)I"⟩, 12), (⟨"Submodulary", "roomOf", "(II)I"⟩, 12), (⟨"Submodulary", "isFunction", "(I)Z"⟩, 12), (⟨"Submodulary", "isSet", "(I)Z"⟩, 12), (⟨"Submodulary", "sets", "()I"⟩, 12), (⟨"Submodulary", "valueOf", "(II)I"⟩, 12), (⟨"Submodulary", "hasLaw", "(I)Z"⟩, 12), (⟨"Submodulary", "hasLawAbove", "(II)Z"⟩, 12), (⟨"Submodulary", "gain", "(III)I"⟩, 12), (⟨"Submodulary", "leastBetween", "(IIIZI)I"⟩, 12), (⟨"Submodulary", "takenIn", "(IIIZ)I"⟩, 12), (⟨"Submodulary", "takenOut", "(IIIZ)I"⟩, 12), (⟨"Submodulary", "lowest", "(I)I"⟩, 12), (⟨"Submodulary", "greediest", "(II)I"⟩, 12)]
theorem lw_r1 : ∀ q ∈ lw_privs_1, lw_okq q := List.forall_mem_cons.mpr ⟨lw_p0, List.forall_mem_cons.mpr ⟨lw_p1, List.forall_mem_cons.mpr ⟨lw_p2, List.forall_mem_cons.mpr ⟨lw_p3, List.forall_mem_cons.mpr ⟨lw_p4, List.forall_mem_cons.mpr ⟨lw_p5, List.forall_mem_cons.mpr ⟨lw_p6, List.forall_mem_cons.mpr ⟨lw_p7, List.forall_mem_cons.mpr ⟨lw_p8, List.forall_mem_cons.mpr ⟨lw_p9, List.forall_mem_cons.mpr ⟨lw_p10, List.forall_mem_cons.mpr ⟨lw_p11, List.forall_mem_cons.mpr ⟨lw_p12, List.forall_mem_cons.mpr ⟨lw_p13, List.forall_mem_cons.mpr ⟨lw_p14, List.forall_mem_cons.mpr ⟨lw_p15, fun _ h => absurd h List.not_mem_nil⟩⟩⟩⟩⟩⟩⟩⟩⟩⟩⟩⟩⟩⟩⟩⟩
theorem lw_p16 : lw_okq (⟨"Submodulary", "endOfPath", "(I)I"⟩, 12) := ⟨⟨by decide +kernel, by decide +kernel⟩, List.mem_of_getElem? (i := 12) (by decide +kernel), List.mem_of_getElem? (i := 322) (by decide +kernel), List.mem_of_getElem? (i := 323) (by decide +kernel)⟩
theorem lw_p17 : lw_okq (⟨"Submodulary", "reachFirst", "(I)I"⟩, 12) := ⟨⟨by decide +kernel, by decide +kernel⟩, List.mem_of_getElem? (i := 12) (by decide +kernel), List.mem_of_getElem? (i := 326) (by decide +kernel), List.mem_of_getElem? (i := 327) (by decide +kernel)⟩
theorem lw_p18 : lw_okq (⟨"Submodulary", "hasRoom", "(III)Z"⟩, 12) := ⟨⟨by decide +kernel, by decide +kernel⟩, List.mem_of_getElem? (i := 12) (by decide +kernel), List.mem_of_getElem? (i := 330) (by decide +kernel), List.mem_of_getElem? (i := 331) (by decide +kernel)⟩
theorem lw_p19 : lw_okq (⟨"Submodulary", "countOf", "(III)I"⟩, 12) := ⟨⟨by decide +kernel, by decide +kernel⟩, List.mem_of_getElem? (i := 12) (by decide +kernel), List.mem_of_getElem? (i := 334) (by decide +kernel), List.mem_of_getElem? (i := 335) (by decide +kernel)⟩
theorem lw_p20 : lw_okq (⟨"Submodulary", "reachFrom", "(III)I"⟩, 12) := ⟨⟨by decide +kernel, by decide +kernel⟩, List.mem_of_getElem? (i := 12) (by decide +kernel), List.mem_of_getElem? (i := 338) (by decide +kernel), List.mem_of_getElem? (i := 339) (by decide +kernel)⟩
theorem lw_p21 : lw_okq (⟨"Submodulary", "isStep", "(III)Z"⟩, 12) := ⟨⟨by decide +kernel, by decide +kernel⟩, List.mem_of_getElem? (i := 12) (by decide +kernel), List.mem_of_getElem? (i := 342) (by decide +kernel), List.mem_of_getElem? (i := 343) (by decide +kernel)⟩
theorem lw_p22 : lw_okq (⟨"Submodulary", "flippedAlong", "(II)I"⟩, 12) := ⟨⟨by decide +kernel, by decide +kernel⟩, List.mem_of_getElem? (i := 12) (by decide +kernel), List.mem_of_getElem? (i := 346) (by decide +kernel), List.mem_of_getElem? (i := 347) (by decide +kernel)⟩
theorem lw_p23 : lw_okq (⟨"Submodulary", "isFair", "(II)Z"⟩, 12) := ⟨⟨by decide +kernel, by decide +kernel⟩, List.mem_of_getElem? (i := 12) (by decide +kernel), List.mem_of_getElem? (i := 354) (by decide +kernel), List.mem_of_getElem? (i := 355) (by decide +kernel)⟩
theorem lw_p24 : lw_okq (⟨"Submodulary", "edgeWeight", "(II)I"⟩, 12) := ⟨⟨by decide +kernel, by decide +kernel⟩, List.mem_of_getElem? (i := 12) (by decide +kernel), List.mem_of_getElem? (i := 368) (by decide +kernel), List.mem_of_getElem? (i := 369) (by decide +kernel)⟩
theorem lw_p25 : lw_okq (⟨"Submodulary", "needPlace", "()V"⟩, 12) := ⟨⟨by decide +kernel, by decide +kernel⟩, List.mem_of_getElem? (i := 12) (by decide +kernel), List.mem_of_getElem? (i := 376) (by decide +kernel), List.mem_of_getElem? (i := 377) (by decide +kernel)⟩
theorem lw_p26 : lw_okq (⟨"Submodulary", "toldValue", "(II)I"⟩, 12) := ⟨⟨by decide +kernel, by decide +kernel⟩, List.mem_of_getElem? (i := 12) (by decide +kernel), List.mem_of_getElem? (i := 380) (by decide +kernel), List.mem_of_getElem? (i := 381) (by decide +kernel)⟩
theorem lw_p27 : lw_okq (⟨"Submodulary", "coverValue", "(I)I"⟩, 12) := ⟨⟨by decide +kernel, by decide +kernel⟩, List.mem_of_getElem? (i := 12) (by decide +kernel), List.mem_of_getElem? (i := 384) (by decide +kernel), List.mem_of_getElem? (i := 385) (by decide +kernel)⟩
theorem lw_p28 : lw_okq (⟨"Submodulary", "cutValue", "(I)I"⟩, 12) := ⟨⟨by decide +kernel, by decide +kernel⟩, List.mem_of_getElem? (i := 12) (by decide +kernel), List.mem_of_getElem? (i := 388) (by decide +kernel), List.mem_of_getElem? (i := 389) (by decide +kernel)⟩
theorem lw_p29 : lw_okq (⟨"Submodulary", "rankValue", "(II)I"⟩, 12) := ⟨⟨by decide +kernel, by decide +kernel⟩, List.mem_of_getElem? (i := 12) (by decide +kernel), List.mem_of_getElem? (i := 392) (by decide +kernel), List.mem_of_getElem? (i := 393) (by decide +kernel)⟩
theorem lw_p30 : lw_okq (⟨"Submodulary", "weightsValue", "(I)I"⟩, 12) := ⟨⟨by decide +kernel, by decide +kernel⟩, List.mem_of_getElem? (i := 12) (by decide +kernel), List.mem_of_getElem? (i := 396) (by decide +kernel), List.mem_of_getElem? (i := 397) (by decide +kernel)⟩
theorem lw_p31 : lw_okq (⟨"Submodulary", "putNew", "(II)V"⟩, 12) := ⟨⟨by decide +kernel, by decide +kernel⟩, List.mem_of_getElem? (i := 12) (by decide +kernel), List.mem_of_getElem? (i := 400) (by decide +kernel), List.mem_of_getElem? (i := 401) (by decide +kernel)⟩
def lw_privs_2 : List (MethodName × Nat) := [(⟨"Submodulary", "endOfPath", "(I)I"⟩, 12), (⟨"Submodulary", "reachFirst", "(I)I"⟩, 12), (⟨"Submodulary", "hasRoom", "(III)Z"⟩, 12), (⟨"Submodulary", "countOf", "(III)I"⟩, 12), (⟨"Submodulary", "reachFrom", "(III)I"⟩, 12), (⟨"Submodulary", "isStep", "(III)Z"⟩, 12), (⟨"Submodulary", "flippedAlong", "(II)I"⟩, 12), (⟨"Submodulary", "isFair", "(II)Z"⟩, 12), (⟨"Submodulary", "edgeWeight", "(II)I"⟩, 12), (⟨"Submodulary", "needPlace", "()V"⟩, 12), (⟨"Submodulary", "toldValue", "(II)I"⟩, 12), (⟨"Submodulary", "coverValue", "(I)I"⟩, 12), (⟨"Submodulary", "cutValue", "(I)I"⟩, 12), (⟨"Submodulary", "rankValue", "(II)I"⟩, 12), (⟨"Submodulary", "weightsValue", "(I)I"⟩, 12), (⟨"Submodulary", "putNew", "(II)V"⟩, 12)]
theorem lw_r2 : ∀ q ∈ lw_privs_2, lw_okq q := List.forall_mem_cons.mpr ⟨lw_p16, List.forall_mem_cons.mpr ⟨lw_p17, List.forall_mem_cons.mpr ⟨lw_p18, List.forall_mem_cons.mpr ⟨lw_p19, List.forall_mem_cons.mpr ⟨lw_p20, List.forall_mem_cons.mpr ⟨lw_p21, List.forall_mem_cons.mpr ⟨lw_p22, List.forall_mem_cons.mpr ⟨lw_p23, List.forall_mem_cons.mpr ⟨lw_p24, List.forall_mem_cons.mpr ⟨lw_p25, List.forall_mem_cons.mpr ⟨lw_p26, List.forall_mem_cons.mpr ⟨lw_p27, List.forall_mem_cons.mpr ⟨lw_p28, List.forall_mem_cons.mpr ⟨lw_p29, List.forall_mem_cons.mpr ⟨lw_p30, List.forall_mem_cons.mpr ⟨lw_p31, fun _ h => absurd h List.not_mem_nil⟩⟩⟩⟩⟩⟩⟩⟩⟩⟩⟩⟩⟩⟩⟩⟩
theorem lw_p32 : lw_okq (⟨"Submodulary", "countNew", "()I"⟩, 12) := ⟨⟨by decide +kernel, by decide +kernel⟩, List.mem_of_getElem? (i := 12) (by decide +kernel), List.mem_of_getElem? (i := 404) (by decide +kernel), List.mem_of_getElem? (i := 405) (by decide +kernel)⟩
theorem lw_p33 : lw_okq (⟨"Submodulary", "isTold", "(I)Z"⟩, 12) := ⟨⟨by decide +kernel, by decide +kernel⟩, List.mem_of_getElem? (i := 12) (by decide +kernel), List.mem_of_getElem? (i := 424) (by decide +kernel), List.mem_of_getElem? (i := 425) (by decide +kernel)⟩
theorem lw_p34 : lw_okq (⟨"Submodulary", "aheadOf", "(I)I"⟩, 12) := ⟨⟨by decide +kernel, by decide +kernel⟩, List.mem_of_getElem? (i := 12) (by decide +kernel), List.mem_of_getElem? (i := 432) (by decide +kernel), List.mem_of_getElem? (i := 433) (by decide +kernel)⟩
theorem lw_p35 : lw_okq (⟨"Submodulary", "gainsOverOrders", "(IIIII)I"⟩, 12) := ⟨⟨by decide +kernel, by decide +kernel⟩, List.mem_of_getElem? (i := 12) (by decide +kernel), List.mem_of_getElem? (i := 447) (by decide +kernel), List.mem_of_getElem? (i := 448) (by decide +kernel)⟩
def lw_privs_3 : List (MethodName × Nat) := [(⟨"Submodulary", "countNew", "()I"⟩, 12), (⟨"Submodulary", "isTold", "(I)Z"⟩, 12), (⟨"Submodulary", "aheadOf", "(I)I"⟩, 12), (⟨"Submodulary", "gainsOverOrders", "(IIIII)I"⟩, 12)]
theorem lw_r3 : ∀ q ∈ lw_privs_3, lw_okq q := List.forall_mem_cons.mpr ⟨lw_p32, List.forall_mem_cons.mpr ⟨lw_p33, List.forall_mem_cons.mpr ⟨lw_p34, List.forall_mem_cons.mpr ⟨lw_p35, fun _ h => absurd h List.not_mem_nil⟩⟩⟩⟩
def lw_privs : List (MethodName × Nat) := lw_privs_1 ++ (lw_privs_2 ++ (lw_privs_3))
def lw_tbl : List Cond := k2_sels lw_privs ++ tables_1
theorem lw_privs_ok : ∀ q ∈ lw_privs, lw_okq q := by
  show ∀ q ∈ lw_privs_1 ++ (lw_privs_2 ++ (lw_privs_3)), lw_okq q
  exact List.forall_mem_append.mpr ⟨lw_r1, List.forall_mem_append.mpr ⟨lw_r2, lw_r3⟩⟩
end
section
/-! ===== BEGIN words of one list among another's, by their places ===== -/
theorem goodIn_r {big : List Cond} (ws : List Cond) (ps : List Nat) (hp : ws = ps.filterMap (fun i => big[i]?)) (h : ws.all goodWord = true) : GoodIn big ws := by
  intro w hw
  have h1 := List.all_eq_true.mp h w hw
  rw [hp] at hw
  obtain ⟨i, -, hi⟩ := List.mem_filterMap.mp hw
  have hm : w ∈ big := by first | exact List.mem_of_getElem? hi | exact List.getElem?_mem hi
  exact ⟨hm, good_of_word h1⟩
theorem goodIn_app {big a b : List Cond} (ha : GoodIn big a) (hb : GoodIn big b) : GoodIn big (a ++ b) := fun w h => (List.mem_append.mp h).elim (ha w) (hb w)
theorem goodIn_ca {big a b : List Cond} {c : Cond} (ha : GoodIn big (c :: a)) (hb : GoodIn big b) : GoodIn big (c :: (a ++ b)) := fun w h => (List.mem_cons.mp h).elim (fun e => ha w (List.mem_cons.mpr (Or.inl e))) (fun h => (List.mem_append.mp h).elim (fun h => ha w (List.mem_cons.mpr (Or.inr h))) (hb w))
theorem goodIn_sub {big ws : List Cond} (hm : ∀ w ∈ ws, w ∈ big) (h : ws.all goodWord = true) : GoodIn big ws := fun w hw => ⟨hm w hw, good_of_word (List.all_eq_true.mp h w hw)⟩
/-! ===== END ===== -/

/-! ===== BEGIN exceptions that leave a method, and their catching by the caller (launches without stack traces) ===== -/
section VXA
/-! The laws vx_back, vx_callV, vx_callS, vx_callSW, vx_throw0, vx_throwS follow proofs of the library, with one case more: JvmDerived/Free/Laws.lean (Back.of_free), Shelf42/LK1.lean (callV, callS), Shelf/KitTraced.lean (throwNew0V, throwNewS). -/
/-- where a method has thrown q: the class by its name, the cell, what was written, the world -/
def vx_T (XC : String → State → State → Prop) (st : State) (q : Addr) (t : State) (mc ms : Nat) (free : Addr → Prop) : Prop :=
  ∃ (E : String) (ce : Cell) (L : List Loc), XC E st t ∧ t.heap[q]? = some ce ∧ ce.vm = .none ∧ st.vm.findClass E = some ce.cls ∧ st.WarmedH t.vm ∧ st.sameButNew ({ t with vm := st.vm } : State) L mc ms ∧ ∀ z ∈ L, free z.base
def vx_Q (Qc : Array Value → State → Outcome → State → Prop) (XC : String → State → State → Prop) (mc ms : Nat) (free : Addr → Prop) : Array Value → State → Outcome → State → Prop := fun a st o t =>
  (Qc a st o t ∧ ∃ L, FrameEnd st o t L mc ms ∧ ∀ q ∈ L, free q.base) ∨ ∃ q, o = .threw q ∧ vx_T XC st q t mc ms free
/-- a callee that returns or throws -/
def vx_Met (l : Launch) (y : MethodName) (ws : List Cond) (rm : Room) (Pc : Array Value → State → Prop) (Qc : Array Value → State → Outcome → State → Prop) (XC : String → State → State → Prop) (mc ms : Nat) (free : Addr → Prop) : Prop :=
  MetFree l y (headSpec ws rm) Pc (fun _ _ _ _ _ => True) (vx_Q Qc XC mc ms free)
def vx_Post (XC : String → State → State → Prop) (mc ms : Nat) (free : Addr → Prop) : Pt → Array Value → Addr → Pt → Prop := fun A a q B =>
  ∃ (g : JFrame) (mk : MethodId) (t : State) (L : List Loc) (E : String) (ce : Cell), B.U.heap = t.heap ∧ B.U.vm = t.vm ∧ XC E (A.U.calling g mk a) t ∧ t.heap[q]? = some ce ∧ ce.vm = .none ∧ A.U.vm.findClass E = some ce.cls ∧ B.locs = A.locs ++ L ∧ (∀ z ∈ L, free z.base) ∧ B.cells = A.cells + mc ∧ B.slots = A.slots + ms
def vx_Back (l : Launch) (R : Room) (p : Program) (e : Env) (below : List Frame) (s : State) (sargs : Array Value) (y : MethodName) (len W9 : Nat)
    (Pre : Pt → Array Value → Prop) (Post : Pt → Array Value → Option Value → Pt → Prop) (PostX : Pt → Array Value → Addr → Pt → Prop) : Prop :=
  ∀ (m : MethodId) (meth : Method) (c : Code) (A : Pt) (g : JFrame) (ig : Instr) (mk : MethodId) (a : Array Value),
    Stand p l e R s m sargs below meth c A.U A.locs A.cells A.slots → g.method = m → g.locals.size = c.maxLocals → decode c.code g.pc = .ok (ig, len) →
    2 * g.monitorRoom + (g.stack.map fun v => v.category).sum ≤ W9 → A.U.methodNamed? y = some mk → Pre A a →
    (∃ (v : Option Value) (B : Pt), Stand p l e R s m sargs below meth c B.U B.locs B.cells B.slots ∧ Post A a v B ∧
      Steps p.tables e below (doInvoke e (A.U.setTop g) [] mk a).1 (B.U.setTop { g with pc := g.pc + len, stack := v.toList ++ g.stack })) ∨
    (∃ (q : Addr) (B : Pt), Stand p l e R s m sargs below meth c B.U B.locs B.cells B.slots ∧ PostX A a q B ∧
      Steps p.tables e below (doInvoke e (A.U.setTop g) [] mk a).1 ((B.U.setTop g).pushFrame (.throwing q)))
section Payer
variable {l : Launch} {R : Room} {p : Program} {e : Env} {below : List Frame} {s : State} {sargs : Array Value} {y : MethodName} {len W9 : Nat}
theorem vx_back {ws : List Cond} {rm : Room} {Pc : Array Value → State → Prop} {Qc : Array Value → State → Outcome → State → Prop} {XC : String → State → State → Prop} {mc ms : Nat} {free : Addr → Prop} {bytes : ByteArray} {maxL : Nat} {ret : Option FieldType}
    (hM : vx_Met l y ws rm Pc Qc XC mc ms free) (hblind : FrameBlind Pc) (hrc : rm.cells = mc) (hrs : rm.slots = ms)
    (hframes : rm.frames + 1 ≤ R.frames) (hlocals : W9 + (maxL + 11) + rm.locals ≤ R.locals)
    (hws : ∀ w ∈ ws, ∀ a' U, s.WarmedH U.vm → w.before a' U = true) (hcode : Cond.code y bytes maxL ret ∈ ws) (hinit : ∀ a' U, s.WarmedH U.vm → (Cond.initialized y.cls).before a' U = true) :
    vx_Back l R p e below s sargs y len W9 (PreOf R mc ms Pc) (PostOf Qc mc ms free) (vx_Post XC mc ms free) := by
  intro m meth c A g ig mk a X hg hsize hdg hW hn hp
  have h1 : (headSpec ws rm).pre.before a A.U = true := atoms_intro fun w hw => hws w hw _ _ X.warmed
  have h2 : (Cond.code y bytes maxL ret).before a A.U = true := hws _ hcode _ _ X.warmed
  have h3 : (Cond.initialized y.cls).before a A.U = true := hinit _ _ X.warmed
  have h4 : A.cells + (headSpec ws rm).room.cells ≤ R.cells := by rw [show (headSpec ws rm).room.cells = mc from hrc]; exact hp.1
  have h5 : A.slots + (headSpec ws rm).room.slots ≤ R.slots := by rw [show (headSpec ws rm).room.slots = ms from hrs]; exact hp.2.1
  have hPc : Pc a (A.U.calling g mk a) := hblind _ _ _ _ hp.2.2
  obtain ⟨U, Ls, c0, s0⟩ := A
  dsimp only [Pt.U, Pt.locs, Pt.cells, Pt.slots] at h1 h2 h3 h4 h5 X hn hPc ⊢
  obtain ⟨methY, cY, hmY, hcY, -, hlY, -, -, -, -⟩ := Cond.code_spec hn h2
  obtain ⟨kY, hkY, -⟩ := className_of_methodNamed hn
  have hinitY : kY.init = .initialized := Cond.initialized_spec (findClass_of_methodNamed hn) hkY h3
  have h : At U g.method c below := by rw [hg]; exact X.here
  have hlocals9 : W9 + (maxL + 11) + (headSpec ws rm).room.locals ≤ R.locals := hlocals
  have happ : (headSpec ws rm).appliesLoose y e.platform (U.calling g mk a) = true :=
    Spec.appliesLoose_calling (g := g) h hdg hn hkY hinitY
      (X.room_calling (g := g) (R' := (headSpec ws rm).room) hsize hmY hcY hframes (by rw [hlY]; omega) h4 h5) h1
  obtain ⟨mid, hmid⟩ := h.above
  have hfr : (U.setTop g).frames = (.java g :: mid) ++ below := by rw [State.frames_setTop' g h.top, hmid]; rfl
  obtain ⟨o, s₂, hsteps, -, hend, hq⟩ := Steps.callFree hM p X.admits X.cas X.clock (acts := []) hfr happ hPc trivial
  have hq' : vx_Q Qc XC mc ms free a (U.calling g mk a) o s₂ := hq
  rw [State.frames_setTop' g h.top] at hend
  obtain ⟨g₀, hg0⟩ := Option.isSome_iff_exists.mp h.top
  obtain ⟨r, hr⟩ := State.topJava?_eq_some.mp hg0
  have hr' : (({ U with heap := s₂.heap, slotsUsed := s₂.slotsUsed } : State).setVm s₂.vm).frames = .java g₀ :: r := hr
  rcases hq' with ⟨hqc, L, hfe, hL⟩ | ⟨q, rfl, E, ce, L, hx, hce, hcv, hcl, hW₂, hsm, hL⟩
  · obtain ⟨⟨v, rfl⟩, hW₂, e2, q2, q3, q4, q5, q6⟩ := id hfe
    have e3 : s₂ = ({ (U.calling g mk a).setFrames s₂.frames with heap := s₂.heap, slotsUsed := s₂.slotsUsed } : State).setVm s₂.vm := by
      have : s₂ = ({ s₂ with vm := (U.calling g mk a).vm } : State).setVm s₂.vm := rfl
      rw [e2] at this
      exact this
    obtain ⟨c₂, i₂, len₂, hc₂, hd₂, hf₂⟩ := hend
    have hW' : U.WarmedH s₂.vm := hW₂
    have hcc : c₂ = c := by
      have h1 : s₂.code? g.method = U.code? g.method := by
        rw [State.code?_eq, State.code?_eq, hW'.alike.method?]
      exact Option.some.inj (hc₂.symm.trans (h1.trans h.code))
    subst hcc
    have hlen : len₂ = len := by rw [hdg] at hd₂; cases hd₂; rfl
    subst hlen
    have hs₂ : s₂ = (({ U with heap := s₂.heap, slotsUsed := s₂.slotsUsed } : State).setVm s₂.vm).setTop { g with pc := g.pc + len₂, stack := v.toList ++ g.stack } := by
      refine e3.trans ?_
      rw [hf₂, State.calling_eq h.top, State.setFrames_setFrames, State.setTop_of_frames _ hr', hr]
      rfl
    have hsame : U.sameButNew ({ U with heap := s₂.heap, slotsUsed := s₂.slotsUsed } : State) L mc ms := by
      refine ⟨?_, q2, q3, q4, q5, q6⟩
      obtain ⟨t, ht, -⟩ := State.frames_cons hr
      show ({ U with heap := s₂.heap, slotsUsed := s₂.slotsUsed } : State) = { U.setFrames U.frames with heap := s₂.heap, slotsUsed := s₂.slotsUsed }
      rw [State.setFrames_self ht]
    subst hg
    refine Or.inl ⟨v, ⟨(({ U with heap := s₂.heap, slotsUsed := s₂.slotsUsed } : State).setVm s₂.vm), Ls ++ L, c0 + mc, s0 + ms⟩,
      ⟨X.admits, X.cas, X.clock, X.frames, X.room, X.hears, X.method, X.code, (X.here.setHeapUsed s₂.heap s₂.slotsUsed).setVm hW'.alike, X.tail, State.WarmedH.trans X.warmed hW', X.limits, X.bytes, X.same.trans (hsame.setVm s.vm)⟩,
      ⟨g, mk, s₂, L, rfl, rfl, hqc, rfl, hL, rfl, rfl⟩, ?_⟩
    show Steps p.tables e below _ ((({ U with heap := s₂.heap, slotsUsed := s₂.slotsUsed } : State).setVm s₂.vm).setTop { g with pc := g.pc + len₂, stack := v.toList ++ g.stack })
    rw [← hs₂]
    exact hsteps
  · obtain ⟨e2, q2, q3, q4, q5, q6⟩ := id hsm
    have e3 : s₂ = ({ (U.calling g mk a).setFrames s₂.frames with heap := s₂.heap, slotsUsed := s₂.slotsUsed } : State).setVm s₂.vm := by
      have : s₂ = ({ s₂ with vm := (U.calling g mk a).vm } : State).setVm s₂.vm := rfl
      rw [e2] at this
      exact this
    have hf₂ : s₂.frames = .throwing q :: .java g :: U.frames.tail := hend
    have hW' : U.WarmedH s₂.vm := hW₂
    have hs₂ : s₂ = ((({ U with heap := s₂.heap, slotsUsed := s₂.slotsUsed } : State).setVm s₂.vm).setTop g).pushFrame (.throwing q) := by
      refine e3.trans ?_
      rw [hf₂, State.calling_eq h.top, State.setFrames_setFrames, State.pushFrame, State.frames_setTop _ hr', State.setTop_of_frames _ hr', State.setFrames_setFrames, hr]
      rfl
    have hsame : U.sameButNew ({ U with heap := s₂.heap, slotsUsed := s₂.slotsUsed } : State) L mc ms := by
      refine ⟨?_, q2, q3, q4, q5, q6⟩
      obtain ⟨t, ht, -⟩ := State.frames_cons hr
      show ({ U with heap := s₂.heap, slotsUsed := s₂.slotsUsed } : State) = { U.setFrames U.frames with heap := s₂.heap, slotsUsed := s₂.slotsUsed }
      rw [State.setFrames_self ht]
    subst hg
    refine Or.inr ⟨q, ⟨(({ U with heap := s₂.heap, slotsUsed := s₂.slotsUsed } : State).setVm s₂.vm), Ls ++ L, c0 + mc, s0 + ms⟩,
      ⟨X.admits, X.cas, X.clock, X.frames, X.room, X.hears, X.method, X.code, (X.here.setHeapUsed s₂.heap s₂.slotsUsed).setVm hW'.alike, X.tail, State.WarmedH.trans X.warmed hW', X.limits, X.bytes, X.same.trans (hsame.setVm s.vm)⟩,
      ⟨g, mk, s₂, L, E, ce, rfl, rfl, hx, hce, hcv, hcl, rfl, hL, rfl, rfl⟩, ?_⟩
    show Steps p.tables e below _ (((({ U with heap := s₂.heap, slotsUsed := s₂.slotsUsed } : State).setVm s₂.vm).setTop g).pushFrame (.throwing q))
    rw [← hs₂]
    exact hsteps
end Payer
section Calls
variable {p : Program} {l : Launch} {e : Env} {R : Room} {s : State} {m : MethodId} {args : Array Value} {below : List Frame} {meth : Method} {c : Code} {T : State} {locs : List Loc} {cells slots : Nat}
theorem vx_callV (X : Stand p l e R s m args below meth c T locs cells slots) (hexec : p.tables.exec = Jvm.exec) {own C : String} {index : Nat} {y : MethodName} {bytes : ByteArray} {maxL : Nat} {ret : Option FieldType}
    (hown : s.vm.findClass own = some m.cls) (hlink : (Cond.methodLink own index y).before args s = true) (hinst : (Cond.instanceMethod y).before args s = true) (hsel : (Cond.selects C y y).before args s = true)
    (hcode : (Cond.code y bytes maxL ret).before args s = true) (hy : y.cls ≠ "java/lang/invoke/MethodHandle" ∧ y.cls ≠ "java/lang/invoke/VarHandle")
    {W9 : Nat} {Pre : Pt → Array Value → Prop} {Post : Pt → Array Value → Option Value → Pt → Prop} {PostX : Pt → Array Value → Addr → Pt → Prop} (hK : vx_Back l R p e below s args y 3 W9 Pre Post PostX)
    {b : Addr} {cellB : Cell} (hcell : T.heap[b]? = some cellB) (hobj : cellB.vm.isStatics = false) (hcls : s.vm.findClass C = some cellB.cls)
    {g : JFrame} (hg : g.method = m) (hsize : g.locals.size = c.maxLocals) {argsL rest : List Value} (hlen : ∀ sig, parseMethodDescriptor y.desc = some sig → argsL.length = sig.parameters.length)
    (hstack : g.stack = argsL.reverse ++ .ref b :: rest) (hW : 2 * g.monitorRoom + (rest.map fun v => v.category).sum ≤ W9) (hdg : decode c.code g.pc = .ok (.invokevirtual index, 3))
    (hpre : ∀ vm₁, s.WarmedH vm₁ → Pre ⟨T.setVm vm₁, locs, cells, slots⟩ (Value.ref b :: argsL).toArray) :
    (∃ (v : Option Value) (vm₁ : Vm) (B : Pt), s.WarmedH vm₁ ∧ Stand p l e R s m args below meth c B.U B.locs B.cells B.slots ∧ Post ⟨T.setVm vm₁, locs, cells, slots⟩ (Value.ref b :: argsL).toArray v B ∧
      ∀ target, Steps p.tables e below (B.U.setTop { g with pc := g.pc + 3, stack := v.toList ++ rest }) target → Steps p.tables e below (T.setTop g) target) ∨
    (∃ (q : Addr) (vm₁ : Vm) (B : Pt), s.WarmedH vm₁ ∧ Stand p l e R s m args below meth c B.U B.locs B.cells B.slots ∧ PostX ⟨T.setVm vm₁, locs, cells, slots⟩ (Value.ref b :: argsL).toArray q B ∧
      Steps p.tables e below (T.setTop g) ((B.U.setTop { g with stack := rest }).pushFrame (.throwing q))) := by
  obtain ⟨mk, methM, hnamed, hmethM, hstM, habM⟩ := Cond.instanceMethod_spec hinst
  obtain ⟨methM', cM, hmethM', -, -, -, -, -, -, hsigM⟩ := Cond.code_spec hnamed hcode
  cases hmethM.symm.trans hmethM'
  obtain ⟨c2, r2, m2, q1, q2, q3, q4, kP, hkP, hkPi⟩ := Cond.selects_spec hsel
  cases hcls.symm.trans q1
  cases (State.methodFound?_of_named hnamed hy).symm.trans q2
  cases hnamed.symm.trans q3
  have hselP : selectMethod e.platform s.vm cellB.cls mk = .method mk := by rw [Launch.admits_selectMethod X.admits]; exact q4
  obtain ⟨vm₁, X₁, hstep₁⟩ := X.invokevirtual hexec hown hlink hnamed hmethM hstM hkP hkPi hy (a := b) (cell := cellB) hcell
    (fun z h => by rw [h] at hobj; cases hobj) hselP hmethM habM hkP hkPi (g := g) hg (argsL := argsL) (rest := rest) (hlen _ hsigM) hstack hdg
  rcases hK m meth c ⟨T.setVm vm₁, locs, cells, slots⟩ { g with stack := rest } (.invokevirtual index) mk (Value.ref b :: argsL).toArray X₁ hg hsize hdg hW (X₁.named hnamed) (hpre vm₁ X₁.warmed) with ⟨v, B, X', hpost, hsteps⟩ | ⟨q, B, X', hpost, hsteps⟩
  · exact Or.inl ⟨v, vm₁, B, X₁.warmed, X', hpost, fun target h => hstep₁ _ fun acts => by rw [doInvoke_state]; exact hsteps.trans h⟩
  · exact Or.inr ⟨q, vm₁, B, X₁.warmed, X', hpost, hstep₁ _ fun acts => by rw [doInvoke_state]; exact hsteps⟩
theorem vx_callS (X : Stand p l e R s m args below meth c T locs cells slots) (hexec : p.tables.exec = Jvm.exec) {own : String} {index : Nat} {y : MethodName} {bytes : ByteArray} {maxL : Nat} {ret : Option FieldType}
    (hown : s.vm.findClass own = some m.cls) (hlink : (Cond.methodLink own index y).before args s = true) (hstat : (Cond.static y).before args s = true) (hinit : (Cond.initialized y.cls).before args s = true)
    (hcode : (Cond.code y bytes maxL ret).before args s = true) (hy : y.cls ≠ "java/lang/invoke/MethodHandle" ∧ y.cls ≠ "java/lang/invoke/VarHandle")
    {W9 : Nat} {Pre : Pt → Array Value → Prop} {Post : Pt → Array Value → Option Value → Pt → Prop} {PostX : Pt → Array Value → Addr → Pt → Prop} (hK : vx_Back l R p e below s args y 3 W9 Pre Post PostX)
    {g : JFrame} (hg : g.method = m) (hsize : g.locals.size = c.maxLocals) {argsL rest : List Value} (hlen : ∀ sig, parseMethodDescriptor y.desc = some sig → argsL.length = sig.parameters.length)
    (hstack : g.stack = argsL.reverse ++ rest) (hW : 2 * g.monitorRoom + (rest.map fun v => v.category).sum ≤ W9) (hdg : decode c.code g.pc = .ok (.invokestatic index, 3))
    (hpre : ∀ vm₁, s.WarmedH vm₁ → Pre ⟨T.setVm vm₁, locs, cells, slots⟩ argsL.toArray) :
    (∃ (v : Option Value) (vm₁ : Vm) (B : Pt), s.WarmedH vm₁ ∧ Stand p l e R s m args below meth c B.U B.locs B.cells B.slots ∧ Post ⟨T.setVm vm₁, locs, cells, slots⟩ argsL.toArray v B ∧
      ∀ target, Steps p.tables e below (B.U.setTop { g with pc := g.pc + 3, stack := v.toList ++ rest }) target → Steps p.tables e below (T.setTop g) target) ∨
    (∃ (q : Addr) (vm₁ : Vm) (B : Pt), s.WarmedH vm₁ ∧ Stand p l e R s m args below meth c B.U B.locs B.cells B.slots ∧ PostX ⟨T.setVm vm₁, locs, cells, slots⟩ argsL.toArray q B ∧
      Steps p.tables e below (T.setTop g) ((B.U.setTop { g with stack := rest }).pushFrame (.throwing q))) := by
  obtain ⟨mk, hnamed⟩ := Cond.code_named hcode
  obtain ⟨methM, cM, hmethM, -, -, -, -, -, -, hsigM⟩ := Cond.code_spec hnamed hcode
  have hstatic : methM.isStatic = true := Cond.static_spec hnamed hmethM hstat
  obtain ⟨kP, hkP, -⟩ := className_of_methodNamed hnamed
  have hinitP : kP.init = .initialized := Cond.initialized_spec (findClass_of_methodNamed hnamed) hkP hinit
  obtain ⟨vm₁, X₁, hstep₁⟩ := X.invokestatic hexec hown hlink hnamed hmethM hstatic hkP hinitP hy (g := g) hg (argsL := argsL) (rest := rest) (hlen _ hsigM) hstack hdg
  rcases hK m meth c ⟨T.setVm vm₁, locs, cells, slots⟩ { g with stack := rest } (.invokestatic index) mk argsL.toArray X₁ hg hsize hdg hW (X₁.named hnamed) (hpre vm₁ X₁.warmed) with ⟨v, B, X', hpost, hsteps⟩ | ⟨q, B, X', hpost, hsteps⟩
  · exact Or.inl ⟨v, vm₁, B, X₁.warmed, X', hpost, fun target h => hstep₁ _ fun acts => by rw [doInvoke_state]; exact hsteps.trans h⟩
  · exact Or.inr ⟨q, vm₁, B, X₁.warmed, X', hpost, hstep₁ _ fun acts => by rw [doInvoke_state]; exact hsteps⟩
end Calls
theorem vx_cls {s : State} {T : State} {vm₁ : Vm} {E : String} {k : ClassId} (hW : s.WarmedH vm₁) (h : (T.setVm vm₁).vm.findClass E = some k) : s.vm.findClass E = some k := by
  have h1 : vm₁.findClass E = some k := h
  rw [hW.alike.findClass] at h1
  exact h1
/-- the method's frame g, with q thrown over it -/
def vx_W (p : Program) (l : Launch) (e : Env) (R : Room) (s : State) (m : MethodId) (args : Array Value) (below : List Frame) (meth : Method) (c : Code) (H : Heap) (locs : List Loc) (cells slots : Nat) (Q : State → Prop) (g : JFrame) (q : Addr) : Prop :=
  ∀ T : State, T.heap = H → Stand p l e R s m args below meth c T locs cells slots → ∃ t, Steps p.tables e below ((T.setTop g).pushFrame (.throwing q)) t ∧ Q t
def vx_Run (p : Program) (l : Launch) (e : Env) (R : Room) (s : State) (m : MethodId) (args : Array Value) (below : List Frame) (meth : Method) (c : Code) (H : Heap) (locs : List Loc) (cells slots mc ms : Nat) (g : JFrame) (rest : List Value) (Qa : State → Outcome → State → Prop) (XC : String → State → State → Prop) (free : Addr → Prop) : Prop :=
  ∀ T : State, T.heap = H → Stand p l e R s m args below meth c T locs cells slots →
    (∃ (v : Option Value) (st₀ t T' : State) (L : List Loc), st₀.heap = H ∧ Stand p l e R s m args below meth c T' (locs ++ L) (cells + mc) (slots + ms) ∧ (∀ q ∈ L, free q.base) ∧ T'.heap = t.heap ∧ T'.vm = t.vm ∧ Qa st₀ (.returned v) t ∧
      Goes p e below T g T' { g with pc := g.pc + 3, stack := v.toList ++ rest }) ∨
    (∃ (q : Addr) (st₀ t T' : State) (L : List Loc) (E : String) (ce : Cell), st₀.heap = H ∧ Stand p l e R s m args below meth c T' (locs ++ L) (cells + mc) (slots + ms) ∧ (∀ z ∈ L, free z.base) ∧ T'.heap = t.heap ∧ T'.vm = t.vm ∧ XC E st₀ t ∧ t.heap[q]? = some ce ∧ ce.vm = .none ∧ s.vm.findClass E = some ce.cls ∧
      Steps p.tables e below (T.setTop g) ((T'.setTop { g with stack := rest }).pushFrame (.throwing q)))
def vx_X {S : Type} (px : S → Prop) (B : String → S → State → Prop) (A : Nat → Prop) : String → State → State → Prop := fun E st t => ∃ u : S, px u ∧ B E u t ∧ va_F A st t
section Runs
variable {p : Program} {l : Launch} {e : Env} {R : Room} {s : State} {m : MethodId} {args : Array Value} {below : List Frame} {meth : Method} {c : Code} {H : Heap} {locs : List Loc} {cells slots : Nat}
variable {y : MethodName} {bytes cc : ByteArray} {maxL nL mc ms n index : Nat} {ret : Option FieldType} {ws : List Cond} {rm : Room} {Pc : Array Value → State → Prop} {Qc : Array Value → State → Outcome → State → Prop} {XC : String → State → State → Prop} {free : Addr → Prop} {Ts : List Cond} {own C : String} {b : Addr} {As rest : List Value} {g : JFrame}
theorem vx_callBack (cb : CallB R s args own index y bytes maxL ret ws rm mc ms n) (hM : vx_Met l y ws rm Pc Qc XC mc ms free) (hbl : FrameBlind Pc) : vx_Back l R p e below s args y 3 8 (PreOf R mc ms Pc) (PostOf Qc mc ms free) (vx_Post XC mc ms free) := by
  obtain ⟨hrc, hrs, hfr, hlo, hws, hcw, -, hini, -⟩ := cb
  exact vx_back (bytes := bytes) (maxL := maxL) (ret := ret) hM hbl hrc hrs hfr hlo hws hcw (fun a' U hW => word_at hW (Or.inl (by first | rfl | simp [Cond.onTables, Cond.keeps, Cond.steady])) hini)
theorem vx_runV (S : CallFix p m c cc nL s args Ts own) (hM : vx_Met l y ws rm Pc Qc XC mc ms free) (cw : CallW R s args own C index y bytes maxL ret ws rm mc ms n) (hp : PreV s H C b Pc As)
    (hg : g.method = m) (hn : As.length = n) (hsize : g.locals.size = nL) (hstack : g.stack = As.reverse ++ .ref b :: rest) (hW : 2 * g.monitorRoom + (rest.map fun v => v.category).sum ≤ 8) (hdg : decode cc g.pc = .ok (.invokevirtual index, 3)) (hf : cells + mc ≤ R.cells ∧ slots + ms ≤ R.slots) :
    vx_Run p l e R s m args below meth c H locs cells slots mc ms g rest (Qc (Value.ref b :: As).toArray) XC free := by
  have hK : vx_Back l R p e below s args y 3 8 (PreOf R mc ms Pc) (PostOf Qc mc ms free) (vx_Post XC mc ms free) := vx_callBack cw.1 hM hp.1
  obtain ⟨⟨-, -, -, -, -, -, hcode, -, hy, hlen, hl⟩, hin, hse⟩ := cw
  obtain ⟨hx, hb, hml, ho, -⟩ := S
  obtain ⟨-, ⟨cellB, hcB, hoB, hclB⟩, hPc⟩ := hp
  intro T hT X
  rcases vx_callV X hx (C := C) (bytes := bytes) (maxL := maxL) (ret := ret) ho hl hin hse hcode hy hK (by rw [hT]; exact hcB) hoB hclB hg (hsize.trans hml.symm) (argsL := As) (rest := rest) (fun sig h => hn.trans (hlen sig h)) hstack hW (by rw [hb]; exact hdg)
    (fun vm₁ hW₁ => ⟨hf.1, hf.2, hPc (T.setVm vm₁) hT hW₁⟩) with ⟨v, vm₁, ⟨U', l2, c2, s2⟩, hW₁, X', ⟨g', mk, t, L, e1, e2, hq, h1, hL, h2, h3⟩, st⟩ | ⟨q, vm₁, ⟨U', l2, c2, s2⟩, hW₁, X', ⟨g', mk, t, L, E, ce, e1, e2, hq, hce, hcv, hcl, h1, hL, h2, h3⟩, st⟩
  · dsimp only [Pt.U, Pt.locs, Pt.cells, Pt.slots] at X' e1 e2 h1 h2 h3 st
    subst h1; subst h2; subst h3
    exact Or.inl ⟨v, (T.setVm vm₁).calling g' mk (Value.ref b :: As).toArray, t, U', L, hT, X', hL, e1, e2, hq, st⟩
  · dsimp only [Pt.U, Pt.locs, Pt.cells, Pt.slots] at X' e1 e2 h1 h2 h3 st hcl
    subst h1; subst h2; subst h3
    exact Or.inr ⟨q, (T.setVm vm₁).calling g' mk (Value.ref b :: As).toArray, t, U', L, E, ce, hT, X', hL, e1, e2, hq, hce, hcv, vx_cls hW₁ hcl, st⟩
theorem vx_runS (S : CallFix p m c cc nL s args Ts own) (hM : vx_Met l y ws rm Pc Qc XC mc ms free) (cw : CallB R s args own index y bytes maxL ret ws rm mc ms n ∧ (Cond.static y).before args s = true) (hp : PreS s H Pc As)
    (hg : g.method = m) (hn : As.length = n) (hsize : g.locals.size = nL) (hstack : g.stack = As.reverse ++ rest) (hW : 2 * g.monitorRoom + (rest.map fun v => v.category).sum ≤ 8) (hdg : decode cc g.pc = .ok (.invokestatic index, 3)) (hf : cells + mc ≤ R.cells ∧ slots + ms ≤ R.slots) :
    vx_Run p l e R s m args below meth c H locs cells slots mc ms g rest (Qc As.toArray) XC free := by
  have hK : vx_Back l R p e below s args y 3 8 (PreOf R mc ms Pc) (PostOf Qc mc ms free) (vx_Post XC mc ms free) := vx_callBack cw.1 hM hp.1
  obtain ⟨⟨-, -, -, -, -, -, hcode, hini, hy, hlen, hl⟩, hstt⟩ := cw
  obtain ⟨hx, hb, hml, ho, -⟩ := S
  intro T hT X
  rcases vx_callS X hx (bytes := bytes) (maxL := maxL) (ret := ret) ho hl hstt hini hcode hy hK hg (hsize.trans hml.symm) (argsL := As) (rest := rest) (fun sig h => hn.trans (hlen sig h)) hstack hW (by rw [hb]; exact hdg)
    (fun vm₁ hW₁ => ⟨hf.1, hf.2, hp.2 (T.setVm vm₁) hT hW₁⟩) with ⟨v, vm₁, ⟨U', l2, c2, s2⟩, hW₁, X', ⟨g', mk, t, L, e1, e2, hq, h1, hL, h2, h3⟩, st⟩ | ⟨q, vm₁, ⟨U', l2, c2, s2⟩, hW₁, X', ⟨g', mk, t, L, E, ce, e1, e2, hq, hce, hcv, hcl, h1, hL, h2, h3⟩, st⟩
  · dsimp only [Pt.U, Pt.locs, Pt.cells, Pt.slots] at X' e1 e2 h1 h2 h3 st
    subst h1; subst h2; subst h3
    exact Or.inl ⟨v, (T.setVm vm₁).calling g' mk As.toArray, t, U', L, hT, X', hL, e1, e2, hq, st⟩
  · dsimp only [Pt.U, Pt.locs, Pt.cells, Pt.slots] at X' e1 e2 h1 h2 h3 st hcl
    subst h1; subst h2; subst h3
    exact Or.inr ⟨q, (T.setVm vm₁).calling g' mk As.toArray, t, U', L, E, ce, hT, X', hL, e1, e2, hq, hce, hcv, vx_cls hW₁ hcl, st⟩
end Runs
section Rows
variable {p : Program} {l : Launch} {e : Env} {R : Room} {s : State} {m : MethodId} {args : Array Value} {below : List Frame} {meth : Method} {c : Code} {H : Heap} {locs : List Loc} {cells slots : Nat} {Q : State → Prop}
variable {mc ms : Nat} {free : Addr → Prop} {A0 A1 : Nat → Prop} {H0 : Heap} {a : Array Value} {pc : Nat} {ls : Array Slot} {st0 rest : List Value}
theorem vx_keep {st₀ t T' : State} {L : List Loc} (h0 : st₀.heap = H) (e1 : T'.heap = t.heap) (hS : va_S A0 H0 H locs) (hA : ∀ q, q < H.size → A1 q → A0 q) (hf : ∀ q, free q → A0 q) (hL : ∀ q ∈ L, free q.base) (hF : va_F A1 st₀ t) :
    H.size ≤ T'.heap.size ∧ (∀ q : Nat, q < H.size → ¬ A1 q → T'.heap[q]? = H[q]?) ∧ va_S A0 H0 T'.heap (locs ++ L) := by
  obtain ⟨hz, hk⟩ := hF
  rw [h0] at hz hk
  exact ⟨by rw [e1]; exact hz, fun q h1 h2 => by rw [e1]; exact hk q h1 h2,
    ⟨Nat.le_trans hS.1 (by rw [e1]; exact hz), fun q h1 h2 => by rw [e1, hk q (Nat.lt_of_lt_of_le h1 hS.1) (fun z => h2 (hA q (Nat.lt_of_lt_of_le h1 hS.1) z))]; exact hS.2.1 q h1 h2, fun q hq => by
      rcases List.mem_append.mp hq with h | h
      · exact hS.2.2 q h
      · exact hf _ (hL q h)⟩⟩
theorem vx_calli {S SX : Type} {post : Int32 → S → Prop} {px : SX → Prop} {B : S → State → Prop} {BX : String → SX → State → Prop} {AX : Nat → Prop} (hr : vx_Run p l e R s m args below meth c H locs cells slots mc ms (F0 m pc ls st0) rest (va_Qi post B A1 a) (vx_X px BX AX) free) (hS : va_S A0 H0 H locs) (hA : ∀ q, q < H.size → A1 q → A0 q) (hf : ∀ q, free q → A0 q) (hAX : ∀ q, q < H.size → AX q → A0 q)
    (kx : ∀ (E : String) (ce : Cell) (q9 : Addr) (u : SX) (t : State) (H1 : Heap) (locs1 : List Loc), t.heap = H1 → s.vm.Alike t.vm → px u → BX E u t → H.size ≤ H1.size → (∀ q : Nat, q < H.size → ¬ AX q → H1[q]? = H[q]?) → va_S A0 H0 H1 locs1 → H1[q9]? = some ce → ce.vm = .none → s.vm.findClass E = some ce.cls → vx_W p l e R s m args below meth c H1 locs1 (cells + mc) (slots + ms) Q (F0 m pc ls rest) q9)
    (kk : ∀ (r : Int32) (u : S) (t : State) (H1 : Heap) (locs1 : List Loc), t.heap = H1 → s.vm.Alike t.vm → post r u → B u t → H.size ≤ H1.size → (∀ q : Nat, q < H.size → ¬ A1 q → H1[q]? = H[q]?) → va_S A0 H0 H1 locs1 → W p l e R s m args below meth c H1 locs1 (cells + mc) (slots + ms) Q (F0 m (pc + 3) ls (.int r :: rest))) : W p l e R s m args below meth c H locs cells slots Q (F0 m pc ls st0) := by
  intro T hT X
  rcases hr T hT X with ⟨v, st₀, t, T', L, h0, X', hL, e1, e2, ⟨⟨r, u, hv, hp, hb⟩, hF⟩, st⟩ | ⟨q, st₀, t, T', L, E, ce, h0, X', hL, e1, e2, ⟨u, hp, hb, hF⟩, hce, hcv, hcl, st⟩
  · cases hv
    obtain ⟨k1, k2, k3⟩ := vx_keep h0 e1 hS hA hf hL hF
    obtain ⟨t2, a1, b1⟩ := kk r u t T'.heap (locs ++ L) e1.symm (by rw [← e2]; exact X'.warmed.alike) hp hb k1 k2 k3 T' rfl X'
    exact ⟨t2, st t2 a1, b1⟩
  · obtain ⟨k1, k2, k3⟩ := vx_keep h0 e1 hS hAX hf hL hF
    obtain ⟨t2, a1, b1⟩ := kx E ce q u t T'.heap (locs ++ L) e1.symm (by rw [← e2]; exact X'.warmed.alike) hp hb k1 k2 k3 (by rw [e1]; exact hce) hcv hcl T' rfl X'
    exact ⟨t2, st.trans a1, b1⟩
theorem vx_calll {S SX : Type} {post : Int64 → S → Prop} {px : SX → Prop} {B : S → State → Prop} {BX : String → SX → State → Prop} {AX : Nat → Prop} (hr : vx_Run p l e R s m args below meth c H locs cells slots mc ms (F0 m pc ls st0) rest (va_Ql post B A1 a) (vx_X px BX AX) free) (hS : va_S A0 H0 H locs) (hA : ∀ q, q < H.size → A1 q → A0 q) (hf : ∀ q, free q → A0 q) (hAX : ∀ q, q < H.size → AX q → A0 q)
    (kx : ∀ (E : String) (ce : Cell) (q9 : Addr) (u : SX) (t : State) (H1 : Heap) (locs1 : List Loc), t.heap = H1 → s.vm.Alike t.vm → px u → BX E u t → H.size ≤ H1.size → (∀ q : Nat, q < H.size → ¬ AX q → H1[q]? = H[q]?) → va_S A0 H0 H1 locs1 → H1[q9]? = some ce → ce.vm = .none → s.vm.findClass E = some ce.cls → vx_W p l e R s m args below meth c H1 locs1 (cells + mc) (slots + ms) Q (F0 m pc ls rest) q9)
    (kk : ∀ (r : Int64) (u : S) (t : State) (H1 : Heap) (locs1 : List Loc), t.heap = H1 → s.vm.Alike t.vm → post r u → B u t → H.size ≤ H1.size → (∀ q : Nat, q < H.size → ¬ A1 q → H1[q]? = H[q]?) → va_S A0 H0 H1 locs1 → W p l e R s m args below meth c H1 locs1 (cells + mc) (slots + ms) Q (F0 m (pc + 3) ls (.long r :: rest))) : W p l e R s m args below meth c H locs cells slots Q (F0 m pc ls st0) := by
  intro T hT X
  rcases hr T hT X with ⟨v, st₀, t, T', L, h0, X', hL, e1, e2, ⟨⟨r, u, hv, hp, hb⟩, hF⟩, st⟩ | ⟨q, st₀, t, T', L, E, ce, h0, X', hL, e1, e2, ⟨u, hp, hb, hF⟩, hce, hcv, hcl, st⟩
  · cases hv
    obtain ⟨k1, k2, k3⟩ := vx_keep h0 e1 hS hA hf hL hF
    obtain ⟨t2, a1, b1⟩ := kk r u t T'.heap (locs ++ L) e1.symm (by rw [← e2]; exact X'.warmed.alike) hp hb k1 k2 k3 T' rfl X'
    exact ⟨t2, st t2 a1, b1⟩
  · obtain ⟨k1, k2, k3⟩ := vx_keep h0 e1 hS hAX hf hL hF
    obtain ⟨t2, a1, b1⟩ := kx E ce q u t T'.heap (locs ++ L) e1.symm (by rw [← e2]; exact X'.warmed.alike) hp hb k1 k2 k3 (by rw [e1]; exact hce) hcv hcl T' rfl X'
    exact ⟨t2, st.trans a1, b1⟩
theorem vx_callf {S SX : Type} {post : UInt32 → S → Prop} {px : SX → Prop} {B : S → State → Prop} {BX : String → SX → State → Prop} {AX : Nat → Prop} (hr : vx_Run p l e R s m args below meth c H locs cells slots mc ms (F0 m pc ls st0) rest (va_Qf post B A1 a) (vx_X px BX AX) free) (hS : va_S A0 H0 H locs) (hA : ∀ q, q < H.size → A1 q → A0 q) (hf : ∀ q, free q → A0 q) (hAX : ∀ q, q < H.size → AX q → A0 q)
    (kx : ∀ (E : String) (ce : Cell) (q9 : Addr) (u : SX) (t : State) (H1 : Heap) (locs1 : List Loc), t.heap = H1 → s.vm.Alike t.vm → px u → BX E u t → H.size ≤ H1.size → (∀ q : Nat, q < H.size → ¬ AX q → H1[q]? = H[q]?) → va_S A0 H0 H1 locs1 → H1[q9]? = some ce → ce.vm = .none → s.vm.findClass E = some ce.cls → vx_W p l e R s m args below meth c H1 locs1 (cells + mc) (slots + ms) Q (F0 m pc ls rest) q9)
    (kk : ∀ (r : UInt32) (u : S) (t : State) (H1 : Heap) (locs1 : List Loc), t.heap = H1 → s.vm.Alike t.vm → post r u → B u t → H.size ≤ H1.size → (∀ q : Nat, q < H.size → ¬ A1 q → H1[q]? = H[q]?) → va_S A0 H0 H1 locs1 → W p l e R s m args below meth c H1 locs1 (cells + mc) (slots + ms) Q (F0 m (pc + 3) ls (.float r :: rest))) : W p l e R s m args below meth c H locs cells slots Q (F0 m pc ls st0) := by
  intro T hT X
  rcases hr T hT X with ⟨v, st₀, t, T', L, h0, X', hL, e1, e2, ⟨⟨r, u, hv, hp, hb⟩, hF⟩, st⟩ | ⟨q, st₀, t, T', L, E, ce, h0, X', hL, e1, e2, ⟨u, hp, hb, hF⟩, hce, hcv, hcl, st⟩
  · cases hv
    obtain ⟨k1, k2, k3⟩ := vx_keep h0 e1 hS hA hf hL hF
    obtain ⟨t2, a1, b1⟩ := kk r u t T'.heap (locs ++ L) e1.symm (by rw [← e2]; exact X'.warmed.alike) hp hb k1 k2 k3 T' rfl X'
    exact ⟨t2, st t2 a1, b1⟩
  · obtain ⟨k1, k2, k3⟩ := vx_keep h0 e1 hS hAX hf hL hF
    obtain ⟨t2, a1, b1⟩ := kx E ce q u t T'.heap (locs ++ L) e1.symm (by rw [← e2]; exact X'.warmed.alike) hp hb k1 k2 k3 (by rw [e1]; exact hce) hcv hcl T' rfl X'
    exact ⟨t2, st.trans a1, b1⟩
theorem vx_calld {S SX : Type} {post : UInt64 → S → Prop} {px : SX → Prop} {B : S → State → Prop} {BX : String → SX → State → Prop} {AX : Nat → Prop} (hr : vx_Run p l e R s m args below meth c H locs cells slots mc ms (F0 m pc ls st0) rest (va_Qd post B A1 a) (vx_X px BX AX) free) (hS : va_S A0 H0 H locs) (hA : ∀ q, q < H.size → A1 q → A0 q) (hf : ∀ q, free q → A0 q) (hAX : ∀ q, q < H.size → AX q → A0 q)
    (kx : ∀ (E : String) (ce : Cell) (q9 : Addr) (u : SX) (t : State) (H1 : Heap) (locs1 : List Loc), t.heap = H1 → s.vm.Alike t.vm → px u → BX E u t → H.size ≤ H1.size → (∀ q : Nat, q < H.size → ¬ AX q → H1[q]? = H[q]?) → va_S A0 H0 H1 locs1 → H1[q9]? = some ce → ce.vm = .none → s.vm.findClass E = some ce.cls → vx_W p l e R s m args below meth c H1 locs1 (cells + mc) (slots + ms) Q (F0 m pc ls rest) q9)
    (kk : ∀ (r : UInt64) (u : S) (t : State) (H1 : Heap) (locs1 : List Loc), t.heap = H1 → s.vm.Alike t.vm → post r u → B u t → H.size ≤ H1.size → (∀ q : Nat, q < H.size → ¬ A1 q → H1[q]? = H[q]?) → va_S A0 H0 H1 locs1 → W p l e R s m args below meth c H1 locs1 (cells + mc) (slots + ms) Q (F0 m (pc + 3) ls (.double r :: rest))) : W p l e R s m args below meth c H locs cells slots Q (F0 m pc ls st0) := by
  intro T hT X
  rcases hr T hT X with ⟨v, st₀, t, T', L, h0, X', hL, e1, e2, ⟨⟨r, u, hv, hp, hb⟩, hF⟩, st⟩ | ⟨q, st₀, t, T', L, E, ce, h0, X', hL, e1, e2, ⟨u, hp, hb, hF⟩, hce, hcv, hcl, st⟩
  · cases hv
    obtain ⟨k1, k2, k3⟩ := vx_keep h0 e1 hS hA hf hL hF
    obtain ⟨t2, a1, b1⟩ := kk r u t T'.heap (locs ++ L) e1.symm (by rw [← e2]; exact X'.warmed.alike) hp hb k1 k2 k3 T' rfl X'
    exact ⟨t2, st t2 a1, b1⟩
  · obtain ⟨k1, k2, k3⟩ := vx_keep h0 e1 hS hAX hf hL hF
    obtain ⟨t2, a1, b1⟩ := kx E ce q u t T'.heap (locs ++ L) e1.symm (by rw [← e2]; exact X'.warmed.alike) hp hb k1 k2 k3 (by rw [e1]; exact hce) hcv hcl T' rfl X'
    exact ⟨t2, st.trans a1, b1⟩
theorem vx_callv {S SX : Type} {post : S → Prop} {px : SX → Prop} {B : S → State → Prop} {BX : String → SX → State → Prop} {AX : Nat → Prop} (hr : vx_Run p l e R s m args below meth c H locs cells slots mc ms (F0 m pc ls st0) rest (va_Qv post B A1 a) (vx_X px BX AX) free) (hS : va_S A0 H0 H locs) (hA : ∀ q, q < H.size → A1 q → A0 q) (hf : ∀ q, free q → A0 q) (hAX : ∀ q, q < H.size → AX q → A0 q)
    (kx : ∀ (E : String) (ce : Cell) (q9 : Addr) (u : SX) (t : State) (H1 : Heap) (locs1 : List Loc), t.heap = H1 → s.vm.Alike t.vm → px u → BX E u t → H.size ≤ H1.size → (∀ q : Nat, q < H.size → ¬ AX q → H1[q]? = H[q]?) → va_S A0 H0 H1 locs1 → H1[q9]? = some ce → ce.vm = .none → s.vm.findClass E = some ce.cls → vx_W p l e R s m args below meth c H1 locs1 (cells + mc) (slots + ms) Q (F0 m pc ls rest) q9)
    (kk : ∀ (u : S) (t : State) (H1 : Heap) (locs1 : List Loc), t.heap = H1 → s.vm.Alike t.vm → post u → B u t → H.size ≤ H1.size → (∀ q : Nat, q < H.size → ¬ A1 q → H1[q]? = H[q]?) → va_S A0 H0 H1 locs1 → W p l e R s m args below meth c H1 locs1 (cells + mc) (slots + ms) Q (F0 m (pc + 3) ls (rest))) : W p l e R s m args below meth c H locs cells slots Q (F0 m pc ls st0) := by
  intro T hT X
  rcases hr T hT X with ⟨v, st₀, t, T', L, h0, X', hL, e1, e2, ⟨⟨u, hv, hp, hb⟩, hF⟩, st⟩ | ⟨q, st₀, t, T', L, E, ce, h0, X', hL, e1, e2, ⟨u, hp, hb, hF⟩, hce, hcv, hcl, st⟩
  · cases hv
    obtain ⟨k1, k2, k3⟩ := vx_keep h0 e1 hS hA hf hL hF
    obtain ⟨t2, a1, b1⟩ := kk u t T'.heap (locs ++ L) e1.symm (by rw [← e2]; exact X'.warmed.alike) hp hb k1 k2 k3 T' rfl X'
    exact ⟨t2, st t2 a1, b1⟩
  · obtain ⟨k1, k2, k3⟩ := vx_keep h0 e1 hS hAX hf hL hF
    obtain ⟨t2, a1, b1⟩ := kx E ce q u t T'.heap (locs ++ L) e1.symm (by rw [← e2]; exact X'.warmed.alike) hp hb k1 k2 k3 (by rw [e1]; exact hce) hcv hcl T' rfl X'
    exact ⟨t2, st.trans a1, b1⟩
/-- caught by the row x of this method's table; the rows ahead don't take it -/
theorem vx_catch {own name : String} {E : String} {ce : Cell} {q : Addr} (hown : s.vm.findClass own = some m.cls) (pre : List ExceptionTableEntry) (x : ExceptionTableEntry) (suf : List ExceptionTableEntry) (hsplit : c.exceptionTable.toList = pre ++ x :: suf)
    (hpass : ∀ z ∈ pre, covers z pc = false ∨ (z.catchType ≠ 0 ∧ ∃ nm : String, (Cond.classLink own z.catchType nm).before args s = true ∧ va_Nc E nm s)) (hx : covers x pc = true) (h0 : x.catchType ≠ 0)
    (hlink : (Cond.classLink own x.catchType name).before args s = true) (hcast : (Cond.castable E name).before args s = true) (hcell : H[q]? = some ce) (hv : ce.vm = .none) (hcl : s.vm.findClass E = some ce.cls)
    (kk : W p l e R s m args below meth c H locs cells slots Q (F0 m x.handlerPc ls [.ref q])) : vx_W p l e R s m args below meth c H locs cells slots Q (F0 m pc ls rest) q := by
  intro T hT X
  have hpl : e.platform.magicAccessors = ({} : Platform).magicAccessors := by rw [X.admits.platform]
  obtain ⟨c3, c4, hc3, hc4, hasg⟩ := Cond.castable_spec hcast
  cases Option.some.inj (hc3.symm.trans hcl)
  obtain ⟨c5, hc5, hcl5⟩ := Cond.classLink_spec hown hlink e.platform hpl
  cases Option.some.inj (hc4.symm.trans hc5)
  obtain ⟨vm', X', st⟩ := X.thenCaughtThrough q (g := F0 m pc ls rest) rfl (Steps.refl _) (by rw [hT]; exact hcell) (by rw [hv]; rfl) (by obtain ⟨k9, h9, -⟩ := Vm.findClass_spec hcl; exact ⟨k9, h9⟩) pre x suf hsplit
    (fun z hz => by
      rcases hpass z hz with h | ⟨hz0, nm, hl1, hn1⟩
      · exact Or.inl h
      · obtain ⟨c6, hc6, hcl6⟩ := Cond.classLink_spec hown hl1 e.platform hpl
        obtain ⟨a8, b8, h1, h2, h3⟩ := hn1
        cases Option.some.inj (h1.symm.trans hcl)
        cases Option.some.inj (h2.symm.trans hc6)
        exact Or.inr ⟨hz0, _, hcl6, h3⟩) hx (Or.inr ⟨h0, c4, hcl5, hasg⟩)
  obtain ⟨t, a1, b1⟩ := kk (T.setVm vm') hT X'
  exact ⟨t, st.trans a1, b1⟩
end Rows
section Ends
variable {p : Program} {l : Launch} {e : Env} {R : Room} {s : State} {m : MethodId} {args : Array Value} {below : List Frame} {meth : Method} {c : Code} {H : Heap} {locs : List Loc} {cells slots : Nat} {Q : State → Prop}
variable {mc ms : Nat} {free : Addr → Prop} {A0 A1 : Nat → Prop} {H0 : Heap} {a : Array Value} {ls : Array Slot} {st0 rest : List Value}
variable {Qc : Array Value → State → Outcome → State → Prop} {XC : String → State → State → Prop}
/-- what a body that may throw owes at its end -/
def vx_MQ (below : List Frame) (Qc : Array Value → State → Outcome → State → Prop) (XC : String → State → State → Prop) (a : Array Value) (s : State) (mc ms : Nat) (free : Addr → Prop) : State → Prop := fun t =>
  ∃ o, t.status = .running ∧ Ended t below o ∧ vx_Q Qc XC mc ms free a s o t
theorem vx_ret {g : JFrame} {mc ms : Nat} (k : W p l e R s m args below meth c H locs cells slots (MQ below Qc args s mc ms free) g) : W p l e R s m args below meth c H locs cells slots (vx_MQ below Qc XC args s mc ms free) g := by
  intro T hT X
  obtain ⟨t, a1, o, b1, b2, b3, b4⟩ := k T hT X
  exact ⟨t, a1, o, b1, b2, Or.inl ⟨b3, b4⟩⟩
/-- not caught here: it goes on to the caller -/
theorem vx_widen {g : JFrame} {q : Addr} {k n : Nat} (h1 : cells ≤ k) (h2 : slots ≤ n) (kk : vx_W p l e R s m args below meth c H locs k n Q g q) : vx_W p l e R s m args below meth c H locs cells slots Q g q := fun T hT X => kk T hT (stand_widen X h1 h2)
theorem vx_out {pc : Nat} {E : String} {ce : Cell} {q : Addr} {mc ms : Nat} (hout : ∀ x ∈ c.exceptionTable.toList, covers x pc = false) (hlocks : meth.locks = false) (hcell : H[q]? = some ce) (hv : ce.vm = .none) (hcl : s.vm.findClass E = some ce.cls)
    (hx : ∀ t : State, t.heap = H → s.vm.Alike t.vm → XC E s t) (hf : ∀ z ∈ locs, free z.base) (hc : cells ≤ mc) (hs : slots ≤ ms) :
    vx_W p l e R s m args below meth c H locs cells slots (vx_MQ below Qc XC args s mc ms free) (F0 m pc ls rest) q := by
  intro T hT X
  obtain ⟨st1, hrun, hend, hW, hsm⟩ := X.leaveThrown q (g := F0 m pc ls rest) rfl rfl rfl hout hlocks
  have hcell9 : (T.setFrames (.throwing q :: below)).heap[q]? = some ce := by
    show T.heap[q]? = some ce
    rw [hT]; exact hcell
  exact ⟨_, st1, .threw q, hrun, hend, Or.inr ⟨q, rfl, E, ce, locs, hx _ hT hW.alike, hcell9, hv, hcl, hW, hsm.mono hc hs, hf⟩⟩
theorem vx_frame {U : State} {k n : Nat} (h : s.sameButNew ({ U with vm := s.vm } : State) locs k n) : s.heap.size ≤ U.heap.size ∧ ∀ q : Nat, q < s.heap.size → (∀ z ∈ locs, z.base ≠ q) → U.heap[q]? = s.heap[q]? := by
  obtain ⟨-, h2, -, -, -, h6⟩ := h
  refine ⟨h2, fun q hq hz => ?_⟩
  obtain ⟨c9, e1, e2, e3, e4⟩ := h6 q _ (Array.getElem?_eq_getElem hq)
  have hs : c9.slots = (s.heap[q]).slots := Array.ext_getElem? fun i => e4 i fun hm => hz _ hm rfl
  have h9 : c9 = s.heap[q] := by
    rw [hs] at e2
    exact e2
  have e5 : U.heap[q]? = some c9 := e1
  rw [e5, h9, Array.getElem?_eq_getElem hq]
/-- the words of a throw but the four that speak of the heap -/
def vx_no (w : Cond) : Bool := decide (w ≠ .isRef (.static Bundle.tN "UNASSIGNED_STACK" Bundle.steD)) && decide (w ≠ .isRef (.static Bundle.tN "SUPPRESSED_SENTINEL" Bundle.listD)) && decide (w ≠ .laysStatic Bundle.tN "UNASSIGNED_STACK" Bundle.steD) && decide (w ≠ .laysStatic Bundle.tN "SUPPRESSED_SENTINEL" Bundle.listD)
def vx_at0 (own : String) (ic : Nat) (X : String) (names : List String) : List Cond := (Bundle.ownAtoms0 own ic X names).filter vx_no
def vx_atS (own : String) (ic : Nat) (X : String) (names : List String) : List Cond := (Bundle.ownAtoms own ic X names).filter vx_no
/-- a word that the tables alone decide, or a good one -/
def vx_ot (w : Cond) : Bool := w.onTables || goodWord w
theorem vx_ot_at {args a' : Array Value} {s U : State} {w : Cond} (hW : s.WarmedH U.vm) (hvm : s.vm = U.vm) (hg : vx_ot w = true) (h : w.before args s = true) : w.before a' U = true := by
  simp only [vx_ot, Bool.or_eq_true] at hg
  rcases hg with hg | hg
  · exact va_tabs hg hvm h
  · exact word_at hW (good_of_word hg) h
/-- a list's words: the good ones out of the method's own list, the others by premises of their own -/
theorem vx_hat {args : Array Value} {s : State} {L B : List Cond} (h1 : ∀ w ∈ L.filter goodWord, w.before args s = true) (h2 : ∀ w ∈ L.filter (fun w => !goodWord w), w ∈ B) (h3 : ∀ w ∈ B, w.before args s = true) : ∀ w ∈ L, w.before args s = true := by
  intro w hw
  by_cases g : goodWord w = true
  · exact h1 w (List.mem_filter.mpr ⟨hw, g⟩)
  · refine h3 w (h2 w (List.mem_filter.mpr ⟨hw, ?_⟩))
    show (!goodWord w) = true
    cases hgw : goodWord w
    · rfl
    · exact absurd hgw g
theorem vx_c {args : Array Value} {s : State} {w : Cond} {B : List Cond} (h : w.before args s = true) (t : ∀ w ∈ B, w.before args s = true) : ∀ w' ∈ w :: B, w'.before args s = true := fun w' h' => (List.mem_cons.mp h').elim (fun e => by rw [e]; exact h) (t w')
theorem vx_n {args : Array Value} {s : State} : ∀ w ∈ ([] : List Cond), w.before args s = true := fun _ h => nomatch h
theorem vx_own {args : Array Value} {s : State} {L : List Cond} (h1 : ∀ w ∈ L.filter vx_no, w.before args s = true)
    (hU : (Cond.isRef (.static Bundle.tN "UNASSIGNED_STACK" Bundle.steD)).before args s = true) (hN : (Cond.isRef (.static Bundle.tN "SUPPRESSED_SENTINEL" Bundle.listD)).before args s = true)
    (lU : (Cond.laysStatic Bundle.tN "UNASSIGNED_STACK" Bundle.steD).before args s = true) (lN : (Cond.laysStatic Bundle.tN "SUPPRESSED_SENTINEL" Bundle.listD).before args s = true) : ∀ w ∈ L, w.before args s = true := by
  intro w hw
  by_cases e1 : w = .isRef (.static Bundle.tN "UNASSIGNED_STACK" Bundle.steD)
  · rw [e1]; exact hU
  · by_cases e2 : w = .isRef (.static Bundle.tN "SUPPRESSED_SENTINEL" Bundle.listD)
    · rw [e2]; exact hN
    · by_cases e3 : w = .laysStatic Bundle.tN "UNASSIGNED_STACK" Bundle.steD
      · rw [e3]; exact lU
      · by_cases e4 : w = .laysStatic Bundle.tN "SUPPRESSED_SENTINEL" Bundle.listD
        · rw [e4]; exact lN
        · exact h1 w (List.mem_filter.mpr ⟨hw, by unfold vx_no; rw [decide_eq_true e1, decide_eq_true e2, decide_eq_true e3, decide_eq_true e4]; rfl⟩)
/-- where a static field lies, its class's statics cell in H -/
def vx_L (C n d : String) (A : Nat → Prop) (U : State) (H : Heap) : Prop := ∃ (c : ClassId) (k : Class) (i : Nat) (f : Field) (a : Nat) (cell : Cell), U.vm.findClass C = some c ∧ U.fieldFound? C n d = some (c, k, i, f) ∧ f.isStatic = true ∧ k.statics = some a ∧ H[a]? = some cell ∧ cell.vm.isStatics = true ∧ cell.cls = c ∧ f.slot < cell.slots.size ∧ k.staticTypes[f.slot]? = some f.type ∧ ¬ A a
theorem vx_L.moved {C n d : String} {A : Nat → Prop} {u U : State} {H : Heap} (hvm : u.vm.Alike U.vm) (h : vx_L C n d A u H) : vx_L C n d A U H := by
  obtain ⟨c, k, i, f, a, cell, h1, h2, h3, h4, h5, h6, h7, h8, h9, h10⟩ := h
  obtain ⟨k', hi', he⟩ := State.fieldFound?_setVm hvm h2
  exact ⟨c, k', i, f, a, cell, by rw [hvm.findClass]; exact h1, hi', h3, by rw [he]; exact h4, h5, h6, h7, h8, by rw [he]; exact h9, h10⟩
theorem vx_L.kept {C n d : String} {A : Nat → Prop} {U : State} {H H1 : Heap} (h : vx_L C n d A U H) (hq : ∀ a : Nat, a < H.size → ¬ A a → H1[a]? = H[a]?) : vx_L C n d A U H1 := by
  obtain ⟨c, k, i, f, a, cell, h1, h2, h3, h4, h5, h6, h7, h8, h9, h10⟩ := h
  exact ⟨c, k, i, f, a, cell, h1, h2, h3, h4, by rw [hq a (Array.getElem?_eq_some_iff.mp h5).1 h10]; exact h5, h6, h7, h8, h9, h10⟩
theorem vx_L.narrow {C n d : String} {A B : Nat → Prop} {U : State} {H : Heap} (h : vx_L C n d A U H) (hAB : ∀ q, B q → A q) : vx_L C n d B U H := by
  obtain ⟨c, k, i, f, a, cell, h1, h2, h3, h4, h5, h6, h7, h8, h9, h10⟩ := h
  exact ⟨c, k, i, f, a, cell, h1, h2, h3, h4, h5, h6, h7, h8, h9, fun z => h10 (hAB _ z)⟩
theorem vx_L.word {C n d : String} {A : Nat → Prop} {s : State} {args : Array Value} (h : vx_L C n d A s s.heap) : (Cond.laysStatic C n d).before args s = true := by
  obtain ⟨c, k, i, f, a, cell, h1, h2, h3, h4, h5, h6, h7, h8, h9, -⟩ := h
  show (Cond.laysStatic C n d).holds args s none s [] = true
  exact Cond.laysStatic_of h1 h2 h3 h4 h5 h6 h7 h8 h9
/-- .. and what it holds: null or some reference -/
def vx_Zq (C n d : String) (A : Nat → Prop) (U : State) (H : Heap) : Prop := va_Zq C n d A U H ∧ vx_L C n d A U H
theorem vx_Zq.moved {C n d : String} {A : Nat → Prop} {u U : State} {H : Heap} (hvm : u.vm.Alike U.vm) (h : vx_Zq C n d A u H) : vx_Zq C n d A U H := ⟨va_Zq.moved hvm h.1, vx_L.moved hvm h.2⟩
theorem vx_Zq.kept {C n d : String} {A : Nat → Prop} {U : State} {H H1 : Heap} (h : vx_Zq C n d A U H) (hq : ∀ a : Nat, a < H.size → ¬ A a → H1[a]? = H[a]?) : vx_Zq C n d A U H1 := ⟨va_Zq.kept h.1 hq, vx_L.kept h.2 hq⟩
theorem vx_Zq.narrow {C n d : String} {A B : Nat → Prop} {U : State} {H : Heap} (h : vx_Zq C n d A U H) (hAB : ∀ q, B q → A q) : vx_Zq C n d B U H := ⟨va_Zq.narrow h.1 hAB, vx_L.narrow h.2 hAB⟩
theorem vx_Zqof {args : Array Value} {s : State} {C n d : String} {A : Nat → Prop} (hl : (Cond.laysStatic C n d).before args s = true) (hini : (Cond.initialized C).before args s = true) (h : (Cond.isRef (.static C n d)).before args s = true) (hA : ∀ a : Nat, a < s.heap.size → ¬ A a) : vx_Zq C n d A s s.heap := by
  refine ⟨va_Zqof hl hini h hA, ?_⟩
  obtain ⟨c, k, i, f, a, cell, h1, h2, h3, h4, h5, h6, h7, h8, h9⟩ := Cond.laysStatic_spec hl
  exact ⟨c, k, i, f, a, cell, h1, h2, h3, h4, h5, h6, h7, h8, h9, hA a (Array.getElem?_eq_some_iff.mp h5).1⟩
theorem vx_isRef {C n d : String} {v : Value} {A : Nat → Prop} {s : State} {args : Array Value} (h : va_Z C n d v A s s.heap) (hv : v.isRef = true) : (Cond.isRef (.static C n d)).before args s = true := by
  obtain ⟨cf, kf, fi, f, a, cell, h1, h2, h3, h4, h5, h6, h7, -⟩ := h
  have he : (Term.static C n d).eval args s none [] s = some v := by
    simp [Term.eval, State.fieldNamed?, h1, h2, h4, h5, h6, h7]
  simp only [Cond.before, Cond.holds, Cond.value, he]
  cases v <;> simp_all [Value.isRef]
theorem vx_isRefq {C n d : String} {A : Nat → Prop} {s : State} {args : Array Value} (h : va_Zq C n d A s s.heap) : (Cond.isRef (.static C n d)).before args s = true := by
  rcases h with h | ⟨t, h⟩
  · exact vx_isRef h rfl
  · exact vx_isRef h rfl
/-- the same frame, seen from here: as if the method were called anew in this heap -/
theorem vx_rebase {T : State} (X : Stand p l e R s m args below meth c T locs cells slots) {R' : Room} (hf : R'.frames ≤ R.frames) (hl : R'.locals ≤ R.locals) (hc : cells + R'.cells ≤ R.cells) (hs : slots + R'.slots ≤ R.slots) :
    Stand p l e R' ((T.setVm s.vm).setFrames (.invoking m args :: below)) m args below meth c T [] 0 0 := by
  have htop : (T.setVm s.vm).topJava?.isSome := X.here.top
  have hF : ((T.setVm s.vm).setFrames (.invoking m args :: below)).frames = .invoking m args :: below := State.frames_setFrames _ (State.cur_lt_of_top htop)
  obtain ⟨g₀, hg0⟩ := Option.isSome_iff_exists.mp htop
  obtain ⟨r, hr⟩ := State.topJava?_eq_some.mp hg0
  have hl9 : e.platform.stackLimits (T.setVm s.vm).me = e.platform.stackLimits s.me := X.limits
  have hb9 : (T.setVm s.vm).me.stackBytes = s.me.stackBytes := X.bytes
  refine ⟨X.admits, X.cas, X.clock, hF, ?_, X.hears, X.method, X.code, X.here, X.tail, X.warmed, ?_, ?_, ?_⟩
  · have h := X.room
    have hU : ((T.setVm s.vm).setFrames (.invoking m args :: below)).localsInUse = s.localsInUse := by
      rw [State.localsInUse_invoking hF (meth := meth) (c := c) X.method X.code, State.localsInUse_invoking X.frames X.method X.code]
    simp only [State.hasRoom, Bool.and_eq_true, decide_eq_true_eq] at h ⊢
    obtain ⟨⟨⟨⟨h1, h2, h3, h4, h5, h6⟩, h7⟩, h8⟩, h9⟩ := h
    rw [X.frames, List.length_cons] at h2 h3
    have q1 := X.heapSize
    have q2 := X.used
    simp only [hF, hU, List.length_cons, State.stackLimits_setFrames, State.stackBytes_setFrames, hl9, hb9]
    refine ⟨⟨⟨⟨by omega, by omega, by omega, by omega, by omega, h6⟩, ?_⟩, ?_⟩, X.book⟩
    · show T.heap.size + R'.cells ≤ e.platform.maxCells
      omega
    · show T.slotsUsed + R'.slots ≤ e.platform.maxSlots
      omega
  · rw [State.stackLimits_setFrames]; rfl
  · rw [State.stackBytes_setFrames]; rfl
  · refine ⟨?_, Nat.le_refl _, Nat.le_refl _, ?_, ?_, fun a c9 h9 => ⟨c9, h9, rfl, rfl, fun _ _ => rfl⟩⟩
    · obtain ⟨t, ht, -⟩ := State.frames_cons hr
      show T.setVm s.vm = { ((T.setVm s.vm).setFrames (.invoking m args :: below)).setFrames (T.setVm s.vm).frames with heap := T.heap, slotsUsed := T.slotsUsed }
      rw [State.setFrames_setFrames, State.setFrames_self ht]
      rfl
    · show T.slotsUsed = T.slotsUsed + ((T.heap.toList.drop T.heap.size).map (·.slots.size)).sum
      rw [List.drop_eq_nil_of_le (Nat.le_of_eq Array.length_toList)]
      rfl
    · show ((T.heap.toList.drop T.heap.size).map (·.slots.size)).sum ≤ 0
      rw [List.drop_eq_nil_of_le (Nat.le_of_eq Array.length_toList)]
      exact Nat.le_refl _
/-- 'throw new E()': new; dup; invokespecial; athrow -/
theorem vx_throw0 {cc : ByteArray} {pc : Nat} (hexec : p.tables.exec = Jvm.exec) (hb : c.code = cc) (hl : l.stackTraces = false) {own cls : String} {names : List String} {ik ic mc ms : Nat} {A : Nat → Prop}
    (hown : s.vm.findClass own = some m.cls) (hcls : Bundle.fit cls = true) (hnames : ∀ n ∈ names, Bundle.fit n = true)
    (hk : (Cond.classLink own ik cls).before args s = true) (hini : (Cond.initialized cls).before args s = true) (hat : ∀ w ∈ vx_at0 own ic cls names, w.before args s = true)
    (hgood : ∀ w ∈ Cond.classLink own ik cls :: Cond.initialized cls :: vx_at0 own ic cls names, vx_ot w = true)
    (hU : vx_Zq Bundle.tN "UNASSIGNED_STACK" Bundle.steD A s s.heap) (hN : vx_Zq Bundle.tN "SUPPRESSED_SENTINEL" Bundle.listD A s s.heap) (hS : va_S A s.heap H locs) (hsize : ls.size = c.maxLocals)
    (d0 : decode cc pc = .ok (.new ik, 3)) (d3 : decode cc (pc + 3) = .ok (.dup, 1)) (d4 : decode cc (pc + 4) = .ok (.invokespecial ic, 3)) (d7 : decode cc (pc + 7) = .ok (.athrow, 1))
    (hout : ∀ x ∈ c.exceptionTable.toList, covers x (pc + 7) = false)
    (hRframes : names.length + 3 < R.frames) (hRlocals : (rest.map fun v => v.category).sum + (13 * (names.length + 1) + 42) ≤ R.locals) (hRcells : cells + 1 ≤ R.cells) (hRslots : slots + 6 ≤ R.slots) (hlocks : meth.locks = false)
    (hx : ∀ t : State, s.vm.Alike t.vm → H.size ≤ t.heap.size → (∀ q : Nat, q < H.size → t.heap[q]? = H[q]?) → XC cls s t)
    (hf : ∀ z ∈ locs, free z.base) (hc : cells + 1 ≤ mc) (hs : slots + 6 ≤ ms) :
    W p l e R s m args below meth c H locs cells slots (vx_MQ below Qc XC args s mc ms free) (F0 m pc ls rest) := by
  intro T hT X
  have htr : e.platform.stackTraces = false := (show e.platform.stackTraces = l.stackTraces by rw [X.admits.platform]).trans hl
  have Y := vx_rebase X (R' := { frames := R.frames, locals := R.locals, cells := 1, slots := 6 }) (Nat.le_refl _) (Nat.le_refl _) hRcells hRslots
  obtain ⟨s', hA⟩ : ∃ z, z = (T.setVm s.vm).setFrames (.invoking m args :: below) := ⟨_, rfl⟩
  rw [← hA] at Y
  have hvm : s'.vm = s.vm := by rw [hA]; rfl
  have hhp : s'.heap = H := by rw [hA]; exact hT
  have hW0 : s.WarmedH s'.vm := by rw [hvm]; exact State.WarmedH.refl s
  have hat' : ∀ w ∈ vx_at0 own ic cls names, w.before args s' = true := fun w hw => vx_ot_at hW0 hvm.symm (hgood w (List.mem_cons_of_mem _ (List.mem_cons_of_mem _ hw))) (hat w hw)
  have hk' : (Cond.classLink own ik cls).before args s' = true := vx_ot_at hW0 hvm.symm (hgood _ List.mem_cons_self) hk
  have hini' : (Cond.initialized cls).before args s' = true := vx_ot_at hW0 hvm.symm (hgood _ (List.mem_cons_of_mem _ List.mem_cons_self)) hini
  have hU' : vx_Zq Bundle.tN "UNASSIGNED_STACK" Bundle.steD A s' s'.heap := by rw [hhp]; exact vx_Zq.moved hW0.alike (hU.kept hS.2.1)
  have hN' : vx_Zq Bundle.tN "SUPPRESSED_SENTINEL" Bundle.listD A s' s'.heap := by rw [hhp]; exact vx_Zq.moved hW0.alike (hN.kept hS.2.1)
  have h : ∀ w ∈ Bundle.ownAtoms0 own ic cls names, w.before args s' = true := vx_own hat' (vx_isRefq hU'.1) (vx_isRefq hN'.1) hU'.2.word hN'.2.word
  have hown' : s'.vm.findClass own = some m.cls := by rw [hvm]; exact hown
  have hins : (Cond.instantiable cls 6).before args s' = true := h _ (by simp [Bundle.ownAtoms0])
  obtain ⟨vm₁, cX, kX, hfX, hkX, -, -, X₁, st1⟩ := Y.newCold hexec (own := own) (C := cls) (index := ik) (n := 6) hown' hk' hins hini'
    (g := F0 m pc ls rest) rfl (by rw [hb]; exact d0) (Nat.le_refl _) (Nat.le_refl _)
  generalize hT1 : (T.setVm vm₁).pushCell { cls := cX, slots := kX.instanceTypes.map defaultValue, vm := .none } = T1 at X₁ st1
  have hcat : (Value.ref T.heap.size).category = 1 := rfl
  have hcellA : T1.heap[T.heap.size]? = some (freshCell cX kX) := by rw [← hT1]; exact State.heap_pushCell_size _ _
  have d3' : decode c.code (pc + 3) = .ok (.dup, 1) := by rw [hb]; exact d3
  obtain ⟨U, hsteps, hrun, hend, hW, hsame, ce, hce, hO⟩ := X₁.ctorThrow0 hexec htr (own := own) (cls := cls) (names := names) (ic := ic) hown' hcls hnames h (fun x hx => nomatch hx) hfX hkX hcellA (by rw [hhp, hT]; exact Nat.le_refl _)
    (g := { method := m, pc := pc + 4, locals := ls, stack := .ref T.heap.size :: .ref T.heap.size :: rest, locked := none }) rfl hsize rfl rfl (rest := rest) rfl
    (by rw [hb]; exact d4) (by rw [hb]; exact d7) hout hRframes (by simp only [List.map_cons, List.sum_cons, hcat]; omega) hlocks
  obtain ⟨f1, f2⟩ := vx_frame hsame
  rw [hhp] at f1 f2
  have hWs : s.WarmedH U.vm := State.WarmedH.trans hW0 hW
  have hcl : s.vm.findClass cls = some ce.cls := by
    have h9 := hO.cls
    rw [hvm] at h9
    exact h9
  have hall : s.sameButNew ({ U with vm := s.vm } : State) locs mc ms := by
    subst hA
    obtain ⟨e1, e2⟩ := hsame
    rw [State.setFrames_setFrames] at e1
    have h2 : (T.setVm s.vm).sameButNew ({ U with vm := s.vm } : State) [] (0 + 1) (0 + 6) := ⟨e1, e2⟩
    have h3 := X.same.trans h2
    rw [List.append_nil] at h3
    exact h3.mono hc hs
  refine ⟨U, ?_, .threw T.heap.size, hrun, hend, Or.inr ⟨T.heap.size, rfl, cls, ce, locs, hx U hWs.alike f1 (fun q hq => f2 q hq (fun z hz => nomatch hz)), hce, hO.vm, hcl, hWs, hall, hf⟩⟩
  refine st1 _ ?_
  show Steps p.tables e below (T1.setTop { method := m, pc := pc + 3, locals := ls, stack := .ref T.heap.size :: rest, locked := none }) _
  jvm_step X₁.here [X₁.here.top, hexec, d3', Value.category]
  exact hsteps
/-- 'throw new E("text")': new; dup; ldc; invokespecial; athrow -/
theorem vx_throwS {cc : ByteArray} {pc : Nat} (hexec : p.tables.exec = Jvm.exec) (hb : c.code = cc) (hl : l.stackTraces = false) {own cls text : String} {names : List String} {ik is ic mc ms sa : Nat} {A : Nat → Prop}
    (hown : s.vm.findClass own = some m.cls) (hcls : Bundle.fit cls = true) (hnames : ∀ n ∈ names, Bundle.fit n = true)
    (hk : (Cond.classLink own ik cls).before args s = true) (hini : (Cond.initialized cls).before args s = true) (hstr : vk_R own is text sa s) (hat : ∀ w ∈ vx_atS own ic cls names, w.before args s = true)
    (hgood : ∀ w ∈ Cond.classLink own ik cls :: Cond.initialized cls :: vx_atS own ic cls names, vx_ot w = true)
    (hU : vx_Zq Bundle.tN "UNASSIGNED_STACK" Bundle.steD A s s.heap) (hN : vx_Zq Bundle.tN "SUPPRESSED_SENTINEL" Bundle.listD A s s.heap) (hS : va_S A s.heap H locs) (hsize : ls.size = c.maxLocals)
    (d0 : decode cc pc = .ok (.new ik, 3)) (d3 : decode cc (pc + 3) = .ok (.dup, 1)) (d4 : decode cc (pc + 4) = .ok (.ldc is, 2)) (d6 : decode cc (pc + 6) = .ok (.invokespecial ic, 3)) (d9 : decode cc (pc + 9) = .ok (.athrow, 1))
    (hout : ∀ x ∈ c.exceptionTable.toList, covers x (pc + 9) = false)
    (hRframes : names.length + 3 < R.frames) (hRlocals : (rest.map fun v => v.category).sum + (13 * (names.length + 1) + 43) ≤ R.locals) (hRcells : cells + 1 ≤ R.cells) (hRslots : slots + 6 ≤ R.slots) (hlocks : meth.locks = false)
    (hx : ∀ t : State, s.vm.Alike t.vm → H.size ≤ t.heap.size → (∀ q : Nat, q < H.size → t.heap[q]? = H[q]?) → XC cls s t)
    (hf : ∀ z ∈ locs, free z.base) (hc : cells + 1 ≤ mc) (hs : slots + 6 ≤ ms) :
    W p l e R s m args below meth c H locs cells slots (vx_MQ below Qc XC args s mc ms free) (F0 m pc ls rest) := by
  intro T hT X
  have htr : e.platform.stackTraces = false := (show e.platform.stackTraces = l.stackTraces by rw [X.admits.platform]).trans hl
  have Y := vx_rebase X (R' := { frames := R.frames, locals := R.locals, cells := 1, slots := 6 }) (Nat.le_refl _) (Nat.le_refl _) hRcells hRslots
  obtain ⟨s', hA⟩ : ∃ z, z = (T.setVm s.vm).setFrames (.invoking m args :: below) := ⟨_, rfl⟩
  rw [← hA] at Y
  have hvm : s'.vm = s.vm := by rw [hA]; rfl
  have hhp : s'.heap = H := by rw [hA]; exact hT
  have hW0 : s.WarmedH s'.vm := by rw [hvm]; exact State.WarmedH.refl s
  have hat' : ∀ w ∈ vx_atS own ic cls names, w.before args s' = true := fun w hw => vx_ot_at hW0 hvm.symm (hgood w (List.mem_cons_of_mem _ (List.mem_cons_of_mem _ hw))) (hat w hw)
  have hk' : (Cond.classLink own ik cls).before args s' = true := vx_ot_at hW0 hvm.symm (hgood _ List.mem_cons_self) hk
  have hini' : (Cond.initialized cls).before args s' = true := vx_ot_at hW0 hvm.symm (hgood _ (List.mem_cons_of_mem _ List.mem_cons_self)) hini
  have hU' : vx_Zq Bundle.tN "UNASSIGNED_STACK" Bundle.steD A s' s'.heap := by rw [hhp]; exact vx_Zq.moved hW0.alike (hU.kept hS.2.1)
  have hN' : vx_Zq Bundle.tN "SUPPRESSED_SENTINEL" Bundle.listD A s' s'.heap := by rw [hhp]; exact vx_Zq.moved hW0.alike (hN.kept hS.2.1)
  have h : ∀ w ∈ Bundle.ownAtoms own ic cls names, w.before args s' = true := vx_own hat' (vx_isRefq hU'.1) (vx_isRefq hN'.1) hU'.2.word hN'.2.word
  have hown' : s'.vm.findClass own = some m.cls := by rw [hvm]; exact hown
  have hins : (Cond.instantiable cls 6).before args s' = true := h _ (by simp [Bundle.ownAtoms])
  obtain ⟨vm₁, cX, kX, hfX, hkX, -, -, X₁, st1⟩ := Y.newCold hexec (own := own) (C := cls) (index := ik) (n := 6) hown' hk' hins hini'
    (g := F0 m pc ls rest) rfl (by rw [hb]; exact d0) (Nat.le_refl _) (Nat.le_refl _)
  generalize hT1 : (T.setVm vm₁).pushCell { cls := cX, slots := kX.instanceTypes.map defaultValue, vm := .none } = T1 at X₁ st1
  have hcat : (Value.ref T.heap.size).category = 1 := rfl
  have hcellA : T1.heap[T.heap.size]? = some (freshCell cX kX) := by rw [← hT1]; exact State.heap_pushCell_size _ _
  have d3' : decode c.code (pc + 3) = .ok (.dup, 1) := by rw [hb]; exact d3
  have d4' : decode c.code (pc + 4) = .ok (.ldc is, 2) := by rw [hb]; exact d4
  have hstr' : vk_R own is text sa s' := vk_R.warm hW0 hstr
  obtain ⟨U, hsteps, hrun, hend, hW, hsame, ce, hce, hO⟩ := X₁.ctorThrowS hexec htr (own := own) (cls := cls) (names := names) (ic := ic) hown' hcls hnames h (fun x hx => nomatch hx) hfX hkX hcellA (by rw [hhp, hT]; exact Nat.le_refl _) (msg := .ref sa) rfl
    (g := { method := m, pc := pc + 6, locals := ls, stack := .ref sa :: .ref T.heap.size :: .ref T.heap.size :: rest, locked := none }) rfl hsize rfl rfl (rest := rest) rfl
    (by rw [hb]; exact d6) (by rw [hb]; exact d9) hout hRframes (by simp only [List.map_cons, List.sum_cons, hcat]; omega) hlocks
  obtain ⟨f1, f2⟩ := vx_frame hsame
  rw [hhp] at f1 f2
  have hWs : s.WarmedH U.vm := State.WarmedH.trans hW0 hW
  have hcl : s.vm.findClass cls = some ce.cls := by
    have h9 := hO.cls
    rw [hvm] at h9
    exact h9
  have hall : s.sameButNew ({ U with vm := s.vm } : State) locs mc ms := by
    subst hA
    obtain ⟨e1, e2⟩ := hsame
    rw [State.setFrames_setFrames] at e1
    have h2 : (T.setVm s.vm).sameButNew ({ U with vm := s.vm } : State) [] (0 + 1) (0 + 6) := ⟨e1, e2⟩
    have h3 := X.same.trans h2
    rw [List.append_nil] at h3
    exact h3.mono hc hs
  refine ⟨U, ?_, .threw T.heap.size, hrun, hend, Or.inr ⟨T.heap.size, rfl, cls, ce, locs, hx U hWs.alike f1 (fun q hq => f2 q hq (fun z hz => nomatch hz)), hce, hO.vm, hcl, hWs, hall, hf⟩⟩
  refine st1 _ ?_
  show Steps p.tables e below (T1.setTop { method := m, pc := pc + 3, locals := ls, stack := .ref T.heap.size :: rest, locked := none }) _
  jvm_step X₁.here [X₁.here.top, hexec, d3', Value.category]
  exact X₁.ldcString hexec (own := own) (text := text) (index := is) (a := sa) hown' hstr'.1 hstr'.2
    (g := { method := m, pc := pc + 4, locals := ls, stack := .ref T.heap.size :: .ref T.heap.size :: rest, locked := none }) rfl d4' _ hsteps
/-- 'throw new E("text")', the text by a wide index -/
theorem vx_throwSW {cc : ByteArray} {pc : Nat} (hexec : p.tables.exec = Jvm.exec) (hb : c.code = cc) (hl : l.stackTraces = false) {own cls text : String} {names : List String} {ik is ic mc ms sa : Nat} {A : Nat → Prop}
    (hown : s.vm.findClass own = some m.cls) (hcls : Bundle.fit cls = true) (hnames : ∀ n ∈ names, Bundle.fit n = true)
    (hk : (Cond.classLink own ik cls).before args s = true) (hini : (Cond.initialized cls).before args s = true) (hstr : vk_R own is text sa s) (hat : ∀ w ∈ vx_atS own ic cls names, w.before args s = true)
    (hgood : ∀ w ∈ Cond.classLink own ik cls :: Cond.initialized cls :: vx_atS own ic cls names, vx_ot w = true)
    (hU : vx_Zq Bundle.tN "UNASSIGNED_STACK" Bundle.steD A s s.heap) (hN : vx_Zq Bundle.tN "SUPPRESSED_SENTINEL" Bundle.listD A s s.heap) (hS : va_S A s.heap H locs) (hsize : ls.size = c.maxLocals)
    (d0 : decode cc pc = .ok (.new ik, 3)) (d3 : decode cc (pc + 3) = .ok (.dup, 1)) (d4 : decode cc (pc + 4) = .ok (.ldc_w is, 3)) (d7 : decode cc (pc + 7) = .ok (.invokespecial ic, 3)) (d10 : decode cc (pc + 10) = .ok (.athrow, 1))
    (hout : ∀ x ∈ c.exceptionTable.toList, covers x (pc + 10) = false)
    (hRframes : names.length + 3 < R.frames) (hRlocals : (rest.map fun v => v.category).sum + (13 * (names.length + 1) + 43) ≤ R.locals) (hRcells : cells + 1 ≤ R.cells) (hRslots : slots + 6 ≤ R.slots) (hlocks : meth.locks = false)
    (hx : ∀ t : State, s.vm.Alike t.vm → H.size ≤ t.heap.size → (∀ q : Nat, q < H.size → t.heap[q]? = H[q]?) → XC cls s t)
    (hf : ∀ z ∈ locs, free z.base) (hc : cells + 1 ≤ mc) (hs : slots + 6 ≤ ms) :
    W p l e R s m args below meth c H locs cells slots (vx_MQ below Qc XC args s mc ms free) (F0 m pc ls rest) := by
  intro T hT X
  have htr : e.platform.stackTraces = false := (show e.platform.stackTraces = l.stackTraces by rw [X.admits.platform]).trans hl
  have Y := vx_rebase X (R' := { frames := R.frames, locals := R.locals, cells := 1, slots := 6 }) (Nat.le_refl _) (Nat.le_refl _) hRcells hRslots
  obtain ⟨s', hA⟩ : ∃ z, z = (T.setVm s.vm).setFrames (.invoking m args :: below) := ⟨_, rfl⟩
  rw [← hA] at Y
  have hvm : s'.vm = s.vm := by rw [hA]; rfl
  have hhp : s'.heap = H := by rw [hA]; exact hT
  have hW0 : s.WarmedH s'.vm := by rw [hvm]; exact State.WarmedH.refl s
  have hat' : ∀ w ∈ vx_atS own ic cls names, w.before args s' = true := fun w hw => vx_ot_at hW0 hvm.symm (hgood w (List.mem_cons_of_mem _ (List.mem_cons_of_mem _ hw))) (hat w hw)
  have hk' : (Cond.classLink own ik cls).before args s' = true := vx_ot_at hW0 hvm.symm (hgood _ List.mem_cons_self) hk
  have hini' : (Cond.initialized cls).before args s' = true := vx_ot_at hW0 hvm.symm (hgood _ (List.mem_cons_of_mem _ List.mem_cons_self)) hini
  have hU' : vx_Zq Bundle.tN "UNASSIGNED_STACK" Bundle.steD A s' s'.heap := by rw [hhp]; exact vx_Zq.moved hW0.alike (hU.kept hS.2.1)
  have hN' : vx_Zq Bundle.tN "SUPPRESSED_SENTINEL" Bundle.listD A s' s'.heap := by rw [hhp]; exact vx_Zq.moved hW0.alike (hN.kept hS.2.1)
  have h : ∀ w ∈ Bundle.ownAtoms own ic cls names, w.before args s' = true := vx_own hat' (vx_isRefq hU'.1) (vx_isRefq hN'.1) hU'.2.word hN'.2.word
  have hown' : s'.vm.findClass own = some m.cls := by rw [hvm]; exact hown
  have hins : (Cond.instantiable cls 6).before args s' = true := h _ (by simp [Bundle.ownAtoms])
  obtain ⟨vm₁, cX, kX, hfX, hkX, -, -, X₁, st1⟩ := Y.newCold hexec (own := own) (C := cls) (index := ik) (n := 6) hown' hk' hins hini'
    (g := F0 m pc ls rest) rfl (by rw [hb]; exact d0) (Nat.le_refl _) (Nat.le_refl _)
  generalize hT1 : (T.setVm vm₁).pushCell { cls := cX, slots := kX.instanceTypes.map defaultValue, vm := .none } = T1 at X₁ st1
  have hcat : (Value.ref T.heap.size).category = 1 := rfl
  have hcellA : T1.heap[T.heap.size]? = some (freshCell cX kX) := by rw [← hT1]; exact State.heap_pushCell_size _ _
  have d3' : decode c.code (pc + 3) = .ok (.dup, 1) := by rw [hb]; exact d3
  have d4' : decode c.code (pc + 4) = .ok (.ldc_w is, 3) := by rw [hb]; exact d4
  have hstr' : vk_R own is text sa s' := vk_R.warm hW0 hstr
  obtain ⟨U, hsteps, hrun, hend, hW, hsame, ce, hce, hO⟩ := X₁.ctorThrowS hexec htr (own := own) (cls := cls) (names := names) (ic := ic) hown' hcls hnames h (fun x hx => nomatch hx) hfX hkX hcellA (by rw [hhp, hT]; exact Nat.le_refl _) (msg := .ref sa) rfl
    (g := { method := m, pc := pc + 7, locals := ls, stack := .ref sa :: .ref T.heap.size :: .ref T.heap.size :: rest, locked := none }) rfl hsize rfl rfl (rest := rest) rfl
    (by rw [hb]; exact d7) (by rw [hb]; exact d10) hout hRframes (by simp only [List.map_cons, List.sum_cons, hcat]; omega) hlocks
  obtain ⟨f1, f2⟩ := vx_frame hsame
  rw [hhp] at f1 f2
  have hWs : s.WarmedH U.vm := State.WarmedH.trans hW0 hW
  have hcl : s.vm.findClass cls = some ce.cls := by
    have h9 := hO.cls
    rw [hvm] at h9
    exact h9
  have hall : s.sameButNew ({ U with vm := s.vm } : State) locs mc ms := by
    subst hA
    obtain ⟨e1, e2⟩ := hsame
    rw [State.setFrames_setFrames] at e1
    have h2 : (T.setVm s.vm).sameButNew ({ U with vm := s.vm } : State) [] (0 + 1) (0 + 6) := ⟨e1, e2⟩
    have h3 := X.same.trans h2
    rw [List.append_nil] at h3
    exact h3.mono hc hs
  refine ⟨U, ?_, .threw T.heap.size, hrun, hend, Or.inr ⟨T.heap.size, rfl, cls, ce, locs, hx U hWs.alike f1 (fun q hq => f2 q hq (fun z hz => nomatch hz)), hce, hO.vm, hcl, hWs, hall, hf⟩⟩
  refine st1 _ ?_
  show Steps p.tables e below (T1.setTop { method := m, pc := pc + 3, locals := ls, stack := .ref T.heap.size :: rest, locked := none }) _
  jvm_step X₁.here [X₁.here.top, hexec, d3', Value.category]
  exact X₁.ldcStringW hexec (own := own) (text := text) (index := is) (a := sa) hown' hstr'.1 hstr'.2
    (g := { method := m, pc := pc + 4, locals := ls, stack := .ref T.heap.size :: .ref T.heap.size :: rest, locked := none }) rfl d4' _ hsteps
end Ends
section Bodies
variable {l : Launch}
theorem vx_ofW {y : MethodName} {ws ws' : List Cond} {rm : Room} {Pc : Array Value → State → Prop} {Qc : Array Value → State → Outcome → State → Prop} {XC : String → State → State → Prop} {mc ms : Nat} {free : Addr → Prop} {cc : ByteArray} {maxL : Nat} {ret : Option FieldType}
    (hy : plainName y.cls = true) (hw : ws = Cond.code y cc maxL ret :: ws')
    (body : ∀ p e s m args below meth c s₁, BodyLoose p l y (headSpec ws rm) cc maxL ret e s m args below meth c s₁ → c.maxLocals = maxL → (∀ x ∈ c.exceptionTable.toList, False) → Pc args s →
      W p l e (headSpec ws rm).room s m args below meth c s.heap [] 0 0 (vx_MQ below Qc XC args s mc ms free) (entryFrame m args maxL)) : vx_Met l y ws rm Pc Qc XC mc ms free := by
  refine MetFree.of_bodyS (code := cc) (maxLocals := maxL) (ret := ret) hy ?_ ?_
  · intro args s m h hn
    obtain ⟨meth, c, h1, h2, h3, h4, h5, h6, -, -⟩ := Cond.code_spec hn (atoms_spec (ws := ws) h _ (by rw [hw]; exact List.mem_cons_self))
    exact ⟨meth, c, h1, h2, h3, h4, h5, h6⟩
  · intro p e s m args below meth c s₁ B hml hP _
    have hh0 : s₁.heap = s.heap := by rw [B.state]; rfl
    have ht : ∀ x ∈ c.exceptionTable.toList, False := by
      obtain ⟨meth9, c9, h1, h2, -, -, -, -, h7, -⟩ := Cond.code_spec B.named (atoms_spec (ws := ws) B.pre _ (by rw [hw]; exact List.mem_cons_self))
      cases Option.some.inj (h1.symm.trans B.method)
      cases Option.some.inj (h2.symm.trans (Stand.of_body B).code)
      intro x hx
      rw [Array.isEmpty_iff.mp h7] at hx
      cases hx
    obtain ⟨t, a1, o, b1, b2, b3⟩ := body p e s m args below meth c s₁ B hml ht hP s₁ hh0 (Stand.of_body B)
    exact ⟨t, o, a1, b1, b2, b3⟩
/-- the table of a body with handlers -/
theorem vx_table {p : Program} {x y : MethodName} {S : Spec} {cc bytes : ByteArray} {maxL maxL' : Nat} {ret ret' : Option FieldType} {e : Env} {s s₁ : State} {m : MethodId} {args : Array Value} {below : List Frame} {meth : Method} {c : Code} {hh : List (Nat × Nat × Nat × Nat)}
    (B : BodyLoose p l y S cc maxL ret e s m args below meth c s₁) (h : (Cond.codeWith y bytes maxL' ret' hh).before args s = true) : c.exceptionTable.toList = tableOf hh := by
  obtain ⟨m9, meth9, c9, hn9, h1, h2, -, -, h6, -⟩ := Cond.codeWith_spec h
  cases Option.some.inj (hn9.symm.trans B.named)
  cases Option.some.inj (h1.symm.trans B.method)
  cases Option.some.inj (h2.symm.trans (Stand.of_body B).code)
  rw [← h6, table_eq]
end Bodies
end VXA
/-! ===== END ===== -/
/-! ===== BEGIN a static call of a method with an exception table ===== -/
section VXS
variable {p : Program} {l : Launch} {e : Env} {R : Room} {s : State} {m : MethodId} {args : Array Value} {below : List Frame} {meth : Method} {c : Code} {T : State} {H : Heap} {locs : List Loc} {cells slots : Nat}
abbrev vx_CSW (R : Room) (s : State) (args : Array Value) (own : String) (index : Nat) (y : MethodName) (bytes : ByteArray) (maxL : Nat) (ret : Option FieldType) (hh : List (Nat × Nat × Nat × Nat)) (ws : List Cond) (rm : Room) (mc ms n : Nat) : Prop :=
  (rm.cells = mc ∧ rm.slots = ms ∧ rm.frames + 1 ≤ R.frames ∧ 8 + (maxL + 11) + rm.locals ≤ R.locals ∧ (∀ w ∈ ws, ∀ (a' : Array Value) (U : State), s.WarmedH U.vm → w.before a' U = true) ∧ Cond.codeWith y bytes maxL ret hh ∈ ws) ∧
  (Cond.codeWith y bytes maxL ret hh).before args s = true ∧ (Cond.initialized y.cls).before args s = true ∧ (y.cls ≠ "java/lang/invoke/MethodHandle" ∧ y.cls ≠ "java/lang/invoke/VarHandle") ∧
  (∀ sig, parseMethodDescriptor y.desc = some sig → n = sig.parameters.length) ∧ (Cond.methodLink own index y).before args s = true ∧ (Cond.static y).before args s = true
theorem vx_cwSW {own : String} {index maxL mc ms : Nat} {y : MethodName} {bytes : ByteArray} {ret : Option FieldType} {hh : List (Nat × Nat × Nat × Nat)} {Ts ws ws' : List Cond} {rm : Room} (n : Nat) (ht : ∀ w ∈ Ts, w.before args s = true) (hT : GoodIn Ts (va_wsS own index y ws)) (hw : ws = Cond.codeWith y bytes maxL ret hh :: ws') (hrc : rm.cells = mc) (hrs : rm.slots = ms)
    (hd : y.cls ≠ "java/lang/invoke/MethodHandle" ∧ y.cls ≠ "java/lang/invoke/VarHandle" ∧ (parseMethodDescriptor y.desc).map (fun d => d.parameters.length) = some n) (hR : rm.frames + 1 ≤ R.frames ∧ 8 + (maxL + 11) + rm.locals ≤ R.locals) :
    vx_CSW R s args own index y bytes maxL ret hh ws rm mc ms n := by
  have ok : ∀ w ∈ va_wsS own index y ws, w.before args s = true := fun w h => ht w (hT w h).1
  have hG : GoodIn Ts ws := fun w h => hT w (by unfold va_wsS; exact List.mem_append_right _ h)
  have hc : Cond.codeWith y bytes maxL ret hh ∈ ws := by rw [hw]; exact List.mem_cons_self
  refine ⟨⟨hrc, hrs, hR.1, hR.2, pay_in ht hG, hc⟩, ht _ (hG _ hc).1, ok _ (by simp [va_wsS]), ⟨hd.1, hd.2.1⟩, fun sig h => ?_, ok _ (by simp [va_wsS]), ok _ (by simp [va_wsS])⟩
  have h2 := hd.2.2
  rw [h] at h2
  exact (Option.some.inj h2).symm
theorem vx_callSW (X : Stand p l e R s m args below meth c T locs cells slots) (hexec : p.tables.exec = Jvm.exec) {own : String} {index : Nat} {y : MethodName} {bytes : ByteArray} {maxL : Nat} {ret : Option FieldType} {hh : List (Nat × Nat × Nat × Nat)}
    (hown : s.vm.findClass own = some m.cls) (hlink : (Cond.methodLink own index y).before args s = true) (hstat : (Cond.static y).before args s = true) (hinit : (Cond.initialized y.cls).before args s = true)
    (hcode : (Cond.codeWith y bytes maxL ret hh).before args s = true) (hy : y.cls ≠ "java/lang/invoke/MethodHandle" ∧ y.cls ≠ "java/lang/invoke/VarHandle")
    {W9 : Nat} {Pre : Pt → Array Value → Prop} {Post : Pt → Array Value → Option Value → Pt → Prop} (hK : Back l R p e below s args y 3 W9 Pre Post)
    {g : JFrame} (hg : g.method = m) (hsize : g.locals.size = c.maxLocals) {argsL rest : List Value} (hlen : ∀ sig, parseMethodDescriptor y.desc = some sig → argsL.length = sig.parameters.length)
    (hstack : g.stack = argsL.reverse ++ rest) (hW : 2 * g.monitorRoom + (rest.map fun v => v.category).sum ≤ W9) (hdg : decode c.code g.pc = .ok (.invokestatic index, 3))
    (hpre : ∀ vm₁, s.WarmedH vm₁ → Pre ⟨T.setVm vm₁, locs, cells, slots⟩ argsL.toArray) :
    ∃ (v : Option Value) (vm₁ : Vm) (B : Pt), s.WarmedH vm₁ ∧ Stand p l e R s m args below meth c B.U B.locs B.cells B.slots ∧ Post ⟨T.setVm vm₁, locs, cells, slots⟩ argsL.toArray v B ∧
      ∀ target, Steps p.tables e below (B.U.setTop { g with pc := g.pc + 3, stack := v.toList ++ rest }) target → Steps p.tables e below (T.setTop g) target := by
  obtain ⟨mk, methM, cM, hnamed, hmethM, -, -, -, -, -, -, hsigM⟩ := Cond.codeWith_spec hcode
  have hstatic : methM.isStatic = true := Cond.static_spec hnamed hmethM hstat
  obtain ⟨kP, hkP, -⟩ := className_of_methodNamed hnamed
  have hinitP : kP.init = .initialized := Cond.initialized_spec (findClass_of_methodNamed hnamed) hkP hinit
  obtain ⟨vm₁, X₁, hstep₁⟩ := X.invokestatic hexec hown hlink hnamed hmethM hstatic hkP hinitP hy (g := g) hg (argsL := argsL) (rest := rest) (hlen _ hsigM) hstack hdg
  obtain ⟨v, B, X', hpost, hsteps⟩ := hK m meth c ⟨T.setVm vm₁, locs, cells, slots⟩ { g with stack := rest } (.invokestatic index) mk argsL.toArray X₁ hg hsize hdg hW (X₁.named hnamed) (hpre vm₁ X₁.warmed)
  exact ⟨v, vm₁, B, X₁.warmed, X', hpost, fun target h => hstep₁ _ fun acts => by rw [doInvoke_state]; exact hsteps.trans h⟩
theorem vx_runSW {y : MethodName} {bytes cc : ByteArray} {maxL nL mc ms n index : Nat} {ret : Option FieldType} {hh : List (Nat × Nat × Nat × Nat)} {ws : List Cond} {rm : Room} {Pc : Array Value → State → Prop} {Qc : Array Value → State → Outcome → State → Prop} {free : Addr → Prop} {Ts : List Cond} {own : String} {As rest : List Value} {g : JFrame}
    (S : CallFix p m c cc nL s args Ts own) (hM : Met l y ws rm Pc Qc mc ms free) (cw : vx_CSW R s args own index y bytes maxL ret hh ws rm mc ms n) (hp : PreS s H Pc As)
    (hg : g.method = m) (hn : As.length = n) (hsize : g.locals.size = nL) (hstack : g.stack = As.reverse ++ rest) (hW : 2 * g.monitorRoom + (rest.map fun v => v.category).sum ≤ 8) (hdg : decode cc g.pc = .ok (.invokestatic index, 3)) (hf : cells + mc ≤ R.cells ∧ slots + ms ≤ R.slots) :
    va_Run p l e R s m args below meth c H locs cells slots mc ms g rest (Qc As.toArray) (free) := by
  obtain ⟨⟨hrc, hrs, hfr, hlo, hws, hcw⟩, hcode, hini, hy, hlen, hl, hstt⟩ := cw
  have hK : Back l R p e below s args y 3 8 (PreOf R mc ms Pc) (PostOf Qc mc ms free) := va_backW (hh := hh) (bytes := bytes) (maxL := maxL) (ret := ret) hM hp.1 hrc hrs hfr hlo hws hcw (fun a' U hW => word_at hW (Or.inl (by first | rfl | simp [Cond.onTables, Cond.keeps, Cond.steady])) hini)
  obtain ⟨hx, hb, hml, ho, -⟩ := S
  intro T hT X
  obtain ⟨v, vm₁, ⟨U', l2, c2, s2⟩, hW₁, X', ⟨g', mk, t, L, e1, e2, hq, h1, hL, h2, h3⟩, st⟩ := vx_callSW X hx (hh := hh) (bytes := bytes) (maxL := maxL) (ret := ret) ho hl hstt hini hcode hy hK hg (hsize.trans hml.symm) (argsL := As) (rest := rest) (fun sig h => hn.trans (hlen sig h)) hstack hW (by rw [hb]; exact hdg)
    (fun vm₁ hW₁ => ⟨hf.1, hf.2, hp.2 (T.setVm vm₁) hT hW₁⟩)
  dsimp only [Pt.U, Pt.locs, Pt.cells, Pt.slots] at X' e1 e2 h1 h2 h3 st
  subst h1; subst h2; subst h3
  exact ⟨v, (T.setVm vm₁).calling g' mk As.toArray, t, U', L, hT, X', hL, e1, e2, hq, st⟩
/-- not caught here, past rows that name other classes: it goes on to the caller -/
theorem vx_outP {p : Program} {l : Launch} {e : Env} {R : Room} {s : State} {m : MethodId} {args : Array Value} {below : List Frame} {meth : Method} {c : Code} {H : Heap} {locs : List Loc} {cells slots : Nat} {free : Addr → Prop} {ls : Array Slot} {rest : List Value} {Qc : Array Value → State → Outcome → State → Prop} {XC : String → State → State → Prop}
    {pc : Nat} {own E : String} {ce : Cell} {q : Addr} {mc ms : Nat} (hown : s.vm.findClass own = some m.cls) (hlocks : meth.locks = false)
    (hpass : ∀ z ∈ c.exceptionTable.toList, covers z pc = false ∨ (z.catchType ≠ 0 ∧ ∃ nm : String, (Cond.classLink own z.catchType nm).before args s = true ∧ va_Nc E nm s)) (hcell : H[q]? = some ce) (hv : ce.vm = .none) (hcl : s.vm.findClass E = some ce.cls)
    (hx : ∀ t : State, t.heap = H → s.vm.Alike t.vm → XC E s t) (hf : ∀ z ∈ locs, free z.base) (hc : cells ≤ mc) (hs : slots ≤ ms) :
    vx_W p l e R s m args below meth c H locs cells slots (vx_MQ below Qc XC args s mc ms free) (F0 m pc ls rest) q := by
  intro T hT X
  have hpl : e.platform.magicAccessors = ({} : Platform).magicAccessors := by rw [X.admits.platform]
  obtain ⟨vm', hW', X', st⟩ := X.outThrough hlocks q (g := F0 m pc ls rest) rfl rfl rfl (cell := ce) (by rw [hT]; exact hcell) (by rw [hv]; rfl)
    (by obtain ⟨k9, h9, -⟩ := Vm.findClass_spec hcl; exact ⟨k9, h9⟩) (fun z hz => by
      rcases hpass z hz with h | ⟨hz0, nm, hl1, hn1⟩
      · exact Or.inl h
      · obtain ⟨c6, hc6, hcl6⟩ := Cond.classLink_spec hown hl1 e.platform hpl
        obtain ⟨a8, b8, h1, h2, h3⟩ := hn1
        cases Option.some.inj (h1.symm.trans hcl)
        cases Option.some.inj (h2.symm.trans hc6)
        exact Or.inr ⟨hz0, _, hcl6, h3⟩)
  obtain ⟨g₀, hfr⟩ := X'.frames_eq
  have hcell9 : ((T.setVm vm').setFrames (.throwing q :: below)).heap[q]? = some ce := by
    show T.heap[q]? = some ce
    rw [hT]; exact hcell
  have hend : Ended ((T.setVm vm').setFrames (.throwing q :: below)) below (.threw q) := State.frames_setFrames _ (State.cur_lt_of_frames hfr)
  refine ⟨(T.setVm vm').setFrames (.throwing q :: below), ?_, .threw q, X'.here.running, hend, Or.inr ⟨q, rfl, E, ce, locs, hx _ hT (X'.ends _).1.alike, hcell9, hv, hcl, (X'.ends _).1, (X'.ends _).2.mono hc hs, hf⟩⟩
  rw [X.pushThrowing_eq]
  exact st
/-- a thing of a world lies in the heap -/
theorem vx_lt {D : va_G} {cl : List vw_C} {ws : va_W} {H1 : Heap} (h : va_P D cl ws H1) {k : Nat} {q : Nat × va_E} (hk : ws[k]? = some q) : q.1 < H1.size := (h k q hk).lt
end VXS
/-! ===== END ===== -/
/-! ===== BEGIN methods with a table of their own: called by a name, returning or throwing ===== -/
section VXH
/-! vx_backW, vx_callVX, vx_callSX, vx_callVW, vx_runVW, vx_runVX, vx_runSX, vx_ofWH follow the same proofs as their sisters above (Free/Laws.lean, Shelf42/LK1.lean); vx_outP calls Shelf42/NT130.lean (outThrough). -/
section
variable {l : Launch} {R : Room} {p : Program} {e : Env} {below : List Frame} {s : State} {sargs : Array Value} {y : MethodName} {len W9 : Nat}
theorem vx_backW {ws : List Cond} {rm : Room} {Pc : Array Value → State → Prop} {Qc : Array Value → State → Outcome → State → Prop} {XC : String → State → State → Prop} {mc ms : Nat} {free : Addr → Prop} {bytes : ByteArray} {maxL : Nat} {ret : Option FieldType} {hh : List (Nat × Nat × Nat × Nat)}
    (hM : vx_Met l y ws rm Pc Qc XC mc ms free) (hblind : FrameBlind Pc) (hrc : rm.cells = mc) (hrs : rm.slots = ms)
    (hframes : rm.frames + 1 ≤ R.frames) (hlocals : W9 + (maxL + 11) + rm.locals ≤ R.locals)
    (hws : ∀ w ∈ ws, ∀ a' U, s.WarmedH U.vm → w.before a' U = true) (hcode : Cond.codeWith y bytes maxL ret hh ∈ ws) (hinit : ∀ a' U, s.WarmedH U.vm → (Cond.initialized y.cls).before a' U = true) :
    vx_Back l R p e below s sargs y len W9 (PreOf R mc ms Pc) (PostOf Qc mc ms free) (vx_Post XC mc ms free) := by
  intro m meth c A g ig mk a X hg hsize hdg hW hn hp
  have h1 : (headSpec ws rm).pre.before a A.U = true := atoms_intro fun w hw => hws w hw _ _ X.warmed
  have h2 : (Cond.codeWith y bytes maxL ret hh).before a A.U = true := hws _ hcode _ _ X.warmed
  have h3 : (Cond.initialized y.cls).before a A.U = true := hinit _ _ X.warmed
  have h4 : A.cells + (headSpec ws rm).room.cells ≤ R.cells := by rw [show (headSpec ws rm).room.cells = mc from hrc]; exact hp.1
  have h5 : A.slots + (headSpec ws rm).room.slots ≤ R.slots := by rw [show (headSpec ws rm).room.slots = ms from hrs]; exact hp.2.1
  have hPc : Pc a (A.U.calling g mk a) := hblind _ _ _ _ hp.2.2
  obtain ⟨U, Ls, c0, s0⟩ := A
  dsimp only [Pt.U, Pt.locs, Pt.cells, Pt.slots] at h1 h2 h3 h4 h5 X hn hPc ⊢
  obtain ⟨m9, methY, cY, hn9, hmY, hcY, -, hlY, -⟩ := Cond.codeWith_spec h2
  cases Option.some.inj (hn9.symm.trans hn)
  obtain ⟨kY, hkY, -⟩ := className_of_methodNamed hn
  have hinitY : kY.init = .initialized := Cond.initialized_spec (findClass_of_methodNamed hn) hkY h3
  have h : At U g.method c below := by rw [hg]; exact X.here
  have hlocals9 : W9 + (maxL + 11) + (headSpec ws rm).room.locals ≤ R.locals := hlocals
  have happ : (headSpec ws rm).appliesLoose y e.platform (U.calling g mk a) = true :=
    Spec.appliesLoose_calling (g := g) h hdg hn hkY hinitY
      (X.room_calling (g := g) (R' := (headSpec ws rm).room) hsize hmY hcY hframes (by rw [hlY]; omega) h4 h5) h1
  obtain ⟨mid, hmid⟩ := h.above
  have hfr : (U.setTop g).frames = (.java g :: mid) ++ below := by rw [State.frames_setTop' g h.top, hmid]; rfl
  obtain ⟨o, s₂, hsteps, -, hend, hq⟩ := Steps.callFree hM p X.admits X.cas X.clock (acts := []) hfr happ hPc trivial
  have hq' : vx_Q Qc XC mc ms free a (U.calling g mk a) o s₂ := hq
  rw [State.frames_setTop' g h.top] at hend
  obtain ⟨g₀, hg0⟩ := Option.isSome_iff_exists.mp h.top
  obtain ⟨r, hr⟩ := State.topJava?_eq_some.mp hg0
  have hr' : (({ U with heap := s₂.heap, slotsUsed := s₂.slotsUsed } : State).setVm s₂.vm).frames = .java g₀ :: r := hr
  rcases hq' with ⟨hqc, L, hfe, hL⟩ | ⟨q, rfl, E, ce, L, hx, hce, hcv, hcl, hW₂, hsm, hL⟩
  · obtain ⟨⟨v, rfl⟩, hW₂, e2, q2, q3, q4, q5, q6⟩ := id hfe
    have e3 : s₂ = ({ (U.calling g mk a).setFrames s₂.frames with heap := s₂.heap, slotsUsed := s₂.slotsUsed } : State).setVm s₂.vm := by
      have : s₂ = ({ s₂ with vm := (U.calling g mk a).vm } : State).setVm s₂.vm := rfl
      rw [e2] at this
      exact this
    obtain ⟨c₂, i₂, len₂, hc₂, hd₂, hf₂⟩ := hend
    have hW' : U.WarmedH s₂.vm := hW₂
    have hcc : c₂ = c := by
      have h1 : s₂.code? g.method = U.code? g.method := by
        rw [State.code?_eq, State.code?_eq, hW'.alike.method?]
      exact Option.some.inj (hc₂.symm.trans (h1.trans h.code))
    subst hcc
    have hlen : len₂ = len := by rw [hdg] at hd₂; cases hd₂; rfl
    subst hlen
    have hs₂ : s₂ = (({ U with heap := s₂.heap, slotsUsed := s₂.slotsUsed } : State).setVm s₂.vm).setTop { g with pc := g.pc + len₂, stack := v.toList ++ g.stack } := by
      refine e3.trans ?_
      rw [hf₂, State.calling_eq h.top, State.setFrames_setFrames, State.setTop_of_frames _ hr', hr]
      rfl
    have hsame : U.sameButNew ({ U with heap := s₂.heap, slotsUsed := s₂.slotsUsed } : State) L mc ms := by
      refine ⟨?_, q2, q3, q4, q5, q6⟩
      obtain ⟨t, ht, -⟩ := State.frames_cons hr
      show ({ U with heap := s₂.heap, slotsUsed := s₂.slotsUsed } : State) = { U.setFrames U.frames with heap := s₂.heap, slotsUsed := s₂.slotsUsed }
      rw [State.setFrames_self ht]
    subst hg
    refine Or.inl ⟨v, ⟨(({ U with heap := s₂.heap, slotsUsed := s₂.slotsUsed } : State).setVm s₂.vm), Ls ++ L, c0 + mc, s0 + ms⟩,
      ⟨X.admits, X.cas, X.clock, X.frames, X.room, X.hears, X.method, X.code, (X.here.setHeapUsed s₂.heap s₂.slotsUsed).setVm hW'.alike, X.tail, State.WarmedH.trans X.warmed hW', X.limits, X.bytes, X.same.trans (hsame.setVm s.vm)⟩,
      ⟨g, mk, s₂, L, rfl, rfl, hqc, rfl, hL, rfl, rfl⟩, ?_⟩
    show Steps p.tables e below _ ((({ U with heap := s₂.heap, slotsUsed := s₂.slotsUsed } : State).setVm s₂.vm).setTop { g with pc := g.pc + len₂, stack := v.toList ++ g.stack })
    rw [← hs₂]
    exact hsteps
  · obtain ⟨e2, q2, q3, q4, q5, q6⟩ := id hsm
    have e3 : s₂ = ({ (U.calling g mk a).setFrames s₂.frames with heap := s₂.heap, slotsUsed := s₂.slotsUsed } : State).setVm s₂.vm := by
      have : s₂ = ({ s₂ with vm := (U.calling g mk a).vm } : State).setVm s₂.vm := rfl
      rw [e2] at this
      exact this
    have hf₂ : s₂.frames = .throwing q :: .java g :: U.frames.tail := hend
    have hW' : U.WarmedH s₂.vm := hW₂
    have hs₂ : s₂ = ((({ U with heap := s₂.heap, slotsUsed := s₂.slotsUsed } : State).setVm s₂.vm).setTop g).pushFrame (.throwing q) := by
      refine e3.trans ?_
      rw [hf₂, State.calling_eq h.top, State.setFrames_setFrames, State.pushFrame, State.frames_setTop _ hr', State.setTop_of_frames _ hr', State.setFrames_setFrames, hr]
      rfl
    have hsame : U.sameButNew ({ U with heap := s₂.heap, slotsUsed := s₂.slotsUsed } : State) L mc ms := by
      refine ⟨?_, q2, q3, q4, q5, q6⟩
      obtain ⟨t, ht, -⟩ := State.frames_cons hr
      show ({ U with heap := s₂.heap, slotsUsed := s₂.slotsUsed } : State) = { U.setFrames U.frames with heap := s₂.heap, slotsUsed := s₂.slotsUsed }
      rw [State.setFrames_self ht]
    subst hg
    refine Or.inr ⟨q, ⟨(({ U with heap := s₂.heap, slotsUsed := s₂.slotsUsed } : State).setVm s₂.vm), Ls ++ L, c0 + mc, s0 + ms⟩,
      ⟨X.admits, X.cas, X.clock, X.frames, X.room, X.hears, X.method, X.code, (X.here.setHeapUsed s₂.heap s₂.slotsUsed).setVm hW'.alike, X.tail, State.WarmedH.trans X.warmed hW', X.limits, X.bytes, X.same.trans (hsame.setVm s.vm)⟩,
      ⟨g, mk, s₂, L, E, ce, rfl, rfl, hx, hce, hcv, hcl, rfl, hL, rfl, rfl⟩, ?_⟩
    show Steps p.tables e below _ (((({ U with heap := s₂.heap, slotsUsed := s₂.slotsUsed } : State).setVm s₂.vm).setTop g).pushFrame (.throwing q))
    rw [← hs₂]
    exact hsteps
end
variable {p : Program} {l : Launch} {e : Env} {R : Room} {s : State} {m : MethodId} {args : Array Value} {below : List Frame} {meth : Method} {c : Code} {T : State} {H : Heap} {locs : List Loc} {cells slots : Nat}
theorem vx_callVX (X : Stand p l e R s m args below meth c T locs cells slots) (hexec : p.tables.exec = Jvm.exec) {own C : String} {index : Nat} {y : MethodName} {bytes : ByteArray} {maxL : Nat} {ret : Option FieldType} {hh : List (Nat × Nat × Nat × Nat)}
    (hown : s.vm.findClass own = some m.cls) (hlink : (Cond.methodLink own index y).before args s = true) (hinst : (Cond.instanceMethod y).before args s = true) (hsel : (Cond.selects C y y).before args s = true)
    (hcode : (Cond.codeWith y bytes maxL ret hh).before args s = true) (hy : y.cls ≠ "java/lang/invoke/MethodHandle" ∧ y.cls ≠ "java/lang/invoke/VarHandle")
    {W9 : Nat} {Pre : Pt → Array Value → Prop} {Post : Pt → Array Value → Option Value → Pt → Prop} {PostX : Pt → Array Value → Addr → Pt → Prop} (hK : vx_Back l R p e below s args y 3 W9 Pre Post PostX)
    {b : Addr} {cellB : Cell} (hcell : T.heap[b]? = some cellB) (hobj : cellB.vm.isStatics = false) (hcls : s.vm.findClass C = some cellB.cls)
    {g : JFrame} (hg : g.method = m) (hsize : g.locals.size = c.maxLocals) {argsL rest : List Value} (hlen : ∀ sig, parseMethodDescriptor y.desc = some sig → argsL.length = sig.parameters.length)
    (hstack : g.stack = argsL.reverse ++ .ref b :: rest) (hW : 2 * g.monitorRoom + (rest.map fun v => v.category).sum ≤ W9) (hdg : decode c.code g.pc = .ok (.invokevirtual index, 3))
    (hpre : ∀ vm₁, s.WarmedH vm₁ → Pre ⟨T.setVm vm₁, locs, cells, slots⟩ (Value.ref b :: argsL).toArray) :
    (∃ (v : Option Value) (vm₁ : Vm) (B : Pt), s.WarmedH vm₁ ∧ Stand p l e R s m args below meth c B.U B.locs B.cells B.slots ∧ Post ⟨T.setVm vm₁, locs, cells, slots⟩ (Value.ref b :: argsL).toArray v B ∧
      ∀ target, Steps p.tables e below (B.U.setTop { g with pc := g.pc + 3, stack := v.toList ++ rest }) target → Steps p.tables e below (T.setTop g) target) ∨
    (∃ (q : Addr) (vm₁ : Vm) (B : Pt), s.WarmedH vm₁ ∧ Stand p l e R s m args below meth c B.U B.locs B.cells B.slots ∧ PostX ⟨T.setVm vm₁, locs, cells, slots⟩ (Value.ref b :: argsL).toArray q B ∧
      Steps p.tables e below (T.setTop g) ((B.U.setTop { g with stack := rest }).pushFrame (.throwing q))) := by
  obtain ⟨mk, methM, hnamed, hmethM, hstM, habM⟩ := Cond.instanceMethod_spec hinst
  obtain ⟨m8, methM', cM, hn8, hmethM', -, -, -, -, -, -, hsigM⟩ := Cond.codeWith_spec hcode
  cases Option.some.inj (hn8.symm.trans hnamed)
  cases hmethM.symm.trans hmethM'
  obtain ⟨c2, r2, m2, q1, q2, q3, q4, kP, hkP, hkPi⟩ := Cond.selects_spec hsel
  cases hcls.symm.trans q1
  cases (State.methodFound?_of_named hnamed hy).symm.trans q2
  cases hnamed.symm.trans q3
  have hselP : selectMethod e.platform s.vm cellB.cls mk = .method mk := by rw [Launch.admits_selectMethod X.admits]; exact q4
  obtain ⟨vm₁, X₁, hstep₁⟩ := X.invokevirtual hexec hown hlink hnamed hmethM hstM hkP hkPi hy (a := b) (cell := cellB) hcell
    (fun z h => by rw [h] at hobj; cases hobj) hselP hmethM habM hkP hkPi (g := g) hg (argsL := argsL) (rest := rest) (hlen _ hsigM) hstack hdg
  rcases hK m meth c ⟨T.setVm vm₁, locs, cells, slots⟩ { g with stack := rest } (.invokevirtual index) mk (Value.ref b :: argsL).toArray X₁ hg hsize hdg hW (X₁.named hnamed) (hpre vm₁ X₁.warmed) with ⟨v, B, X', hpost, hsteps⟩ | ⟨q, B, X', hpost, hsteps⟩
  · exact Or.inl ⟨v, vm₁, B, X₁.warmed, X', hpost, fun target h => hstep₁ _ fun acts => by rw [doInvoke_state]; exact hsteps.trans h⟩
  · exact Or.inr ⟨q, vm₁, B, X₁.warmed, X', hpost, hstep₁ _ fun acts => by rw [doInvoke_state]; exact hsteps⟩
theorem vx_callSX (X : Stand p l e R s m args below meth c T locs cells slots) (hexec : p.tables.exec = Jvm.exec) {own : String} {index : Nat} {y : MethodName} {bytes : ByteArray} {maxL : Nat} {ret : Option FieldType} {hh : List (Nat × Nat × Nat × Nat)}
    (hown : s.vm.findClass own = some m.cls) (hlink : (Cond.methodLink own index y).before args s = true) (hstat : (Cond.static y).before args s = true) (hinit : (Cond.initialized y.cls).before args s = true)
    (hcode : (Cond.codeWith y bytes maxL ret hh).before args s = true) (hy : y.cls ≠ "java/lang/invoke/MethodHandle" ∧ y.cls ≠ "java/lang/invoke/VarHandle")
    {W9 : Nat} {Pre : Pt → Array Value → Prop} {Post : Pt → Array Value → Option Value → Pt → Prop} {PostX : Pt → Array Value → Addr → Pt → Prop} (hK : vx_Back l R p e below s args y 3 W9 Pre Post PostX)
    {g : JFrame} (hg : g.method = m) (hsize : g.locals.size = c.maxLocals) {argsL rest : List Value} (hlen : ∀ sig, parseMethodDescriptor y.desc = some sig → argsL.length = sig.parameters.length)
    (hstack : g.stack = argsL.reverse ++ rest) (hW : 2 * g.monitorRoom + (rest.map fun v => v.category).sum ≤ W9) (hdg : decode c.code g.pc = .ok (.invokestatic index, 3))
    (hpre : ∀ vm₁, s.WarmedH vm₁ → Pre ⟨T.setVm vm₁, locs, cells, slots⟩ argsL.toArray) :
    (∃ (v : Option Value) (vm₁ : Vm) (B : Pt), s.WarmedH vm₁ ∧ Stand p l e R s m args below meth c B.U B.locs B.cells B.slots ∧ Post ⟨T.setVm vm₁, locs, cells, slots⟩ argsL.toArray v B ∧
      ∀ target, Steps p.tables e below (B.U.setTop { g with pc := g.pc + 3, stack := v.toList ++ rest }) target → Steps p.tables e below (T.setTop g) target) ∨
    (∃ (q : Addr) (vm₁ : Vm) (B : Pt), s.WarmedH vm₁ ∧ Stand p l e R s m args below meth c B.U B.locs B.cells B.slots ∧ PostX ⟨T.setVm vm₁, locs, cells, slots⟩ argsL.toArray q B ∧
      Steps p.tables e below (T.setTop g) ((B.U.setTop { g with stack := rest }).pushFrame (.throwing q))) := by
  obtain ⟨mk, methM, cM, hnamed, hmethM, -, -, -, -, -, -, hsigM⟩ := Cond.codeWith_spec hcode
  have hstatic : methM.isStatic = true := Cond.static_spec hnamed hmethM hstat
  obtain ⟨kP, hkP, -⟩ := className_of_methodNamed hnamed
  have hinitP : kP.init = .initialized := Cond.initialized_spec (findClass_of_methodNamed hnamed) hkP hinit
  obtain ⟨vm₁, X₁, hstep₁⟩ := X.invokestatic hexec hown hlink hnamed hmethM hstatic hkP hinitP hy (g := g) hg (argsL := argsL) (rest := rest) (hlen _ hsigM) hstack hdg
  rcases hK m meth c ⟨T.setVm vm₁, locs, cells, slots⟩ { g with stack := rest } (.invokestatic index) mk argsL.toArray X₁ hg hsize hdg hW (X₁.named hnamed) (hpre vm₁ X₁.warmed) with ⟨v, B, X', hpost, hsteps⟩ | ⟨q, B, X', hpost, hsteps⟩
  · exact Or.inl ⟨v, vm₁, B, X₁.warmed, X', hpost, fun target h => hstep₁ _ fun acts => by rw [doInvoke_state]; exact hsteps.trans h⟩
  · exact Or.inr ⟨q, vm₁, B, X₁.warmed, X', hpost, hstep₁ _ fun acts => by rw [doInvoke_state]; exact hsteps⟩
theorem vx_callVW (X : Stand p l e R s m args below meth c T locs cells slots) (hexec : p.tables.exec = Jvm.exec) {own C : String} {index : Nat} {y : MethodName} {bytes : ByteArray} {maxL : Nat} {ret : Option FieldType} {hh : List (Nat × Nat × Nat × Nat)}
    (hown : s.vm.findClass own = some m.cls) (hlink : (Cond.methodLink own index y).before args s = true) (hinst : (Cond.instanceMethod y).before args s = true) (hsel : (Cond.selects C y y).before args s = true)
    (hcode : (Cond.codeWith y bytes maxL ret hh).before args s = true) (hy : y.cls ≠ "java/lang/invoke/MethodHandle" ∧ y.cls ≠ "java/lang/invoke/VarHandle")
    {W9 : Nat} {Pre : Pt → Array Value → Prop} {Post : Pt → Array Value → Option Value → Pt → Prop} (hK : Back l R p e below s args y 3 W9 Pre Post)
    {b : Addr} {cellB : Cell} (hcell : T.heap[b]? = some cellB) (hobj : cellB.vm.isStatics = false) (hcls : s.vm.findClass C = some cellB.cls)
    {g : JFrame} (hg : g.method = m) (hsize : g.locals.size = c.maxLocals) {argsL rest : List Value} (hlen : ∀ sig, parseMethodDescriptor y.desc = some sig → argsL.length = sig.parameters.length)
    (hstack : g.stack = argsL.reverse ++ .ref b :: rest) (hW : 2 * g.monitorRoom + (rest.map fun v => v.category).sum ≤ W9) (hdg : decode c.code g.pc = .ok (.invokevirtual index, 3))
    (hpre : ∀ vm₁, s.WarmedH vm₁ → Pre ⟨T.setVm vm₁, locs, cells, slots⟩ (Value.ref b :: argsL).toArray) :
    ∃ (v : Option Value) (vm₁ : Vm) (B : Pt), s.WarmedH vm₁ ∧ Stand p l e R s m args below meth c B.U B.locs B.cells B.slots ∧ Post ⟨T.setVm vm₁, locs, cells, slots⟩ (Value.ref b :: argsL).toArray v B ∧
      ∀ target, Steps p.tables e below (B.U.setTop { g with pc := g.pc + 3, stack := v.toList ++ rest }) target → Steps p.tables e below (T.setTop g) target := by
  obtain ⟨mk, methM, hnamed, hmethM, hstM, habM⟩ := Cond.instanceMethod_spec hinst
  obtain ⟨m8, methM', cM, hn8, hmethM', -, -, -, -, -, -, hsigM⟩ := Cond.codeWith_spec hcode
  cases Option.some.inj (hn8.symm.trans hnamed)
  cases hmethM.symm.trans hmethM'
  obtain ⟨c2, r2, m2, q1, q2, q3, q4, kP, hkP, hkPi⟩ := Cond.selects_spec hsel
  cases hcls.symm.trans q1
  cases (State.methodFound?_of_named hnamed hy).symm.trans q2
  cases hnamed.symm.trans q3
  have hselP : selectMethod e.platform s.vm cellB.cls mk = .method mk := by rw [Launch.admits_selectMethod X.admits]; exact q4
  obtain ⟨vm₁, X₁, hstep₁⟩ := X.invokevirtual hexec hown hlink hnamed hmethM hstM hkP hkPi hy (a := b) (cell := cellB) hcell
    (fun z h => by rw [h] at hobj; cases hobj) hselP hmethM habM hkP hkPi (g := g) hg (argsL := argsL) (rest := rest) (hlen _ hsigM) hstack hdg
  obtain ⟨v, B, X', hpost, hsteps⟩ := hK m meth c ⟨T.setVm vm₁, locs, cells, slots⟩ { g with stack := rest } (.invokevirtual index) mk (Value.ref b :: argsL).toArray X₁ hg hsize hdg hW (X₁.named hnamed) (hpre vm₁ X₁.warmed)
  exact ⟨v, vm₁, B, X₁.warmed, X', hpost, fun target h => hstep₁ _ fun acts => by rw [doInvoke_state]; exact hsteps.trans h⟩
abbrev vx_CVW (R : Room) (s : State) (args : Array Value) (own C : String) (index : Nat) (y : MethodName) (bytes : ByteArray) (maxL : Nat) (ret : Option FieldType) (hh : List (Nat × Nat × Nat × Nat)) (ws : List Cond) (rm : Room) (mc ms n : Nat) : Prop :=
  (rm.cells = mc ∧ rm.slots = ms ∧ rm.frames + 1 ≤ R.frames ∧ 8 + (maxL + 11) + rm.locals ≤ R.locals ∧ (∀ w ∈ ws, ∀ (a' : Array Value) (U : State), s.WarmedH U.vm → w.before a' U = true) ∧ Cond.codeWith y bytes maxL ret hh ∈ ws) ∧
  (Cond.codeWith y bytes maxL ret hh).before args s = true ∧ (Cond.initialized y.cls).before args s = true ∧ (y.cls ≠ "java/lang/invoke/MethodHandle" ∧ y.cls ≠ "java/lang/invoke/VarHandle") ∧
  (∀ sig, parseMethodDescriptor y.desc = some sig → n = sig.parameters.length) ∧ (Cond.methodLink own index y).before args s = true ∧ (Cond.instanceMethod y).before args s = true ∧ (Cond.selects C y y).before args s = true
theorem vx_cwVW {own C : String} {index maxL mc ms : Nat} {y : MethodName} {bytes : ByteArray} {ret : Option FieldType} {hh : List (Nat × Nat × Nat × Nat)} {Ts ws ws' : List Cond} {rm : Room} (n : Nat) (ht : ∀ w ∈ Ts, w.before args s = true) (hT : GoodIn Ts (wsV own index C y ws)) (hw : ws = Cond.codeWith y bytes maxL ret hh :: ws') (hrc : rm.cells = mc) (hrs : rm.slots = ms)
    (hd : y.cls = C ∧ y.cls ≠ "java/lang/invoke/MethodHandle" ∧ y.cls ≠ "java/lang/invoke/VarHandle" ∧ (parseMethodDescriptor y.desc).map (fun d => d.parameters.length) = some n) (hR : rm.frames + 1 ≤ R.frames ∧ 8 + (maxL + 11) + rm.locals ≤ R.locals) :
    vx_CVW R s args own C index y bytes maxL ret hh ws rm mc ms n := by
  obtain ⟨hC, hd⟩ := hd
  subst hC
  have ok : ∀ w ∈ wsV own index y.cls y ws, w.before args s = true := fun w h => ht w (hT w h).1
  have hG : GoodIn Ts ws := fun w h => hT w (by unfold wsV; exact List.mem_append_right _ h)
  have hc : Cond.codeWith y bytes maxL ret hh ∈ ws := by rw [hw]; exact List.mem_cons_self
  refine ⟨⟨hrc, hrs, hR.1, hR.2, pay_in ht hG, hc⟩, ht _ (hG _ hc).1, ok _ (by simp [wsV]), ⟨hd.1, hd.2.1⟩, fun sig h => ?_, ok _ (by simp [wsV]), ok _ (by simp [wsV]), ok _ (by simp [wsV])⟩
  have h2 := hd.2.2
  rw [h] at h2
  exact (Option.some.inj h2).symm
theorem vx_runVW {y : MethodName} {bytes cc : ByteArray} {maxL nL mc ms n index : Nat} {ret : Option FieldType} {hh : List (Nat × Nat × Nat × Nat)} {ws : List Cond} {rm : Room} {Pc : Array Value → State → Prop} {Qc : Array Value → State → Outcome → State → Prop} {free : Addr → Prop} {Ts : List Cond} {own C : String} {b : Addr} {As rest : List Value} {g : JFrame}
    (S : CallFix p m c cc nL s args Ts own) (hM : Met l y ws rm Pc Qc mc ms free) (cw : vx_CVW R s args own C index y bytes maxL ret hh ws rm mc ms n) (hp : PreV s H C b Pc As)
    (hg : g.method = m) (hn : As.length = n) (hsize : g.locals.size = nL) (hstack : g.stack = As.reverse ++ .ref b :: rest) (hW : 2 * g.monitorRoom + (rest.map fun v => v.category).sum ≤ 8) (hdg : decode cc g.pc = .ok (.invokevirtual index, 3)) (hf : cells + mc ≤ R.cells ∧ slots + ms ≤ R.slots) :
    va_Run p l e R s m args below meth c H locs cells slots mc ms g rest (Qc (Value.ref b :: As).toArray) free := by
  obtain ⟨⟨hrc, hrs, hfr, hlo, hws, hcw⟩, hcode, hini, hy, hlen, hl, hin, hse⟩ := cw
  have hK : Back l R p e below s args y 3 8 (PreOf R mc ms Pc) (PostOf Qc mc ms free) := va_backW (hh := hh) (bytes := bytes) (maxL := maxL) (ret := ret) hM hp.1 hrc hrs hfr hlo hws hcw (fun a' U hW => word_at hW (Or.inl (by first | rfl | simp [Cond.onTables, Cond.keeps, Cond.steady])) hini)
  obtain ⟨hx, hb, hml, ho, -⟩ := S
  obtain ⟨-, ⟨cellB, hcB, hoB, hclB⟩, hPc⟩ := hp
  intro T hT X
  obtain ⟨v, vm₁, ⟨U', l2, c2, s2⟩, hW₁, X', ⟨g', mk, t, L, e1, e2, hq, h1, hL, h2, h3⟩, st⟩ := vx_callVW X hx (C := C) (hh := hh) (bytes := bytes) (maxL := maxL) (ret := ret) ho hl hin hse hcode hy hK (by rw [hT]; exact hcB) hoB hclB hg (hsize.trans hml.symm) (argsL := As) (rest := rest) (fun sig h => hn.trans (hlen sig h)) hstack hW (by rw [hb]; exact hdg)
    (fun vm₁ hW₁ => ⟨hf.1, hf.2, hPc (T.setVm vm₁) hT hW₁⟩)
  dsimp only [Pt.U, Pt.locs, Pt.cells, Pt.slots] at X' e1 e2 h1 h2 h3 st
  subst h1; subst h2; subst h3
  exact ⟨v, (T.setVm vm₁).calling g' mk (Value.ref b :: As).toArray, t, U', L, hT, X', hL, e1, e2, hq, st⟩
section
variable {y : MethodName} {bytes cc : ByteArray} {maxL nL mc ms n index : Nat} {ret : Option FieldType} {ws : List Cond} {rm : Room} {Pc : Array Value → State → Prop} {Qc : Array Value → State → Outcome → State → Prop} {XC : String → State → State → Prop} {free : Addr → Prop} {Ts : List Cond} {own C : String} {b : Addr} {As rest : List Value} {g : JFrame}
theorem vx_runVX {hh : List (Nat × Nat × Nat × Nat)} (S : CallFix p m c cc nL s args Ts own) (hM : vx_Met l y ws rm Pc Qc XC mc ms free) (cw : vx_CVW R s args own C index y bytes maxL ret hh ws rm mc ms n) (hp : PreV s H C b Pc As)
    (hg : g.method = m) (hn : As.length = n) (hsize : g.locals.size = nL) (hstack : g.stack = As.reverse ++ .ref b :: rest) (hW : 2 * g.monitorRoom + (rest.map fun v => v.category).sum ≤ 8) (hdg : decode cc g.pc = .ok (.invokevirtual index, 3)) (hf : cells + mc ≤ R.cells ∧ slots + ms ≤ R.slots) :
    vx_Run p l e R s m args below meth c H locs cells slots mc ms g rest (Qc (Value.ref b :: As).toArray) XC free := by
  obtain ⟨⟨hrc, hrs, hfr, hlo, hws, hcw⟩, hcode, hini, hy, hlen, hl, hin, hse⟩ := cw
  have hK : vx_Back l R p e below s args y 3 8 (PreOf R mc ms Pc) (PostOf Qc mc ms free) (vx_Post XC mc ms free) := vx_backW (hh := hh) (bytes := bytes) (maxL := maxL) (ret := ret) hM hp.1 hrc hrs hfr hlo hws hcw (fun a' U hW => word_at hW (Or.inl (by first | rfl | simp [Cond.onTables, Cond.keeps, Cond.steady])) hini)
  obtain ⟨hx, hb, hml, ho, -⟩ := S
  obtain ⟨-, ⟨cellB, hcB, hoB, hclB⟩, hPc⟩ := hp
  intro T hT X
  rcases vx_callVX X hx (C := C) (hh := hh) (bytes := bytes) (maxL := maxL) (ret := ret) ho hl hin hse hcode hy hK (by rw [hT]; exact hcB) hoB hclB hg (hsize.trans hml.symm) (argsL := As) (rest := rest) (fun sig h => hn.trans (hlen sig h)) hstack hW (by rw [hb]; exact hdg)
    (fun vm₁ hW₁ => ⟨hf.1, hf.2, hPc (T.setVm vm₁) hT hW₁⟩) with ⟨v, vm₁, ⟨U', l2, c2, s2⟩, hW₁, X', ⟨g', mk, t, L, e1, e2, hq, h1, hL, h2, h3⟩, st⟩ | ⟨q, vm₁, ⟨U', l2, c2, s2⟩, hW₁, X', ⟨g', mk, t, L, E, ce, e1, e2, hq, hce, hcv, hcl, h1, hL, h2, h3⟩, st⟩
  · dsimp only [Pt.U, Pt.locs, Pt.cells, Pt.slots] at X' e1 e2 h1 h2 h3 st
    subst h1; subst h2; subst h3
    exact Or.inl ⟨v, (T.setVm vm₁).calling g' mk (Value.ref b :: As).toArray, t, U', L, hT, X', hL, e1, e2, hq, st⟩
  · dsimp only [Pt.U, Pt.locs, Pt.cells, Pt.slots] at X' e1 e2 h1 h2 h3 st hcl
    subst h1; subst h2; subst h3
    exact Or.inr ⟨q, (T.setVm vm₁).calling g' mk (Value.ref b :: As).toArray, t, U', L, E, ce, hT, X', hL, e1, e2, hq, hce, hcv, vx_cls hW₁ hcl, st⟩
theorem vx_runSX {hh : List (Nat × Nat × Nat × Nat)} (S : CallFix p m c cc nL s args Ts own) (hM : vx_Met l y ws rm Pc Qc XC mc ms free) (cw : vx_CSW R s args own index y bytes maxL ret hh ws rm mc ms n) (hp : PreS s H Pc As)
    (hg : g.method = m) (hn : As.length = n) (hsize : g.locals.size = nL) (hstack : g.stack = As.reverse ++ rest) (hW : 2 * g.monitorRoom + (rest.map fun v => v.category).sum ≤ 8) (hdg : decode cc g.pc = .ok (.invokestatic index, 3)) (hf : cells + mc ≤ R.cells ∧ slots + ms ≤ R.slots) :
    vx_Run p l e R s m args below meth c H locs cells slots mc ms g rest (Qc As.toArray) XC free := by
  obtain ⟨⟨hrc, hrs, hfr, hlo, hws, hcw⟩, hcode, hini, hy, hlen, hl, hstt⟩ := cw
  have hK : vx_Back l R p e below s args y 3 8 (PreOf R mc ms Pc) (PostOf Qc mc ms free) (vx_Post XC mc ms free) := vx_backW (hh := hh) (bytes := bytes) (maxL := maxL) (ret := ret) hM hp.1 hrc hrs hfr hlo hws hcw (fun a' U hW => word_at hW (Or.inl (by first | rfl | simp [Cond.onTables, Cond.keeps, Cond.steady])) hini)
  obtain ⟨hx, hb, hml, ho, -⟩ := S
  intro T hT X
  rcases vx_callSX X hx (hh := hh) (bytes := bytes) (maxL := maxL) (ret := ret) ho hl hstt hini hcode hy hK hg (hsize.trans hml.symm) (argsL := As) (rest := rest) (fun sig h => hn.trans (hlen sig h)) hstack hW (by rw [hb]; exact hdg)
    (fun vm₁ hW₁ => ⟨hf.1, hf.2, hp.2 (T.setVm vm₁) hT hW₁⟩) with ⟨v, vm₁, ⟨U', l2, c2, s2⟩, hW₁, X', ⟨g', mk, t, L, e1, e2, hq, h1, hL, h2, h3⟩, st⟩ | ⟨q, vm₁, ⟨U', l2, c2, s2⟩, hW₁, X', ⟨g', mk, t, L, E, ce, e1, e2, hq, hce, hcv, hcl, h1, hL, h2, h3⟩, st⟩
  · dsimp only [Pt.U, Pt.locs, Pt.cells, Pt.slots] at X' e1 e2 h1 h2 h3 st
    subst h1; subst h2; subst h3
    exact Or.inl ⟨v, (T.setVm vm₁).calling g' mk As.toArray, t, U', L, hT, X', hL, e1, e2, hq, st⟩
  · dsimp only [Pt.U, Pt.locs, Pt.cells, Pt.slots] at X' e1 e2 h1 h2 h3 st hcl
    subst h1; subst h2; subst h3
    exact Or.inr ⟨q, (T.setVm vm₁).calling g' mk As.toArray, t, U', L, E, ce, hT, X', hL, e1, e2, hq, hce, hcv, vx_cls hW₁ hcl, st⟩
end
end VXH
theorem vx_ofWH {l : Launch} {y : MethodName} {ws ws' : List Cond} {rm : Room} {Pc : Array Value → State → Prop} {Qc : Array Value → State → Outcome → State → Prop} {XC : String → State → State → Prop} {mc ms : Nat} {free : Addr → Prop} {cc : ByteArray} {maxL : Nat} {ret : Option FieldType} {hh : List (Nat × Nat × Nat × Nat)}
    (hy : plainName y.cls = true) (hw : ws = Cond.codeWith y cc maxL ret hh :: ws')
    (body : ∀ p e s m args below meth c s₁, BodyLoose p l y (headSpec ws rm) cc maxL ret e s m args below meth c s₁ → c.maxLocals = maxL → Pc args s →
      W p l e (headSpec ws rm).room s m args below meth c s.heap [] 0 0 (vx_MQ below Qc XC args s mc ms free) (entryFrame m args maxL)) : vx_Met l y ws rm Pc Qc XC mc ms free := by
  refine MetFree.of_bodyS (code := cc) (maxLocals := maxL) (ret := ret) hy ?_ ?_
  · intro args s m h hn
    obtain ⟨m9, meth, c, hn9, h1, h2, h3, h4, -, h5, h6, -⟩ := Cond.codeWith_spec (atoms_spec (ws := ws) h _ (by rw [hw]; exact List.mem_cons_self))
    cases hn.symm.trans hn9
    exact ⟨meth, c, h1, h2, h3, h4, h5, h6⟩
  · intro p e s m args below meth c s₁ B hml hP _
    have hh0 : s₁.heap = s.heap := by rw [B.state]; rfl
    obtain ⟨t, a1, o, b1, b2, b3⟩ := body p e s m args below meth c s₁ B hml hP s₁ hh0 (Stand.of_body B)
    exact ⟨t, o, a1, b1, b2, b3⟩
/-! ===== END ===== -/
end
section
/-! ===== BEGIN printed: names, fields, word lists, decode rows ===== -/
def RX0 : String := "Submodulary"
def TX0 : u_T := fun k => match k with
  | 0 => ("Submodulary", "elements", "I", false)
  | 1 => ("Submodulary", "functions", "I", false)
  | 2 => ("Submodulary", "told", "I", false)
  | 3 => ("Submodulary", "covered", "[I", true)
  | 4 => ("Submodulary", "edges", "[I", true)
  | 5 => ("Submodulary", "colours", "[I", true)
  | 6 => ("Submodulary", "rooms", "[I", true)
  | 7 => ("Submodulary", "weights", "[I", true)
  | 8 => ("Submodulary", "values", "[I", true)
  | 9 => ("Submodulary", "ordered", "[I", true)
  | 10 => ("Submodulary", "cameFrom", "[I", true)
  | _ => ("Submodulary", "reached", "[I", true)
def tyX0 : Nat → FieldType := fun k => match k with
  | 0 => .int
  | 1 => .int
  | 2 => .int
  | 3 => .array .int
  | 4 => .array .int
  | 5 => .array .int
  | 6 => .array .int
  | 7 => .array .int
  | 8 => .array .int
  | 9 => .array .int
  | 10 => .array .int
  | _ => .array .int
abbrev wsX00 : List Cond := u_ws RX0 TX0 12
theorem nmX0 : ∀ a, a < 12 → ∀ b, b < 12 → a ≠ b → (TX0 a).2.1 ≠ (TX0 b).2.1 := by decide +kernel
theorem tyX0_ok : ∀ k, k < 12 → parseFieldDescriptor (TX0 k).2.2.1 = some (tyX0 k) := by decide +kernel
abbrev cX0_init : ByteArray := prog_1_method_1_code
def yX0_init : MethodName := ⟨RX0, "<init>", "()V"⟩
abbrev cX0_elements : ByteArray := prog_1_method_2_code
def yX0_elements : MethodName := ⟨RX0, "elements", "(I)I"⟩
abbrev cX0_cover : ByteArray := prog_1_method_3_code
def yX0_cover : MethodName := ⟨RX0, "cover", "(IIZ)Z"⟩
abbrev cX0_edge : ByteArray := prog_1_method_4_code
def yX0_edge : MethodName := ⟨RX0, "edge", "(III)I"⟩
abbrev cX0_colour : ByteArray := prog_1_method_5_code
def yX0_colour : MethodName := ⟨RX0, "colour", "(III)I"⟩
abbrev cX0_room : ByteArray := prog_1_method_6_code
def yX0_room : MethodName := ⟨RX0, "room", "(III)I"⟩
abbrev cX0_weigh : ByteArray := prog_1_method_7_code
def yX0_weigh : MethodName := ⟨RX0, "weigh", "(II)I"⟩
abbrev cX0_make : ByteArray := prog_1_method_8_code
def yX0_make : MethodName := ⟨RX0, "make", "(I)I"⟩
abbrev cX0_sum : ByteArray := prog_1_method_9_code
def yX0_sum : MethodName := ⟨RX0, "sum", "(II)I"⟩
abbrev cX0_contract : ByteArray := prog_1_method_10_code
def yX0_contract : MethodName := ⟨RX0, "contract", "(II)I"⟩
abbrev cX0_cap : ByteArray := prog_1_method_11_code
def yX0_cap : MethodName := ⟨RX0, "cap", "(II)I"⟩
abbrev cX0_value : ByteArray := prog_1_method_12_code
def yX0_value : MethodName := ⟨RX0, "value", "(II)I"⟩
abbrev cX0_isLawful : ByteArray := prog_1_method_13_code
def yX0_isLawful : MethodName := ⟨RX0, "isLawful", "(I)Z"⟩
abbrev cX0_rises : ByteArray := prog_1_method_14_code
def yX0_rises : MethodName := ⟨RX0, "rises", "(I)Z"⟩
abbrev cX0_least : ByteArray := prog_1_method_15_code
def yX0_least : MethodName := ⟨RX0, "least", "(I)I"⟩
abbrev cX0_leastSet : ByteArray := prog_1_method_16_code
def yX0_leastSet : MethodName := ⟨RX0, "leastSet", "(IZ)I"⟩
abbrev cX0_leastSetAnew : ByteArray := prog_1_method_17_code
def yX0_leastSetAnew : MethodName := ⟨RX0, "leastSetAnew", "(IZ)I"⟩
abbrev cX0_order : ByteArray := prog_1_method_18_code
def yX0_order : MethodName := ⟨RX0, "order", "(I)I"⟩
abbrev cX0_corner : ByteArray := prog_1_method_19_code
def yX0_corner : MethodName := ⟨RX0, "corner", "(II)I"⟩
abbrev cX0_greedy : ByteArray := prog_1_method_20_code
def yX0_greedy : MethodName := ⟨RX0, "greedy", "(II)I"⟩
abbrev cX0_best : ByteArray := prog_1_method_21_code
def yX0_best : MethodName := ⟨RX0, "best", "(II)I"⟩
abbrev cX0_common : ByteArray := prog_1_method_22_code
def yX0_common : MethodName := ⟨RX0, "common", "()I"⟩
abbrev cX0_commonAnew : ByteArray := prog_1_method_23_code
def yX0_commonAnew : MethodName := ⟨RX0, "commonAnew", "()I"⟩
abbrev cX0_share : ByteArray := prog_1_method_24_code
def yX0_share : MethodName := ⟨RX0, "share", "(II)I"⟩
abbrev cX0_shareAnew : ByteArray := prog_1_method_25_code
def yX0_shareAnew : MethodName := ⟨RX0, "shareAnew", "(II)I"⟩
abbrev cX0_needIndex : ByteArray := prog_1_method_26_code
def yX0_needIndex : MethodName := ⟨RX0, "needIndex", "(Z)V"⟩
abbrev cX0_needArgument : ByteArray := prog_1_method_27_code
def yX0_needArgument : MethodName := ⟨RX0, "needArgument", "(Z)V"⟩
abbrev cX0_needState : ByteArray := prog_1_method_28_code
def yX0_needState : MethodName := ⟨RX0, "needState", "(Z)V"⟩
abbrev cX0_needPlace : ByteArray := prog_1_method_29_code
def yX0_needPlace : MethodName := ⟨RX0, "needPlace", "()V"⟩
abbrev cX0_isWithin : ByteArray := prog_1_method_30_code
def yX0_isWithin : MethodName := ⟨RX0, "isWithin", "(III)Z"⟩
abbrev cX0_isElement : ByteArray := prog_1_method_31_code
def yX0_isElement : MethodName := ⟨RX0, "isElement", "(I)Z"⟩
abbrev cX0_isFamily : ByteArray := prog_1_method_32_code
def yX0_isFamily : MethodName := ⟨RX0, "isFamily", "(I)Z"⟩
abbrev cX0_isColour : ByteArray := prog_1_method_33_code
def yX0_isColour : MethodName := ⟨RX0, "isColour", "(I)Z"⟩
abbrev cX0_isFunction : ByteArray := prog_1_method_34_code
def yX0_isFunction : MethodName := ⟨RX0, "isFunction", "(I)Z"⟩
abbrev cX0_isSet : ByteArray := prog_1_method_35_code
def yX0_isSet : MethodName := ⟨RX0, "isSet", "(I)Z"⟩
abbrev cX0_at : ByteArray := prog_1_method_36_code
def yX0_at : MethodName := ⟨RX0, "at", "([II)I"⟩
abbrev cX0_put : ByteArray := prog_1_method_37_code
def yX0_put : MethodName := ⟨RX0, "put", "([III)V"⟩
abbrev cX0_edgeWeight : ByteArray := prog_1_method_38_code
def yX0_edgeWeight : MethodName := ⟨RX0, "edgeWeight", "(II)I"⟩
abbrev cX0_colourOf : ByteArray := prog_1_method_39_code
def yX0_colourOf : MethodName := ⟨RX0, "colourOf", "(II)I"⟩
abbrev cX0_roomOf : ByteArray := prog_1_method_40_code
def yX0_roomOf : MethodName := ⟨RX0, "roomOf", "(II)I"⟩
abbrev cX0_valueOf : ByteArray := prog_1_method_41_code
def yX0_valueOf : MethodName := ⟨RX0, "valueOf", "(II)I"⟩
abbrev cX0_putNew : ByteArray := prog_1_method_42_code
def yX0_putNew : MethodName := ⟨RX0, "putNew", "(II)V"⟩
abbrev cX0_countNew : ByteArray := prog_1_method_43_code
def yX0_countNew : MethodName := ⟨RX0, "countNew", "()I"⟩
abbrev cX0_sets : ByteArray := prog_1_method_44_code
def yX0_sets : MethodName := ⟨RX0, "sets", "()I"⟩
abbrev cX0_has : ByteArray := prog_1_method_45_code
def yX0_has : MethodName := ⟨RX0, "has", "(II)Z"⟩
abbrev cX0_with : ByteArray := prog_1_method_46_code
def yX0_with : MethodName := ⟨RX0, "with", "(II)I"⟩
abbrev cX0_without : ByteArray := prog_1_method_47_code
def yX0_without : MethodName := ⟨RX0, "without", "(II)I"⟩
abbrev cX0_toldValue : ByteArray := prog_1_method_48_code
def yX0_toldValue : MethodName := ⟨RX0, "toldValue", "(II)I"⟩
abbrev cX0_coverValue : ByteArray := prog_1_method_49_code
def yX0_coverValue : MethodName := ⟨RX0, "coverValue", "(I)I"⟩
abbrev cX0_cutValue : ByteArray := prog_1_method_50_code
def yX0_cutValue : MethodName := ⟨RX0, "cutValue", "(I)I"⟩
abbrev cX0_rankValue : ByteArray := prog_1_method_51_code
def yX0_rankValue : MethodName := ⟨RX0, "rankValue", "(II)I"⟩
abbrev cX0_weightsValue : ByteArray := prog_1_method_52_code
def yX0_weightsValue : MethodName := ⟨RX0, "weightsValue", "(I)I"⟩
abbrev cX0_countOf : ByteArray := prog_1_method_53_code
def yX0_countOf : MethodName := ⟨RX0, "countOf", "(III)I"⟩
abbrev cX0_gain : ByteArray := prog_1_method_54_code
def yX0_gain : MethodName := ⟨RX0, "gain", "(III)I"⟩
abbrev cX0_hasLaw : ByteArray := prog_1_method_55_code
def yX0_hasLaw : MethodName := ⟨RX0, "hasLaw", "(I)Z"⟩
abbrev cX0_hasLawAbove : ByteArray := prog_1_method_56_code
def yX0_hasLawAbove : MethodName := ⟨RX0, "hasLawAbove", "(II)Z"⟩
abbrev cX0_leastBetween : ByteArray := prog_1_method_57_code
def yX0_leastBetween : MethodName := ⟨RX0, "leastBetween", "(IIIZI)I"⟩
abbrev cX0_takenIn : ByteArray := prog_1_method_58_code
def yX0_takenIn : MethodName := ⟨RX0, "takenIn", "(IIIZ)I"⟩
abbrev cX0_takenOut : ByteArray := prog_1_method_59_code
def yX0_takenOut : MethodName := ⟨RX0, "takenOut", "(IIIZ)I"⟩
abbrev cX0_lowest : ByteArray := prog_1_method_60_code
def yX0_lowest : MethodName := ⟨RX0, "lowest", "(I)I"⟩
abbrev cX0_isTold : ByteArray := prog_1_method_61_code
def yX0_isTold : MethodName := ⟨RX0, "isTold", "(I)Z"⟩
abbrev cX0_aheadOf : ByteArray := prog_1_method_62_code
def yX0_aheadOf : MethodName := ⟨RX0, "aheadOf", "(I)I"⟩
abbrev cX0_greediest : ByteArray := prog_1_method_63_code
def yX0_greediest : MethodName := ⟨RX0, "greediest", "(II)I"⟩
abbrev cX0_isFair : ByteArray := prog_1_method_64_code
def yX0_isFair : MethodName := ⟨RX0, "isFair", "(II)Z"⟩
abbrev cX0_hasRoom : ByteArray := prog_1_method_65_code
def yX0_hasRoom : MethodName := ⟨RX0, "hasRoom", "(III)Z"⟩
abbrev cX0_endOfPath : ByteArray := prog_1_method_66_code
def yX0_endOfPath : MethodName := ⟨RX0, "endOfPath", "(I)I"⟩
abbrev cX0_reachFirst : ByteArray := prog_1_method_67_code
def yX0_reachFirst : MethodName := ⟨RX0, "reachFirst", "(I)I"⟩
abbrev cX0_reachFrom : ByteArray := prog_1_method_68_code
def yX0_reachFrom : MethodName := ⟨RX0, "reachFrom", "(III)I"⟩
abbrev cX0_isStep : ByteArray := prog_1_method_69_code
def yX0_isStep : MethodName := ⟨RX0, "isStep", "(III)Z"⟩
abbrev cX0_flippedAlong : ByteArray := prog_1_method_70_code
def yX0_flippedAlong : MethodName := ⟨RX0, "flippedAlong", "(II)I"⟩
abbrev cX0_ordersOf : ByteArray := prog_1_method_71_code
def yX0_ordersOf : MethodName := ⟨RX0, "ordersOf", "(I)I"⟩
abbrev cX0_gainsOverOrders : ByteArray := prog_1_method_72_code
def yX0_gainsOverOrders : MethodName := ⟨RX0, "gainsOverOrders", "(IIIII)I"⟩
def RX1 : String := "SubmodularyModel"
def TX1 : u_T := fun k => match k with
  | _ => ("", "", "", false)
def tyX1 : Nat → FieldType := fun k => match k with
  | _ => .int
abbrev wsX10 : List Cond := u_ws RX1 TX1 0
theorem nmX1 : ∀ a, a < 0 → ∀ b, b < 0 → a ≠ b → (TX1 a).2.1 ≠ (TX1 b).2.1 := by decide +kernel
theorem tyX1_ok : ∀ k, k < 0 → parseFieldDescriptor (TX1 k).2.2.1 = some (tyX1 k) := by decide +kernel
def RJx145de : String := "java/io/Serializable"
def TJx145de : u_T := fun k => match k with
  | _ => ("", "", "", false)
def tyJx145de : Nat → FieldType := fun k => match k with
  | _ => .int
abbrev wsJx145de0 : List Cond := u_ws RJx145de TJx145de 0
theorem nmJx145de : ∀ a, a < 0 → ∀ b, b < 0 → a ≠ b → (TJx145de a).2.1 ≠ (TJx145de b).2.1 := by decide +kernel
theorem tyJx145de_ok : ∀ k, k < 0 → parseFieldDescriptor (TJx145de k).2.2.1 = some (tyJx145de k) := by decide +kernel
def RJ6 : String := "java/lang/Integer"
def TJ6 : u_T := fun k => match k with
  | _ => ("", "", "", false)
def tyJ6 : Nat → FieldType := fun k => match k with
  | _ => .int
abbrev wsJ60 : List Cond := u_ws RJ6 TJ6 0
theorem nmJ6 : ∀ a, a < 0 → ∀ b, b < 0 → a ≠ b → (TJ6 a).2.1 ≠ (TJ6 b).2.1 := by decide +kernel
theorem tyJ6_ok : ∀ k, k < 0 → parseFieldDescriptor (TJ6 k).2.2.1 = some (tyJ6 k) := by decide +kernel
abbrev cJ6_bitCount_0f7a4 : ByteArray := prog_8_method_49_code
def yJ6_bitCount_0f7a4 : MethodName := ⟨RJ6, "bitCount", "(I)I"⟩
def RJ9 : String := "java/lang/Math"
def TJ9 : u_T := fun k => match k with
  | _ => ("", "", "", false)
def tyJ9 : Nat → FieldType := fun k => match k with
  | _ => .int
abbrev wsJ90 : List Cond := u_ws RJ9 TJ9 0
theorem nmJ9 : ∀ a, a < 0 → ∀ b, b < 0 → a ≠ b → (TJ9 a).2.1 ≠ (TJ9 b).2.1 := by decide +kernel
theorem tyJ9_ok : ∀ k, k < 0 → parseFieldDescriptor (TJ9 k).2.2.1 = some (tyJ9 k) := by decide +kernel
abbrev cJ9_max_7cf53 : ByteArray := prog_9_method_65_code
def yJ9_max_7cf53 : MethodName := ⟨RJ9, "max", "(II)I"⟩
abbrev cJ9_min_7cf53 : ByteArray := prog_9_method_69_code
def yJ9_min_7cf53 : MethodName := ⟨RJ9, "min", "(II)I"⟩
def RJ0 : String := "java/lang/String"
def TJ0 : u_T := fun k => match k with
  | _ => ("", "", "", false)
def tyJ0 : Nat → FieldType := fun k => match k with
  | _ => .int
abbrev wsJ00 : List Cond := u_ws RJ0 TJ0 0
theorem nmJ0 : ∀ a, a < 0 → ∀ b, b < 0 → a ≠ b → (TJ0 a).2.1 ≠ (TJ0 b).2.1 := by decide +kernel
theorem tyJ0_ok : ∀ k, k < 0 → parseFieldDescriptor (TJ0 k).2.2.1 = some (tyJ0 k) := by decide +kernel
def RJ7 : String := "java/util/Arrays"
def TJ7 : u_T := fun k => match k with
  | _ => ("", "", "", false)
def tyJ7 : Nat → FieldType := fun k => match k with
  | _ => .int
abbrev wsJ70 : List Cond := u_ws RJ7 TJ7 0
theorem nmJ7 : ∀ a, a < 0 → ∀ b, b < 0 → a ≠ b → (TJ7 a).2.1 ≠ (TJ7 b).2.1 := by decide +kernel
theorem tyJ7_ok : ∀ k, k < 0 → parseFieldDescriptor (TJ7 k).2.2.1 = some (tyJ7 k) := by decide +kernel
abbrev cJ7_fill_53178 : ByteArray := prog_13_method_103_code
def yJ7_fill_53178 : MethodName := ⟨RJ7, "fill", "([II)V"⟩
def RL : String := "SubmodularyLaw"
abbrev cL_act : ByteArray := method_2_code
def yL_act : MethodName := ⟨RL, "act", "(LSubmodulary;IIII)I"⟩
abbrev cL_refuses : ByteArray := method_3_code
def yL_refuses : MethodName := ⟨RL, "refuses", "(LSubmodulary;II)Z"⟩
abbrev cL_least : ByteArray := method_4_code
def yL_least : MethodName := ⟨RL, "least", "(LSubmodulary;IIII)Z"⟩
abbrev cL_share : ByteArray := method_5_code
def yL_share : MethodName := ⟨RL, "share", "(LSubmodulary;III)Z"⟩
abbrev cL_guild : ByteArray := method_6_code
def yL_guild : MethodName := ⟨RL, "guild", "()Z"⟩
abbrev cL_greed : ByteArray := method_7_code
def yL_greed : MethodName := ⟨RL, "greed", "(LSubmodulary;)Z"⟩
abbrev cL_orders : ByteArray := method_8_code
def yL_orders : MethodName := ⟨RL, "orders", "(LSubmodulary;)Z"⟩
abbrev cL_six : ByteArray := method_9_code
def yL_six : MethodName := ⟨RL, "six", "()Z"⟩
abbrev cL_law : ByteArray := code
def yL_law : MethodName := ⟨RL, "law", "([I)Z"⟩
def wsJ7_fill_53178 : List Cond := .code yJ7_fill_53178 cJ7_fill_53178 4 none :: ([])
def wsX0_init : List Cond := .code yX0_init cX0_init 1 none :: ([.methodLink RX0 1 objectInit, .instanceMethod objectInit, .code objectInit ⟨#[0xb1]⟩ 1 none, .fieldLink RX0 9 "Submodulary" "elements" "I", .fieldLink RX0 13 "Submodulary" "functions" "I", .fieldLink RX0 16 "Submodulary" "told" "I", .arrayClass .int, .fieldLink RX0 19 "Submodulary" "covered" "[I", .fieldLink RX0 23 "Submodulary" "edges" "[I", .fieldLink RX0 26 "Submodulary" "colours" "[I", .fieldLink RX0 29 "Submodulary" "rooms" "[I", .fieldLink RX0 32 "Submodulary" "weights" "[I", .fieldLink RX0 35 "Submodulary" "values" "[I", .fieldLink RX0 38 "Submodulary" "ordered" "[I", .fieldLink RX0 41 "Submodulary" "cameFrom" "[I", .fieldLink RX0 44 "Submodulary" "reached" "[I", .methodLink RX0 47 yJ7_fill_53178, .static yJ7_fill_53178, .initialized RJ7, .code yJ7_fill_53178 cJ7_fill_53178 4 none] ++ wsX00)
def wsX0_isWithin : List Cond := .code yX0_isWithin cX0_isWithin 3 (some .boolean) :: ([])
def wsX0_needArgument : List Cond := .code yX0_needArgument cX0_needArgument 1 none :: ([.classLink RX0 188 "java/lang/IllegalArgumentException", .initialized "java/lang/IllegalArgumentException"] ++ (vx_atS RX0 192 "java/lang/IllegalArgumentException" ["java/lang/RuntimeException", "java/lang/Exception"]).filter goodWord)
def wsX0_elements : List Cond := .code yX0_elements cX0_elements 3 (some .int) :: ([.fieldLink RX0 9 "Submodulary" "elements" "I", .fieldLink RX0 13 "Submodulary" "functions" "I", .fieldLink RX0 16 "Submodulary" "told" "I", .fieldLink RX0 19 "Submodulary" "covered" "[I", .fieldLink RX0 23 "Submodulary" "edges" "[I", .fieldLink RX0 26 "Submodulary" "colours" "[I", .fieldLink RX0 29 "Submodulary" "rooms" "[I", .fieldLink RX0 32 "Submodulary" "weights" "[I", .methodLink RX0 53 yX0_isWithin, .static yX0_isWithin, .initialized RX0, .code yX0_isWithin cX0_isWithin 3 (some .boolean), .methodLink RX0 57 yX0_needArgument, .static yX0_needArgument, .code yX0_needArgument cX0_needArgument 1 none, .classLink RX0 188 "java/lang/IllegalArgumentException", .initialized "java/lang/IllegalArgumentException", .methodLink RX0 47 yJ7_fill_53178, .static yJ7_fill_53178, .initialized RJ7, .code yJ7_fill_53178 cJ7_fill_53178 4 none] ++ wsX00 ++ (vx_atS RX0 192 "java/lang/IllegalArgumentException" ["java/lang/RuntimeException", "java/lang/Exception"]).filter goodWord)
def wsX0_isElement : List Cond := .code yX0_isElement cX0_isElement 2 (some .boolean) :: ([.fieldLink RX0 9 "Submodulary" "elements" "I"] ++ wsX00)
def wsX0_needIndex : List Cond := .code yX0_needIndex cX0_needIndex 1 none :: ([.classLink RX0 181 "java/lang/IndexOutOfBoundsException", .initialized "java/lang/IndexOutOfBoundsException"] ++ (vx_atS RX0 185 "java/lang/IndexOutOfBoundsException" ["java/lang/RuntimeException", "java/lang/Exception"]).filter goodWord)
def wsX0_at : List Cond := .code yX0_at cX0_at 2 (some .int) :: ([])
def wsX0_with : List Cond := .code yX0_with cX0_with 2 (some .int) :: ([])
def wsX0_without : List Cond := .code yX0_without cX0_without 2 (some .int) :: ([])
def wsX0_put : List Cond := .code yX0_put cX0_put 3 none :: ([])
def wsX0_has : List Cond := .code yX0_has cX0_has 2 (some .boolean) :: ([])
def wsX0_cover_r1 : List Cond := [Cond.fieldLink RX0 19 "Submodulary" "covered" "[I", Cond.methodLink RX0 61 yX0_isElement, Cond.instanceMethod yX0_isElement, Cond.selects RX0 yX0_isElement yX0_isElement, Cond.initialized RX0, Cond.code yX0_isElement cX0_isElement 2 (some .boolean), Cond.fieldLink RX0 9 "Submodulary" "elements" "I", Cond.methodLink RX0 53 yX0_isWithin, Cond.static yX0_isWithin, Cond.code yX0_isWithin cX0_isWithin 3 (some .boolean), Cond.methodLink RX0 65 yX0_needIndex, Cond.static yX0_needIndex, Cond.code yX0_needIndex cX0_needIndex 1 none, Cond.classLink RX0 181 "java/lang/IndexOutOfBoundsException", Cond.initialized "java/lang/IndexOutOfBoundsException", Cond.methodLink RX0 68 yX0_at, Cond.static yX0_at, Cond.code yX0_at cX0_at 2 (some .int), Cond.methodLink RX0 72 yX0_with, Cond.static yX0_with, Cond.code yX0_with cX0_with 2 (some .int), Cond.methodLink RX0 76 yX0_without, Cond.static yX0_without, Cond.code yX0_without cX0_without 2 (some .int)]
def wsX0_cover_r2 : List Cond := [Cond.methodLink RX0 79 yX0_put, Cond.static yX0_put, Cond.code yX0_put cX0_put 3 none, Cond.methodLink RX0 83 yX0_has, Cond.static yX0_has, Cond.code yX0_has cX0_has 2 (some .boolean)]
def wsX0_cover : List Cond := .code yX0_cover cX0_cover 5 (some .boolean) :: ((wsX0_cover_r1 ++ wsX0_cover_r2) ++ wsX00 ++ (vx_atS RX0 185 "java/lang/IndexOutOfBoundsException" ["java/lang/RuntimeException", "java/lang/Exception"]).filter goodWord)
def wsX0_edgeWeight : List Cond := .code yX0_edgeWeight cX0_edgeWeight 3 (some .int) :: ([.fieldLink RX0 23 "Submodulary" "edges" "[I", .methodLink RX0 68 yX0_at, .static yX0_at, .initialized RX0, .code yX0_at cX0_at 2 (some .int)] ++ wsX00)
def wsX0_edge_r1 : List Cond := [Cond.fieldLink RX0 23 "Submodulary" "edges" "[I", Cond.methodLink RX0 61 yX0_isElement, Cond.instanceMethod yX0_isElement, Cond.selects RX0 yX0_isElement yX0_isElement, Cond.initialized RX0, Cond.code yX0_isElement cX0_isElement 2 (some .boolean), Cond.fieldLink RX0 9 "Submodulary" "elements" "I", Cond.methodLink RX0 65 yX0_needIndex, Cond.static yX0_needIndex, Cond.code yX0_needIndex cX0_needIndex 1 none, Cond.classLink RX0 181 "java/lang/IndexOutOfBoundsException", Cond.initialized "java/lang/IndexOutOfBoundsException", Cond.methodLink RX0 53 yX0_isWithin, Cond.static yX0_isWithin, Cond.code yX0_isWithin cX0_isWithin 3 (some .boolean), Cond.methodLink RX0 57 yX0_needArgument, Cond.static yX0_needArgument, Cond.code yX0_needArgument cX0_needArgument 1 none, Cond.classLink RX0 188 "java/lang/IllegalArgumentException", Cond.initialized "java/lang/IllegalArgumentException", Cond.methodLink RX0 87 yX0_edgeWeight, Cond.instanceMethod yX0_edgeWeight, Cond.selects RX0 yX0_edgeWeight yX0_edgeWeight, Cond.code yX0_edgeWeight cX0_edgeWeight 3 (some .int)]
def wsX0_edge_r2 : List Cond := [Cond.methodLink RX0 68 yX0_at, Cond.static yX0_at, Cond.code yX0_at cX0_at 2 (some .int), Cond.methodLink RX0 79 yX0_put, Cond.static yX0_put, Cond.code yX0_put cX0_put 3 none]
def wsX0_edge : List Cond := .code yX0_edge cX0_edge 5 (some .int) :: ((wsX0_edge_r1 ++ wsX0_edge_r2) ++ wsX00 ++ (vx_atS RX0 185 "java/lang/IndexOutOfBoundsException" ["java/lang/RuntimeException", "java/lang/Exception"]).filter goodWord ++ (vx_atS RX0 192 "java/lang/IllegalArgumentException" ["java/lang/RuntimeException", "java/lang/Exception"]).filter goodWord)
def wsX0_isFamily : List Cond := .code yX0_isFamily cX0_isFamily 1 (some .boolean) :: ([])
def wsX0_isColour : List Cond := .code yX0_isColour cX0_isColour 1 (some .boolean) :: ([])
def wsX0_colourOf : List Cond := .code yX0_colourOf cX0_colourOf 3 (some .int) :: ([.fieldLink RX0 26 "Submodulary" "colours" "[I", .methodLink RX0 68 yX0_at, .static yX0_at, .initialized RX0, .code yX0_at cX0_at 2 (some .int)] ++ wsX00)
def wsX0_colour_r1 : List Cond := [Cond.fieldLink RX0 26 "Submodulary" "colours" "[I", Cond.methodLink RX0 90 yX0_isFamily, Cond.static yX0_isFamily, Cond.initialized RX0, Cond.code yX0_isFamily cX0_isFamily 1 (some .boolean), Cond.methodLink RX0 61 yX0_isElement, Cond.instanceMethod yX0_isElement, Cond.selects RX0 yX0_isElement yX0_isElement, Cond.code yX0_isElement cX0_isElement 2 (some .boolean), Cond.fieldLink RX0 9 "Submodulary" "elements" "I", Cond.methodLink RX0 93 yX0_isColour, Cond.static yX0_isColour, Cond.code yX0_isColour cX0_isColour 1 (some .boolean), Cond.methodLink RX0 65 yX0_needIndex, Cond.static yX0_needIndex, Cond.code yX0_needIndex cX0_needIndex 1 none, Cond.classLink RX0 181 "java/lang/IndexOutOfBoundsException", Cond.initialized "java/lang/IndexOutOfBoundsException", Cond.methodLink RX0 96 yX0_colourOf, Cond.instanceMethod yX0_colourOf, Cond.selects RX0 yX0_colourOf yX0_colourOf, Cond.code yX0_colourOf cX0_colourOf 3 (some .int), Cond.methodLink RX0 68 yX0_at, Cond.static yX0_at]
def wsX0_colour_r2 : List Cond := [Cond.code yX0_at cX0_at 2 (some .int), Cond.methodLink RX0 79 yX0_put, Cond.static yX0_put, Cond.code yX0_put cX0_put 3 none]
def wsX0_colour : List Cond := .code yX0_colour cX0_colour 5 (some .int) :: ((wsX0_colour_r1 ++ wsX0_colour_r2) ++ wsX00 ++ (vx_atS RX0 185 "java/lang/IndexOutOfBoundsException" ["java/lang/RuntimeException", "java/lang/Exception"]).filter goodWord)
def wsX0_roomOf : List Cond := .code yX0_roomOf cX0_roomOf 3 (some .int) :: ([.fieldLink RX0 29 "Submodulary" "rooms" "[I", .methodLink RX0 68 yX0_at, .static yX0_at, .initialized RX0, .code yX0_at cX0_at 2 (some .int)] ++ wsX00)
def wsX0_room_r1 : List Cond := [Cond.fieldLink RX0 29 "Submodulary" "rooms" "[I", Cond.methodLink RX0 90 yX0_isFamily, Cond.static yX0_isFamily, Cond.initialized RX0, Cond.code yX0_isFamily cX0_isFamily 1 (some .boolean), Cond.methodLink RX0 93 yX0_isColour, Cond.static yX0_isColour, Cond.code yX0_isColour cX0_isColour 1 (some .boolean), Cond.methodLink RX0 65 yX0_needIndex, Cond.static yX0_needIndex, Cond.code yX0_needIndex cX0_needIndex 1 none, Cond.classLink RX0 181 "java/lang/IndexOutOfBoundsException", Cond.initialized "java/lang/IndexOutOfBoundsException", Cond.methodLink RX0 53 yX0_isWithin, Cond.static yX0_isWithin, Cond.code yX0_isWithin cX0_isWithin 3 (some .boolean), Cond.methodLink RX0 57 yX0_needArgument, Cond.static yX0_needArgument, Cond.code yX0_needArgument cX0_needArgument 1 none, Cond.classLink RX0 188 "java/lang/IllegalArgumentException", Cond.initialized "java/lang/IllegalArgumentException", Cond.methodLink RX0 99 yX0_roomOf, Cond.instanceMethod yX0_roomOf, Cond.selects RX0 yX0_roomOf yX0_roomOf]
def wsX0_room_r2 : List Cond := [Cond.code yX0_roomOf cX0_roomOf 3 (some .int), Cond.methodLink RX0 68 yX0_at, Cond.static yX0_at, Cond.code yX0_at cX0_at 2 (some .int), Cond.methodLink RX0 79 yX0_put, Cond.static yX0_put, Cond.code yX0_put cX0_put 3 none]
def wsX0_room : List Cond := .code yX0_room cX0_room 5 (some .int) :: ((wsX0_room_r1 ++ wsX0_room_r2) ++ wsX00 ++ (vx_atS RX0 185 "java/lang/IndexOutOfBoundsException" ["java/lang/RuntimeException", "java/lang/Exception"]).filter goodWord ++ (vx_atS RX0 192 "java/lang/IllegalArgumentException" ["java/lang/RuntimeException", "java/lang/Exception"]).filter goodWord)
def wsX0_weigh_r1 : List Cond := [Cond.fieldLink RX0 32 "Submodulary" "weights" "[I", Cond.methodLink RX0 61 yX0_isElement, Cond.instanceMethod yX0_isElement, Cond.selects RX0 yX0_isElement yX0_isElement, Cond.initialized RX0, Cond.code yX0_isElement cX0_isElement 2 (some .boolean), Cond.fieldLink RX0 9 "Submodulary" "elements" "I", Cond.methodLink RX0 65 yX0_needIndex, Cond.static yX0_needIndex, Cond.code yX0_needIndex cX0_needIndex 1 none, Cond.classLink RX0 181 "java/lang/IndexOutOfBoundsException", Cond.initialized "java/lang/IndexOutOfBoundsException", Cond.methodLink RX0 53 yX0_isWithin, Cond.static yX0_isWithin, Cond.code yX0_isWithin cX0_isWithin 3 (some .boolean), Cond.methodLink RX0 57 yX0_needArgument, Cond.static yX0_needArgument, Cond.code yX0_needArgument cX0_needArgument 1 none, Cond.classLink RX0 188 "java/lang/IllegalArgumentException", Cond.initialized "java/lang/IllegalArgumentException", Cond.methodLink RX0 68 yX0_at, Cond.static yX0_at, Cond.code yX0_at cX0_at 2 (some .int), Cond.methodLink RX0 79 yX0_put]
def wsX0_weigh_r2 : List Cond := [Cond.static yX0_put, Cond.code yX0_put cX0_put 3 none]
def wsX0_weigh : List Cond := .code yX0_weigh cX0_weigh 4 (some .int) :: ((wsX0_weigh_r1 ++ wsX0_weigh_r2) ++ wsX00 ++ (vx_atS RX0 185 "java/lang/IndexOutOfBoundsException" ["java/lang/RuntimeException", "java/lang/Exception"]).filter goodWord ++ (vx_atS RX0 192 "java/lang/IllegalArgumentException" ["java/lang/RuntimeException", "java/lang/Exception"]).filter goodWord)
def wsX0_needState : List Cond := .code yX0_needState cX0_needState 1 none :: ([.classLink RX0 193 "java/lang/IllegalStateException", .initialized "java/lang/IllegalStateException"] ++ (vx_atS RX0 197 "java/lang/IllegalStateException" ["java/lang/RuntimeException", "java/lang/Exception"]).filter goodWord)
def wsX0_needPlace : List Cond := .code yX0_needPlace cX0_needPlace 1 none :: ([.fieldLink RX0 13 "Submodulary" "functions" "I", .methodLink RX0 140 yX0_needState, .static yX0_needState, .initialized RX0, .code yX0_needState cX0_needState 1 none, .classLink RX0 193 "java/lang/IllegalStateException", .initialized "java/lang/IllegalStateException"] ++ wsX00 ++ (vx_atS RX0 197 "java/lang/IllegalStateException" ["java/lang/RuntimeException", "java/lang/Exception"]).filter goodWord)
def wsX0_sets : List Cond := .code yX0_sets cX0_sets 1 (some .int) :: ([.fieldLink RX0 9 "Submodulary" "elements" "I"] ++ wsX00)
def wsJ6_bitCount_0f7a4 : List Cond := .code yJ6_bitCount_0f7a4 cJ6_bitCount_0f7a4 1 (some .int) :: ([.constant RJ6 265 (1431655765), .constant RJ6 266 (858993459), .constant RJ6 267 (252645135)])
def wsX0_coverValue : List Cond := .code yX0_coverValue cX0_coverValue 4 (some .int) :: ([.fieldLink RX0 9 "Submodulary" "elements" "I", .fieldLink RX0 19 "Submodulary" "covered" "[I", .methodLink RX0 83 yX0_has, .static yX0_has, .initialized RX0, .code yX0_has cX0_has 2 (some .boolean), .methodLink RX0 68 yX0_at, .static yX0_at, .code yX0_at cX0_at 2 (some .int), .methodLink RX0 157 yJ6_bitCount_0f7a4, .static yJ6_bitCount_0f7a4, .initialized RJ6, .code yJ6_bitCount_0f7a4 cJ6_bitCount_0f7a4 1 (some .int), .constant RJ6 265 (1431655765), .constant RJ6 266 (858993459), .constant RJ6 267 (252645135)] ++ wsX00)
def wsX0_cutValue : List Cond := .code yX0_cutValue cX0_cutValue 5 (some .int) :: ([.fieldLink RX0 9 "Submodulary" "elements" "I", .methodLink RX0 83 yX0_has, .static yX0_has, .initialized RX0, .code yX0_has cX0_has 2 (some .boolean), .methodLink RX0 87 yX0_edgeWeight, .instanceMethod yX0_edgeWeight, .selects RX0 yX0_edgeWeight yX0_edgeWeight, .code yX0_edgeWeight cX0_edgeWeight 3 (some .int), .fieldLink RX0 23 "Submodulary" "edges" "[I", .methodLink RX0 68 yX0_at, .static yX0_at, .code yX0_at cX0_at 2 (some .int)] ++ wsX00)
def wsX0_countOf : List Cond := .code yX0_countOf cX0_countOf 6 (some .int) :: ([.fieldLink RX0 9 "Submodulary" "elements" "I", .methodLink RX0 83 yX0_has, .static yX0_has, .initialized RX0, .code yX0_has cX0_has 2 (some .boolean), .methodLink RX0 96 yX0_colourOf, .instanceMethod yX0_colourOf, .selects RX0 yX0_colourOf yX0_colourOf, .code yX0_colourOf cX0_colourOf 3 (some .int), .fieldLink RX0 26 "Submodulary" "colours" "[I", .methodLink RX0 68 yX0_at, .static yX0_at, .code yX0_at cX0_at 2 (some .int)] ++ wsX00)
def wsX0_rankValue_r1 : List Cond := [Cond.methodLink RX0 128 Lib.Math.min.name, Cond.static Lib.Math.min.name, Cond.initialized "java/lang/Math", Cond.code Lib.Math.min.name Lib.Math.min.code 2 (some .int), Cond.methodLink RX0 210 yX0_countOf, Cond.instanceMethod yX0_countOf, Cond.selects RX0 yX0_countOf yX0_countOf, Cond.initialized RX0, Cond.code yX0_countOf cX0_countOf 6 (some .int), Cond.fieldLink RX0 9 "Submodulary" "elements" "I", Cond.methodLink RX0 83 yX0_has, Cond.static yX0_has, Cond.code yX0_has cX0_has 2 (some .boolean), Cond.methodLink RX0 96 yX0_colourOf, Cond.instanceMethod yX0_colourOf, Cond.selects RX0 yX0_colourOf yX0_colourOf, Cond.code yX0_colourOf cX0_colourOf 3 (some .int), Cond.fieldLink RX0 26 "Submodulary" "colours" "[I", Cond.methodLink RX0 68 yX0_at, Cond.static yX0_at, Cond.code yX0_at cX0_at 2 (some .int), Cond.methodLink RX0 99 yX0_roomOf, Cond.instanceMethod yX0_roomOf, Cond.selects RX0 yX0_roomOf yX0_roomOf]
def wsX0_rankValue_r2 : List Cond := [Cond.code yX0_roomOf cX0_roomOf 3 (some .int), Cond.fieldLink RX0 29 "Submodulary" "rooms" "[I"]
def wsX0_rankValue : List Cond := .code yX0_rankValue cX0_rankValue 5 (some .int) :: ((wsX0_rankValue_r1 ++ wsX0_rankValue_r2) ++ wsX00)
def wsX0_weightsValue : List Cond := .code yX0_weightsValue cX0_weightsValue 4 (some .int) :: ([.fieldLink RX0 9 "Submodulary" "elements" "I", .fieldLink RX0 32 "Submodulary" "weights" "[I", .methodLink RX0 83 yX0_has, .static yX0_has, .initialized RX0, .code yX0_has cX0_has 2 (some .boolean), .methodLink RX0 68 yX0_at, .static yX0_at, .code yX0_at cX0_at 2 (some .int)] ++ wsX00)
def wsX0_toldValue_r1 : List Cond := [Cond.methodLink RX0 198 yX0_coverValue, Cond.instanceMethod yX0_coverValue, Cond.selects RX0 yX0_coverValue yX0_coverValue, Cond.initialized RX0, Cond.code yX0_coverValue cX0_coverValue 4 (some .int), Cond.fieldLink RX0 9 "Submodulary" "elements" "I", Cond.fieldLink RX0 19 "Submodulary" "covered" "[I", Cond.methodLink RX0 83 yX0_has, Cond.static yX0_has, Cond.code yX0_has cX0_has 2 (some .boolean), Cond.methodLink RX0 68 yX0_at, Cond.static yX0_at, Cond.code yX0_at cX0_at 2 (some .int), Cond.methodLink RX0 157 yJ6_bitCount_0f7a4, Cond.static yJ6_bitCount_0f7a4, Cond.initialized RJ6, Cond.code yJ6_bitCount_0f7a4 cJ6_bitCount_0f7a4 1 (some .int), Cond.constant RJ6 265 (1431655765), Cond.constant RJ6 266 (858993459), Cond.constant RJ6 267 (252645135), Cond.methodLink RX0 201 yX0_cutValue, Cond.instanceMethod yX0_cutValue, Cond.selects RX0 yX0_cutValue yX0_cutValue, Cond.code yX0_cutValue cX0_cutValue 5 (some .int)]
def wsX0_toldValue_r2 : List Cond := [Cond.methodLink RX0 87 yX0_edgeWeight, Cond.instanceMethod yX0_edgeWeight, Cond.selects RX0 yX0_edgeWeight yX0_edgeWeight, Cond.code yX0_edgeWeight cX0_edgeWeight 3 (some .int), Cond.fieldLink RX0 23 "Submodulary" "edges" "[I", Cond.methodLink RX0 204 yX0_rankValue, Cond.instanceMethod yX0_rankValue, Cond.selects RX0 yX0_rankValue yX0_rankValue, Cond.code yX0_rankValue cX0_rankValue 5 (some .int), Cond.methodLink RX0 128 Lib.Math.min.name, Cond.static Lib.Math.min.name, Cond.initialized "java/lang/Math", Cond.code Lib.Math.min.name Lib.Math.min.code 2 (some .int), Cond.methodLink RX0 210 yX0_countOf, Cond.instanceMethod yX0_countOf, Cond.selects RX0 yX0_countOf yX0_countOf, Cond.code yX0_countOf cX0_countOf 6 (some .int), Cond.methodLink RX0 96 yX0_colourOf, Cond.instanceMethod yX0_colourOf, Cond.selects RX0 yX0_colourOf yX0_colourOf, Cond.code yX0_colourOf cX0_colourOf 3 (some .int), Cond.fieldLink RX0 26 "Submodulary" "colours" "[I", Cond.methodLink RX0 99 yX0_roomOf, Cond.instanceMethod yX0_roomOf]
def wsX0_toldValue_r3 : List Cond := [Cond.selects RX0 yX0_roomOf yX0_roomOf, Cond.code yX0_roomOf cX0_roomOf 3 (some .int), Cond.fieldLink RX0 29 "Submodulary" "rooms" "[I", Cond.methodLink RX0 207 yX0_weightsValue, Cond.instanceMethod yX0_weightsValue, Cond.selects RX0 yX0_weightsValue yX0_weightsValue, Cond.code yX0_weightsValue cX0_weightsValue 4 (some .int), Cond.fieldLink RX0 32 "Submodulary" "weights" "[I"]
def wsX0_toldValue : List Cond := .code yX0_toldValue cX0_toldValue 3 (some .int) :: ((wsX0_toldValue_r1 ++ (wsX0_toldValue_r2 ++ wsX0_toldValue_r3)) ++ wsX00)
def wsX0_putNew : List Cond := .code yX0_putNew cX0_putNew 3 none :: ([.fieldLink RX0 35 "Submodulary" "values" "[I", .fieldLink RX0 13 "Submodulary" "functions" "I", .methodLink RX0 79 yX0_put, .static yX0_put, .initialized RX0, .code yX0_put cX0_put 3 none] ++ wsX00)
def wsX0_countNew : List Cond := .code yX0_countNew cX0_countNew 2 (some .int) :: ([.fieldLink RX0 13 "Submodulary" "functions" "I"] ++ wsX00)
def wsX0_make_r1 : List Cond := [Cond.methodLink RX0 53 yX0_isWithin, Cond.static yX0_isWithin, Cond.initialized RX0, Cond.code yX0_isWithin cX0_isWithin 3 (some .boolean), Cond.methodLink RX0 57 yX0_needArgument, Cond.static yX0_needArgument, Cond.code yX0_needArgument cX0_needArgument 1 none, Cond.classLink RX0 188 "java/lang/IllegalArgumentException", Cond.initialized "java/lang/IllegalArgumentException", Cond.methodLink RX0 102 yX0_needPlace, Cond.instanceMethod yX0_needPlace, Cond.selects RX0 yX0_needPlace yX0_needPlace, Cond.code yX0_needPlace cX0_needPlace 1 none, Cond.fieldLink RX0 13 "Submodulary" "functions" "I", Cond.methodLink RX0 140 yX0_needState, Cond.static yX0_needState, Cond.code yX0_needState cX0_needState 1 none, Cond.classLink RX0 193 "java/lang/IllegalStateException", Cond.initialized "java/lang/IllegalStateException", Cond.methodLink RX0 105 yX0_sets, Cond.instanceMethod yX0_sets, Cond.selects RX0 yX0_sets yX0_sets, Cond.code yX0_sets cX0_sets 1 (some .int), Cond.fieldLink RX0 9 "Submodulary" "elements" "I"]
def wsX0_make_r2 : List Cond := [Cond.methodLink RX0 109 yX0_toldValue, Cond.instanceMethod yX0_toldValue, Cond.selects RX0 yX0_toldValue yX0_toldValue, Cond.code yX0_toldValue cX0_toldValue 3 (some .int), Cond.methodLink RX0 198 yX0_coverValue, Cond.instanceMethod yX0_coverValue, Cond.selects RX0 yX0_coverValue yX0_coverValue, Cond.code yX0_coverValue cX0_coverValue 4 (some .int), Cond.fieldLink RX0 19 "Submodulary" "covered" "[I", Cond.methodLink RX0 83 yX0_has, Cond.static yX0_has, Cond.code yX0_has cX0_has 2 (some .boolean), Cond.methodLink RX0 68 yX0_at, Cond.static yX0_at, Cond.code yX0_at cX0_at 2 (some .int), Cond.methodLink RX0 157 yJ6_bitCount_0f7a4, Cond.static yJ6_bitCount_0f7a4, Cond.initialized RJ6, Cond.code yJ6_bitCount_0f7a4 cJ6_bitCount_0f7a4 1 (some .int), Cond.constant RJ6 265 (1431655765), Cond.constant RJ6 266 (858993459), Cond.constant RJ6 267 (252645135), Cond.methodLink RX0 201 yX0_cutValue, Cond.instanceMethod yX0_cutValue]
def wsX0_make_r3 : List Cond := [Cond.selects RX0 yX0_cutValue yX0_cutValue, Cond.code yX0_cutValue cX0_cutValue 5 (some .int), Cond.methodLink RX0 87 yX0_edgeWeight, Cond.instanceMethod yX0_edgeWeight, Cond.selects RX0 yX0_edgeWeight yX0_edgeWeight, Cond.code yX0_edgeWeight cX0_edgeWeight 3 (some .int), Cond.fieldLink RX0 23 "Submodulary" "edges" "[I", Cond.methodLink RX0 204 yX0_rankValue, Cond.instanceMethod yX0_rankValue, Cond.selects RX0 yX0_rankValue yX0_rankValue, Cond.code yX0_rankValue cX0_rankValue 5 (some .int), Cond.methodLink RX0 128 Lib.Math.min.name, Cond.static Lib.Math.min.name, Cond.initialized "java/lang/Math", Cond.code Lib.Math.min.name Lib.Math.min.code 2 (some .int), Cond.methodLink RX0 210 yX0_countOf, Cond.instanceMethod yX0_countOf, Cond.selects RX0 yX0_countOf yX0_countOf, Cond.code yX0_countOf cX0_countOf 6 (some .int), Cond.methodLink RX0 96 yX0_colourOf, Cond.instanceMethod yX0_colourOf, Cond.selects RX0 yX0_colourOf yX0_colourOf, Cond.code yX0_colourOf cX0_colourOf 3 (some .int), Cond.fieldLink RX0 26 "Submodulary" "colours" "[I"]
def wsX0_make_r4 : List Cond := [Cond.methodLink RX0 99 yX0_roomOf, Cond.instanceMethod yX0_roomOf, Cond.selects RX0 yX0_roomOf yX0_roomOf, Cond.code yX0_roomOf cX0_roomOf 3 (some .int), Cond.fieldLink RX0 29 "Submodulary" "rooms" "[I", Cond.methodLink RX0 207 yX0_weightsValue, Cond.instanceMethod yX0_weightsValue, Cond.selects RX0 yX0_weightsValue yX0_weightsValue, Cond.code yX0_weightsValue cX0_weightsValue 4 (some .int), Cond.fieldLink RX0 32 "Submodulary" "weights" "[I", Cond.methodLink RX0 112 yX0_putNew, Cond.instanceMethod yX0_putNew, Cond.selects RX0 yX0_putNew yX0_putNew, Cond.code yX0_putNew cX0_putNew 3 none, Cond.fieldLink RX0 35 "Submodulary" "values" "[I", Cond.methodLink RX0 79 yX0_put, Cond.static yX0_put, Cond.code yX0_put cX0_put 3 none, Cond.methodLink RX0 116 yX0_countNew, Cond.instanceMethod yX0_countNew, Cond.selects RX0 yX0_countNew yX0_countNew, Cond.code yX0_countNew cX0_countNew 2 (some .int)]
def wsX0_make : List Cond := .code yX0_make cX0_make 3 (some .int) :: ((wsX0_make_r1 ++ (wsX0_make_r2 ++ (wsX0_make_r3 ++ wsX0_make_r4))) ++ wsX00 ++ (vx_atS RX0 192 "java/lang/IllegalArgumentException" ["java/lang/RuntimeException", "java/lang/Exception"]).filter goodWord ++ (vx_atS RX0 197 "java/lang/IllegalStateException" ["java/lang/RuntimeException", "java/lang/Exception"]).filter goodWord)
def wsX0_isFunction : List Cond := .code yX0_isFunction cX0_isFunction 2 (some .boolean) :: ([.fieldLink RX0 13 "Submodulary" "functions" "I"] ++ wsX00)
def wsX0_valueOf : List Cond := .code yX0_valueOf cX0_valueOf 3 (some .int) :: ([.fieldLink RX0 35 "Submodulary" "values" "[I", .methodLink RX0 68 yX0_at, .static yX0_at, .initialized RX0, .code yX0_at cX0_at 2 (some .int)] ++ wsX00)
def wsX0_sum_r1 : List Cond := [Cond.methodLink RX0 119 yX0_isFunction, Cond.instanceMethod yX0_isFunction, Cond.selects RX0 yX0_isFunction yX0_isFunction, Cond.initialized RX0, Cond.code yX0_isFunction cX0_isFunction 2 (some .boolean), Cond.fieldLink RX0 13 "Submodulary" "functions" "I", Cond.methodLink RX0 65 yX0_needIndex, Cond.static yX0_needIndex, Cond.code yX0_needIndex cX0_needIndex 1 none, Cond.classLink RX0 181 "java/lang/IndexOutOfBoundsException", Cond.initialized "java/lang/IndexOutOfBoundsException", Cond.methodLink RX0 102 yX0_needPlace, Cond.instanceMethod yX0_needPlace, Cond.selects RX0 yX0_needPlace yX0_needPlace, Cond.code yX0_needPlace cX0_needPlace 1 none, Cond.methodLink RX0 140 yX0_needState, Cond.static yX0_needState, Cond.code yX0_needState cX0_needState 1 none, Cond.classLink RX0 193 "java/lang/IllegalStateException", Cond.initialized "java/lang/IllegalStateException", Cond.methodLink RX0 105 yX0_sets, Cond.instanceMethod yX0_sets, Cond.selects RX0 yX0_sets yX0_sets, Cond.code yX0_sets cX0_sets 1 (some .int)]
def wsX0_sum_r2 : List Cond := [Cond.fieldLink RX0 9 "Submodulary" "elements" "I", Cond.methodLink RX0 122 yX0_valueOf, Cond.instanceMethod yX0_valueOf, Cond.selects RX0 yX0_valueOf yX0_valueOf, Cond.code yX0_valueOf cX0_valueOf 3 (some .int), Cond.fieldLink RX0 35 "Submodulary" "values" "[I", Cond.methodLink RX0 68 yX0_at, Cond.static yX0_at, Cond.code yX0_at cX0_at 2 (some .int), Cond.methodLink RX0 112 yX0_putNew, Cond.instanceMethod yX0_putNew, Cond.selects RX0 yX0_putNew yX0_putNew, Cond.code yX0_putNew cX0_putNew 3 none, Cond.methodLink RX0 79 yX0_put, Cond.static yX0_put, Cond.code yX0_put cX0_put 3 none, Cond.methodLink RX0 116 yX0_countNew, Cond.instanceMethod yX0_countNew, Cond.selects RX0 yX0_countNew yX0_countNew, Cond.code yX0_countNew cX0_countNew 2 (some .int)]
def wsX0_sum : List Cond := .code yX0_sum cX0_sum 4 (some .int) :: ((wsX0_sum_r1 ++ wsX0_sum_r2) ++ wsX00 ++ (vx_atS RX0 185 "java/lang/IndexOutOfBoundsException" ["java/lang/RuntimeException", "java/lang/Exception"]).filter goodWord ++ (vx_atS RX0 197 "java/lang/IllegalStateException" ["java/lang/RuntimeException", "java/lang/Exception"]).filter goodWord)
def wsX0_isSet : List Cond := .code yX0_isSet cX0_isSet 2 (some .boolean) :: ([.methodLink RX0 105 yX0_sets, .instanceMethod yX0_sets, .selects RX0 yX0_sets yX0_sets, .initialized RX0, .code yX0_sets cX0_sets 1 (some .int), .fieldLink RX0 9 "Submodulary" "elements" "I"] ++ wsX00)
def wsX0_contract_r1 : List Cond := [Cond.methodLink RX0 119 yX0_isFunction, Cond.instanceMethod yX0_isFunction, Cond.selects RX0 yX0_isFunction yX0_isFunction, Cond.initialized RX0, Cond.code yX0_isFunction cX0_isFunction 2 (some .boolean), Cond.fieldLink RX0 13 "Submodulary" "functions" "I", Cond.methodLink RX0 65 yX0_needIndex, Cond.static yX0_needIndex, Cond.code yX0_needIndex cX0_needIndex 1 none, Cond.classLink RX0 181 "java/lang/IndexOutOfBoundsException", Cond.initialized "java/lang/IndexOutOfBoundsException", Cond.methodLink RX0 125 yX0_isSet, Cond.instanceMethod yX0_isSet, Cond.selects RX0 yX0_isSet yX0_isSet, Cond.code yX0_isSet cX0_isSet 2 (some .boolean), Cond.methodLink RX0 105 yX0_sets, Cond.instanceMethod yX0_sets, Cond.selects RX0 yX0_sets yX0_sets, Cond.code yX0_sets cX0_sets 1 (some .int), Cond.fieldLink RX0 9 "Submodulary" "elements" "I", Cond.methodLink RX0 57 yX0_needArgument, Cond.static yX0_needArgument, Cond.code yX0_needArgument cX0_needArgument 1 none, Cond.classLink RX0 188 "java/lang/IllegalArgumentException"]
def wsX0_contract_r2 : List Cond := [Cond.initialized "java/lang/IllegalArgumentException", Cond.methodLink RX0 102 yX0_needPlace, Cond.instanceMethod yX0_needPlace, Cond.selects RX0 yX0_needPlace yX0_needPlace, Cond.code yX0_needPlace cX0_needPlace 1 none, Cond.methodLink RX0 140 yX0_needState, Cond.static yX0_needState, Cond.code yX0_needState cX0_needState 1 none, Cond.classLink RX0 193 "java/lang/IllegalStateException", Cond.initialized "java/lang/IllegalStateException", Cond.methodLink RX0 122 yX0_valueOf, Cond.instanceMethod yX0_valueOf, Cond.selects RX0 yX0_valueOf yX0_valueOf, Cond.code yX0_valueOf cX0_valueOf 3 (some .int), Cond.fieldLink RX0 35 "Submodulary" "values" "[I", Cond.methodLink RX0 68 yX0_at, Cond.static yX0_at, Cond.code yX0_at cX0_at 2 (some .int), Cond.methodLink RX0 112 yX0_putNew, Cond.instanceMethod yX0_putNew, Cond.selects RX0 yX0_putNew yX0_putNew, Cond.code yX0_putNew cX0_putNew 3 none, Cond.methodLink RX0 79 yX0_put, Cond.static yX0_put]
def wsX0_contract_r3 : List Cond := [Cond.code yX0_put cX0_put 3 none, Cond.methodLink RX0 116 yX0_countNew, Cond.instanceMethod yX0_countNew, Cond.selects RX0 yX0_countNew yX0_countNew, Cond.code yX0_countNew cX0_countNew 2 (some .int)]
def wsX0_contract : List Cond := .code yX0_contract cX0_contract 4 (some .int) :: ((wsX0_contract_r1 ++ (wsX0_contract_r2 ++ wsX0_contract_r3)) ++ wsX00 ++ (vx_atS RX0 185 "java/lang/IndexOutOfBoundsException" ["java/lang/RuntimeException", "java/lang/Exception"]).filter goodWord ++ (vx_atS RX0 192 "java/lang/IllegalArgumentException" ["java/lang/RuntimeException", "java/lang/Exception"]).filter goodWord ++ (vx_atS RX0 197 "java/lang/IllegalStateException" ["java/lang/RuntimeException", "java/lang/Exception"]).filter goodWord)
def wsX0_cap_r1 : List Cond := [Cond.methodLink RX0 128 Lib.Math.min.name, Cond.static Lib.Math.min.name, Cond.initialized "java/lang/Math", Cond.code Lib.Math.min.name Lib.Math.min.code 2 (some .int), Cond.methodLink RX0 119 yX0_isFunction, Cond.instanceMethod yX0_isFunction, Cond.selects RX0 yX0_isFunction yX0_isFunction, Cond.initialized RX0, Cond.code yX0_isFunction cX0_isFunction 2 (some .boolean), Cond.fieldLink RX0 13 "Submodulary" "functions" "I", Cond.methodLink RX0 65 yX0_needIndex, Cond.static yX0_needIndex, Cond.code yX0_needIndex cX0_needIndex 1 none, Cond.classLink RX0 181 "java/lang/IndexOutOfBoundsException", Cond.initialized "java/lang/IndexOutOfBoundsException", Cond.methodLink RX0 53 yX0_isWithin, Cond.static yX0_isWithin, Cond.code yX0_isWithin cX0_isWithin 3 (some .boolean), Cond.methodLink RX0 57 yX0_needArgument, Cond.static yX0_needArgument, Cond.code yX0_needArgument cX0_needArgument 1 none, Cond.classLink RX0 188 "java/lang/IllegalArgumentException", Cond.initialized "java/lang/IllegalArgumentException", Cond.methodLink RX0 102 yX0_needPlace]
def wsX0_cap_r2 : List Cond := [Cond.instanceMethod yX0_needPlace, Cond.selects RX0 yX0_needPlace yX0_needPlace, Cond.code yX0_needPlace cX0_needPlace 1 none, Cond.methodLink RX0 140 yX0_needState, Cond.static yX0_needState, Cond.code yX0_needState cX0_needState 1 none, Cond.classLink RX0 193 "java/lang/IllegalStateException", Cond.initialized "java/lang/IllegalStateException", Cond.methodLink RX0 105 yX0_sets, Cond.instanceMethod yX0_sets, Cond.selects RX0 yX0_sets yX0_sets, Cond.code yX0_sets cX0_sets 1 (some .int), Cond.fieldLink RX0 9 "Submodulary" "elements" "I", Cond.methodLink RX0 122 yX0_valueOf, Cond.instanceMethod yX0_valueOf, Cond.selects RX0 yX0_valueOf yX0_valueOf, Cond.code yX0_valueOf cX0_valueOf 3 (some .int), Cond.fieldLink RX0 35 "Submodulary" "values" "[I", Cond.methodLink RX0 68 yX0_at, Cond.static yX0_at, Cond.code yX0_at cX0_at 2 (some .int), Cond.methodLink RX0 112 yX0_putNew, Cond.instanceMethod yX0_putNew, Cond.selects RX0 yX0_putNew yX0_putNew]
def wsX0_cap_r3 : List Cond := [Cond.code yX0_putNew cX0_putNew 3 none, Cond.methodLink RX0 79 yX0_put, Cond.static yX0_put, Cond.code yX0_put cX0_put 3 none, Cond.methodLink RX0 116 yX0_countNew, Cond.instanceMethod yX0_countNew, Cond.selects RX0 yX0_countNew yX0_countNew, Cond.code yX0_countNew cX0_countNew 2 (some .int)]
def wsX0_cap : List Cond := .code yX0_cap cX0_cap 4 (some .int) :: ((wsX0_cap_r1 ++ (wsX0_cap_r2 ++ wsX0_cap_r3)) ++ wsX00 ++ (vx_atS RX0 185 "java/lang/IndexOutOfBoundsException" ["java/lang/RuntimeException", "java/lang/Exception"]).filter goodWord ++ (vx_atS RX0 192 "java/lang/IllegalArgumentException" ["java/lang/RuntimeException", "java/lang/Exception"]).filter goodWord ++ (vx_atS RX0 197 "java/lang/IllegalStateException" ["java/lang/RuntimeException", "java/lang/Exception"]).filter goodWord)
def wsX0_value_r1 : List Cond := [Cond.methodLink RX0 119 yX0_isFunction, Cond.instanceMethod yX0_isFunction, Cond.selects RX0 yX0_isFunction yX0_isFunction, Cond.initialized RX0, Cond.code yX0_isFunction cX0_isFunction 2 (some .boolean), Cond.fieldLink RX0 13 "Submodulary" "functions" "I", Cond.methodLink RX0 65 yX0_needIndex, Cond.static yX0_needIndex, Cond.code yX0_needIndex cX0_needIndex 1 none, Cond.classLink RX0 181 "java/lang/IndexOutOfBoundsException", Cond.initialized "java/lang/IndexOutOfBoundsException", Cond.methodLink RX0 125 yX0_isSet, Cond.instanceMethod yX0_isSet, Cond.selects RX0 yX0_isSet yX0_isSet, Cond.code yX0_isSet cX0_isSet 2 (some .boolean), Cond.methodLink RX0 105 yX0_sets, Cond.instanceMethod yX0_sets, Cond.selects RX0 yX0_sets yX0_sets, Cond.code yX0_sets cX0_sets 1 (some .int), Cond.fieldLink RX0 9 "Submodulary" "elements" "I", Cond.methodLink RX0 57 yX0_needArgument, Cond.static yX0_needArgument, Cond.code yX0_needArgument cX0_needArgument 1 none, Cond.classLink RX0 188 "java/lang/IllegalArgumentException"]
def wsX0_value_r2 : List Cond := [Cond.initialized "java/lang/IllegalArgumentException", Cond.methodLink RX0 122 yX0_valueOf, Cond.instanceMethod yX0_valueOf, Cond.selects RX0 yX0_valueOf yX0_valueOf, Cond.code yX0_valueOf cX0_valueOf 3 (some .int), Cond.fieldLink RX0 35 "Submodulary" "values" "[I", Cond.methodLink RX0 68 yX0_at, Cond.static yX0_at, Cond.code yX0_at cX0_at 2 (some .int)]
def wsX0_value : List Cond := .code yX0_value cX0_value 3 (some .int) :: ((wsX0_value_r1 ++ wsX0_value_r2) ++ wsX00 ++ (vx_atS RX0 185 "java/lang/IndexOutOfBoundsException" ["java/lang/RuntimeException", "java/lang/Exception"]).filter goodWord ++ (vx_atS RX0 192 "java/lang/IllegalArgumentException" ["java/lang/RuntimeException", "java/lang/Exception"]).filter goodWord)
def wsX0_gain : List Cond := .code yX0_gain cX0_gain 4 (some .int) :: ([.methodLink RX0 72 yX0_with, .static yX0_with, .initialized RX0, .code yX0_with cX0_with 2 (some .int), .methodLink RX0 122 yX0_valueOf, .instanceMethod yX0_valueOf, .selects RX0 yX0_valueOf yX0_valueOf, .code yX0_valueOf cX0_valueOf 3 (some .int), .fieldLink RX0 35 "Submodulary" "values" "[I", .methodLink RX0 68 yX0_at, .static yX0_at, .code yX0_at cX0_at 2 (some .int)] ++ wsX00)
def wsX0_hasLawAbove : List Cond := .code yX0_hasLawAbove cX0_hasLawAbove 6 (some .boolean) :: ([.fieldLink RX0 9 "Submodulary" "elements" "I", .methodLink RX0 83 yX0_has, .static yX0_has, .initialized RX0, .code yX0_has cX0_has 2 (some .boolean), .methodLink RX0 136 yX0_gain, .instanceMethod yX0_gain, .selects RX0 yX0_gain yX0_gain, .code yX0_gain cX0_gain 4 (some .int), .methodLink RX0 72 yX0_with, .static yX0_with, .code yX0_with cX0_with 2 (some .int), .methodLink RX0 122 yX0_valueOf, .instanceMethod yX0_valueOf, .selects RX0 yX0_valueOf yX0_valueOf, .code yX0_valueOf cX0_valueOf 3 (some .int), .fieldLink RX0 35 "Submodulary" "values" "[I", .methodLink RX0 68 yX0_at, .static yX0_at, .code yX0_at cX0_at 2 (some .int)] ++ wsX00)
def wsX0_hasLaw_r1 : List Cond := [Cond.methodLink RX0 105 yX0_sets, Cond.instanceMethod yX0_sets, Cond.selects RX0 yX0_sets yX0_sets, Cond.initialized RX0, Cond.code yX0_sets cX0_sets 1 (some .int), Cond.fieldLink RX0 9 "Submodulary" "elements" "I", Cond.methodLink RX0 213 yX0_hasLawAbove, Cond.instanceMethod yX0_hasLawAbove, Cond.selects RX0 yX0_hasLawAbove yX0_hasLawAbove, Cond.code yX0_hasLawAbove cX0_hasLawAbove 6 (some .boolean), Cond.methodLink RX0 83 yX0_has, Cond.static yX0_has, Cond.code yX0_has cX0_has 2 (some .boolean), Cond.methodLink RX0 136 yX0_gain, Cond.instanceMethod yX0_gain, Cond.selects RX0 yX0_gain yX0_gain, Cond.code yX0_gain cX0_gain 4 (some .int), Cond.methodLink RX0 72 yX0_with, Cond.static yX0_with, Cond.code yX0_with cX0_with 2 (some .int), Cond.methodLink RX0 122 yX0_valueOf, Cond.instanceMethod yX0_valueOf, Cond.selects RX0 yX0_valueOf yX0_valueOf, Cond.code yX0_valueOf cX0_valueOf 3 (some .int)]
def wsX0_hasLaw_r2 : List Cond := [Cond.fieldLink RX0 35 "Submodulary" "values" "[I", Cond.methodLink RX0 68 yX0_at, Cond.static yX0_at, Cond.code yX0_at cX0_at 2 (some .int)]
def wsX0_hasLaw : List Cond := .code yX0_hasLaw cX0_hasLaw 3 (some .boolean) :: ((wsX0_hasLaw_r1 ++ wsX0_hasLaw_r2) ++ wsX00)
def wsX0_isLawful_r1 : List Cond := [Cond.methodLink RX0 119 yX0_isFunction, Cond.instanceMethod yX0_isFunction, Cond.selects RX0 yX0_isFunction yX0_isFunction, Cond.initialized RX0, Cond.code yX0_isFunction cX0_isFunction 2 (some .boolean), Cond.fieldLink RX0 13 "Submodulary" "functions" "I", Cond.methodLink RX0 65 yX0_needIndex, Cond.static yX0_needIndex, Cond.code yX0_needIndex cX0_needIndex 1 none, Cond.classLink RX0 181 "java/lang/IndexOutOfBoundsException", Cond.initialized "java/lang/IndexOutOfBoundsException", Cond.methodLink RX0 133 yX0_hasLaw, Cond.instanceMethod yX0_hasLaw, Cond.selects RX0 yX0_hasLaw yX0_hasLaw, Cond.code yX0_hasLaw cX0_hasLaw 3 (some .boolean), Cond.methodLink RX0 105 yX0_sets, Cond.instanceMethod yX0_sets, Cond.selects RX0 yX0_sets yX0_sets, Cond.code yX0_sets cX0_sets 1 (some .int), Cond.fieldLink RX0 9 "Submodulary" "elements" "I", Cond.methodLink RX0 213 yX0_hasLawAbove, Cond.instanceMethod yX0_hasLawAbove, Cond.selects RX0 yX0_hasLawAbove yX0_hasLawAbove, Cond.code yX0_hasLawAbove cX0_hasLawAbove 6 (some .boolean)]
def wsX0_isLawful_r2 : List Cond := [Cond.methodLink RX0 83 yX0_has, Cond.static yX0_has, Cond.code yX0_has cX0_has 2 (some .boolean), Cond.methodLink RX0 136 yX0_gain, Cond.instanceMethod yX0_gain, Cond.selects RX0 yX0_gain yX0_gain, Cond.code yX0_gain cX0_gain 4 (some .int), Cond.methodLink RX0 72 yX0_with, Cond.static yX0_with, Cond.code yX0_with cX0_with 2 (some .int), Cond.methodLink RX0 122 yX0_valueOf, Cond.instanceMethod yX0_valueOf, Cond.selects RX0 yX0_valueOf yX0_valueOf, Cond.code yX0_valueOf cX0_valueOf 3 (some .int), Cond.fieldLink RX0 35 "Submodulary" "values" "[I", Cond.methodLink RX0 68 yX0_at, Cond.static yX0_at, Cond.code yX0_at cX0_at 2 (some .int)]
def wsX0_isLawful : List Cond := .code yX0_isLawful cX0_isLawful 2 (some .boolean) :: ((wsX0_isLawful_r1 ++ wsX0_isLawful_r2) ++ wsX00 ++ (vx_atS RX0 185 "java/lang/IndexOutOfBoundsException" ["java/lang/RuntimeException", "java/lang/Exception"]).filter goodWord)
def wsX0_rises_r1 : List Cond := [Cond.fieldLink RX0 9 "Submodulary" "elements" "I", Cond.methodLink RX0 119 yX0_isFunction, Cond.instanceMethod yX0_isFunction, Cond.selects RX0 yX0_isFunction yX0_isFunction, Cond.initialized RX0, Cond.code yX0_isFunction cX0_isFunction 2 (some .boolean), Cond.fieldLink RX0 13 "Submodulary" "functions" "I", Cond.methodLink RX0 65 yX0_needIndex, Cond.static yX0_needIndex, Cond.code yX0_needIndex cX0_needIndex 1 none, Cond.classLink RX0 181 "java/lang/IndexOutOfBoundsException", Cond.initialized "java/lang/IndexOutOfBoundsException", Cond.methodLink RX0 105 yX0_sets, Cond.instanceMethod yX0_sets, Cond.selects RX0 yX0_sets yX0_sets, Cond.code yX0_sets cX0_sets 1 (some .int), Cond.methodLink RX0 136 yX0_gain, Cond.instanceMethod yX0_gain, Cond.selects RX0 yX0_gain yX0_gain, Cond.code yX0_gain cX0_gain 4 (some .int), Cond.methodLink RX0 72 yX0_with, Cond.static yX0_with, Cond.code yX0_with cX0_with 2 (some .int), Cond.methodLink RX0 122 yX0_valueOf]
def wsX0_rises_r2 : List Cond := [Cond.instanceMethod yX0_valueOf, Cond.selects RX0 yX0_valueOf yX0_valueOf, Cond.code yX0_valueOf cX0_valueOf 3 (some .int), Cond.fieldLink RX0 35 "Submodulary" "values" "[I", Cond.methodLink RX0 68 yX0_at, Cond.static yX0_at, Cond.code yX0_at cX0_at 2 (some .int)]
def wsX0_rises : List Cond := .code yX0_rises cX0_rises 4 (some .boolean) :: ((wsX0_rises_r1 ++ wsX0_rises_r2) ++ wsX00 ++ (vx_atS RX0 185 "java/lang/IndexOutOfBoundsException" ["java/lang/RuntimeException", "java/lang/Exception"]).filter goodWord)
def wsX0_takenIn : List Cond := .code yX0_takenIn cX0_takenIn 8 (some .int) :: ([.fieldLink RX0 9 "Submodulary" "elements" "I", .methodLink RX0 83 yX0_has, .static yX0_has, .initialized RX0, .code yX0_has cX0_has 2 (some .boolean), .methodLink RX0 136 yX0_gain, .instanceMethod yX0_gain, .selects RX0 yX0_gain yX0_gain, .code yX0_gain cX0_gain 4 (some .int), .methodLink RX0 72 yX0_with, .static yX0_with, .code yX0_with cX0_with 2 (some .int), .methodLink RX0 122 yX0_valueOf, .instanceMethod yX0_valueOf, .selects RX0 yX0_valueOf yX0_valueOf, .code yX0_valueOf cX0_valueOf 3 (some .int), .fieldLink RX0 35 "Submodulary" "values" "[I", .methodLink RX0 68 yX0_at, .static yX0_at, .code yX0_at cX0_at 2 (some .int)] ++ wsX00)
def wsX0_takenOut : List Cond := .code yX0_takenOut cX0_takenOut 8 (some .int) :: ([.fieldLink RX0 9 "Submodulary" "elements" "I", .methodLink RX0 83 yX0_has, .static yX0_has, .initialized RX0, .code yX0_has cX0_has 2 (some .boolean), .methodLink RX0 76 yX0_without, .static yX0_without, .code yX0_without cX0_without 2 (some .int), .methodLink RX0 136 yX0_gain, .instanceMethod yX0_gain, .selects RX0 yX0_gain yX0_gain, .code yX0_gain cX0_gain 4 (some .int), .methodLink RX0 72 yX0_with, .static yX0_with, .code yX0_with cX0_with 2 (some .int), .methodLink RX0 122 yX0_valueOf, .instanceMethod yX0_valueOf, .selects RX0 yX0_valueOf yX0_valueOf, .code yX0_valueOf cX0_valueOf 3 (some .int), .fieldLink RX0 35 "Submodulary" "values" "[I", .methodLink RX0 68 yX0_at, .static yX0_at, .code yX0_at cX0_at 2 (some .int)] ++ wsX00)
def wsX0_lowest : List Cond := .code yX0_lowest cX0_lowest 3 (some .int) :: ([.fieldLink RX0 9 "Submodulary" "elements" "I", .methodLink RX0 83 yX0_has, .static yX0_has, .initialized RX0, .code yX0_has cX0_has 2 (some .boolean)] ++ wsX00)
def wsX0_leastBetween_r1 : List Cond := [Cond.fieldLink RX0 9 "Submodulary" "elements" "I", Cond.methodLink RX0 216 yX0_takenIn, Cond.instanceMethod yX0_takenIn, Cond.selects RX0 yX0_takenIn yX0_takenIn, Cond.initialized RX0, Cond.code yX0_takenIn cX0_takenIn 8 (some .int), Cond.methodLink RX0 83 yX0_has, Cond.static yX0_has, Cond.code yX0_has cX0_has 2 (some .boolean), Cond.methodLink RX0 136 yX0_gain, Cond.instanceMethod yX0_gain, Cond.selects RX0 yX0_gain yX0_gain, Cond.code yX0_gain cX0_gain 4 (some .int), Cond.methodLink RX0 72 yX0_with, Cond.static yX0_with, Cond.code yX0_with cX0_with 2 (some .int), Cond.methodLink RX0 122 yX0_valueOf, Cond.instanceMethod yX0_valueOf, Cond.selects RX0 yX0_valueOf yX0_valueOf, Cond.code yX0_valueOf cX0_valueOf 3 (some .int), Cond.fieldLink RX0 35 "Submodulary" "values" "[I", Cond.methodLink RX0 68 yX0_at, Cond.static yX0_at, Cond.code yX0_at cX0_at 2 (some .int)]
def wsX0_leastBetween_r2 : List Cond := [Cond.methodLink RX0 220 yX0_takenOut, Cond.instanceMethod yX0_takenOut, Cond.selects RX0 yX0_takenOut yX0_takenOut, Cond.code yX0_takenOut cX0_takenOut 8 (some .int), Cond.methodLink RX0 76 yX0_without, Cond.static yX0_without, Cond.code yX0_without cX0_without 2 (some .int), Cond.methodLink RX0 223 yX0_lowest, Cond.instanceMethod yX0_lowest, Cond.selects RX0 yX0_lowest yX0_lowest, Cond.code yX0_lowest cX0_lowest 3 (some .int), Cond.methodLink RX0 143 yX0_leastBetween, Cond.instanceMethod yX0_leastBetween, Cond.selects RX0 yX0_leastBetween yX0_leastBetween]
def wsX0_leastBetween : List Cond := .code yX0_leastBetween cX0_leastBetween 12 (some .int) :: ((wsX0_leastBetween_r1 ++ wsX0_leastBetween_r2) ++ wsX00)
def wsX0_least_r1 : List Cond := [Cond.methodLink RX0 119 yX0_isFunction, Cond.instanceMethod yX0_isFunction, Cond.selects RX0 yX0_isFunction yX0_isFunction, Cond.initialized RX0, Cond.code yX0_isFunction cX0_isFunction 2 (some .boolean), Cond.fieldLink RX0 13 "Submodulary" "functions" "I", Cond.methodLink RX0 65 yX0_needIndex, Cond.static yX0_needIndex, Cond.code yX0_needIndex cX0_needIndex 1 none, Cond.classLink RX0 181 "java/lang/IndexOutOfBoundsException", Cond.initialized "java/lang/IndexOutOfBoundsException", Cond.methodLink RX0 133 yX0_hasLaw, Cond.instanceMethod yX0_hasLaw, Cond.selects RX0 yX0_hasLaw yX0_hasLaw, Cond.code yX0_hasLaw cX0_hasLaw 3 (some .boolean), Cond.methodLink RX0 105 yX0_sets, Cond.instanceMethod yX0_sets, Cond.selects RX0 yX0_sets yX0_sets, Cond.code yX0_sets cX0_sets 1 (some .int), Cond.fieldLink RX0 9 "Submodulary" "elements" "I", Cond.methodLink RX0 213 yX0_hasLawAbove, Cond.instanceMethod yX0_hasLawAbove, Cond.selects RX0 yX0_hasLawAbove yX0_hasLawAbove, Cond.code yX0_hasLawAbove cX0_hasLawAbove 6 (some .boolean)]
def wsX0_least_r2 : List Cond := [Cond.methodLink RX0 83 yX0_has, Cond.static yX0_has, Cond.code yX0_has cX0_has 2 (some .boolean), Cond.methodLink RX0 136 yX0_gain, Cond.instanceMethod yX0_gain, Cond.selects RX0 yX0_gain yX0_gain, Cond.code yX0_gain cX0_gain 4 (some .int), Cond.methodLink RX0 72 yX0_with, Cond.static yX0_with, Cond.code yX0_with cX0_with 2 (some .int), Cond.methodLink RX0 122 yX0_valueOf, Cond.instanceMethod yX0_valueOf, Cond.selects RX0 yX0_valueOf yX0_valueOf, Cond.code yX0_valueOf cX0_valueOf 3 (some .int), Cond.fieldLink RX0 35 "Submodulary" "values" "[I", Cond.methodLink RX0 68 yX0_at, Cond.static yX0_at, Cond.code yX0_at cX0_at 2 (some .int), Cond.methodLink RX0 140 yX0_needState, Cond.static yX0_needState, Cond.code yX0_needState cX0_needState 1 none, Cond.classLink RX0 193 "java/lang/IllegalStateException", Cond.initialized "java/lang/IllegalStateException", Cond.methodLink RX0 143 yX0_leastBetween]
def wsX0_least_r3 : List Cond := [Cond.instanceMethod yX0_leastBetween, Cond.selects RX0 yX0_leastBetween yX0_leastBetween, Cond.code yX0_leastBetween cX0_leastBetween 12 (some .int), Cond.methodLink RX0 216 yX0_takenIn, Cond.instanceMethod yX0_takenIn, Cond.selects RX0 yX0_takenIn yX0_takenIn, Cond.code yX0_takenIn cX0_takenIn 8 (some .int), Cond.methodLink RX0 220 yX0_takenOut, Cond.instanceMethod yX0_takenOut, Cond.selects RX0 yX0_takenOut yX0_takenOut, Cond.code yX0_takenOut cX0_takenOut 8 (some .int), Cond.methodLink RX0 76 yX0_without, Cond.static yX0_without, Cond.code yX0_without cX0_without 2 (some .int), Cond.methodLink RX0 223 yX0_lowest, Cond.instanceMethod yX0_lowest, Cond.selects RX0 yX0_lowest yX0_lowest, Cond.code yX0_lowest cX0_lowest 3 (some .int)]
def wsX0_least : List Cond := .code yX0_least cX0_least 2 (some .int) :: ((wsX0_least_r1 ++ (wsX0_least_r2 ++ wsX0_least_r3)) ++ wsX00 ++ (vx_atS RX0 185 "java/lang/IndexOutOfBoundsException" ["java/lang/RuntimeException", "java/lang/Exception"]).filter goodWord ++ (vx_atS RX0 197 "java/lang/IllegalStateException" ["java/lang/RuntimeException", "java/lang/Exception"]).filter goodWord)
def wsX0_leastSet_r1 : List Cond := [Cond.methodLink RX0 119 yX0_isFunction, Cond.instanceMethod yX0_isFunction, Cond.selects RX0 yX0_isFunction yX0_isFunction, Cond.initialized RX0, Cond.code yX0_isFunction cX0_isFunction 2 (some .boolean), Cond.fieldLink RX0 13 "Submodulary" "functions" "I", Cond.methodLink RX0 65 yX0_needIndex, Cond.static yX0_needIndex, Cond.code yX0_needIndex cX0_needIndex 1 none, Cond.classLink RX0 181 "java/lang/IndexOutOfBoundsException", Cond.initialized "java/lang/IndexOutOfBoundsException", Cond.methodLink RX0 133 yX0_hasLaw, Cond.instanceMethod yX0_hasLaw, Cond.selects RX0 yX0_hasLaw yX0_hasLaw, Cond.code yX0_hasLaw cX0_hasLaw 3 (some .boolean), Cond.methodLink RX0 105 yX0_sets, Cond.instanceMethod yX0_sets, Cond.selects RX0 yX0_sets yX0_sets, Cond.code yX0_sets cX0_sets 1 (some .int), Cond.fieldLink RX0 9 "Submodulary" "elements" "I", Cond.methodLink RX0 213 yX0_hasLawAbove, Cond.instanceMethod yX0_hasLawAbove, Cond.selects RX0 yX0_hasLawAbove yX0_hasLawAbove, Cond.code yX0_hasLawAbove cX0_hasLawAbove 6 (some .boolean)]
def wsX0_leastSet_r2 : List Cond := [Cond.methodLink RX0 83 yX0_has, Cond.static yX0_has, Cond.code yX0_has cX0_has 2 (some .boolean), Cond.methodLink RX0 136 yX0_gain, Cond.instanceMethod yX0_gain, Cond.selects RX0 yX0_gain yX0_gain, Cond.code yX0_gain cX0_gain 4 (some .int), Cond.methodLink RX0 72 yX0_with, Cond.static yX0_with, Cond.code yX0_with cX0_with 2 (some .int), Cond.methodLink RX0 122 yX0_valueOf, Cond.instanceMethod yX0_valueOf, Cond.selects RX0 yX0_valueOf yX0_valueOf, Cond.code yX0_valueOf cX0_valueOf 3 (some .int), Cond.fieldLink RX0 35 "Submodulary" "values" "[I", Cond.methodLink RX0 68 yX0_at, Cond.static yX0_at, Cond.code yX0_at cX0_at 2 (some .int), Cond.methodLink RX0 140 yX0_needState, Cond.static yX0_needState, Cond.code yX0_needState cX0_needState 1 none, Cond.classLink RX0 193 "java/lang/IllegalStateException", Cond.initialized "java/lang/IllegalStateException", Cond.methodLink RX0 143 yX0_leastBetween]
def wsX0_leastSet_r3 : List Cond := [Cond.instanceMethod yX0_leastBetween, Cond.selects RX0 yX0_leastBetween yX0_leastBetween, Cond.code yX0_leastBetween cX0_leastBetween 12 (some .int), Cond.methodLink RX0 216 yX0_takenIn, Cond.instanceMethod yX0_takenIn, Cond.selects RX0 yX0_takenIn yX0_takenIn, Cond.code yX0_takenIn cX0_takenIn 8 (some .int), Cond.methodLink RX0 220 yX0_takenOut, Cond.instanceMethod yX0_takenOut, Cond.selects RX0 yX0_takenOut yX0_takenOut, Cond.code yX0_takenOut cX0_takenOut 8 (some .int), Cond.methodLink RX0 76 yX0_without, Cond.static yX0_without, Cond.code yX0_without cX0_without 2 (some .int), Cond.methodLink RX0 223 yX0_lowest, Cond.instanceMethod yX0_lowest, Cond.selects RX0 yX0_lowest yX0_lowest, Cond.code yX0_lowest cX0_lowest 3 (some .int)]
def wsX0_leastSet : List Cond := .code yX0_leastSet cX0_leastSet 3 (some .int) :: ((wsX0_leastSet_r1 ++ (wsX0_leastSet_r2 ++ wsX0_leastSet_r3)) ++ wsX00 ++ (vx_atS RX0 185 "java/lang/IndexOutOfBoundsException" ["java/lang/RuntimeException", "java/lang/Exception"]).filter goodWord ++ (vx_atS RX0 197 "java/lang/IllegalStateException" ["java/lang/RuntimeException", "java/lang/Exception"]).filter goodWord)
def wsX0_leastSetAnew_r1 : List Cond := [Cond.methodLink RX0 128 Lib.Math.min.name, Cond.static Lib.Math.min.name, Cond.initialized "java/lang/Math", Cond.code Lib.Math.min.name Lib.Math.min.code 2 (some .int), Cond.methodLink RX0 119 yX0_isFunction, Cond.instanceMethod yX0_isFunction, Cond.selects RX0 yX0_isFunction yX0_isFunction, Cond.initialized RX0, Cond.code yX0_isFunction cX0_isFunction 2 (some .boolean), Cond.fieldLink RX0 13 "Submodulary" "functions" "I", Cond.methodLink RX0 65 yX0_needIndex, Cond.static yX0_needIndex, Cond.code yX0_needIndex cX0_needIndex 1 none, Cond.classLink RX0 181 "java/lang/IndexOutOfBoundsException", Cond.initialized "java/lang/IndexOutOfBoundsException", Cond.methodLink RX0 133 yX0_hasLaw, Cond.instanceMethod yX0_hasLaw, Cond.selects RX0 yX0_hasLaw yX0_hasLaw, Cond.code yX0_hasLaw cX0_hasLaw 3 (some .boolean), Cond.methodLink RX0 105 yX0_sets, Cond.instanceMethod yX0_sets, Cond.selects RX0 yX0_sets yX0_sets, Cond.code yX0_sets cX0_sets 1 (some .int), Cond.fieldLink RX0 9 "Submodulary" "elements" "I"]
def wsX0_leastSetAnew_r2 : List Cond := [Cond.methodLink RX0 213 yX0_hasLawAbove, Cond.instanceMethod yX0_hasLawAbove, Cond.selects RX0 yX0_hasLawAbove yX0_hasLawAbove, Cond.code yX0_hasLawAbove cX0_hasLawAbove 6 (some .boolean), Cond.methodLink RX0 83 yX0_has, Cond.static yX0_has, Cond.code yX0_has cX0_has 2 (some .boolean), Cond.methodLink RX0 136 yX0_gain, Cond.instanceMethod yX0_gain, Cond.selects RX0 yX0_gain yX0_gain, Cond.code yX0_gain cX0_gain 4 (some .int), Cond.methodLink RX0 72 yX0_with, Cond.static yX0_with, Cond.code yX0_with cX0_with 2 (some .int), Cond.methodLink RX0 122 yX0_valueOf, Cond.instanceMethod yX0_valueOf, Cond.selects RX0 yX0_valueOf yX0_valueOf, Cond.code yX0_valueOf cX0_valueOf 3 (some .int), Cond.fieldLink RX0 35 "Submodulary" "values" "[I", Cond.methodLink RX0 68 yX0_at, Cond.static yX0_at, Cond.code yX0_at cX0_at 2 (some .int), Cond.methodLink RX0 140 yX0_needState, Cond.static yX0_needState]
def wsX0_leastSetAnew_r3 : List Cond := [Cond.code yX0_needState cX0_needState 1 none, Cond.classLink RX0 193 "java/lang/IllegalStateException", Cond.initialized "java/lang/IllegalStateException"]
def wsX0_leastSetAnew : List Cond := .code yX0_leastSetAnew cX0_leastSetAnew 7 (some .int) :: ((wsX0_leastSetAnew_r1 ++ (wsX0_leastSetAnew_r2 ++ wsX0_leastSetAnew_r3)) ++ wsX00 ++ (vx_atS RX0 185 "java/lang/IndexOutOfBoundsException" ["java/lang/RuntimeException", "java/lang/Exception"]).filter goodWord ++ (vx_atS RX0 197 "java/lang/IllegalStateException" ["java/lang/RuntimeException", "java/lang/Exception"]).filter goodWord)
def wsX0_isTold : List Cond := .code yX0_isTold cX0_isTold 3 (some .boolean) :: ([.fieldLink RX0 16 "Submodulary" "told" "I", .fieldLink RX0 38 "Submodulary" "ordered" "[I", .methodLink RX0 68 yX0_at, .static yX0_at, .initialized RX0, .code yX0_at cX0_at 2 (some .int)] ++ wsX00)
def wsX0_order_r1 : List Cond := [Cond.fieldLink RX0 16 "Submodulary" "told" "I", Cond.fieldLink RX0 9 "Submodulary" "elements" "I", Cond.fieldLink RX0 38 "Submodulary" "ordered" "[I", Cond.methodLink RX0 61 yX0_isElement, Cond.instanceMethod yX0_isElement, Cond.selects RX0 yX0_isElement yX0_isElement, Cond.initialized RX0, Cond.code yX0_isElement cX0_isElement 2 (some .boolean), Cond.methodLink RX0 65 yX0_needIndex, Cond.static yX0_needIndex, Cond.code yX0_needIndex cX0_needIndex 1 none, Cond.classLink RX0 181 "java/lang/IndexOutOfBoundsException", Cond.initialized "java/lang/IndexOutOfBoundsException", Cond.methodLink RX0 147 yX0_isTold, Cond.instanceMethod yX0_isTold, Cond.selects RX0 yX0_isTold yX0_isTold, Cond.code yX0_isTold cX0_isTold 3 (some .boolean), Cond.methodLink RX0 68 yX0_at, Cond.static yX0_at, Cond.code yX0_at cX0_at 2 (some .int), Cond.methodLink RX0 140 yX0_needState, Cond.static yX0_needState, Cond.code yX0_needState cX0_needState 1 none, Cond.classLink RX0 193 "java/lang/IllegalStateException"]
def wsX0_order_r2 : List Cond := [Cond.initialized "java/lang/IllegalStateException", Cond.methodLink RX0 79 yX0_put, Cond.static yX0_put, Cond.code yX0_put cX0_put 3 none]
def wsX0_order : List Cond := .code yX0_order cX0_order 3 (some .int) :: ((wsX0_order_r1 ++ wsX0_order_r2) ++ wsX00 ++ (vx_atS RX0 185 "java/lang/IndexOutOfBoundsException" ["java/lang/RuntimeException", "java/lang/Exception"]).filter goodWord ++ (vx_atS RX0 197 "java/lang/IllegalStateException" ["java/lang/RuntimeException", "java/lang/Exception"]).filter goodWord)
def wsX0_aheadOf : List Cond := .code yX0_aheadOf cX0_aheadOf 5 (some .int) :: ([.fieldLink RX0 16 "Submodulary" "told" "I", .fieldLink RX0 38 "Submodulary" "ordered" "[I", .methodLink RX0 68 yX0_at, .static yX0_at, .initialized RX0, .code yX0_at cX0_at 2 (some .int), .methodLink RX0 72 yX0_with, .static yX0_with, .code yX0_with cX0_with 2 (some .int)] ++ wsX00)
def wsX0_corner_r1 : List Cond := [Cond.methodLink RX0 119 yX0_isFunction, Cond.instanceMethod yX0_isFunction, Cond.selects RX0 yX0_isFunction yX0_isFunction, Cond.initialized RX0, Cond.code yX0_isFunction cX0_isFunction 2 (some .boolean), Cond.fieldLink RX0 13 "Submodulary" "functions" "I", Cond.methodLink RX0 61 yX0_isElement, Cond.instanceMethod yX0_isElement, Cond.selects RX0 yX0_isElement yX0_isElement, Cond.code yX0_isElement cX0_isElement 2 (some .boolean), Cond.fieldLink RX0 9 "Submodulary" "elements" "I", Cond.methodLink RX0 65 yX0_needIndex, Cond.static yX0_needIndex, Cond.code yX0_needIndex cX0_needIndex 1 none, Cond.classLink RX0 181 "java/lang/IndexOutOfBoundsException", Cond.initialized "java/lang/IndexOutOfBoundsException", Cond.methodLink RX0 147 yX0_isTold, Cond.instanceMethod yX0_isTold, Cond.selects RX0 yX0_isTold yX0_isTold, Cond.code yX0_isTold cX0_isTold 3 (some .boolean), Cond.fieldLink RX0 16 "Submodulary" "told" "I", Cond.fieldLink RX0 38 "Submodulary" "ordered" "[I", Cond.methodLink RX0 68 yX0_at, Cond.static yX0_at]
def wsX0_corner_r2 : List Cond := [Cond.code yX0_at cX0_at 2 (some .int), Cond.methodLink RX0 140 yX0_needState, Cond.static yX0_needState, Cond.code yX0_needState cX0_needState 1 none, Cond.classLink RX0 193 "java/lang/IllegalStateException", Cond.initialized "java/lang/IllegalStateException", Cond.methodLink RX0 150 yX0_aheadOf, Cond.instanceMethod yX0_aheadOf, Cond.selects RX0 yX0_aheadOf yX0_aheadOf, Cond.code yX0_aheadOf cX0_aheadOf 5 (some .int), Cond.methodLink RX0 72 yX0_with, Cond.static yX0_with, Cond.code yX0_with cX0_with 2 (some .int), Cond.methodLink RX0 136 yX0_gain, Cond.instanceMethod yX0_gain, Cond.selects RX0 yX0_gain yX0_gain, Cond.code yX0_gain cX0_gain 4 (some .int), Cond.methodLink RX0 122 yX0_valueOf, Cond.instanceMethod yX0_valueOf, Cond.selects RX0 yX0_valueOf yX0_valueOf, Cond.code yX0_valueOf cX0_valueOf 3 (some .int), Cond.fieldLink RX0 35 "Submodulary" "values" "[I"]
def wsX0_corner : List Cond := .code yX0_corner cX0_corner 3 (some .int) :: ((wsX0_corner_r1 ++ wsX0_corner_r2) ++ wsX00 ++ (vx_atS RX0 185 "java/lang/IndexOutOfBoundsException" ["java/lang/RuntimeException", "java/lang/Exception"]).filter goodWord ++ (vx_atS RX0 197 "java/lang/IllegalStateException" ["java/lang/RuntimeException", "java/lang/Exception"]).filter goodWord)
def wsX0_greediest : List Cond := .code yX0_greediest cX0_greediest 7 (some .int) :: ([.fieldLink RX0 9 "Submodulary" "elements" "I", .methodLink RX0 136 yX0_gain, .instanceMethod yX0_gain, .selects RX0 yX0_gain yX0_gain, .initialized RX0, .code yX0_gain cX0_gain 4 (some .int), .methodLink RX0 72 yX0_with, .static yX0_with, .code yX0_with cX0_with 2 (some .int), .methodLink RX0 122 yX0_valueOf, .instanceMethod yX0_valueOf, .selects RX0 yX0_valueOf yX0_valueOf, .code yX0_valueOf cX0_valueOf 3 (some .int), .fieldLink RX0 35 "Submodulary" "values" "[I", .methodLink RX0 68 yX0_at, .static yX0_at, .code yX0_at cX0_at 2 (some .int)] ++ wsX00)
def wsX0_greedy_r1 : List Cond := [Cond.methodLink RX0 119 yX0_isFunction, Cond.instanceMethod yX0_isFunction, Cond.selects RX0 yX0_isFunction yX0_isFunction, Cond.initialized RX0, Cond.code yX0_isFunction cX0_isFunction 2 (some .boolean), Cond.fieldLink RX0 13 "Submodulary" "functions" "I", Cond.methodLink RX0 65 yX0_needIndex, Cond.static yX0_needIndex, Cond.code yX0_needIndex cX0_needIndex 1 none, Cond.classLink RX0 181 "java/lang/IndexOutOfBoundsException", Cond.initialized "java/lang/IndexOutOfBoundsException", Cond.methodLink RX0 53 yX0_isWithin, Cond.static yX0_isWithin, Cond.code yX0_isWithin cX0_isWithin 3 (some .boolean), Cond.methodLink RX0 57 yX0_needArgument, Cond.static yX0_needArgument, Cond.code yX0_needArgument cX0_needArgument 1 none, Cond.classLink RX0 188 "java/lang/IllegalArgumentException", Cond.initialized "java/lang/IllegalArgumentException", Cond.methodLink RX0 154 yX0_greediest, Cond.instanceMethod yX0_greediest, Cond.selects RX0 yX0_greediest yX0_greediest, Cond.code yX0_greediest cX0_greediest 7 (some .int), Cond.fieldLink RX0 9 "Submodulary" "elements" "I"]
def wsX0_greedy_r2 : List Cond := [Cond.methodLink RX0 136 yX0_gain, Cond.instanceMethod yX0_gain, Cond.selects RX0 yX0_gain yX0_gain, Cond.code yX0_gain cX0_gain 4 (some .int), Cond.methodLink RX0 72 yX0_with, Cond.static yX0_with, Cond.code yX0_with cX0_with 2 (some .int), Cond.methodLink RX0 122 yX0_valueOf, Cond.instanceMethod yX0_valueOf, Cond.selects RX0 yX0_valueOf yX0_valueOf, Cond.code yX0_valueOf cX0_valueOf 3 (some .int), Cond.fieldLink RX0 35 "Submodulary" "values" "[I", Cond.methodLink RX0 68 yX0_at, Cond.static yX0_at, Cond.code yX0_at cX0_at 2 (some .int)]
def wsX0_greedy : List Cond := .code yX0_greedy cX0_greedy 6 (some .int) :: ((wsX0_greedy_r1 ++ wsX0_greedy_r2) ++ wsX00 ++ (vx_atS RX0 185 "java/lang/IndexOutOfBoundsException" ["java/lang/RuntimeException", "java/lang/Exception"]).filter goodWord ++ (vx_atS RX0 192 "java/lang/IllegalArgumentException" ["java/lang/RuntimeException", "java/lang/Exception"]).filter goodWord)
def wsX0_best_r1 : List Cond := [Cond.methodLink RX0 162 Lib.Math.max.name, Cond.static Lib.Math.max.name, Cond.initialized "java/lang/Math", Cond.code Lib.Math.max.name Lib.Math.max.code 2 (some .int), Cond.methodLink RX0 119 yX0_isFunction, Cond.instanceMethod yX0_isFunction, Cond.selects RX0 yX0_isFunction yX0_isFunction, Cond.initialized RX0, Cond.code yX0_isFunction cX0_isFunction 2 (some .boolean), Cond.fieldLink RX0 13 "Submodulary" "functions" "I", Cond.methodLink RX0 65 yX0_needIndex, Cond.static yX0_needIndex, Cond.code yX0_needIndex cX0_needIndex 1 none, Cond.classLink RX0 181 "java/lang/IndexOutOfBoundsException", Cond.initialized "java/lang/IndexOutOfBoundsException", Cond.methodLink RX0 53 yX0_isWithin, Cond.static yX0_isWithin, Cond.code yX0_isWithin cX0_isWithin 3 (some .boolean), Cond.methodLink RX0 57 yX0_needArgument, Cond.static yX0_needArgument, Cond.code yX0_needArgument cX0_needArgument 1 none, Cond.classLink RX0 188 "java/lang/IllegalArgumentException", Cond.initialized "java/lang/IllegalArgumentException", Cond.methodLink RX0 105 yX0_sets]
def wsX0_best_r2 : List Cond := [Cond.instanceMethod yX0_sets, Cond.selects RX0 yX0_sets yX0_sets, Cond.code yX0_sets cX0_sets 1 (some .int), Cond.fieldLink RX0 9 "Submodulary" "elements" "I", Cond.methodLink RX0 157 yJ6_bitCount_0f7a4, Cond.static yJ6_bitCount_0f7a4, Cond.initialized RJ6, Cond.code yJ6_bitCount_0f7a4 cJ6_bitCount_0f7a4 1 (some .int), Cond.constant RJ6 265 (1431655765), Cond.constant RJ6 266 (858993459), Cond.constant RJ6 267 (252645135), Cond.methodLink RX0 122 yX0_valueOf, Cond.instanceMethod yX0_valueOf, Cond.selects RX0 yX0_valueOf yX0_valueOf, Cond.code yX0_valueOf cX0_valueOf 3 (some .int), Cond.fieldLink RX0 35 "Submodulary" "values" "[I", Cond.methodLink RX0 68 yX0_at, Cond.static yX0_at, Cond.code yX0_at cX0_at 2 (some .int)]
def wsX0_best : List Cond := .code yX0_best cX0_best 5 (some .int) :: ((wsX0_best_r1 ++ wsX0_best_r2) ++ wsX00 ++ (vx_atS RX0 185 "java/lang/IndexOutOfBoundsException" ["java/lang/RuntimeException", "java/lang/Exception"]).filter goodWord ++ (vx_atS RX0 192 "java/lang/IllegalArgumentException" ["java/lang/RuntimeException", "java/lang/Exception"]).filter goodWord)
def wsX0_hasRoom : List Cond := .code yX0_hasRoom cX0_hasRoom 5 (some .boolean) :: ([.methodLink RX0 96 yX0_colourOf, .instanceMethod yX0_colourOf, .selects RX0 yX0_colourOf yX0_colourOf, .initialized RX0, .code yX0_colourOf cX0_colourOf 3 (some .int), .fieldLink RX0 26 "Submodulary" "colours" "[I", .methodLink RX0 68 yX0_at, .static yX0_at, .code yX0_at cX0_at 2 (some .int), .methodLink RX0 83 yX0_has, .static yX0_has, .code yX0_has cX0_has 2 (some .boolean), .methodLink RX0 210 yX0_countOf, .instanceMethod yX0_countOf, .selects RX0 yX0_countOf yX0_countOf, .code yX0_countOf cX0_countOf 6 (some .int), .fieldLink RX0 9 "Submodulary" "elements" "I", .methodLink RX0 99 yX0_roomOf, .instanceMethod yX0_roomOf, .selects RX0 yX0_roomOf yX0_roomOf, .code yX0_roomOf cX0_roomOf 3 (some .int), .fieldLink RX0 29 "Submodulary" "rooms" "[I"] ++ wsX00)
def wsX0_reachFirst_r1 : List Cond := [Cond.fieldLink RX0 41 "Submodulary" "cameFrom" "[I", Cond.fieldLink RX0 9 "Submodulary" "elements" "I", Cond.fieldLink RX0 44 "Submodulary" "reached" "[I", Cond.methodLink RX0 47 yJ7_fill_53178, Cond.static yJ7_fill_53178, Cond.initialized RJ7, Cond.code yJ7_fill_53178 cJ7_fill_53178 4 none, Cond.methodLink RX0 229 yX0_hasRoom, Cond.instanceMethod yX0_hasRoom, Cond.selects RX0 yX0_hasRoom yX0_hasRoom, Cond.initialized RX0, Cond.code yX0_hasRoom cX0_hasRoom 5 (some .boolean), Cond.methodLink RX0 96 yX0_colourOf, Cond.instanceMethod yX0_colourOf, Cond.selects RX0 yX0_colourOf yX0_colourOf, Cond.code yX0_colourOf cX0_colourOf 3 (some .int), Cond.fieldLink RX0 26 "Submodulary" "colours" "[I", Cond.methodLink RX0 68 yX0_at, Cond.static yX0_at, Cond.code yX0_at cX0_at 2 (some .int), Cond.methodLink RX0 83 yX0_has, Cond.static yX0_has, Cond.code yX0_has cX0_has 2 (some .boolean), Cond.methodLink RX0 210 yX0_countOf]
def wsX0_reachFirst_r2 : List Cond := [Cond.instanceMethod yX0_countOf, Cond.selects RX0 yX0_countOf yX0_countOf, Cond.code yX0_countOf cX0_countOf 6 (some .int), Cond.methodLink RX0 99 yX0_roomOf, Cond.instanceMethod yX0_roomOf, Cond.selects RX0 yX0_roomOf yX0_roomOf, Cond.code yX0_roomOf cX0_roomOf 3 (some .int), Cond.fieldLink RX0 29 "Submodulary" "rooms" "[I", Cond.methodLink RX0 79 yX0_put, Cond.static yX0_put, Cond.code yX0_put cX0_put 3 none]
def wsX0_reachFirst : List Cond := .code yX0_reachFirst cX0_reachFirst 4 (some .int) :: ((wsX0_reachFirst_r1 ++ wsX0_reachFirst_r2) ++ wsX00)
def wsX0_isStep : List Cond := .code yX0_isStep cX0_isStep 5 (some .boolean) :: ([.methodLink RX0 83 yX0_has, .static yX0_has, .initialized RX0, .code yX0_has cX0_has 2 (some .boolean), .methodLink RX0 96 yX0_colourOf, .instanceMethod yX0_colourOf, .selects RX0 yX0_colourOf yX0_colourOf, .code yX0_colourOf cX0_colourOf 3 (some .int), .fieldLink RX0 26 "Submodulary" "colours" "[I", .methodLink RX0 68 yX0_at, .static yX0_at, .code yX0_at cX0_at 2 (some .int)] ++ wsX00)
def wsX0_reachFrom : List Cond := .code yX0_reachFrom cX0_reachFrom 6 (some .int) :: ([.fieldLink RX0 9 "Submodulary" "elements" "I", .fieldLink RX0 41 "Submodulary" "cameFrom" "[I", .fieldLink RX0 44 "Submodulary" "reached" "[I", .methodLink RX0 68 yX0_at, .static yX0_at, .initialized RX0, .code yX0_at cX0_at 2 (some .int), .methodLink RX0 235 yX0_isStep, .instanceMethod yX0_isStep, .selects RX0 yX0_isStep yX0_isStep, .code yX0_isStep cX0_isStep 5 (some .boolean), .methodLink RX0 83 yX0_has, .static yX0_has, .code yX0_has cX0_has 2 (some .boolean), .methodLink RX0 96 yX0_colourOf, .instanceMethod yX0_colourOf, .selects RX0 yX0_colourOf yX0_colourOf, .code yX0_colourOf cX0_colourOf 3 (some .int), .fieldLink RX0 26 "Submodulary" "colours" "[I", .methodLink RX0 79 yX0_put, .static yX0_put, .code yX0_put cX0_put 3 none] ++ wsX00)
def wsX0_endOfPath_r1 : List Cond := [Cond.fieldLink RX0 44 "Submodulary" "reached" "[I", Cond.methodLink RX0 226 yX0_reachFirst, Cond.instanceMethod yX0_reachFirst, Cond.selects RX0 yX0_reachFirst yX0_reachFirst, Cond.initialized RX0, Cond.code yX0_reachFirst cX0_reachFirst 4 (some .int), Cond.fieldLink RX0 41 "Submodulary" "cameFrom" "[I", Cond.fieldLink RX0 9 "Submodulary" "elements" "I", Cond.methodLink RX0 47 yJ7_fill_53178, Cond.static yJ7_fill_53178, Cond.initialized RJ7, Cond.code yJ7_fill_53178 cJ7_fill_53178 4 none, Cond.methodLink RX0 229 yX0_hasRoom, Cond.instanceMethod yX0_hasRoom, Cond.selects RX0 yX0_hasRoom yX0_hasRoom, Cond.code yX0_hasRoom cX0_hasRoom 5 (some .boolean), Cond.methodLink RX0 96 yX0_colourOf, Cond.instanceMethod yX0_colourOf, Cond.selects RX0 yX0_colourOf yX0_colourOf, Cond.code yX0_colourOf cX0_colourOf 3 (some .int), Cond.fieldLink RX0 26 "Submodulary" "colours" "[I", Cond.methodLink RX0 68 yX0_at, Cond.static yX0_at, Cond.code yX0_at cX0_at 2 (some .int)]
def wsX0_endOfPath_r2 : List Cond := [Cond.methodLink RX0 83 yX0_has, Cond.static yX0_has, Cond.code yX0_has cX0_has 2 (some .boolean), Cond.methodLink RX0 210 yX0_countOf, Cond.instanceMethod yX0_countOf, Cond.selects RX0 yX0_countOf yX0_countOf, Cond.code yX0_countOf cX0_countOf 6 (some .int), Cond.methodLink RX0 99 yX0_roomOf, Cond.instanceMethod yX0_roomOf, Cond.selects RX0 yX0_roomOf yX0_roomOf, Cond.code yX0_roomOf cX0_roomOf 3 (some .int), Cond.fieldLink RX0 29 "Submodulary" "rooms" "[I", Cond.methodLink RX0 79 yX0_put, Cond.static yX0_put, Cond.code yX0_put cX0_put 3 none, Cond.methodLink RX0 232 yX0_reachFrom, Cond.instanceMethod yX0_reachFrom, Cond.selects RX0 yX0_reachFrom yX0_reachFrom, Cond.code yX0_reachFrom cX0_reachFrom 6 (some .int), Cond.methodLink RX0 235 yX0_isStep, Cond.instanceMethod yX0_isStep, Cond.selects RX0 yX0_isStep yX0_isStep, Cond.code yX0_isStep cX0_isStep 5 (some .boolean)]
def wsX0_endOfPath : List Cond := .code yX0_endOfPath cX0_endOfPath 5 (some .int) :: ((wsX0_endOfPath_r1 ++ wsX0_endOfPath_r2) ++ wsX00)
def wsX0_flippedAlong : List Cond := .code yX0_flippedAlong cX0_flippedAlong 6 (some .int) :: ([.fieldLink RX0 9 "Submodulary" "elements" "I", .fieldLink RX0 41 "Submodulary" "cameFrom" "[I", .methodLink RX0 68 yX0_at, .static yX0_at, .initialized RX0, .code yX0_at cX0_at 2 (some .int)] ++ wsX00)
def wsX0_common_r1 : List Cond := [Cond.fieldLink RX0 9 "Submodulary" "elements" "I", Cond.methodLink RX0 165 yX0_endOfPath, Cond.instanceMethod yX0_endOfPath, Cond.selects RX0 yX0_endOfPath yX0_endOfPath, Cond.initialized RX0, Cond.code yX0_endOfPath cX0_endOfPath 5 (some .int), Cond.fieldLink RX0 44 "Submodulary" "reached" "[I", Cond.methodLink RX0 226 yX0_reachFirst, Cond.instanceMethod yX0_reachFirst, Cond.selects RX0 yX0_reachFirst yX0_reachFirst, Cond.code yX0_reachFirst cX0_reachFirst 4 (some .int), Cond.fieldLink RX0 41 "Submodulary" "cameFrom" "[I", Cond.methodLink RX0 47 yJ7_fill_53178, Cond.static yJ7_fill_53178, Cond.initialized RJ7, Cond.code yJ7_fill_53178 cJ7_fill_53178 4 none, Cond.methodLink RX0 229 yX0_hasRoom, Cond.instanceMethod yX0_hasRoom, Cond.selects RX0 yX0_hasRoom yX0_hasRoom, Cond.code yX0_hasRoom cX0_hasRoom 5 (some .boolean), Cond.methodLink RX0 96 yX0_colourOf, Cond.instanceMethod yX0_colourOf, Cond.selects RX0 yX0_colourOf yX0_colourOf, Cond.code yX0_colourOf cX0_colourOf 3 (some .int)]
def wsX0_common_r2 : List Cond := [Cond.fieldLink RX0 26 "Submodulary" "colours" "[I", Cond.methodLink RX0 68 yX0_at, Cond.static yX0_at, Cond.code yX0_at cX0_at 2 (some .int), Cond.methodLink RX0 83 yX0_has, Cond.static yX0_has, Cond.code yX0_has cX0_has 2 (some .boolean), Cond.methodLink RX0 210 yX0_countOf, Cond.instanceMethod yX0_countOf, Cond.selects RX0 yX0_countOf yX0_countOf, Cond.code yX0_countOf cX0_countOf 6 (some .int), Cond.methodLink RX0 99 yX0_roomOf, Cond.instanceMethod yX0_roomOf, Cond.selects RX0 yX0_roomOf yX0_roomOf, Cond.code yX0_roomOf cX0_roomOf 3 (some .int), Cond.fieldLink RX0 29 "Submodulary" "rooms" "[I", Cond.methodLink RX0 79 yX0_put, Cond.static yX0_put, Cond.code yX0_put cX0_put 3 none, Cond.methodLink RX0 232 yX0_reachFrom, Cond.instanceMethod yX0_reachFrom, Cond.selects RX0 yX0_reachFrom yX0_reachFrom, Cond.code yX0_reachFrom cX0_reachFrom 6 (some .int), Cond.methodLink RX0 235 yX0_isStep]
def wsX0_common_r3 : List Cond := [Cond.instanceMethod yX0_isStep, Cond.selects RX0 yX0_isStep yX0_isStep, Cond.code yX0_isStep cX0_isStep 5 (some .boolean), Cond.methodLink RX0 157 yJ6_bitCount_0f7a4, Cond.static yJ6_bitCount_0f7a4, Cond.initialized RJ6, Cond.code yJ6_bitCount_0f7a4 cJ6_bitCount_0f7a4 1 (some .int), Cond.constant RJ6 265 (1431655765), Cond.constant RJ6 266 (858993459), Cond.constant RJ6 267 (252645135), Cond.methodLink RX0 168 yX0_flippedAlong, Cond.instanceMethod yX0_flippedAlong, Cond.selects RX0 yX0_flippedAlong yX0_flippedAlong, Cond.code yX0_flippedAlong cX0_flippedAlong 6 (some .int)]
def wsX0_common : List Cond := .code yX0_common cX0_common 4 (some .int) :: ((wsX0_common_r1 ++ (wsX0_common_r2 ++ wsX0_common_r3)) ++ wsX00)
def wsX0_isFair : List Cond := .code yX0_isFair cX0_isFair 4 (some .boolean) :: ([.methodLink RX0 210 yX0_countOf, .instanceMethod yX0_countOf, .selects RX0 yX0_countOf yX0_countOf, .initialized RX0, .code yX0_countOf cX0_countOf 6 (some .int), .fieldLink RX0 9 "Submodulary" "elements" "I", .methodLink RX0 83 yX0_has, .static yX0_has, .code yX0_has cX0_has 2 (some .boolean), .methodLink RX0 96 yX0_colourOf, .instanceMethod yX0_colourOf, .selects RX0 yX0_colourOf yX0_colourOf, .code yX0_colourOf cX0_colourOf 3 (some .int), .fieldLink RX0 26 "Submodulary" "colours" "[I", .methodLink RX0 68 yX0_at, .static yX0_at, .code yX0_at cX0_at 2 (some .int), .methodLink RX0 99 yX0_roomOf, .instanceMethod yX0_roomOf, .selects RX0 yX0_roomOf yX0_roomOf, .code yX0_roomOf cX0_roomOf 3 (some .int), .fieldLink RX0 29 "Submodulary" "rooms" "[I"] ++ wsX00)
def wsX0_commonAnew_r1 : List Cond := [Cond.methodLink RX0 162 Lib.Math.max.name, Cond.static Lib.Math.max.name, Cond.initialized "java/lang/Math", Cond.code Lib.Math.max.name Lib.Math.max.code 2 (some .int), Cond.methodLink RX0 105 yX0_sets, Cond.instanceMethod yX0_sets, Cond.selects RX0 yX0_sets yX0_sets, Cond.initialized RX0, Cond.code yX0_sets cX0_sets 1 (some .int), Cond.fieldLink RX0 9 "Submodulary" "elements" "I", Cond.methodLink RX0 171 yX0_isFair, Cond.instanceMethod yX0_isFair, Cond.selects RX0 yX0_isFair yX0_isFair, Cond.code yX0_isFair cX0_isFair 4 (some .boolean), Cond.methodLink RX0 210 yX0_countOf, Cond.instanceMethod yX0_countOf, Cond.selects RX0 yX0_countOf yX0_countOf, Cond.code yX0_countOf cX0_countOf 6 (some .int), Cond.methodLink RX0 83 yX0_has, Cond.static yX0_has, Cond.code yX0_has cX0_has 2 (some .boolean), Cond.methodLink RX0 96 yX0_colourOf, Cond.instanceMethod yX0_colourOf, Cond.selects RX0 yX0_colourOf yX0_colourOf]
def wsX0_commonAnew_r2 : List Cond := [Cond.code yX0_colourOf cX0_colourOf 3 (some .int), Cond.fieldLink RX0 26 "Submodulary" "colours" "[I", Cond.methodLink RX0 68 yX0_at, Cond.static yX0_at, Cond.code yX0_at cX0_at 2 (some .int), Cond.methodLink RX0 99 yX0_roomOf, Cond.instanceMethod yX0_roomOf, Cond.selects RX0 yX0_roomOf yX0_roomOf, Cond.code yX0_roomOf cX0_roomOf 3 (some .int), Cond.fieldLink RX0 29 "Submodulary" "rooms" "[I", Cond.methodLink RX0 157 yJ6_bitCount_0f7a4, Cond.static yJ6_bitCount_0f7a4, Cond.initialized RJ6, Cond.code yJ6_bitCount_0f7a4 cJ6_bitCount_0f7a4 1 (some .int), Cond.constant RJ6 265 (1431655765), Cond.constant RJ6 266 (858993459), Cond.constant RJ6 267 (252645135)]
def wsX0_commonAnew : List Cond := .code yX0_commonAnew cX0_commonAnew 3 (some .int) :: ((wsX0_commonAnew_r1 ++ wsX0_commonAnew_r2) ++ wsX00)
def wsX0_ordersOf : List Cond := .code yX0_ordersOf cX0_ordersOf 3 (some .int) :: ([])
def wsX0_share_r1 : List Cond := [Cond.fieldLink RX0 9 "Submodulary" "elements" "I", Cond.methodLink RX0 119 yX0_isFunction, Cond.instanceMethod yX0_isFunction, Cond.selects RX0 yX0_isFunction yX0_isFunction, Cond.initialized RX0, Cond.code yX0_isFunction cX0_isFunction 2 (some .boolean), Cond.fieldLink RX0 13 "Submodulary" "functions" "I", Cond.methodLink RX0 61 yX0_isElement, Cond.instanceMethod yX0_isElement, Cond.selects RX0 yX0_isElement yX0_isElement, Cond.code yX0_isElement cX0_isElement 2 (some .boolean), Cond.methodLink RX0 65 yX0_needIndex, Cond.static yX0_needIndex, Cond.code yX0_needIndex cX0_needIndex 1 none, Cond.classLink RX0 181 "java/lang/IndexOutOfBoundsException", Cond.initialized "java/lang/IndexOutOfBoundsException", Cond.methodLink RX0 105 yX0_sets, Cond.instanceMethod yX0_sets, Cond.selects RX0 yX0_sets yX0_sets, Cond.code yX0_sets cX0_sets 1 (some .int), Cond.methodLink RX0 83 yX0_has, Cond.static yX0_has, Cond.code yX0_has cX0_has 2 (some .boolean), Cond.methodLink RX0 157 yJ6_bitCount_0f7a4]
def wsX0_share_r2 : List Cond := [Cond.static yJ6_bitCount_0f7a4, Cond.initialized RJ6, Cond.code yJ6_bitCount_0f7a4 cJ6_bitCount_0f7a4 1 (some .int), Cond.constant RJ6 265 (1431655765), Cond.constant RJ6 266 (858993459), Cond.constant RJ6 267 (252645135), Cond.methodLink RX0 174 yX0_ordersOf, Cond.static yX0_ordersOf, Cond.code yX0_ordersOf cX0_ordersOf 3 (some .int), Cond.methodLink RX0 136 yX0_gain, Cond.instanceMethod yX0_gain, Cond.selects RX0 yX0_gain yX0_gain, Cond.code yX0_gain cX0_gain 4 (some .int), Cond.methodLink RX0 72 yX0_with, Cond.static yX0_with, Cond.code yX0_with cX0_with 2 (some .int), Cond.methodLink RX0 122 yX0_valueOf, Cond.instanceMethod yX0_valueOf, Cond.selects RX0 yX0_valueOf yX0_valueOf, Cond.code yX0_valueOf cX0_valueOf 3 (some .int), Cond.fieldLink RX0 35 "Submodulary" "values" "[I", Cond.methodLink RX0 68 yX0_at, Cond.static yX0_at, Cond.code yX0_at cX0_at 2 (some .int)]
def wsX0_share : List Cond := .code yX0_share cX0_share 7 (some .int) :: ((wsX0_share_r1 ++ wsX0_share_r2) ++ wsX00 ++ (vx_atS RX0 185 "java/lang/IndexOutOfBoundsException" ["java/lang/RuntimeException", "java/lang/Exception"]).filter goodWord)
def wsX0_gainsOverOrders : List Cond := .code yX0_gainsOverOrders cX0_gainsOverOrders 9 (some .int) :: ([.fieldLink RX0 9 "Submodulary" "elements" "I", .methodLink RX0 83 yX0_has, .static yX0_has, .initialized RX0, .code yX0_has cX0_has 2 (some .boolean), .methodLink RX0 136 yX0_gain, .instanceMethod yX0_gain, .selects RX0 yX0_gain yX0_gain, .code yX0_gain cX0_gain 4 (some .int), .methodLink RX0 72 yX0_with, .static yX0_with, .code yX0_with cX0_with 2 (some .int), .methodLink RX0 122 yX0_valueOf, .instanceMethod yX0_valueOf, .selects RX0 yX0_valueOf yX0_valueOf, .code yX0_valueOf cX0_valueOf 3 (some .int), .fieldLink RX0 35 "Submodulary" "values" "[I", .methodLink RX0 68 yX0_at, .static yX0_at, .code yX0_at cX0_at 2 (some .int), .methodLink RX0 177 yX0_gainsOverOrders, .instanceMethod yX0_gainsOverOrders, .selects RX0 yX0_gainsOverOrders yX0_gainsOverOrders] ++ wsX00)
def wsX0_shareAnew_r1 : List Cond := [Cond.methodLink RX0 119 yX0_isFunction, Cond.instanceMethod yX0_isFunction, Cond.selects RX0 yX0_isFunction yX0_isFunction, Cond.initialized RX0, Cond.code yX0_isFunction cX0_isFunction 2 (some .boolean), Cond.fieldLink RX0 13 "Submodulary" "functions" "I", Cond.methodLink RX0 61 yX0_isElement, Cond.instanceMethod yX0_isElement, Cond.selects RX0 yX0_isElement yX0_isElement, Cond.code yX0_isElement cX0_isElement 2 (some .boolean), Cond.fieldLink RX0 9 "Submodulary" "elements" "I", Cond.methodLink RX0 65 yX0_needIndex, Cond.static yX0_needIndex, Cond.code yX0_needIndex cX0_needIndex 1 none, Cond.classLink RX0 181 "java/lang/IndexOutOfBoundsException", Cond.initialized "java/lang/IndexOutOfBoundsException", Cond.methodLink RX0 177 yX0_gainsOverOrders, Cond.instanceMethod yX0_gainsOverOrders, Cond.selects RX0 yX0_gainsOverOrders yX0_gainsOverOrders, Cond.code yX0_gainsOverOrders cX0_gainsOverOrders 9 (some .int), Cond.methodLink RX0 83 yX0_has, Cond.static yX0_has, Cond.code yX0_has cX0_has 2 (some .boolean), Cond.methodLink RX0 136 yX0_gain]
def wsX0_shareAnew_r2 : List Cond := [Cond.instanceMethod yX0_gain, Cond.selects RX0 yX0_gain yX0_gain, Cond.code yX0_gain cX0_gain 4 (some .int), Cond.methodLink RX0 72 yX0_with, Cond.static yX0_with, Cond.code yX0_with cX0_with 2 (some .int), Cond.methodLink RX0 122 yX0_valueOf, Cond.instanceMethod yX0_valueOf, Cond.selects RX0 yX0_valueOf yX0_valueOf, Cond.code yX0_valueOf cX0_valueOf 3 (some .int), Cond.fieldLink RX0 35 "Submodulary" "values" "[I", Cond.methodLink RX0 68 yX0_at, Cond.static yX0_at, Cond.code yX0_at cX0_at 2 (some .int)]
def wsX0_shareAnew : List Cond := .code yX0_shareAnew cX0_shareAnew 3 (some .int) :: ((wsX0_shareAnew_r1 ++ wsX0_shareAnew_r2) ++ wsX00 ++ (vx_atS RX0 185 "java/lang/IndexOutOfBoundsException" ["java/lang/RuntimeException", "java/lang/Exception"]).filter goodWord)
def wsJ9_max_7cf53 : List Cond := .code yJ9_max_7cf53 cJ9_max_7cf53 2 (some .int) :: ([])
def wsJ9_min_7cf53 : List Cond := .code yJ9_min_7cf53 cJ9_min_7cf53 2 (some .int) :: ([])
def wsL_act_r1 : List Cond := [Cond.classLink RL 81 "java/lang/IndexOutOfBoundsException", Cond.classLink RL 84 "java/lang/IllegalArgumentException", Cond.classLink RL 87 "java/lang/IllegalStateException", Cond.constant RL 83 (-7000001), Cond.constant RL 86 (-7000002), Cond.constant RL 89 (-7000003), Cond.methodLink RL 7 yX0_elements, Cond.instanceMethod yX0_elements, Cond.selects RX0 yX0_elements yX0_elements, Cond.initialized RX0, Cond.code yX0_elements cX0_elements 3 (some .int), Cond.fieldLink RX0 9 "Submodulary" "elements" "I", Cond.fieldLink RX0 13 "Submodulary" "functions" "I", Cond.fieldLink RX0 16 "Submodulary" "told" "I", Cond.fieldLink RX0 19 "Submodulary" "covered" "[I", Cond.fieldLink RX0 23 "Submodulary" "edges" "[I", Cond.fieldLink RX0 26 "Submodulary" "colours" "[I", Cond.fieldLink RX0 29 "Submodulary" "rooms" "[I", Cond.fieldLink RX0 32 "Submodulary" "weights" "[I", Cond.methodLink RX0 53 yX0_isWithin, Cond.static yX0_isWithin, Cond.code yX0_isWithin cX0_isWithin 3 (some .boolean), Cond.methodLink RX0 57 yX0_needArgument, Cond.static yX0_needArgument]
def wsL_act_r2 : List Cond := [Cond.code yX0_needArgument cX0_needArgument 1 none, Cond.classLink RX0 188 "java/lang/IllegalArgumentException", Cond.initialized "java/lang/IllegalArgumentException", Cond.methodLink RX0 47 yJ7_fill_53178, Cond.static yJ7_fill_53178, Cond.initialized RJ7, Cond.code yJ7_fill_53178 cJ7_fill_53178 4 none, Cond.methodLink RL 13 yX0_cover, Cond.instanceMethod yX0_cover, Cond.selects RX0 yX0_cover yX0_cover, Cond.code yX0_cover cX0_cover 5 (some .boolean), Cond.methodLink RX0 61 yX0_isElement, Cond.instanceMethod yX0_isElement, Cond.selects RX0 yX0_isElement yX0_isElement, Cond.code yX0_isElement cX0_isElement 2 (some .boolean), Cond.methodLink RX0 65 yX0_needIndex, Cond.static yX0_needIndex, Cond.code yX0_needIndex cX0_needIndex 1 none, Cond.classLink RX0 181 "java/lang/IndexOutOfBoundsException", Cond.initialized "java/lang/IndexOutOfBoundsException", Cond.methodLink RX0 68 yX0_at, Cond.static yX0_at, Cond.code yX0_at cX0_at 2 (some .int), Cond.methodLink RX0 72 yX0_with]
def wsL_act_r3 : List Cond := [Cond.static yX0_with, Cond.code yX0_with cX0_with 2 (some .int), Cond.methodLink RX0 76 yX0_without, Cond.static yX0_without, Cond.code yX0_without cX0_without 2 (some .int), Cond.methodLink RX0 79 yX0_put, Cond.static yX0_put, Cond.code yX0_put cX0_put 3 none, Cond.methodLink RX0 83 yX0_has, Cond.static yX0_has, Cond.code yX0_has cX0_has 2 (some .boolean), Cond.methodLink RL 17 yX0_edge, Cond.instanceMethod yX0_edge, Cond.selects RX0 yX0_edge yX0_edge, Cond.code yX0_edge cX0_edge 5 (some .int), Cond.methodLink RX0 87 yX0_edgeWeight, Cond.instanceMethod yX0_edgeWeight, Cond.selects RX0 yX0_edgeWeight yX0_edgeWeight, Cond.code yX0_edgeWeight cX0_edgeWeight 3 (some .int), Cond.methodLink RL 21 yX0_colour, Cond.instanceMethod yX0_colour, Cond.selects RX0 yX0_colour yX0_colour, Cond.code yX0_colour cX0_colour 5 (some .int), Cond.methodLink RX0 90 yX0_isFamily]
def wsL_act_r4 : List Cond := [Cond.static yX0_isFamily, Cond.code yX0_isFamily cX0_isFamily 1 (some .boolean), Cond.methodLink RX0 93 yX0_isColour, Cond.static yX0_isColour, Cond.code yX0_isColour cX0_isColour 1 (some .boolean), Cond.methodLink RX0 96 yX0_colourOf, Cond.instanceMethod yX0_colourOf, Cond.selects RX0 yX0_colourOf yX0_colourOf, Cond.code yX0_colourOf cX0_colourOf 3 (some .int), Cond.methodLink RL 24 yX0_room, Cond.instanceMethod yX0_room, Cond.selects RX0 yX0_room yX0_room, Cond.code yX0_room cX0_room 5 (some .int), Cond.methodLink RX0 99 yX0_roomOf, Cond.instanceMethod yX0_roomOf, Cond.selects RX0 yX0_roomOf yX0_roomOf, Cond.code yX0_roomOf cX0_roomOf 3 (some .int), Cond.methodLink RL 27 yX0_weigh, Cond.instanceMethod yX0_weigh, Cond.selects RX0 yX0_weigh yX0_weigh, Cond.code yX0_weigh cX0_weigh 4 (some .int), Cond.methodLink RL 31 yX0_make, Cond.instanceMethod yX0_make, Cond.selects RX0 yX0_make yX0_make]
def wsL_act_r5 : List Cond := [Cond.code yX0_make cX0_make 3 (some .int), Cond.methodLink RX0 102 yX0_needPlace, Cond.instanceMethod yX0_needPlace, Cond.selects RX0 yX0_needPlace yX0_needPlace, Cond.code yX0_needPlace cX0_needPlace 1 none, Cond.methodLink RX0 140 yX0_needState, Cond.static yX0_needState, Cond.code yX0_needState cX0_needState 1 none, Cond.classLink RX0 193 "java/lang/IllegalStateException", Cond.initialized "java/lang/IllegalStateException", Cond.methodLink RX0 105 yX0_sets, Cond.instanceMethod yX0_sets, Cond.selects RX0 yX0_sets yX0_sets, Cond.code yX0_sets cX0_sets 1 (some .int), Cond.methodLink RX0 109 yX0_toldValue, Cond.instanceMethod yX0_toldValue, Cond.selects RX0 yX0_toldValue yX0_toldValue, Cond.code yX0_toldValue cX0_toldValue 3 (some .int), Cond.methodLink RX0 198 yX0_coverValue, Cond.instanceMethod yX0_coverValue, Cond.selects RX0 yX0_coverValue yX0_coverValue, Cond.code yX0_coverValue cX0_coverValue 4 (some .int), Cond.methodLink RX0 157 yJ6_bitCount_0f7a4, Cond.static yJ6_bitCount_0f7a4]
def wsL_act_r6 : List Cond := [Cond.initialized RJ6, Cond.code yJ6_bitCount_0f7a4 cJ6_bitCount_0f7a4 1 (some .int), Cond.constant RJ6 265 (1431655765), Cond.constant RJ6 266 (858993459), Cond.constant RJ6 267 (252645135), Cond.methodLink RX0 201 yX0_cutValue, Cond.instanceMethod yX0_cutValue, Cond.selects RX0 yX0_cutValue yX0_cutValue, Cond.code yX0_cutValue cX0_cutValue 5 (some .int), Cond.methodLink RX0 204 yX0_rankValue, Cond.instanceMethod yX0_rankValue, Cond.selects RX0 yX0_rankValue yX0_rankValue, Cond.code yX0_rankValue cX0_rankValue 5 (some .int), Cond.methodLink RX0 128 Lib.Math.min.name, Cond.static Lib.Math.min.name, Cond.initialized "java/lang/Math", Cond.code Lib.Math.min.name Lib.Math.min.code 2 (some .int), Cond.methodLink RX0 210 yX0_countOf, Cond.instanceMethod yX0_countOf, Cond.selects RX0 yX0_countOf yX0_countOf, Cond.code yX0_countOf cX0_countOf 6 (some .int), Cond.methodLink RX0 207 yX0_weightsValue, Cond.instanceMethod yX0_weightsValue, Cond.selects RX0 yX0_weightsValue yX0_weightsValue]
def wsL_act_r7 : List Cond := [Cond.code yX0_weightsValue cX0_weightsValue 4 (some .int), Cond.methodLink RX0 112 yX0_putNew, Cond.instanceMethod yX0_putNew, Cond.selects RX0 yX0_putNew yX0_putNew, Cond.code yX0_putNew cX0_putNew 3 none, Cond.fieldLink RX0 35 "Submodulary" "values" "[I", Cond.methodLink RX0 116 yX0_countNew, Cond.instanceMethod yX0_countNew, Cond.selects RX0 yX0_countNew yX0_countNew, Cond.code yX0_countNew cX0_countNew 2 (some .int), Cond.methodLink RL 34 yX0_sum, Cond.instanceMethod yX0_sum, Cond.selects RX0 yX0_sum yX0_sum, Cond.code yX0_sum cX0_sum 4 (some .int), Cond.methodLink RX0 119 yX0_isFunction, Cond.instanceMethod yX0_isFunction, Cond.selects RX0 yX0_isFunction yX0_isFunction, Cond.code yX0_isFunction cX0_isFunction 2 (some .boolean), Cond.methodLink RX0 122 yX0_valueOf, Cond.instanceMethod yX0_valueOf, Cond.selects RX0 yX0_valueOf yX0_valueOf, Cond.code yX0_valueOf cX0_valueOf 3 (some .int), Cond.methodLink RL 37 yX0_contract, Cond.instanceMethod yX0_contract]
def wsL_act_r8 : List Cond := [Cond.selects RX0 yX0_contract yX0_contract, Cond.code yX0_contract cX0_contract 4 (some .int), Cond.methodLink RX0 125 yX0_isSet, Cond.instanceMethod yX0_isSet, Cond.selects RX0 yX0_isSet yX0_isSet, Cond.code yX0_isSet cX0_isSet 2 (some .boolean), Cond.methodLink RL 40 yX0_cap, Cond.instanceMethod yX0_cap, Cond.selects RX0 yX0_cap yX0_cap, Cond.code yX0_cap cX0_cap 4 (some .int), Cond.methodLink RL 43 yX0_value, Cond.instanceMethod yX0_value, Cond.selects RX0 yX0_value yX0_value, Cond.code yX0_value cX0_value 3 (some .int), Cond.methodLink RL 46 yX0_isLawful, Cond.instanceMethod yX0_isLawful, Cond.selects RX0 yX0_isLawful yX0_isLawful, Cond.code yX0_isLawful cX0_isLawful 2 (some .boolean), Cond.methodLink RX0 133 yX0_hasLaw, Cond.instanceMethod yX0_hasLaw, Cond.selects RX0 yX0_hasLaw yX0_hasLaw, Cond.code yX0_hasLaw cX0_hasLaw 3 (some .boolean), Cond.methodLink RX0 213 yX0_hasLawAbove, Cond.instanceMethod yX0_hasLawAbove]
def wsL_act_r9 : List Cond := [Cond.selects RX0 yX0_hasLawAbove yX0_hasLawAbove, Cond.code yX0_hasLawAbove cX0_hasLawAbove 6 (some .boolean), Cond.methodLink RX0 136 yX0_gain, Cond.instanceMethod yX0_gain, Cond.selects RX0 yX0_gain yX0_gain, Cond.code yX0_gain cX0_gain 4 (some .int), Cond.methodLink RL 50 yX0_rises, Cond.instanceMethod yX0_rises, Cond.selects RX0 yX0_rises yX0_rises, Cond.code yX0_rises cX0_rises 4 (some .boolean), Cond.methodLink RL 53 yX0_least, Cond.instanceMethod yX0_least, Cond.selects RX0 yX0_least yX0_least, Cond.code yX0_least cX0_least 2 (some .int), Cond.methodLink RX0 143 yX0_leastBetween, Cond.instanceMethod yX0_leastBetween, Cond.selects RX0 yX0_leastBetween yX0_leastBetween, Cond.code yX0_leastBetween cX0_leastBetween 12 (some .int), Cond.methodLink RX0 216 yX0_takenIn, Cond.instanceMethod yX0_takenIn, Cond.selects RX0 yX0_takenIn yX0_takenIn, Cond.code yX0_takenIn cX0_takenIn 8 (some .int), Cond.methodLink RX0 220 yX0_takenOut, Cond.instanceMethod yX0_takenOut]
def wsL_act_r10 : List Cond := [Cond.selects RX0 yX0_takenOut yX0_takenOut, Cond.code yX0_takenOut cX0_takenOut 8 (some .int), Cond.methodLink RX0 223 yX0_lowest, Cond.instanceMethod yX0_lowest, Cond.selects RX0 yX0_lowest yX0_lowest, Cond.code yX0_lowest cX0_lowest 3 (some .int), Cond.methodLink RL 56 yX0_leastSet, Cond.instanceMethod yX0_leastSet, Cond.selects RX0 yX0_leastSet yX0_leastSet, Cond.code yX0_leastSet cX0_leastSet 3 (some .int), Cond.methodLink RL 60 yX0_leastSetAnew, Cond.instanceMethod yX0_leastSetAnew, Cond.selects RX0 yX0_leastSetAnew yX0_leastSetAnew, Cond.code yX0_leastSetAnew cX0_leastSetAnew 7 (some .int), Cond.methodLink RL 63 yX0_order, Cond.instanceMethod yX0_order, Cond.selects RX0 yX0_order yX0_order, Cond.code yX0_order cX0_order 3 (some .int), Cond.fieldLink RX0 38 "Submodulary" "ordered" "[I", Cond.methodLink RX0 147 yX0_isTold, Cond.instanceMethod yX0_isTold, Cond.selects RX0 yX0_isTold yX0_isTold, Cond.code yX0_isTold cX0_isTold 3 (some .boolean), Cond.methodLink RL 66 yX0_corner]
def wsL_act_r11 : List Cond := [Cond.instanceMethod yX0_corner, Cond.selects RX0 yX0_corner yX0_corner, Cond.code yX0_corner cX0_corner 3 (some .int), Cond.methodLink RX0 150 yX0_aheadOf, Cond.instanceMethod yX0_aheadOf, Cond.selects RX0 yX0_aheadOf yX0_aheadOf, Cond.code yX0_aheadOf cX0_aheadOf 5 (some .int), Cond.methodLink RL 69 yX0_greedy, Cond.instanceMethod yX0_greedy, Cond.selects RX0 yX0_greedy yX0_greedy, Cond.code yX0_greedy cX0_greedy 6 (some .int), Cond.methodLink RX0 154 yX0_greediest, Cond.instanceMethod yX0_greediest, Cond.selects RX0 yX0_greediest yX0_greediest, Cond.code yX0_greediest cX0_greediest 7 (some .int), Cond.methodLink RL 72 yX0_best, Cond.instanceMethod yX0_best, Cond.selects RX0 yX0_best yX0_best, Cond.code yX0_best cX0_best 5 (some .int), Cond.methodLink RX0 162 Lib.Math.max.name, Cond.static Lib.Math.max.name, Cond.code Lib.Math.max.name Lib.Math.max.code 2 (some .int), Cond.methodLink RL 75 yX0_share, Cond.instanceMethod yX0_share]
def wsL_act_r12 : List Cond := [Cond.selects RX0 yX0_share yX0_share, Cond.code yX0_share cX0_share 7 (some .int), Cond.methodLink RX0 174 yX0_ordersOf, Cond.static yX0_ordersOf, Cond.code yX0_ordersOf cX0_ordersOf 3 (some .int), Cond.methodLink RL 78 yX0_shareAnew, Cond.instanceMethod yX0_shareAnew, Cond.selects RX0 yX0_shareAnew yX0_shareAnew, Cond.code yX0_shareAnew cX0_shareAnew 3 (some .int), Cond.methodLink RX0 177 yX0_gainsOverOrders, Cond.instanceMethod yX0_gainsOverOrders, Cond.selects RX0 yX0_gainsOverOrders yX0_gainsOverOrders, Cond.code yX0_gainsOverOrders cX0_gainsOverOrders 9 (some .int)]
def wsL_act : List Cond := .codeWith yL_act cL_act 6 (some .int) [(0, 367, 368, 81), (0, 367, 373, 84), (0, 367, 378, 87)] :: ((wsL_act_r1 ++ (wsL_act_r2 ++ (wsL_act_r3 ++ (wsL_act_r4 ++ (wsL_act_r5 ++ (wsL_act_r6 ++ (wsL_act_r7 ++ (wsL_act_r8 ++ (wsL_act_r9 ++ (wsL_act_r10 ++ (wsL_act_r11 ++ wsL_act_r12))))))))))) ++ wsX00 ++ (vx_atS RX0 192 "java/lang/IllegalArgumentException" ["java/lang/RuntimeException", "java/lang/Exception"]).filter goodWord ++ (vx_atS RX0 185 "java/lang/IndexOutOfBoundsException" ["java/lang/RuntimeException", "java/lang/Exception"]).filter goodWord ++ (vx_atS RX0 197 "java/lang/IllegalStateException" ["java/lang/RuntimeException", "java/lang/Exception"]).filter goodWord)
def wsL_refuses_r1 : List Cond := [Cond.constant RL 90 (2147483647), Cond.constant RL 86 (-7000002), Cond.constant RL 83 (-7000001), Cond.methodLink RL 91 yX0_common, Cond.instanceMethod yX0_common, Cond.selects RX0 yX0_common yX0_common, Cond.initialized RX0, Cond.code yX0_common cX0_common 4 (some .int), Cond.fieldLink RX0 9 "Submodulary" "elements" "I", Cond.methodLink RX0 165 yX0_endOfPath, Cond.instanceMethod yX0_endOfPath, Cond.selects RX0 yX0_endOfPath yX0_endOfPath, Cond.code yX0_endOfPath cX0_endOfPath 5 (some .int), Cond.fieldLink RX0 44 "Submodulary" "reached" "[I", Cond.methodLink RX0 226 yX0_reachFirst, Cond.instanceMethod yX0_reachFirst, Cond.selects RX0 yX0_reachFirst yX0_reachFirst, Cond.code yX0_reachFirst cX0_reachFirst 4 (some .int), Cond.fieldLink RX0 41 "Submodulary" "cameFrom" "[I", Cond.methodLink RX0 47 yJ7_fill_53178, Cond.static yJ7_fill_53178, Cond.initialized RJ7, Cond.code yJ7_fill_53178 cJ7_fill_53178 4 none, Cond.methodLink RX0 229 yX0_hasRoom]
def wsL_refuses_r2 : List Cond := [Cond.instanceMethod yX0_hasRoom, Cond.selects RX0 yX0_hasRoom yX0_hasRoom, Cond.code yX0_hasRoom cX0_hasRoom 5 (some .boolean), Cond.methodLink RX0 96 yX0_colourOf, Cond.instanceMethod yX0_colourOf, Cond.selects RX0 yX0_colourOf yX0_colourOf, Cond.code yX0_colourOf cX0_colourOf 3 (some .int), Cond.fieldLink RX0 26 "Submodulary" "colours" "[I", Cond.methodLink RX0 68 yX0_at, Cond.static yX0_at, Cond.code yX0_at cX0_at 2 (some .int), Cond.methodLink RX0 83 yX0_has, Cond.static yX0_has, Cond.code yX0_has cX0_has 2 (some .boolean), Cond.methodLink RX0 210 yX0_countOf, Cond.instanceMethod yX0_countOf, Cond.selects RX0 yX0_countOf yX0_countOf, Cond.code yX0_countOf cX0_countOf 6 (some .int), Cond.methodLink RX0 99 yX0_roomOf, Cond.instanceMethod yX0_roomOf, Cond.selects RX0 yX0_roomOf yX0_roomOf, Cond.code yX0_roomOf cX0_roomOf 3 (some .int), Cond.fieldLink RX0 29 "Submodulary" "rooms" "[I", Cond.methodLink RX0 79 yX0_put]
def wsL_refuses_r3 : List Cond := [Cond.static yX0_put, Cond.code yX0_put cX0_put 3 none, Cond.methodLink RX0 232 yX0_reachFrom, Cond.instanceMethod yX0_reachFrom, Cond.selects RX0 yX0_reachFrom yX0_reachFrom, Cond.code yX0_reachFrom cX0_reachFrom 6 (some .int), Cond.methodLink RX0 235 yX0_isStep, Cond.instanceMethod yX0_isStep, Cond.selects RX0 yX0_isStep yX0_isStep, Cond.code yX0_isStep cX0_isStep 5 (some .boolean), Cond.methodLink RX0 157 yJ6_bitCount_0f7a4, Cond.static yJ6_bitCount_0f7a4, Cond.initialized RJ6, Cond.code yJ6_bitCount_0f7a4 cJ6_bitCount_0f7a4 1 (some .int), Cond.constant RJ6 265 (1431655765), Cond.constant RJ6 266 (858993459), Cond.constant RJ6 267 (252645135), Cond.methodLink RX0 168 yX0_flippedAlong, Cond.instanceMethod yX0_flippedAlong, Cond.selects RX0 yX0_flippedAlong yX0_flippedAlong, Cond.code yX0_flippedAlong cX0_flippedAlong 6 (some .int), Cond.methodLink RL 95 yL_act, Cond.static yL_act, Cond.initialized RL]
def wsL_refuses_r4 : List Cond := [Cond.codeWith yL_act cL_act 6 (some .int) [(0, 367, 368, 81), (0, 367, 373, 84), (0, 367, 378, 87)], Cond.classLink RL 81 "java/lang/IndexOutOfBoundsException", Cond.classLink RL 84 "java/lang/IllegalArgumentException", Cond.classLink RL 87 "java/lang/IllegalStateException", Cond.constant RL 89 (-7000003), Cond.methodLink RL 7 yX0_elements, Cond.instanceMethod yX0_elements, Cond.selects RX0 yX0_elements yX0_elements, Cond.code yX0_elements cX0_elements 3 (some .int), Cond.fieldLink RX0 13 "Submodulary" "functions" "I", Cond.fieldLink RX0 16 "Submodulary" "told" "I", Cond.fieldLink RX0 19 "Submodulary" "covered" "[I", Cond.fieldLink RX0 23 "Submodulary" "edges" "[I", Cond.fieldLink RX0 32 "Submodulary" "weights" "[I", Cond.methodLink RX0 53 yX0_isWithin, Cond.static yX0_isWithin, Cond.code yX0_isWithin cX0_isWithin 3 (some .boolean), Cond.methodLink RX0 57 yX0_needArgument, Cond.static yX0_needArgument, Cond.code yX0_needArgument cX0_needArgument 1 none, Cond.classLink RX0 188 "java/lang/IllegalArgumentException", Cond.initialized "java/lang/IllegalArgumentException", Cond.methodLink RL 13 yX0_cover, Cond.instanceMethod yX0_cover]
def wsL_refuses_r5 : List Cond := [Cond.selects RX0 yX0_cover yX0_cover, Cond.code yX0_cover cX0_cover 5 (some .boolean), Cond.methodLink RX0 61 yX0_isElement, Cond.instanceMethod yX0_isElement, Cond.selects RX0 yX0_isElement yX0_isElement, Cond.code yX0_isElement cX0_isElement 2 (some .boolean), Cond.methodLink RX0 65 yX0_needIndex, Cond.static yX0_needIndex, Cond.code yX0_needIndex cX0_needIndex 1 none, Cond.classLink RX0 181 "java/lang/IndexOutOfBoundsException", Cond.initialized "java/lang/IndexOutOfBoundsException", Cond.methodLink RX0 72 yX0_with, Cond.static yX0_with, Cond.code yX0_with cX0_with 2 (some .int), Cond.methodLink RX0 76 yX0_without, Cond.static yX0_without, Cond.code yX0_without cX0_without 2 (some .int), Cond.methodLink RL 17 yX0_edge, Cond.instanceMethod yX0_edge, Cond.selects RX0 yX0_edge yX0_edge, Cond.code yX0_edge cX0_edge 5 (some .int), Cond.methodLink RX0 87 yX0_edgeWeight, Cond.instanceMethod yX0_edgeWeight, Cond.selects RX0 yX0_edgeWeight yX0_edgeWeight]
def wsL_refuses_r6 : List Cond := [Cond.code yX0_edgeWeight cX0_edgeWeight 3 (some .int), Cond.methodLink RL 21 yX0_colour, Cond.instanceMethod yX0_colour, Cond.selects RX0 yX0_colour yX0_colour, Cond.code yX0_colour cX0_colour 5 (some .int), Cond.methodLink RX0 90 yX0_isFamily, Cond.static yX0_isFamily, Cond.code yX0_isFamily cX0_isFamily 1 (some .boolean), Cond.methodLink RX0 93 yX0_isColour, Cond.static yX0_isColour, Cond.code yX0_isColour cX0_isColour 1 (some .boolean), Cond.methodLink RL 24 yX0_room, Cond.instanceMethod yX0_room, Cond.selects RX0 yX0_room yX0_room, Cond.code yX0_room cX0_room 5 (some .int), Cond.methodLink RL 27 yX0_weigh, Cond.instanceMethod yX0_weigh, Cond.selects RX0 yX0_weigh yX0_weigh, Cond.code yX0_weigh cX0_weigh 4 (some .int), Cond.methodLink RL 31 yX0_make, Cond.instanceMethod yX0_make, Cond.selects RX0 yX0_make yX0_make, Cond.code yX0_make cX0_make 3 (some .int), Cond.methodLink RX0 102 yX0_needPlace]
def wsL_refuses_r7 : List Cond := [Cond.instanceMethod yX0_needPlace, Cond.selects RX0 yX0_needPlace yX0_needPlace, Cond.code yX0_needPlace cX0_needPlace 1 none, Cond.methodLink RX0 140 yX0_needState, Cond.static yX0_needState, Cond.code yX0_needState cX0_needState 1 none, Cond.classLink RX0 193 "java/lang/IllegalStateException", Cond.initialized "java/lang/IllegalStateException", Cond.methodLink RX0 105 yX0_sets, Cond.instanceMethod yX0_sets, Cond.selects RX0 yX0_sets yX0_sets, Cond.code yX0_sets cX0_sets 1 (some .int), Cond.methodLink RX0 109 yX0_toldValue, Cond.instanceMethod yX0_toldValue, Cond.selects RX0 yX0_toldValue yX0_toldValue, Cond.code yX0_toldValue cX0_toldValue 3 (some .int), Cond.methodLink RX0 198 yX0_coverValue, Cond.instanceMethod yX0_coverValue, Cond.selects RX0 yX0_coverValue yX0_coverValue, Cond.code yX0_coverValue cX0_coverValue 4 (some .int), Cond.methodLink RX0 201 yX0_cutValue, Cond.instanceMethod yX0_cutValue, Cond.selects RX0 yX0_cutValue yX0_cutValue, Cond.code yX0_cutValue cX0_cutValue 5 (some .int)]
def wsL_refuses_r8 : List Cond := [Cond.methodLink RX0 204 yX0_rankValue, Cond.instanceMethod yX0_rankValue, Cond.selects RX0 yX0_rankValue yX0_rankValue, Cond.code yX0_rankValue cX0_rankValue 5 (some .int), Cond.methodLink RX0 128 Lib.Math.min.name, Cond.static Lib.Math.min.name, Cond.initialized "java/lang/Math", Cond.code Lib.Math.min.name Lib.Math.min.code 2 (some .int), Cond.methodLink RX0 207 yX0_weightsValue, Cond.instanceMethod yX0_weightsValue, Cond.selects RX0 yX0_weightsValue yX0_weightsValue, Cond.code yX0_weightsValue cX0_weightsValue 4 (some .int), Cond.methodLink RX0 112 yX0_putNew, Cond.instanceMethod yX0_putNew, Cond.selects RX0 yX0_putNew yX0_putNew, Cond.code yX0_putNew cX0_putNew 3 none, Cond.fieldLink RX0 35 "Submodulary" "values" "[I", Cond.methodLink RX0 116 yX0_countNew, Cond.instanceMethod yX0_countNew, Cond.selects RX0 yX0_countNew yX0_countNew, Cond.code yX0_countNew cX0_countNew 2 (some .int), Cond.methodLink RL 34 yX0_sum, Cond.instanceMethod yX0_sum, Cond.selects RX0 yX0_sum yX0_sum]
def wsL_refuses_r9 : List Cond := [Cond.code yX0_sum cX0_sum 4 (some .int), Cond.methodLink RX0 119 yX0_isFunction, Cond.instanceMethod yX0_isFunction, Cond.selects RX0 yX0_isFunction yX0_isFunction, Cond.code yX0_isFunction cX0_isFunction 2 (some .boolean), Cond.methodLink RX0 122 yX0_valueOf, Cond.instanceMethod yX0_valueOf, Cond.selects RX0 yX0_valueOf yX0_valueOf, Cond.code yX0_valueOf cX0_valueOf 3 (some .int), Cond.methodLink RL 37 yX0_contract, Cond.instanceMethod yX0_contract, Cond.selects RX0 yX0_contract yX0_contract, Cond.code yX0_contract cX0_contract 4 (some .int), Cond.methodLink RX0 125 yX0_isSet, Cond.instanceMethod yX0_isSet, Cond.selects RX0 yX0_isSet yX0_isSet, Cond.code yX0_isSet cX0_isSet 2 (some .boolean), Cond.methodLink RL 40 yX0_cap, Cond.instanceMethod yX0_cap, Cond.selects RX0 yX0_cap yX0_cap, Cond.code yX0_cap cX0_cap 4 (some .int), Cond.methodLink RL 43 yX0_value, Cond.instanceMethod yX0_value, Cond.selects RX0 yX0_value yX0_value]
def wsL_refuses_r10 : List Cond := [Cond.code yX0_value cX0_value 3 (some .int), Cond.methodLink RL 46 yX0_isLawful, Cond.instanceMethod yX0_isLawful, Cond.selects RX0 yX0_isLawful yX0_isLawful, Cond.code yX0_isLawful cX0_isLawful 2 (some .boolean), Cond.methodLink RX0 133 yX0_hasLaw, Cond.instanceMethod yX0_hasLaw, Cond.selects RX0 yX0_hasLaw yX0_hasLaw, Cond.code yX0_hasLaw cX0_hasLaw 3 (some .boolean), Cond.methodLink RX0 213 yX0_hasLawAbove, Cond.instanceMethod yX0_hasLawAbove, Cond.selects RX0 yX0_hasLawAbove yX0_hasLawAbove, Cond.code yX0_hasLawAbove cX0_hasLawAbove 6 (some .boolean), Cond.methodLink RX0 136 yX0_gain, Cond.instanceMethod yX0_gain, Cond.selects RX0 yX0_gain yX0_gain, Cond.code yX0_gain cX0_gain 4 (some .int), Cond.methodLink RL 50 yX0_rises, Cond.instanceMethod yX0_rises, Cond.selects RX0 yX0_rises yX0_rises, Cond.code yX0_rises cX0_rises 4 (some .boolean), Cond.methodLink RL 53 yX0_least, Cond.instanceMethod yX0_least, Cond.selects RX0 yX0_least yX0_least]
def wsL_refuses_r11 : List Cond := [Cond.code yX0_least cX0_least 2 (some .int), Cond.methodLink RX0 143 yX0_leastBetween, Cond.instanceMethod yX0_leastBetween, Cond.selects RX0 yX0_leastBetween yX0_leastBetween, Cond.code yX0_leastBetween cX0_leastBetween 12 (some .int), Cond.methodLink RX0 216 yX0_takenIn, Cond.instanceMethod yX0_takenIn, Cond.selects RX0 yX0_takenIn yX0_takenIn, Cond.code yX0_takenIn cX0_takenIn 8 (some .int), Cond.methodLink RX0 220 yX0_takenOut, Cond.instanceMethod yX0_takenOut, Cond.selects RX0 yX0_takenOut yX0_takenOut, Cond.code yX0_takenOut cX0_takenOut 8 (some .int), Cond.methodLink RX0 223 yX0_lowest, Cond.instanceMethod yX0_lowest, Cond.selects RX0 yX0_lowest yX0_lowest, Cond.code yX0_lowest cX0_lowest 3 (some .int), Cond.methodLink RL 56 yX0_leastSet, Cond.instanceMethod yX0_leastSet, Cond.selects RX0 yX0_leastSet yX0_leastSet, Cond.code yX0_leastSet cX0_leastSet 3 (some .int), Cond.methodLink RL 60 yX0_leastSetAnew, Cond.instanceMethod yX0_leastSetAnew, Cond.selects RX0 yX0_leastSetAnew yX0_leastSetAnew]
def wsL_refuses_r12 : List Cond := [Cond.code yX0_leastSetAnew cX0_leastSetAnew 7 (some .int), Cond.methodLink RL 63 yX0_order, Cond.instanceMethod yX0_order, Cond.selects RX0 yX0_order yX0_order, Cond.code yX0_order cX0_order 3 (some .int), Cond.fieldLink RX0 38 "Submodulary" "ordered" "[I", Cond.methodLink RX0 147 yX0_isTold, Cond.instanceMethod yX0_isTold, Cond.selects RX0 yX0_isTold yX0_isTold, Cond.code yX0_isTold cX0_isTold 3 (some .boolean), Cond.methodLink RL 66 yX0_corner, Cond.instanceMethod yX0_corner, Cond.selects RX0 yX0_corner yX0_corner, Cond.code yX0_corner cX0_corner 3 (some .int), Cond.methodLink RX0 150 yX0_aheadOf, Cond.instanceMethod yX0_aheadOf, Cond.selects RX0 yX0_aheadOf yX0_aheadOf, Cond.code yX0_aheadOf cX0_aheadOf 5 (some .int), Cond.methodLink RL 69 yX0_greedy, Cond.instanceMethod yX0_greedy, Cond.selects RX0 yX0_greedy yX0_greedy, Cond.code yX0_greedy cX0_greedy 6 (some .int), Cond.methodLink RX0 154 yX0_greediest, Cond.instanceMethod yX0_greediest]
def wsL_refuses_r13 : List Cond := [Cond.selects RX0 yX0_greediest yX0_greediest, Cond.code yX0_greediest cX0_greediest 7 (some .int), Cond.methodLink RL 72 yX0_best, Cond.instanceMethod yX0_best, Cond.selects RX0 yX0_best yX0_best, Cond.code yX0_best cX0_best 5 (some .int), Cond.methodLink RX0 162 Lib.Math.max.name, Cond.static Lib.Math.max.name, Cond.code Lib.Math.max.name Lib.Math.max.code 2 (some .int), Cond.methodLink RL 75 yX0_share, Cond.instanceMethod yX0_share, Cond.selects RX0 yX0_share yX0_share, Cond.code yX0_share cX0_share 7 (some .int), Cond.methodLink RX0 174 yX0_ordersOf, Cond.static yX0_ordersOf, Cond.code yX0_ordersOf cX0_ordersOf 3 (some .int), Cond.methodLink RL 78 yX0_shareAnew, Cond.instanceMethod yX0_shareAnew, Cond.selects RX0 yX0_shareAnew yX0_shareAnew, Cond.code yX0_shareAnew cX0_shareAnew 3 (some .int), Cond.methodLink RX0 177 yX0_gainsOverOrders, Cond.instanceMethod yX0_gainsOverOrders, Cond.selects RX0 yX0_gainsOverOrders yX0_gainsOverOrders, Cond.code yX0_gainsOverOrders cX0_gainsOverOrders 9 (some .int)]
def wsL_refuses_r14 : List Cond := [Cond.methodLink RL 101 yX0_commonAnew, Cond.instanceMethod yX0_commonAnew, Cond.selects RX0 yX0_commonAnew yX0_commonAnew, Cond.code yX0_commonAnew cX0_commonAnew 3 (some .int), Cond.methodLink RX0 171 yX0_isFair, Cond.instanceMethod yX0_isFair, Cond.selects RX0 yX0_isFair yX0_isFair, Cond.code yX0_isFair cX0_isFair 4 (some .boolean)]
def wsL_refuses : List Cond := .code yL_refuses cL_refuses 14 (some .boolean) :: ((wsL_refuses_r1 ++ (wsL_refuses_r2 ++ (wsL_refuses_r3 ++ (wsL_refuses_r4 ++ (wsL_refuses_r5 ++ (wsL_refuses_r6 ++ (wsL_refuses_r7 ++ (wsL_refuses_r8 ++ (wsL_refuses_r9 ++ (wsL_refuses_r10 ++ (wsL_refuses_r11 ++ (wsL_refuses_r12 ++ (wsL_refuses_r13 ++ wsL_refuses_r14))))))))))))) ++ wsX00 ++ (vx_atS RX0 192 "java/lang/IllegalArgumentException" ["java/lang/RuntimeException", "java/lang/Exception"]).filter goodWord ++ (vx_atS RX0 185 "java/lang/IndexOutOfBoundsException" ["java/lang/RuntimeException", "java/lang/Exception"]).filter goodWord ++ (vx_atS RX0 197 "java/lang/IllegalStateException" ["java/lang/RuntimeException", "java/lang/Exception"]).filter goodWord)
def wsL_least_r1 : List Cond := [Cond.methodLink RL 53 yX0_least, Cond.instanceMethod yX0_least, Cond.selects RX0 yX0_least yX0_least, Cond.initialized RX0, Cond.code yX0_least cX0_least 2 (some .int), Cond.methodLink RX0 119 yX0_isFunction, Cond.instanceMethod yX0_isFunction, Cond.selects RX0 yX0_isFunction yX0_isFunction, Cond.code yX0_isFunction cX0_isFunction 2 (some .boolean), Cond.fieldLink RX0 13 "Submodulary" "functions" "I", Cond.methodLink RX0 65 yX0_needIndex, Cond.static yX0_needIndex, Cond.code yX0_needIndex cX0_needIndex 1 none, Cond.classLink RX0 181 "java/lang/IndexOutOfBoundsException", Cond.initialized "java/lang/IndexOutOfBoundsException", Cond.methodLink RX0 133 yX0_hasLaw, Cond.instanceMethod yX0_hasLaw, Cond.selects RX0 yX0_hasLaw yX0_hasLaw, Cond.code yX0_hasLaw cX0_hasLaw 3 (some .boolean), Cond.methodLink RX0 105 yX0_sets, Cond.instanceMethod yX0_sets, Cond.selects RX0 yX0_sets yX0_sets, Cond.code yX0_sets cX0_sets 1 (some .int), Cond.fieldLink RX0 9 "Submodulary" "elements" "I"]
def wsL_least_r2 : List Cond := [Cond.methodLink RX0 213 yX0_hasLawAbove, Cond.instanceMethod yX0_hasLawAbove, Cond.selects RX0 yX0_hasLawAbove yX0_hasLawAbove, Cond.code yX0_hasLawAbove cX0_hasLawAbove 6 (some .boolean), Cond.methodLink RX0 83 yX0_has, Cond.static yX0_has, Cond.code yX0_has cX0_has 2 (some .boolean), Cond.methodLink RX0 136 yX0_gain, Cond.instanceMethod yX0_gain, Cond.selects RX0 yX0_gain yX0_gain, Cond.code yX0_gain cX0_gain 4 (some .int), Cond.methodLink RX0 72 yX0_with, Cond.static yX0_with, Cond.code yX0_with cX0_with 2 (some .int), Cond.methodLink RX0 122 yX0_valueOf, Cond.instanceMethod yX0_valueOf, Cond.selects RX0 yX0_valueOf yX0_valueOf, Cond.code yX0_valueOf cX0_valueOf 3 (some .int), Cond.fieldLink RX0 35 "Submodulary" "values" "[I", Cond.methodLink RX0 68 yX0_at, Cond.static yX0_at, Cond.code yX0_at cX0_at 2 (some .int), Cond.methodLink RX0 140 yX0_needState, Cond.static yX0_needState]
def wsL_least_r3 : List Cond := [Cond.code yX0_needState cX0_needState 1 none, Cond.classLink RX0 193 "java/lang/IllegalStateException", Cond.initialized "java/lang/IllegalStateException", Cond.methodLink RX0 143 yX0_leastBetween, Cond.instanceMethod yX0_leastBetween, Cond.selects RX0 yX0_leastBetween yX0_leastBetween, Cond.code yX0_leastBetween cX0_leastBetween 12 (some .int), Cond.methodLink RX0 216 yX0_takenIn, Cond.instanceMethod yX0_takenIn, Cond.selects RX0 yX0_takenIn yX0_takenIn, Cond.code yX0_takenIn cX0_takenIn 8 (some .int), Cond.methodLink RX0 220 yX0_takenOut, Cond.instanceMethod yX0_takenOut, Cond.selects RX0 yX0_takenOut yX0_takenOut, Cond.code yX0_takenOut cX0_takenOut 8 (some .int), Cond.methodLink RX0 76 yX0_without, Cond.static yX0_without, Cond.code yX0_without cX0_without 2 (some .int), Cond.methodLink RX0 223 yX0_lowest, Cond.instanceMethod yX0_lowest, Cond.selects RX0 yX0_lowest yX0_lowest, Cond.code yX0_lowest cX0_lowest 3 (some .int), Cond.methodLink RL 56 yX0_leastSet, Cond.instanceMethod yX0_leastSet]
def wsL_least_r4 : List Cond := [Cond.selects RX0 yX0_leastSet yX0_leastSet, Cond.code yX0_leastSet cX0_leastSet 3 (some .int), Cond.methodLink RL 60 yX0_leastSetAnew, Cond.instanceMethod yX0_leastSetAnew, Cond.selects RX0 yX0_leastSetAnew yX0_leastSetAnew, Cond.code yX0_leastSetAnew cX0_leastSetAnew 7 (some .int), Cond.methodLink RX0 128 Lib.Math.min.name, Cond.static Lib.Math.min.name, Cond.initialized "java/lang/Math", Cond.code Lib.Math.min.name Lib.Math.min.code 2 (some .int)]
def wsL_least : List Cond := .code yL_least cL_least 5 (some .boolean) :: ((wsL_least_r1 ++ (wsL_least_r2 ++ (wsL_least_r3 ++ wsL_least_r4))) ++ wsX00 ++ (vx_atS RX0 185 "java/lang/IndexOutOfBoundsException" ["java/lang/RuntimeException", "java/lang/Exception"]).filter goodWord ++ (vx_atS RX0 197 "java/lang/IllegalStateException" ["java/lang/RuntimeException", "java/lang/Exception"]).filter goodWord)
def wsL_share_r1 : List Cond := [Cond.methodLink RL 75 yX0_share, Cond.instanceMethod yX0_share, Cond.selects RX0 yX0_share yX0_share, Cond.initialized RX0, Cond.code yX0_share cX0_share 7 (some .int), Cond.fieldLink RX0 9 "Submodulary" "elements" "I", Cond.methodLink RX0 119 yX0_isFunction, Cond.instanceMethod yX0_isFunction, Cond.selects RX0 yX0_isFunction yX0_isFunction, Cond.code yX0_isFunction cX0_isFunction 2 (some .boolean), Cond.fieldLink RX0 13 "Submodulary" "functions" "I", Cond.methodLink RX0 61 yX0_isElement, Cond.instanceMethod yX0_isElement, Cond.selects RX0 yX0_isElement yX0_isElement, Cond.code yX0_isElement cX0_isElement 2 (some .boolean), Cond.methodLink RX0 65 yX0_needIndex, Cond.static yX0_needIndex, Cond.code yX0_needIndex cX0_needIndex 1 none, Cond.classLink RX0 181 "java/lang/IndexOutOfBoundsException", Cond.initialized "java/lang/IndexOutOfBoundsException", Cond.methodLink RX0 105 yX0_sets, Cond.instanceMethod yX0_sets, Cond.selects RX0 yX0_sets yX0_sets, Cond.code yX0_sets cX0_sets 1 (some .int)]
def wsL_share_r2 : List Cond := [Cond.methodLink RX0 83 yX0_has, Cond.static yX0_has, Cond.code yX0_has cX0_has 2 (some .boolean), Cond.methodLink RX0 157 yJ6_bitCount_0f7a4, Cond.static yJ6_bitCount_0f7a4, Cond.initialized RJ6, Cond.code yJ6_bitCount_0f7a4 cJ6_bitCount_0f7a4 1 (some .int), Cond.constant RJ6 265 (1431655765), Cond.constant RJ6 266 (858993459), Cond.constant RJ6 267 (252645135), Cond.methodLink RX0 174 yX0_ordersOf, Cond.static yX0_ordersOf, Cond.code yX0_ordersOf cX0_ordersOf 3 (some .int), Cond.methodLink RX0 136 yX0_gain, Cond.instanceMethod yX0_gain, Cond.selects RX0 yX0_gain yX0_gain, Cond.code yX0_gain cX0_gain 4 (some .int), Cond.methodLink RX0 72 yX0_with, Cond.static yX0_with, Cond.code yX0_with cX0_with 2 (some .int), Cond.methodLink RX0 122 yX0_valueOf, Cond.instanceMethod yX0_valueOf, Cond.selects RX0 yX0_valueOf yX0_valueOf, Cond.code yX0_valueOf cX0_valueOf 3 (some .int)]
def wsL_share_r3 : List Cond := [Cond.fieldLink RX0 35 "Submodulary" "values" "[I", Cond.methodLink RX0 68 yX0_at, Cond.static yX0_at, Cond.code yX0_at cX0_at 2 (some .int), Cond.methodLink RL 78 yX0_shareAnew, Cond.instanceMethod yX0_shareAnew, Cond.selects RX0 yX0_shareAnew yX0_shareAnew, Cond.code yX0_shareAnew cX0_shareAnew 3 (some .int), Cond.methodLink RX0 177 yX0_gainsOverOrders, Cond.instanceMethod yX0_gainsOverOrders, Cond.selects RX0 yX0_gainsOverOrders yX0_gainsOverOrders, Cond.code yX0_gainsOverOrders cX0_gainsOverOrders 9 (some .int)]
def wsL_share : List Cond := .code yL_share cL_share 4 (some .boolean) :: ((wsL_share_r1 ++ (wsL_share_r2 ++ wsL_share_r3)) ++ wsX00 ++ (vx_atS RX0 185 "java/lang/IndexOutOfBoundsException" ["java/lang/RuntimeException", "java/lang/Exception"]).filter goodWord)
def wsL_greed_r1 : List Cond := [Cond.methodLink RL 69 yX0_greedy, Cond.instanceMethod yX0_greedy, Cond.selects RX0 yX0_greedy yX0_greedy, Cond.initialized RX0, Cond.code yX0_greedy cX0_greedy 6 (some .int), Cond.methodLink RX0 119 yX0_isFunction, Cond.instanceMethod yX0_isFunction, Cond.selects RX0 yX0_isFunction yX0_isFunction, Cond.code yX0_isFunction cX0_isFunction 2 (some .boolean), Cond.fieldLink RX0 13 "Submodulary" "functions" "I", Cond.methodLink RX0 65 yX0_needIndex, Cond.static yX0_needIndex, Cond.code yX0_needIndex cX0_needIndex 1 none, Cond.classLink RX0 181 "java/lang/IndexOutOfBoundsException", Cond.initialized "java/lang/IndexOutOfBoundsException", Cond.methodLink RX0 53 yX0_isWithin, Cond.static yX0_isWithin, Cond.code yX0_isWithin cX0_isWithin 3 (some .boolean), Cond.methodLink RX0 57 yX0_needArgument, Cond.static yX0_needArgument, Cond.code yX0_needArgument cX0_needArgument 1 none, Cond.classLink RX0 188 "java/lang/IllegalArgumentException", Cond.initialized "java/lang/IllegalArgumentException", Cond.methodLink RX0 154 yX0_greediest]
def wsL_greed_r2 : List Cond := [Cond.instanceMethod yX0_greediest, Cond.selects RX0 yX0_greediest yX0_greediest, Cond.code yX0_greediest cX0_greediest 7 (some .int), Cond.fieldLink RX0 9 "Submodulary" "elements" "I", Cond.methodLink RX0 136 yX0_gain, Cond.instanceMethod yX0_gain, Cond.selects RX0 yX0_gain yX0_gain, Cond.code yX0_gain cX0_gain 4 (some .int), Cond.methodLink RX0 72 yX0_with, Cond.static yX0_with, Cond.code yX0_with cX0_with 2 (some .int), Cond.methodLink RX0 122 yX0_valueOf, Cond.instanceMethod yX0_valueOf, Cond.selects RX0 yX0_valueOf yX0_valueOf, Cond.code yX0_valueOf cX0_valueOf 3 (some .int), Cond.fieldLink RX0 35 "Submodulary" "values" "[I", Cond.methodLink RX0 68 yX0_at, Cond.static yX0_at, Cond.code yX0_at cX0_at 2 (some .int), Cond.methodLink RL 72 yX0_best, Cond.instanceMethod yX0_best, Cond.selects RX0 yX0_best yX0_best, Cond.code yX0_best cX0_best 5 (some .int), Cond.methodLink RX0 162 Lib.Math.max.name]
def wsL_greed_r3 : List Cond := [Cond.static Lib.Math.max.name, Cond.initialized "java/lang/Math", Cond.code Lib.Math.max.name Lib.Math.max.code 2 (some .int), Cond.methodLink RX0 105 yX0_sets, Cond.instanceMethod yX0_sets, Cond.selects RX0 yX0_sets yX0_sets, Cond.code yX0_sets cX0_sets 1 (some .int), Cond.methodLink RX0 157 yJ6_bitCount_0f7a4, Cond.static yJ6_bitCount_0f7a4, Cond.initialized RJ6, Cond.code yJ6_bitCount_0f7a4 cJ6_bitCount_0f7a4 1 (some .int), Cond.constant RJ6 265 (1431655765), Cond.constant RJ6 266 (858993459), Cond.constant RJ6 267 (252645135), Cond.methodLink RL 91 yX0_common, Cond.instanceMethod yX0_common, Cond.selects RX0 yX0_common yX0_common, Cond.code yX0_common cX0_common 4 (some .int), Cond.methodLink RX0 165 yX0_endOfPath, Cond.instanceMethod yX0_endOfPath, Cond.selects RX0 yX0_endOfPath yX0_endOfPath, Cond.code yX0_endOfPath cX0_endOfPath 5 (some .int), Cond.fieldLink RX0 44 "Submodulary" "reached" "[I", Cond.methodLink RX0 226 yX0_reachFirst]
def wsL_greed_r4 : List Cond := [Cond.instanceMethod yX0_reachFirst, Cond.selects RX0 yX0_reachFirst yX0_reachFirst, Cond.code yX0_reachFirst cX0_reachFirst 4 (some .int), Cond.fieldLink RX0 41 "Submodulary" "cameFrom" "[I", Cond.methodLink RX0 47 yJ7_fill_53178, Cond.static yJ7_fill_53178, Cond.initialized RJ7, Cond.code yJ7_fill_53178 cJ7_fill_53178 4 none, Cond.methodLink RX0 229 yX0_hasRoom, Cond.instanceMethod yX0_hasRoom, Cond.selects RX0 yX0_hasRoom yX0_hasRoom, Cond.code yX0_hasRoom cX0_hasRoom 5 (some .boolean), Cond.methodLink RX0 96 yX0_colourOf, Cond.instanceMethod yX0_colourOf, Cond.selects RX0 yX0_colourOf yX0_colourOf, Cond.code yX0_colourOf cX0_colourOf 3 (some .int), Cond.fieldLink RX0 26 "Submodulary" "colours" "[I", Cond.methodLink RX0 83 yX0_has, Cond.static yX0_has, Cond.code yX0_has cX0_has 2 (some .boolean), Cond.methodLink RX0 210 yX0_countOf, Cond.instanceMethod yX0_countOf, Cond.selects RX0 yX0_countOf yX0_countOf, Cond.code yX0_countOf cX0_countOf 6 (some .int)]
def wsL_greed_r5 : List Cond := [Cond.methodLink RX0 99 yX0_roomOf, Cond.instanceMethod yX0_roomOf, Cond.selects RX0 yX0_roomOf yX0_roomOf, Cond.code yX0_roomOf cX0_roomOf 3 (some .int), Cond.fieldLink RX0 29 "Submodulary" "rooms" "[I", Cond.methodLink RX0 79 yX0_put, Cond.static yX0_put, Cond.code yX0_put cX0_put 3 none, Cond.methodLink RX0 232 yX0_reachFrom, Cond.instanceMethod yX0_reachFrom, Cond.selects RX0 yX0_reachFrom yX0_reachFrom, Cond.code yX0_reachFrom cX0_reachFrom 6 (some .int), Cond.methodLink RX0 235 yX0_isStep, Cond.instanceMethod yX0_isStep, Cond.selects RX0 yX0_isStep yX0_isStep, Cond.code yX0_isStep cX0_isStep 5 (some .boolean), Cond.methodLink RX0 168 yX0_flippedAlong, Cond.instanceMethod yX0_flippedAlong, Cond.selects RX0 yX0_flippedAlong yX0_flippedAlong, Cond.code yX0_flippedAlong cX0_flippedAlong 6 (some .int), Cond.methodLink RL 21 yX0_colour, Cond.instanceMethod yX0_colour, Cond.selects RX0 yX0_colour yX0_colour, Cond.code yX0_colour cX0_colour 5 (some .int)]
def wsL_greed_r6 : List Cond := [Cond.methodLink RX0 90 yX0_isFamily, Cond.static yX0_isFamily, Cond.code yX0_isFamily cX0_isFamily 1 (some .boolean), Cond.methodLink RX0 61 yX0_isElement, Cond.instanceMethod yX0_isElement, Cond.selects RX0 yX0_isElement yX0_isElement, Cond.code yX0_isElement cX0_isElement 2 (some .boolean), Cond.methodLink RX0 93 yX0_isColour, Cond.static yX0_isColour, Cond.code yX0_isColour cX0_isColour 1 (some .boolean), Cond.methodLink RL 101 yX0_commonAnew, Cond.instanceMethod yX0_commonAnew, Cond.selects RX0 yX0_commonAnew yX0_commonAnew, Cond.code yX0_commonAnew cX0_commonAnew 3 (some .int), Cond.methodLink RX0 171 yX0_isFair, Cond.instanceMethod yX0_isFair, Cond.selects RX0 yX0_isFair yX0_isFair, Cond.code yX0_isFair cX0_isFair 4 (some .boolean), Cond.methodLink RL 24 yX0_room, Cond.instanceMethod yX0_room, Cond.selects RX0 yX0_room yX0_room, Cond.code yX0_room cX0_room 5 (some .int), Cond.methodLink RL 123 yL_share, Cond.static yL_share]
def wsL_greed_r7 : List Cond := [Cond.initialized RL, Cond.code yL_share cL_share 4 (some .boolean), Cond.methodLink RL 75 yX0_share, Cond.instanceMethod yX0_share, Cond.selects RX0 yX0_share yX0_share, Cond.code yX0_share cX0_share 7 (some .int), Cond.methodLink RX0 174 yX0_ordersOf, Cond.static yX0_ordersOf, Cond.code yX0_ordersOf cX0_ordersOf 3 (some .int), Cond.methodLink RL 78 yX0_shareAnew, Cond.instanceMethod yX0_shareAnew, Cond.selects RX0 yX0_shareAnew yX0_shareAnew, Cond.code yX0_shareAnew cX0_shareAnew 3 (some .int), Cond.methodLink RX0 177 yX0_gainsOverOrders, Cond.instanceMethod yX0_gainsOverOrders, Cond.selects RX0 yX0_gainsOverOrders yX0_gainsOverOrders, Cond.code yX0_gainsOverOrders cX0_gainsOverOrders 9 (some .int)]
def wsL_greed : List Cond := .code yL_greed cL_greed 1 (some .boolean) :: ((wsL_greed_r1 ++ (wsL_greed_r2 ++ (wsL_greed_r3 ++ (wsL_greed_r4 ++ (wsL_greed_r5 ++ (wsL_greed_r6 ++ wsL_greed_r7)))))) ++ wsX00 ++ (vx_atS RX0 185 "java/lang/IndexOutOfBoundsException" ["java/lang/RuntimeException", "java/lang/Exception"]).filter goodWord ++ (vx_atS RX0 192 "java/lang/IllegalArgumentException" ["java/lang/RuntimeException", "java/lang/Exception"]).filter goodWord)
def wsL_orders_r1 : List Cond := [Cond.constant RL 89 (-7000003), Cond.constant RL 83 (-7000001), Cond.methodLink RL 95 yL_act, Cond.static yL_act, Cond.initialized RL, Cond.codeWith yL_act cL_act 6 (some .int) [(0, 367, 368, 81), (0, 367, 373, 84), (0, 367, 378, 87)], Cond.classLink RL 81 "java/lang/IndexOutOfBoundsException", Cond.classLink RL 84 "java/lang/IllegalArgumentException", Cond.classLink RL 87 "java/lang/IllegalStateException", Cond.constant RL 86 (-7000002), Cond.methodLink RL 7 yX0_elements, Cond.instanceMethod yX0_elements, Cond.selects RX0 yX0_elements yX0_elements, Cond.initialized RX0, Cond.code yX0_elements cX0_elements 3 (some .int), Cond.fieldLink RX0 9 "Submodulary" "elements" "I", Cond.fieldLink RX0 13 "Submodulary" "functions" "I", Cond.fieldLink RX0 16 "Submodulary" "told" "I", Cond.fieldLink RX0 19 "Submodulary" "covered" "[I", Cond.fieldLink RX0 23 "Submodulary" "edges" "[I", Cond.fieldLink RX0 26 "Submodulary" "colours" "[I", Cond.fieldLink RX0 29 "Submodulary" "rooms" "[I", Cond.fieldLink RX0 32 "Submodulary" "weights" "[I", Cond.methodLink RX0 53 yX0_isWithin]
def wsL_orders_r2 : List Cond := [Cond.static yX0_isWithin, Cond.code yX0_isWithin cX0_isWithin 3 (some .boolean), Cond.methodLink RX0 57 yX0_needArgument, Cond.static yX0_needArgument, Cond.code yX0_needArgument cX0_needArgument 1 none, Cond.classLink RX0 188 "java/lang/IllegalArgumentException", Cond.initialized "java/lang/IllegalArgumentException", Cond.methodLink RX0 47 yJ7_fill_53178, Cond.static yJ7_fill_53178, Cond.initialized RJ7, Cond.code yJ7_fill_53178 cJ7_fill_53178 4 none, Cond.methodLink RL 13 yX0_cover, Cond.instanceMethod yX0_cover, Cond.selects RX0 yX0_cover yX0_cover, Cond.code yX0_cover cX0_cover 5 (some .boolean), Cond.methodLink RX0 61 yX0_isElement, Cond.instanceMethod yX0_isElement, Cond.selects RX0 yX0_isElement yX0_isElement, Cond.code yX0_isElement cX0_isElement 2 (some .boolean), Cond.methodLink RX0 65 yX0_needIndex, Cond.static yX0_needIndex, Cond.code yX0_needIndex cX0_needIndex 1 none, Cond.classLink RX0 181 "java/lang/IndexOutOfBoundsException", Cond.initialized "java/lang/IndexOutOfBoundsException"]
def wsL_orders_r3 : List Cond := [Cond.methodLink RX0 68 yX0_at, Cond.static yX0_at, Cond.code yX0_at cX0_at 2 (some .int), Cond.methodLink RX0 72 yX0_with, Cond.static yX0_with, Cond.code yX0_with cX0_with 2 (some .int), Cond.methodLink RX0 76 yX0_without, Cond.static yX0_without, Cond.code yX0_without cX0_without 2 (some .int), Cond.methodLink RX0 79 yX0_put, Cond.static yX0_put, Cond.code yX0_put cX0_put 3 none, Cond.methodLink RX0 83 yX0_has, Cond.static yX0_has, Cond.code yX0_has cX0_has 2 (some .boolean), Cond.methodLink RL 17 yX0_edge, Cond.instanceMethod yX0_edge, Cond.selects RX0 yX0_edge yX0_edge, Cond.code yX0_edge cX0_edge 5 (some .int), Cond.methodLink RX0 87 yX0_edgeWeight, Cond.instanceMethod yX0_edgeWeight, Cond.selects RX0 yX0_edgeWeight yX0_edgeWeight, Cond.code yX0_edgeWeight cX0_edgeWeight 3 (some .int), Cond.methodLink RL 21 yX0_colour]
def wsL_orders_r4 : List Cond := [Cond.instanceMethod yX0_colour, Cond.selects RX0 yX0_colour yX0_colour, Cond.code yX0_colour cX0_colour 5 (some .int), Cond.methodLink RX0 90 yX0_isFamily, Cond.static yX0_isFamily, Cond.code yX0_isFamily cX0_isFamily 1 (some .boolean), Cond.methodLink RX0 93 yX0_isColour, Cond.static yX0_isColour, Cond.code yX0_isColour cX0_isColour 1 (some .boolean), Cond.methodLink RX0 96 yX0_colourOf, Cond.instanceMethod yX0_colourOf, Cond.selects RX0 yX0_colourOf yX0_colourOf, Cond.code yX0_colourOf cX0_colourOf 3 (some .int), Cond.methodLink RL 24 yX0_room, Cond.instanceMethod yX0_room, Cond.selects RX0 yX0_room yX0_room, Cond.code yX0_room cX0_room 5 (some .int), Cond.methodLink RX0 99 yX0_roomOf, Cond.instanceMethod yX0_roomOf, Cond.selects RX0 yX0_roomOf yX0_roomOf, Cond.code yX0_roomOf cX0_roomOf 3 (some .int), Cond.methodLink RL 27 yX0_weigh, Cond.instanceMethod yX0_weigh, Cond.selects RX0 yX0_weigh yX0_weigh]
def wsL_orders_r5 : List Cond := [Cond.code yX0_weigh cX0_weigh 4 (some .int), Cond.methodLink RL 31 yX0_make, Cond.instanceMethod yX0_make, Cond.selects RX0 yX0_make yX0_make, Cond.code yX0_make cX0_make 3 (some .int), Cond.methodLink RX0 102 yX0_needPlace, Cond.instanceMethod yX0_needPlace, Cond.selects RX0 yX0_needPlace yX0_needPlace, Cond.code yX0_needPlace cX0_needPlace 1 none, Cond.methodLink RX0 140 yX0_needState, Cond.static yX0_needState, Cond.code yX0_needState cX0_needState 1 none, Cond.classLink RX0 193 "java/lang/IllegalStateException", Cond.initialized "java/lang/IllegalStateException", Cond.methodLink RX0 105 yX0_sets, Cond.instanceMethod yX0_sets, Cond.selects RX0 yX0_sets yX0_sets, Cond.code yX0_sets cX0_sets 1 (some .int), Cond.methodLink RX0 109 yX0_toldValue, Cond.instanceMethod yX0_toldValue, Cond.selects RX0 yX0_toldValue yX0_toldValue, Cond.code yX0_toldValue cX0_toldValue 3 (some .int), Cond.methodLink RX0 198 yX0_coverValue, Cond.instanceMethod yX0_coverValue]
def wsL_orders_r6 : List Cond := [Cond.selects RX0 yX0_coverValue yX0_coverValue, Cond.code yX0_coverValue cX0_coverValue 4 (some .int), Cond.methodLink RX0 157 yJ6_bitCount_0f7a4, Cond.static yJ6_bitCount_0f7a4, Cond.initialized RJ6, Cond.code yJ6_bitCount_0f7a4 cJ6_bitCount_0f7a4 1 (some .int), Cond.constant RJ6 265 (1431655765), Cond.constant RJ6 266 (858993459), Cond.constant RJ6 267 (252645135), Cond.methodLink RX0 201 yX0_cutValue, Cond.instanceMethod yX0_cutValue, Cond.selects RX0 yX0_cutValue yX0_cutValue, Cond.code yX0_cutValue cX0_cutValue 5 (some .int), Cond.methodLink RX0 204 yX0_rankValue, Cond.instanceMethod yX0_rankValue, Cond.selects RX0 yX0_rankValue yX0_rankValue, Cond.code yX0_rankValue cX0_rankValue 5 (some .int), Cond.methodLink RX0 128 Lib.Math.min.name, Cond.static Lib.Math.min.name, Cond.initialized "java/lang/Math", Cond.code Lib.Math.min.name Lib.Math.min.code 2 (some .int), Cond.methodLink RX0 210 yX0_countOf, Cond.instanceMethod yX0_countOf, Cond.selects RX0 yX0_countOf yX0_countOf]
def wsL_orders_r7 : List Cond := [Cond.code yX0_countOf cX0_countOf 6 (some .int), Cond.methodLink RX0 207 yX0_weightsValue, Cond.instanceMethod yX0_weightsValue, Cond.selects RX0 yX0_weightsValue yX0_weightsValue, Cond.code yX0_weightsValue cX0_weightsValue 4 (some .int), Cond.methodLink RX0 112 yX0_putNew, Cond.instanceMethod yX0_putNew, Cond.selects RX0 yX0_putNew yX0_putNew, Cond.code yX0_putNew cX0_putNew 3 none, Cond.fieldLink RX0 35 "Submodulary" "values" "[I", Cond.methodLink RX0 116 yX0_countNew, Cond.instanceMethod yX0_countNew, Cond.selects RX0 yX0_countNew yX0_countNew, Cond.code yX0_countNew cX0_countNew 2 (some .int), Cond.methodLink RL 34 yX0_sum, Cond.instanceMethod yX0_sum, Cond.selects RX0 yX0_sum yX0_sum, Cond.code yX0_sum cX0_sum 4 (some .int), Cond.methodLink RX0 119 yX0_isFunction, Cond.instanceMethod yX0_isFunction, Cond.selects RX0 yX0_isFunction yX0_isFunction, Cond.code yX0_isFunction cX0_isFunction 2 (some .boolean), Cond.methodLink RX0 122 yX0_valueOf, Cond.instanceMethod yX0_valueOf]
def wsL_orders_r8 : List Cond := [Cond.selects RX0 yX0_valueOf yX0_valueOf, Cond.code yX0_valueOf cX0_valueOf 3 (some .int), Cond.methodLink RL 37 yX0_contract, Cond.instanceMethod yX0_contract, Cond.selects RX0 yX0_contract yX0_contract, Cond.code yX0_contract cX0_contract 4 (some .int), Cond.methodLink RX0 125 yX0_isSet, Cond.instanceMethod yX0_isSet, Cond.selects RX0 yX0_isSet yX0_isSet, Cond.code yX0_isSet cX0_isSet 2 (some .boolean), Cond.methodLink RL 40 yX0_cap, Cond.instanceMethod yX0_cap, Cond.selects RX0 yX0_cap yX0_cap, Cond.code yX0_cap cX0_cap 4 (some .int), Cond.methodLink RL 43 yX0_value, Cond.instanceMethod yX0_value, Cond.selects RX0 yX0_value yX0_value, Cond.code yX0_value cX0_value 3 (some .int), Cond.methodLink RL 46 yX0_isLawful, Cond.instanceMethod yX0_isLawful, Cond.selects RX0 yX0_isLawful yX0_isLawful, Cond.code yX0_isLawful cX0_isLawful 2 (some .boolean), Cond.methodLink RX0 133 yX0_hasLaw, Cond.instanceMethod yX0_hasLaw]
def wsL_orders_r9 : List Cond := [Cond.selects RX0 yX0_hasLaw yX0_hasLaw, Cond.code yX0_hasLaw cX0_hasLaw 3 (some .boolean), Cond.methodLink RX0 213 yX0_hasLawAbove, Cond.instanceMethod yX0_hasLawAbove, Cond.selects RX0 yX0_hasLawAbove yX0_hasLawAbove, Cond.code yX0_hasLawAbove cX0_hasLawAbove 6 (some .boolean), Cond.methodLink RX0 136 yX0_gain, Cond.instanceMethod yX0_gain, Cond.selects RX0 yX0_gain yX0_gain, Cond.code yX0_gain cX0_gain 4 (some .int), Cond.methodLink RL 50 yX0_rises, Cond.instanceMethod yX0_rises, Cond.selects RX0 yX0_rises yX0_rises, Cond.code yX0_rises cX0_rises 4 (some .boolean), Cond.methodLink RL 53 yX0_least, Cond.instanceMethod yX0_least, Cond.selects RX0 yX0_least yX0_least, Cond.code yX0_least cX0_least 2 (some .int), Cond.methodLink RX0 143 yX0_leastBetween, Cond.instanceMethod yX0_leastBetween, Cond.selects RX0 yX0_leastBetween yX0_leastBetween, Cond.code yX0_leastBetween cX0_leastBetween 12 (some .int), Cond.methodLink RX0 216 yX0_takenIn, Cond.instanceMethod yX0_takenIn]
def wsL_orders_r10 : List Cond := [Cond.selects RX0 yX0_takenIn yX0_takenIn, Cond.code yX0_takenIn cX0_takenIn 8 (some .int), Cond.methodLink RX0 220 yX0_takenOut, Cond.instanceMethod yX0_takenOut, Cond.selects RX0 yX0_takenOut yX0_takenOut, Cond.code yX0_takenOut cX0_takenOut 8 (some .int), Cond.methodLink RX0 223 yX0_lowest, Cond.instanceMethod yX0_lowest, Cond.selects RX0 yX0_lowest yX0_lowest, Cond.code yX0_lowest cX0_lowest 3 (some .int), Cond.methodLink RL 56 yX0_leastSet, Cond.instanceMethod yX0_leastSet, Cond.selects RX0 yX0_leastSet yX0_leastSet, Cond.code yX0_leastSet cX0_leastSet 3 (some .int), Cond.methodLink RL 60 yX0_leastSetAnew, Cond.instanceMethod yX0_leastSetAnew, Cond.selects RX0 yX0_leastSetAnew yX0_leastSetAnew, Cond.code yX0_leastSetAnew cX0_leastSetAnew 7 (some .int), Cond.methodLink RL 63 yX0_order, Cond.instanceMethod yX0_order, Cond.selects RX0 yX0_order yX0_order, Cond.code yX0_order cX0_order 3 (some .int), Cond.fieldLink RX0 38 "Submodulary" "ordered" "[I", Cond.methodLink RX0 147 yX0_isTold]
def wsL_orders_r11 : List Cond := [Cond.instanceMethod yX0_isTold, Cond.selects RX0 yX0_isTold yX0_isTold, Cond.code yX0_isTold cX0_isTold 3 (some .boolean), Cond.methodLink RL 66 yX0_corner, Cond.instanceMethod yX0_corner, Cond.selects RX0 yX0_corner yX0_corner, Cond.code yX0_corner cX0_corner 3 (some .int), Cond.methodLink RX0 150 yX0_aheadOf, Cond.instanceMethod yX0_aheadOf, Cond.selects RX0 yX0_aheadOf yX0_aheadOf, Cond.code yX0_aheadOf cX0_aheadOf 5 (some .int), Cond.methodLink RL 69 yX0_greedy, Cond.instanceMethod yX0_greedy, Cond.selects RX0 yX0_greedy yX0_greedy, Cond.code yX0_greedy cX0_greedy 6 (some .int), Cond.methodLink RX0 154 yX0_greediest, Cond.instanceMethod yX0_greediest, Cond.selects RX0 yX0_greediest yX0_greediest, Cond.code yX0_greediest cX0_greediest 7 (some .int), Cond.methodLink RL 72 yX0_best, Cond.instanceMethod yX0_best, Cond.selects RX0 yX0_best yX0_best, Cond.code yX0_best cX0_best 5 (some .int), Cond.methodLink RX0 162 Lib.Math.max.name]
def wsL_orders_r12 : List Cond := [Cond.static Lib.Math.max.name, Cond.code Lib.Math.max.name Lib.Math.max.code 2 (some .int), Cond.methodLink RL 75 yX0_share, Cond.instanceMethod yX0_share, Cond.selects RX0 yX0_share yX0_share, Cond.code yX0_share cX0_share 7 (some .int), Cond.methodLink RX0 174 yX0_ordersOf, Cond.static yX0_ordersOf, Cond.code yX0_ordersOf cX0_ordersOf 3 (some .int), Cond.methodLink RL 78 yX0_shareAnew, Cond.instanceMethod yX0_shareAnew, Cond.selects RX0 yX0_shareAnew yX0_shareAnew, Cond.code yX0_shareAnew cX0_shareAnew 3 (some .int), Cond.methodLink RX0 177 yX0_gainsOverOrders, Cond.instanceMethod yX0_gainsOverOrders, Cond.selects RX0 yX0_gainsOverOrders yX0_gainsOverOrders, Cond.code yX0_gainsOverOrders cX0_gainsOverOrders 9 (some .int), Cond.methodLink RL 105 yL_refuses, Cond.static yL_refuses, Cond.code yL_refuses cL_refuses 14 (some .boolean), Cond.constant RL 90 (2147483647), Cond.methodLink RL 91 yX0_common, Cond.instanceMethod yX0_common, Cond.selects RX0 yX0_common yX0_common]
def wsL_orders_r13 : List Cond := [Cond.code yX0_common cX0_common 4 (some .int), Cond.methodLink RX0 165 yX0_endOfPath, Cond.instanceMethod yX0_endOfPath, Cond.selects RX0 yX0_endOfPath yX0_endOfPath, Cond.code yX0_endOfPath cX0_endOfPath 5 (some .int), Cond.fieldLink RX0 44 "Submodulary" "reached" "[I", Cond.methodLink RX0 226 yX0_reachFirst, Cond.instanceMethod yX0_reachFirst, Cond.selects RX0 yX0_reachFirst yX0_reachFirst, Cond.code yX0_reachFirst cX0_reachFirst 4 (some .int), Cond.fieldLink RX0 41 "Submodulary" "cameFrom" "[I", Cond.methodLink RX0 229 yX0_hasRoom, Cond.instanceMethod yX0_hasRoom, Cond.selects RX0 yX0_hasRoom yX0_hasRoom, Cond.code yX0_hasRoom cX0_hasRoom 5 (some .boolean), Cond.methodLink RX0 232 yX0_reachFrom, Cond.instanceMethod yX0_reachFrom, Cond.selects RX0 yX0_reachFrom yX0_reachFrom, Cond.code yX0_reachFrom cX0_reachFrom 6 (some .int), Cond.methodLink RX0 235 yX0_isStep, Cond.instanceMethod yX0_isStep, Cond.selects RX0 yX0_isStep yX0_isStep, Cond.code yX0_isStep cX0_isStep 5 (some .boolean), Cond.methodLink RX0 168 yX0_flippedAlong]
def wsL_orders_r14 : List Cond := [Cond.instanceMethod yX0_flippedAlong, Cond.selects RX0 yX0_flippedAlong yX0_flippedAlong, Cond.code yX0_flippedAlong cX0_flippedAlong 6 (some .int), Cond.methodLink RL 101 yX0_commonAnew, Cond.instanceMethod yX0_commonAnew, Cond.selects RX0 yX0_commonAnew yX0_commonAnew, Cond.code yX0_commonAnew cX0_commonAnew 3 (some .int), Cond.methodLink RX0 171 yX0_isFair, Cond.instanceMethod yX0_isFair, Cond.selects RX0 yX0_isFair yX0_isFair, Cond.code yX0_isFair cX0_isFair 4 (some .boolean)]
def wsL_orders : List Cond := .code yL_orders cL_orders 1 (some .boolean) :: ((wsL_orders_r1 ++ (wsL_orders_r2 ++ (wsL_orders_r3 ++ (wsL_orders_r4 ++ (wsL_orders_r5 ++ (wsL_orders_r6 ++ (wsL_orders_r7 ++ (wsL_orders_r8 ++ (wsL_orders_r9 ++ (wsL_orders_r10 ++ (wsL_orders_r11 ++ (wsL_orders_r12 ++ (wsL_orders_r13 ++ wsL_orders_r14))))))))))))) ++ wsX00 ++ (vx_atS RX0 192 "java/lang/IllegalArgumentException" ["java/lang/RuntimeException", "java/lang/Exception"]).filter goodWord ++ (vx_atS RX0 185 "java/lang/IndexOutOfBoundsException" ["java/lang/RuntimeException", "java/lang/Exception"]).filter goodWord ++ (vx_atS RX0 197 "java/lang/IllegalStateException" ["java/lang/RuntimeException", "java/lang/Exception"]).filter goodWord)
def wsL_six_r1 : List Cond := [Cond.classLink RL 8 RX0, Cond.instantiable RX0 12, Cond.initialized RX0, Cond.methodLink RL 104 yX0_init, Cond.instanceMethod yX0_init, Cond.code yX0_init cX0_init 1 none, Cond.methodLink RX0 1 objectInit, Cond.instanceMethod objectInit, Cond.code objectInit ⟨#[0xb1]⟩ 1 none, Cond.fieldLink RX0 9 "Submodulary" "elements" "I", Cond.fieldLink RX0 13 "Submodulary" "functions" "I", Cond.fieldLink RX0 16 "Submodulary" "told" "I", Cond.arrayClass .int, Cond.fieldLink RX0 19 "Submodulary" "covered" "[I", Cond.fieldLink RX0 23 "Submodulary" "edges" "[I", Cond.fieldLink RX0 26 "Submodulary" "colours" "[I", Cond.fieldLink RX0 29 "Submodulary" "rooms" "[I", Cond.fieldLink RX0 32 "Submodulary" "weights" "[I", Cond.fieldLink RX0 35 "Submodulary" "values" "[I", Cond.fieldLink RX0 38 "Submodulary" "ordered" "[I", Cond.fieldLink RX0 41 "Submodulary" "cameFrom" "[I", Cond.fieldLink RX0 44 "Submodulary" "reached" "[I", Cond.methodLink RX0 47 yJ7_fill_53178, Cond.static yJ7_fill_53178]
def wsL_six_r2 : List Cond := [Cond.initialized RJ7, Cond.code yJ7_fill_53178 cJ7_fill_53178 4 none, Cond.methodLink RL 7 yX0_elements, Cond.instanceMethod yX0_elements, Cond.selects RX0 yX0_elements yX0_elements, Cond.code yX0_elements cX0_elements 3 (some .int), Cond.methodLink RX0 53 yX0_isWithin, Cond.static yX0_isWithin, Cond.code yX0_isWithin cX0_isWithin 3 (some .boolean), Cond.methodLink RX0 57 yX0_needArgument, Cond.static yX0_needArgument, Cond.code yX0_needArgument cX0_needArgument 1 none, Cond.classLink RX0 188 "java/lang/IllegalArgumentException", Cond.initialized "java/lang/IllegalArgumentException", Cond.methodLink RL 27 yX0_weigh, Cond.instanceMethod yX0_weigh, Cond.selects RX0 yX0_weigh yX0_weigh, Cond.code yX0_weigh cX0_weigh 4 (some .int), Cond.methodLink RX0 61 yX0_isElement, Cond.instanceMethod yX0_isElement, Cond.selects RX0 yX0_isElement yX0_isElement, Cond.code yX0_isElement cX0_isElement 2 (some .boolean), Cond.methodLink RX0 65 yX0_needIndex, Cond.static yX0_needIndex]
def wsL_six_r3 : List Cond := [Cond.code yX0_needIndex cX0_needIndex 1 none, Cond.classLink RX0 181 "java/lang/IndexOutOfBoundsException", Cond.initialized "java/lang/IndexOutOfBoundsException", Cond.methodLink RX0 68 yX0_at, Cond.static yX0_at, Cond.code yX0_at cX0_at 2 (some .int), Cond.methodLink RX0 79 yX0_put, Cond.static yX0_put, Cond.code yX0_put cX0_put 3 none, Cond.methodLink RL 31 yX0_make, Cond.instanceMethod yX0_make, Cond.selects RX0 yX0_make yX0_make, Cond.code yX0_make cX0_make 3 (some .int), Cond.methodLink RX0 102 yX0_needPlace, Cond.instanceMethod yX0_needPlace, Cond.selects RX0 yX0_needPlace yX0_needPlace, Cond.code yX0_needPlace cX0_needPlace 1 none, Cond.methodLink RX0 140 yX0_needState, Cond.static yX0_needState, Cond.code yX0_needState cX0_needState 1 none, Cond.classLink RX0 193 "java/lang/IllegalStateException", Cond.initialized "java/lang/IllegalStateException", Cond.methodLink RX0 105 yX0_sets, Cond.instanceMethod yX0_sets]
def wsL_six_r4 : List Cond := [Cond.selects RX0 yX0_sets yX0_sets, Cond.code yX0_sets cX0_sets 1 (some .int), Cond.methodLink RX0 109 yX0_toldValue, Cond.instanceMethod yX0_toldValue, Cond.selects RX0 yX0_toldValue yX0_toldValue, Cond.code yX0_toldValue cX0_toldValue 3 (some .int), Cond.methodLink RX0 198 yX0_coverValue, Cond.instanceMethod yX0_coverValue, Cond.selects RX0 yX0_coverValue yX0_coverValue, Cond.code yX0_coverValue cX0_coverValue 4 (some .int), Cond.methodLink RX0 83 yX0_has, Cond.static yX0_has, Cond.code yX0_has cX0_has 2 (some .boolean), Cond.methodLink RX0 157 yJ6_bitCount_0f7a4, Cond.static yJ6_bitCount_0f7a4, Cond.initialized RJ6, Cond.code yJ6_bitCount_0f7a4 cJ6_bitCount_0f7a4 1 (some .int), Cond.constant RJ6 265 (1431655765), Cond.constant RJ6 266 (858993459), Cond.constant RJ6 267 (252645135), Cond.methodLink RX0 201 yX0_cutValue, Cond.instanceMethod yX0_cutValue, Cond.selects RX0 yX0_cutValue yX0_cutValue, Cond.code yX0_cutValue cX0_cutValue 5 (some .int)]
def wsL_six_r5 : List Cond := [Cond.methodLink RX0 87 yX0_edgeWeight, Cond.instanceMethod yX0_edgeWeight, Cond.selects RX0 yX0_edgeWeight yX0_edgeWeight, Cond.code yX0_edgeWeight cX0_edgeWeight 3 (some .int), Cond.methodLink RX0 204 yX0_rankValue, Cond.instanceMethod yX0_rankValue, Cond.selects RX0 yX0_rankValue yX0_rankValue, Cond.code yX0_rankValue cX0_rankValue 5 (some .int), Cond.methodLink RX0 128 Lib.Math.min.name, Cond.static Lib.Math.min.name, Cond.initialized "java/lang/Math", Cond.code Lib.Math.min.name Lib.Math.min.code 2 (some .int), Cond.methodLink RX0 210 yX0_countOf, Cond.instanceMethod yX0_countOf, Cond.selects RX0 yX0_countOf yX0_countOf, Cond.code yX0_countOf cX0_countOf 6 (some .int), Cond.methodLink RX0 96 yX0_colourOf, Cond.instanceMethod yX0_colourOf, Cond.selects RX0 yX0_colourOf yX0_colourOf, Cond.code yX0_colourOf cX0_colourOf 3 (some .int), Cond.methodLink RX0 99 yX0_roomOf, Cond.instanceMethod yX0_roomOf, Cond.selects RX0 yX0_roomOf yX0_roomOf, Cond.code yX0_roomOf cX0_roomOf 3 (some .int)]
def wsL_six_r6 : List Cond := [Cond.methodLink RX0 207 yX0_weightsValue, Cond.instanceMethod yX0_weightsValue, Cond.selects RX0 yX0_weightsValue yX0_weightsValue, Cond.code yX0_weightsValue cX0_weightsValue 4 (some .int), Cond.methodLink RX0 112 yX0_putNew, Cond.instanceMethod yX0_putNew, Cond.selects RX0 yX0_putNew yX0_putNew, Cond.code yX0_putNew cX0_putNew 3 none, Cond.methodLink RX0 116 yX0_countNew, Cond.instanceMethod yX0_countNew, Cond.selects RX0 yX0_countNew yX0_countNew, Cond.code yX0_countNew cX0_countNew 2 (some .int), Cond.methodLink RL 46 yX0_isLawful, Cond.instanceMethod yX0_isLawful, Cond.selects RX0 yX0_isLawful yX0_isLawful, Cond.code yX0_isLawful cX0_isLawful 2 (some .boolean), Cond.methodLink RX0 119 yX0_isFunction, Cond.instanceMethod yX0_isFunction, Cond.selects RX0 yX0_isFunction yX0_isFunction, Cond.code yX0_isFunction cX0_isFunction 2 (some .boolean), Cond.methodLink RX0 133 yX0_hasLaw, Cond.instanceMethod yX0_hasLaw, Cond.selects RX0 yX0_hasLaw yX0_hasLaw, Cond.code yX0_hasLaw cX0_hasLaw 3 (some .boolean)]
def wsL_six_r7 : List Cond := [Cond.methodLink RX0 213 yX0_hasLawAbove, Cond.instanceMethod yX0_hasLawAbove, Cond.selects RX0 yX0_hasLawAbove yX0_hasLawAbove, Cond.code yX0_hasLawAbove cX0_hasLawAbove 6 (some .boolean), Cond.methodLink RX0 136 yX0_gain, Cond.instanceMethod yX0_gain, Cond.selects RX0 yX0_gain yX0_gain, Cond.code yX0_gain cX0_gain 4 (some .int), Cond.methodLink RX0 72 yX0_with, Cond.static yX0_with, Cond.code yX0_with cX0_with 2 (some .int), Cond.methodLink RX0 122 yX0_valueOf, Cond.instanceMethod yX0_valueOf, Cond.selects RX0 yX0_valueOf yX0_valueOf, Cond.code yX0_valueOf cX0_valueOf 3 (some .int), Cond.methodLink RL 109 yL_least, Cond.static yL_least, Cond.initialized RL, Cond.code yL_least cL_least 5 (some .boolean), Cond.methodLink RL 53 yX0_least, Cond.instanceMethod yX0_least, Cond.selects RX0 yX0_least yX0_least, Cond.code yX0_least cX0_least 2 (some .int), Cond.methodLink RX0 143 yX0_leastBetween]
def wsL_six_r8 : List Cond := [Cond.instanceMethod yX0_leastBetween, Cond.selects RX0 yX0_leastBetween yX0_leastBetween, Cond.code yX0_leastBetween cX0_leastBetween 12 (some .int), Cond.methodLink RX0 216 yX0_takenIn, Cond.instanceMethod yX0_takenIn, Cond.selects RX0 yX0_takenIn yX0_takenIn, Cond.code yX0_takenIn cX0_takenIn 8 (some .int), Cond.methodLink RX0 220 yX0_takenOut, Cond.instanceMethod yX0_takenOut, Cond.selects RX0 yX0_takenOut yX0_takenOut, Cond.code yX0_takenOut cX0_takenOut 8 (some .int), Cond.methodLink RX0 76 yX0_without, Cond.static yX0_without, Cond.code yX0_without cX0_without 2 (some .int), Cond.methodLink RX0 223 yX0_lowest, Cond.instanceMethod yX0_lowest, Cond.selects RX0 yX0_lowest yX0_lowest, Cond.code yX0_lowest cX0_lowest 3 (some .int), Cond.methodLink RL 56 yX0_leastSet, Cond.instanceMethod yX0_leastSet, Cond.selects RX0 yX0_leastSet yX0_leastSet, Cond.code yX0_leastSet cX0_leastSet 3 (some .int), Cond.methodLink RL 60 yX0_leastSetAnew, Cond.instanceMethod yX0_leastSetAnew]
def wsL_six_r9 : List Cond := [Cond.selects RX0 yX0_leastSetAnew yX0_leastSetAnew, Cond.code yX0_leastSetAnew cX0_leastSetAnew 7 (some .int), Cond.methodLink RL 123 yL_share, Cond.static yL_share, Cond.code yL_share cL_share 4 (some .boolean), Cond.methodLink RL 75 yX0_share, Cond.instanceMethod yX0_share, Cond.selects RX0 yX0_share yX0_share, Cond.code yX0_share cX0_share 7 (some .int), Cond.methodLink RX0 174 yX0_ordersOf, Cond.static yX0_ordersOf, Cond.code yX0_ordersOf cX0_ordersOf 3 (some .int), Cond.methodLink RL 78 yX0_shareAnew, Cond.instanceMethod yX0_shareAnew, Cond.selects RX0 yX0_shareAnew yX0_shareAnew, Cond.code yX0_shareAnew cX0_shareAnew 3 (some .int), Cond.methodLink RX0 177 yX0_gainsOverOrders, Cond.instanceMethod yX0_gainsOverOrders, Cond.selects RX0 yX0_gainsOverOrders yX0_gainsOverOrders, Cond.code yX0_gainsOverOrders cX0_gainsOverOrders 9 (some .int), Cond.methodLink RL 69 yX0_greedy, Cond.instanceMethod yX0_greedy, Cond.selects RX0 yX0_greedy yX0_greedy, Cond.code yX0_greedy cX0_greedy 6 (some .int)]
def wsL_six_r10 : List Cond := [Cond.methodLink RX0 154 yX0_greediest, Cond.instanceMethod yX0_greediest, Cond.selects RX0 yX0_greediest yX0_greediest, Cond.code yX0_greediest cX0_greediest 7 (some .int), Cond.methodLink RL 63 yX0_order, Cond.instanceMethod yX0_order, Cond.selects RX0 yX0_order yX0_order, Cond.code yX0_order cX0_order 3 (some .int), Cond.methodLink RX0 147 yX0_isTold, Cond.instanceMethod yX0_isTold, Cond.selects RX0 yX0_isTold yX0_isTold, Cond.code yX0_isTold cX0_isTold 3 (some .boolean), Cond.methodLink RL 66 yX0_corner, Cond.instanceMethod yX0_corner, Cond.selects RX0 yX0_corner yX0_corner, Cond.code yX0_corner cX0_corner 3 (some .int), Cond.methodLink RX0 150 yX0_aheadOf, Cond.instanceMethod yX0_aheadOf, Cond.selects RX0 yX0_aheadOf yX0_aheadOf, Cond.code yX0_aheadOf cX0_aheadOf 5 (some .int), Cond.methodLink RL 105 yL_refuses, Cond.static yL_refuses, Cond.code yL_refuses cL_refuses 14 (some .boolean), Cond.constant RL 90 (2147483647)]
def wsL_six_r11 : List Cond := [Cond.constant RL 86 (-7000002), Cond.constant RL 83 (-7000001), Cond.methodLink RL 91 yX0_common, Cond.instanceMethod yX0_common, Cond.selects RX0 yX0_common yX0_common, Cond.code yX0_common cX0_common 4 (some .int), Cond.methodLink RX0 165 yX0_endOfPath, Cond.instanceMethod yX0_endOfPath, Cond.selects RX0 yX0_endOfPath yX0_endOfPath, Cond.code yX0_endOfPath cX0_endOfPath 5 (some .int), Cond.methodLink RX0 226 yX0_reachFirst, Cond.instanceMethod yX0_reachFirst, Cond.selects RX0 yX0_reachFirst yX0_reachFirst, Cond.code yX0_reachFirst cX0_reachFirst 4 (some .int), Cond.methodLink RX0 229 yX0_hasRoom, Cond.instanceMethod yX0_hasRoom, Cond.selects RX0 yX0_hasRoom yX0_hasRoom, Cond.code yX0_hasRoom cX0_hasRoom 5 (some .boolean), Cond.methodLink RX0 232 yX0_reachFrom, Cond.instanceMethod yX0_reachFrom, Cond.selects RX0 yX0_reachFrom yX0_reachFrom, Cond.code yX0_reachFrom cX0_reachFrom 6 (some .int), Cond.methodLink RX0 235 yX0_isStep, Cond.instanceMethod yX0_isStep]
def wsL_six_r12 : List Cond := [Cond.selects RX0 yX0_isStep yX0_isStep, Cond.code yX0_isStep cX0_isStep 5 (some .boolean), Cond.methodLink RX0 168 yX0_flippedAlong, Cond.instanceMethod yX0_flippedAlong, Cond.selects RX0 yX0_flippedAlong yX0_flippedAlong, Cond.code yX0_flippedAlong cX0_flippedAlong 6 (some .int), Cond.methodLink RL 95 yL_act, Cond.static yL_act, Cond.codeWith yL_act cL_act 6 (some .int) [(0, 367, 368, 81), (0, 367, 373, 84), (0, 367, 378, 87)], Cond.classLink RL 81 "java/lang/IndexOutOfBoundsException", Cond.classLink RL 84 "java/lang/IllegalArgumentException", Cond.classLink RL 87 "java/lang/IllegalStateException", Cond.constant RL 89 (-7000003), Cond.methodLink RL 13 yX0_cover, Cond.instanceMethod yX0_cover, Cond.selects RX0 yX0_cover yX0_cover, Cond.code yX0_cover cX0_cover 5 (some .boolean), Cond.methodLink RL 17 yX0_edge, Cond.instanceMethod yX0_edge, Cond.selects RX0 yX0_edge yX0_edge, Cond.code yX0_edge cX0_edge 5 (some .int), Cond.methodLink RL 21 yX0_colour, Cond.instanceMethod yX0_colour, Cond.selects RX0 yX0_colour yX0_colour]
def wsL_six_r13 : List Cond := [Cond.code yX0_colour cX0_colour 5 (some .int), Cond.methodLink RX0 90 yX0_isFamily, Cond.static yX0_isFamily, Cond.code yX0_isFamily cX0_isFamily 1 (some .boolean), Cond.methodLink RX0 93 yX0_isColour, Cond.static yX0_isColour, Cond.code yX0_isColour cX0_isColour 1 (some .boolean), Cond.methodLink RL 24 yX0_room, Cond.instanceMethod yX0_room, Cond.selects RX0 yX0_room yX0_room, Cond.code yX0_room cX0_room 5 (some .int), Cond.methodLink RL 34 yX0_sum, Cond.instanceMethod yX0_sum, Cond.selects RX0 yX0_sum yX0_sum, Cond.code yX0_sum cX0_sum 4 (some .int), Cond.methodLink RL 37 yX0_contract, Cond.instanceMethod yX0_contract, Cond.selects RX0 yX0_contract yX0_contract, Cond.code yX0_contract cX0_contract 4 (some .int), Cond.methodLink RX0 125 yX0_isSet, Cond.instanceMethod yX0_isSet, Cond.selects RX0 yX0_isSet yX0_isSet, Cond.code yX0_isSet cX0_isSet 2 (some .boolean), Cond.methodLink RL 40 yX0_cap]
def wsL_six_r14 : List Cond := [Cond.instanceMethod yX0_cap, Cond.selects RX0 yX0_cap yX0_cap, Cond.code yX0_cap cX0_cap 4 (some .int), Cond.methodLink RL 43 yX0_value, Cond.instanceMethod yX0_value, Cond.selects RX0 yX0_value yX0_value, Cond.code yX0_value cX0_value 3 (some .int), Cond.methodLink RL 50 yX0_rises, Cond.instanceMethod yX0_rises, Cond.selects RX0 yX0_rises yX0_rises, Cond.code yX0_rises cX0_rises 4 (some .boolean), Cond.methodLink RL 72 yX0_best, Cond.instanceMethod yX0_best, Cond.selects RX0 yX0_best yX0_best, Cond.code yX0_best cX0_best 5 (some .int), Cond.methodLink RX0 162 Lib.Math.max.name, Cond.static Lib.Math.max.name, Cond.code Lib.Math.max.name Lib.Math.max.code 2 (some .int), Cond.methodLink RL 101 yX0_commonAnew, Cond.instanceMethod yX0_commonAnew, Cond.selects RX0 yX0_commonAnew yX0_commonAnew, Cond.code yX0_commonAnew cX0_commonAnew 3 (some .int), Cond.methodLink RX0 171 yX0_isFair, Cond.instanceMethod yX0_isFair]
def wsL_six_r15 : List Cond := [Cond.selects RX0 yX0_isFair yX0_isFair, Cond.code yX0_isFair cX0_isFair 4 (some .boolean)]
def wsL_six : List Cond := .code yL_six cL_six 3 (some .boolean) :: ((wsL_six_r1 ++ (wsL_six_r2 ++ (wsL_six_r3 ++ (wsL_six_r4 ++ (wsL_six_r5 ++ (wsL_six_r6 ++ (wsL_six_r7 ++ (wsL_six_r8 ++ (wsL_six_r9 ++ (wsL_six_r10 ++ (wsL_six_r11 ++ (wsL_six_r12 ++ (wsL_six_r13 ++ (wsL_six_r14 ++ wsL_six_r15)))))))))))))) ++ wsX00 ++ (vx_atS RX0 192 "java/lang/IllegalArgumentException" ["java/lang/RuntimeException", "java/lang/Exception"]).filter goodWord ++ (vx_atS RX0 185 "java/lang/IndexOutOfBoundsException" ["java/lang/RuntimeException", "java/lang/Exception"]).filter goodWord ++ (vx_atS RX0 197 "java/lang/IllegalStateException" ["java/lang/RuntimeException", "java/lang/Exception"]).filter goodWord)
def wsL_guild_r1 : List Cond := [Cond.classLink RL 8 RX0, Cond.instantiable RX0 12, Cond.initialized RX0, Cond.constant RL 89 (-7000003), Cond.methodLink RL 104 yX0_init, Cond.instanceMethod yX0_init, Cond.code yX0_init cX0_init 1 none, Cond.methodLink RX0 1 objectInit, Cond.instanceMethod objectInit, Cond.code objectInit ⟨#[0xb1]⟩ 1 none, Cond.fieldLink RX0 9 "Submodulary" "elements" "I", Cond.fieldLink RX0 13 "Submodulary" "functions" "I", Cond.fieldLink RX0 16 "Submodulary" "told" "I", Cond.arrayClass .int, Cond.fieldLink RX0 19 "Submodulary" "covered" "[I", Cond.fieldLink RX0 23 "Submodulary" "edges" "[I", Cond.fieldLink RX0 26 "Submodulary" "colours" "[I", Cond.fieldLink RX0 29 "Submodulary" "rooms" "[I", Cond.fieldLink RX0 32 "Submodulary" "weights" "[I", Cond.fieldLink RX0 35 "Submodulary" "values" "[I", Cond.fieldLink RX0 38 "Submodulary" "ordered" "[I", Cond.fieldLink RX0 41 "Submodulary" "cameFrom" "[I", Cond.fieldLink RX0 44 "Submodulary" "reached" "[I", Cond.methodLink RX0 47 yJ7_fill_53178]
def wsL_guild_r2 : List Cond := [Cond.static yJ7_fill_53178, Cond.initialized RJ7, Cond.code yJ7_fill_53178 cJ7_fill_53178 4 none, Cond.methodLink RL 105 yL_refuses, Cond.static yL_refuses, Cond.initialized RL, Cond.code yL_refuses cL_refuses 14 (some .boolean), Cond.constant RL 90 (2147483647), Cond.constant RL 86 (-7000002), Cond.constant RL 83 (-7000001), Cond.methodLink RL 91 yX0_common, Cond.instanceMethod yX0_common, Cond.selects RX0 yX0_common yX0_common, Cond.code yX0_common cX0_common 4 (some .int), Cond.methodLink RX0 165 yX0_endOfPath, Cond.instanceMethod yX0_endOfPath, Cond.selects RX0 yX0_endOfPath yX0_endOfPath, Cond.code yX0_endOfPath cX0_endOfPath 5 (some .int), Cond.methodLink RX0 226 yX0_reachFirst, Cond.instanceMethod yX0_reachFirst, Cond.selects RX0 yX0_reachFirst yX0_reachFirst, Cond.code yX0_reachFirst cX0_reachFirst 4 (some .int), Cond.methodLink RX0 229 yX0_hasRoom, Cond.instanceMethod yX0_hasRoom]
def wsL_guild_r3 : List Cond := [Cond.selects RX0 yX0_hasRoom yX0_hasRoom, Cond.code yX0_hasRoom cX0_hasRoom 5 (some .boolean), Cond.methodLink RX0 96 yX0_colourOf, Cond.instanceMethod yX0_colourOf, Cond.selects RX0 yX0_colourOf yX0_colourOf, Cond.code yX0_colourOf cX0_colourOf 3 (some .int), Cond.methodLink RX0 68 yX0_at, Cond.static yX0_at, Cond.code yX0_at cX0_at 2 (some .int), Cond.methodLink RX0 83 yX0_has, Cond.static yX0_has, Cond.code yX0_has cX0_has 2 (some .boolean), Cond.methodLink RX0 210 yX0_countOf, Cond.instanceMethod yX0_countOf, Cond.selects RX0 yX0_countOf yX0_countOf, Cond.code yX0_countOf cX0_countOf 6 (some .int), Cond.methodLink RX0 99 yX0_roomOf, Cond.instanceMethod yX0_roomOf, Cond.selects RX0 yX0_roomOf yX0_roomOf, Cond.code yX0_roomOf cX0_roomOf 3 (some .int), Cond.methodLink RX0 79 yX0_put, Cond.static yX0_put, Cond.code yX0_put cX0_put 3 none, Cond.methodLink RX0 232 yX0_reachFrom]
def wsL_guild_r4 : List Cond := [Cond.instanceMethod yX0_reachFrom, Cond.selects RX0 yX0_reachFrom yX0_reachFrom, Cond.code yX0_reachFrom cX0_reachFrom 6 (some .int), Cond.methodLink RX0 235 yX0_isStep, Cond.instanceMethod yX0_isStep, Cond.selects RX0 yX0_isStep yX0_isStep, Cond.code yX0_isStep cX0_isStep 5 (some .boolean), Cond.methodLink RX0 157 yJ6_bitCount_0f7a4, Cond.static yJ6_bitCount_0f7a4, Cond.initialized RJ6, Cond.code yJ6_bitCount_0f7a4 cJ6_bitCount_0f7a4 1 (some .int), Cond.constant RJ6 265 (1431655765), Cond.constant RJ6 266 (858993459), Cond.constant RJ6 267 (252645135), Cond.methodLink RX0 168 yX0_flippedAlong, Cond.instanceMethod yX0_flippedAlong, Cond.selects RX0 yX0_flippedAlong yX0_flippedAlong, Cond.code yX0_flippedAlong cX0_flippedAlong 6 (some .int), Cond.methodLink RL 95 yL_act, Cond.static yL_act, Cond.codeWith yL_act cL_act 6 (some .int) [(0, 367, 368, 81), (0, 367, 373, 84), (0, 367, 378, 87)], Cond.classLink RL 81 "java/lang/IndexOutOfBoundsException", Cond.classLink RL 84 "java/lang/IllegalArgumentException", Cond.classLink RL 87 "java/lang/IllegalStateException"]
def wsL_guild_r5 : List Cond := [Cond.methodLink RL 7 yX0_elements, Cond.instanceMethod yX0_elements, Cond.selects RX0 yX0_elements yX0_elements, Cond.code yX0_elements cX0_elements 3 (some .int), Cond.methodLink RX0 53 yX0_isWithin, Cond.static yX0_isWithin, Cond.code yX0_isWithin cX0_isWithin 3 (some .boolean), Cond.methodLink RX0 57 yX0_needArgument, Cond.static yX0_needArgument, Cond.code yX0_needArgument cX0_needArgument 1 none, Cond.classLink RX0 188 "java/lang/IllegalArgumentException", Cond.initialized "java/lang/IllegalArgumentException", Cond.methodLink RL 13 yX0_cover, Cond.instanceMethod yX0_cover, Cond.selects RX0 yX0_cover yX0_cover, Cond.code yX0_cover cX0_cover 5 (some .boolean), Cond.methodLink RX0 61 yX0_isElement, Cond.instanceMethod yX0_isElement, Cond.selects RX0 yX0_isElement yX0_isElement, Cond.code yX0_isElement cX0_isElement 2 (some .boolean), Cond.methodLink RX0 65 yX0_needIndex, Cond.static yX0_needIndex, Cond.code yX0_needIndex cX0_needIndex 1 none, Cond.classLink RX0 181 "java/lang/IndexOutOfBoundsException"]
def wsL_guild_r6 : List Cond := [Cond.initialized "java/lang/IndexOutOfBoundsException", Cond.methodLink RX0 72 yX0_with, Cond.static yX0_with, Cond.code yX0_with cX0_with 2 (some .int), Cond.methodLink RX0 76 yX0_without, Cond.static yX0_without, Cond.code yX0_without cX0_without 2 (some .int), Cond.methodLink RL 17 yX0_edge, Cond.instanceMethod yX0_edge, Cond.selects RX0 yX0_edge yX0_edge, Cond.code yX0_edge cX0_edge 5 (some .int), Cond.methodLink RX0 87 yX0_edgeWeight, Cond.instanceMethod yX0_edgeWeight, Cond.selects RX0 yX0_edgeWeight yX0_edgeWeight, Cond.code yX0_edgeWeight cX0_edgeWeight 3 (some .int), Cond.methodLink RL 21 yX0_colour, Cond.instanceMethod yX0_colour, Cond.selects RX0 yX0_colour yX0_colour, Cond.code yX0_colour cX0_colour 5 (some .int), Cond.methodLink RX0 90 yX0_isFamily, Cond.static yX0_isFamily, Cond.code yX0_isFamily cX0_isFamily 1 (some .boolean), Cond.methodLink RX0 93 yX0_isColour, Cond.static yX0_isColour]
def wsL_guild_r7 : List Cond := [Cond.code yX0_isColour cX0_isColour 1 (some .boolean), Cond.methodLink RL 24 yX0_room, Cond.instanceMethod yX0_room, Cond.selects RX0 yX0_room yX0_room, Cond.code yX0_room cX0_room 5 (some .int), Cond.methodLink RL 27 yX0_weigh, Cond.instanceMethod yX0_weigh, Cond.selects RX0 yX0_weigh yX0_weigh, Cond.code yX0_weigh cX0_weigh 4 (some .int), Cond.methodLink RL 31 yX0_make, Cond.instanceMethod yX0_make, Cond.selects RX0 yX0_make yX0_make, Cond.code yX0_make cX0_make 3 (some .int), Cond.methodLink RX0 102 yX0_needPlace, Cond.instanceMethod yX0_needPlace, Cond.selects RX0 yX0_needPlace yX0_needPlace, Cond.code yX0_needPlace cX0_needPlace 1 none, Cond.methodLink RX0 140 yX0_needState, Cond.static yX0_needState, Cond.code yX0_needState cX0_needState 1 none, Cond.classLink RX0 193 "java/lang/IllegalStateException", Cond.initialized "java/lang/IllegalStateException", Cond.methodLink RX0 105 yX0_sets, Cond.instanceMethod yX0_sets]
def wsL_guild_r8 : List Cond := [Cond.selects RX0 yX0_sets yX0_sets, Cond.code yX0_sets cX0_sets 1 (some .int), Cond.methodLink RX0 109 yX0_toldValue, Cond.instanceMethod yX0_toldValue, Cond.selects RX0 yX0_toldValue yX0_toldValue, Cond.code yX0_toldValue cX0_toldValue 3 (some .int), Cond.methodLink RX0 198 yX0_coverValue, Cond.instanceMethod yX0_coverValue, Cond.selects RX0 yX0_coverValue yX0_coverValue, Cond.code yX0_coverValue cX0_coverValue 4 (some .int), Cond.methodLink RX0 201 yX0_cutValue, Cond.instanceMethod yX0_cutValue, Cond.selects RX0 yX0_cutValue yX0_cutValue, Cond.code yX0_cutValue cX0_cutValue 5 (some .int), Cond.methodLink RX0 204 yX0_rankValue, Cond.instanceMethod yX0_rankValue, Cond.selects RX0 yX0_rankValue yX0_rankValue, Cond.code yX0_rankValue cX0_rankValue 5 (some .int), Cond.methodLink RX0 128 Lib.Math.min.name, Cond.static Lib.Math.min.name, Cond.initialized "java/lang/Math", Cond.code Lib.Math.min.name Lib.Math.min.code 2 (some .int), Cond.methodLink RX0 207 yX0_weightsValue, Cond.instanceMethod yX0_weightsValue]
def wsL_guild_r9 : List Cond := [Cond.selects RX0 yX0_weightsValue yX0_weightsValue, Cond.code yX0_weightsValue cX0_weightsValue 4 (some .int), Cond.methodLink RX0 112 yX0_putNew, Cond.instanceMethod yX0_putNew, Cond.selects RX0 yX0_putNew yX0_putNew, Cond.code yX0_putNew cX0_putNew 3 none, Cond.methodLink RX0 116 yX0_countNew, Cond.instanceMethod yX0_countNew, Cond.selects RX0 yX0_countNew yX0_countNew, Cond.code yX0_countNew cX0_countNew 2 (some .int), Cond.methodLink RL 34 yX0_sum, Cond.instanceMethod yX0_sum, Cond.selects RX0 yX0_sum yX0_sum, Cond.code yX0_sum cX0_sum 4 (some .int), Cond.methodLink RX0 119 yX0_isFunction, Cond.instanceMethod yX0_isFunction, Cond.selects RX0 yX0_isFunction yX0_isFunction, Cond.code yX0_isFunction cX0_isFunction 2 (some .boolean), Cond.methodLink RX0 122 yX0_valueOf, Cond.instanceMethod yX0_valueOf, Cond.selects RX0 yX0_valueOf yX0_valueOf, Cond.code yX0_valueOf cX0_valueOf 3 (some .int), Cond.methodLink RL 37 yX0_contract, Cond.instanceMethod yX0_contract]
def wsL_guild_r10 : List Cond := [Cond.selects RX0 yX0_contract yX0_contract, Cond.code yX0_contract cX0_contract 4 (some .int), Cond.methodLink RX0 125 yX0_isSet, Cond.instanceMethod yX0_isSet, Cond.selects RX0 yX0_isSet yX0_isSet, Cond.code yX0_isSet cX0_isSet 2 (some .boolean), Cond.methodLink RL 40 yX0_cap, Cond.instanceMethod yX0_cap, Cond.selects RX0 yX0_cap yX0_cap, Cond.code yX0_cap cX0_cap 4 (some .int), Cond.methodLink RL 43 yX0_value, Cond.instanceMethod yX0_value, Cond.selects RX0 yX0_value yX0_value, Cond.code yX0_value cX0_value 3 (some .int), Cond.methodLink RL 46 yX0_isLawful, Cond.instanceMethod yX0_isLawful, Cond.selects RX0 yX0_isLawful yX0_isLawful, Cond.code yX0_isLawful cX0_isLawful 2 (some .boolean), Cond.methodLink RX0 133 yX0_hasLaw, Cond.instanceMethod yX0_hasLaw, Cond.selects RX0 yX0_hasLaw yX0_hasLaw, Cond.code yX0_hasLaw cX0_hasLaw 3 (some .boolean), Cond.methodLink RX0 213 yX0_hasLawAbove, Cond.instanceMethod yX0_hasLawAbove]
def wsL_guild_r11 : List Cond := [Cond.selects RX0 yX0_hasLawAbove yX0_hasLawAbove, Cond.code yX0_hasLawAbove cX0_hasLawAbove 6 (some .boolean), Cond.methodLink RX0 136 yX0_gain, Cond.instanceMethod yX0_gain, Cond.selects RX0 yX0_gain yX0_gain, Cond.code yX0_gain cX0_gain 4 (some .int), Cond.methodLink RL 50 yX0_rises, Cond.instanceMethod yX0_rises, Cond.selects RX0 yX0_rises yX0_rises, Cond.code yX0_rises cX0_rises 4 (some .boolean), Cond.methodLink RL 53 yX0_least, Cond.instanceMethod yX0_least, Cond.selects RX0 yX0_least yX0_least, Cond.code yX0_least cX0_least 2 (some .int), Cond.methodLink RX0 143 yX0_leastBetween, Cond.instanceMethod yX0_leastBetween, Cond.selects RX0 yX0_leastBetween yX0_leastBetween, Cond.code yX0_leastBetween cX0_leastBetween 12 (some .int), Cond.methodLink RX0 216 yX0_takenIn, Cond.instanceMethod yX0_takenIn, Cond.selects RX0 yX0_takenIn yX0_takenIn, Cond.code yX0_takenIn cX0_takenIn 8 (some .int), Cond.methodLink RX0 220 yX0_takenOut, Cond.instanceMethod yX0_takenOut]
def wsL_guild_r12 : List Cond := [Cond.selects RX0 yX0_takenOut yX0_takenOut, Cond.code yX0_takenOut cX0_takenOut 8 (some .int), Cond.methodLink RX0 223 yX0_lowest, Cond.instanceMethod yX0_lowest, Cond.selects RX0 yX0_lowest yX0_lowest, Cond.code yX0_lowest cX0_lowest 3 (some .int), Cond.methodLink RL 56 yX0_leastSet, Cond.instanceMethod yX0_leastSet, Cond.selects RX0 yX0_leastSet yX0_leastSet, Cond.code yX0_leastSet cX0_leastSet 3 (some .int), Cond.methodLink RL 60 yX0_leastSetAnew, Cond.instanceMethod yX0_leastSetAnew, Cond.selects RX0 yX0_leastSetAnew yX0_leastSetAnew, Cond.code yX0_leastSetAnew cX0_leastSetAnew 7 (some .int), Cond.methodLink RL 63 yX0_order, Cond.instanceMethod yX0_order, Cond.selects RX0 yX0_order yX0_order, Cond.code yX0_order cX0_order 3 (some .int), Cond.methodLink RX0 147 yX0_isTold, Cond.instanceMethod yX0_isTold, Cond.selects RX0 yX0_isTold yX0_isTold, Cond.code yX0_isTold cX0_isTold 3 (some .boolean), Cond.methodLink RL 66 yX0_corner, Cond.instanceMethod yX0_corner]
def wsL_guild_r13 : List Cond := [Cond.selects RX0 yX0_corner yX0_corner, Cond.code yX0_corner cX0_corner 3 (some .int), Cond.methodLink RX0 150 yX0_aheadOf, Cond.instanceMethod yX0_aheadOf, Cond.selects RX0 yX0_aheadOf yX0_aheadOf, Cond.code yX0_aheadOf cX0_aheadOf 5 (some .int), Cond.methodLink RL 69 yX0_greedy, Cond.instanceMethod yX0_greedy, Cond.selects RX0 yX0_greedy yX0_greedy, Cond.code yX0_greedy cX0_greedy 6 (some .int), Cond.methodLink RX0 154 yX0_greediest, Cond.instanceMethod yX0_greediest, Cond.selects RX0 yX0_greediest yX0_greediest, Cond.code yX0_greediest cX0_greediest 7 (some .int), Cond.methodLink RL 72 yX0_best, Cond.instanceMethod yX0_best, Cond.selects RX0 yX0_best yX0_best, Cond.code yX0_best cX0_best 5 (some .int), Cond.methodLink RX0 162 Lib.Math.max.name, Cond.static Lib.Math.max.name, Cond.code Lib.Math.max.name Lib.Math.max.code 2 (some .int), Cond.methodLink RL 75 yX0_share, Cond.instanceMethod yX0_share, Cond.selects RX0 yX0_share yX0_share]
def wsL_guild_r14 : List Cond := [Cond.code yX0_share cX0_share 7 (some .int), Cond.methodLink RX0 174 yX0_ordersOf, Cond.static yX0_ordersOf, Cond.code yX0_ordersOf cX0_ordersOf 3 (some .int), Cond.methodLink RL 78 yX0_shareAnew, Cond.instanceMethod yX0_shareAnew, Cond.selects RX0 yX0_shareAnew yX0_shareAnew, Cond.code yX0_shareAnew cX0_shareAnew 3 (some .int), Cond.methodLink RX0 177 yX0_gainsOverOrders, Cond.instanceMethod yX0_gainsOverOrders, Cond.selects RX0 yX0_gainsOverOrders yX0_gainsOverOrders, Cond.code yX0_gainsOverOrders cX0_gainsOverOrders 9 (some .int), Cond.methodLink RL 101 yX0_commonAnew, Cond.instanceMethod yX0_commonAnew, Cond.selects RX0 yX0_commonAnew yX0_commonAnew, Cond.code yX0_commonAnew cX0_commonAnew 3 (some .int), Cond.methodLink RX0 171 yX0_isFair, Cond.instanceMethod yX0_isFair, Cond.selects RX0 yX0_isFair yX0_isFair, Cond.code yX0_isFair cX0_isFair 4 (some .boolean), Cond.methodLink RL 109 yL_least, Cond.static yL_least, Cond.code yL_least cL_least 5 (some .boolean), Cond.methodLink RL 112 yL_greed]
def wsL_guild_r15 : List Cond := [Cond.static yL_greed, Cond.code yL_greed cL_greed 1 (some .boolean), Cond.methodLink RL 123 yL_share, Cond.static yL_share, Cond.code yL_share cL_share 4 (some .boolean), Cond.methodLink RL 116 yL_orders, Cond.static yL_orders, Cond.code yL_orders cL_orders 1 (some .boolean), Cond.methodLink RL 119 yL_six, Cond.static yL_six, Cond.code yL_six cL_six 3 (some .boolean)]
def wsL_guild : List Cond := .code yL_guild cL_guild 1 (some .boolean) :: ((wsL_guild_r1 ++ (wsL_guild_r2 ++ (wsL_guild_r3 ++ (wsL_guild_r4 ++ (wsL_guild_r5 ++ (wsL_guild_r6 ++ (wsL_guild_r7 ++ (wsL_guild_r8 ++ (wsL_guild_r9 ++ (wsL_guild_r10 ++ (wsL_guild_r11 ++ (wsL_guild_r12 ++ (wsL_guild_r13 ++ (wsL_guild_r14 ++ wsL_guild_r15)))))))))))))) ++ wsX00 ++ (vx_atS RX0 192 "java/lang/IllegalArgumentException" ["java/lang/RuntimeException", "java/lang/Exception"]).filter goodWord ++ (vx_atS RX0 185 "java/lang/IndexOutOfBoundsException" ["java/lang/RuntimeException", "java/lang/Exception"]).filter goodWord ++ (vx_atS RX0 197 "java/lang/IllegalStateException" ["java/lang/RuntimeException", "java/lang/Exception"]).filter goodWord)
def wsL_law0_r1 : List Cond := [Cond.classLink RL 8 RX0, Cond.instantiable RX0 12, Cond.initialized RX0, Cond.constant RL 86 (-7000002), Cond.constant RL 89 (-7000003), Cond.methodLink RL 126 yL_guild, Cond.static yL_guild, Cond.initialized RL, Cond.code yL_guild cL_guild 1 (some .boolean), Cond.methodLink RL 104 yX0_init, Cond.instanceMethod yX0_init, Cond.code yX0_init cX0_init 1 none, Cond.methodLink RX0 1 objectInit, Cond.instanceMethod objectInit, Cond.code objectInit ⟨#[0xb1]⟩ 1 none, Cond.fieldLink RX0 9 "Submodulary" "elements" "I", Cond.fieldLink RX0 13 "Submodulary" "functions" "I", Cond.fieldLink RX0 16 "Submodulary" "told" "I", Cond.arrayClass .int, Cond.fieldLink RX0 19 "Submodulary" "covered" "[I", Cond.fieldLink RX0 23 "Submodulary" "edges" "[I", Cond.fieldLink RX0 26 "Submodulary" "colours" "[I", Cond.fieldLink RX0 29 "Submodulary" "rooms" "[I", Cond.fieldLink RX0 32 "Submodulary" "weights" "[I"]
def wsL_law0_r2 : List Cond := [Cond.fieldLink RX0 35 "Submodulary" "values" "[I", Cond.fieldLink RX0 38 "Submodulary" "ordered" "[I", Cond.fieldLink RX0 41 "Submodulary" "cameFrom" "[I", Cond.fieldLink RX0 44 "Submodulary" "reached" "[I", Cond.methodLink RX0 47 yJ7_fill_53178, Cond.static yJ7_fill_53178, Cond.initialized RJ7, Cond.code yJ7_fill_53178 cJ7_fill_53178 4 none, Cond.methodLink RL 105 yL_refuses, Cond.static yL_refuses, Cond.code yL_refuses cL_refuses 14 (some .boolean), Cond.constant RL 90 (2147483647), Cond.constant RL 83 (-7000001), Cond.methodLink RL 91 yX0_common, Cond.instanceMethod yX0_common, Cond.selects RX0 yX0_common yX0_common, Cond.code yX0_common cX0_common 4 (some .int), Cond.methodLink RX0 165 yX0_endOfPath, Cond.instanceMethod yX0_endOfPath, Cond.selects RX0 yX0_endOfPath yX0_endOfPath, Cond.code yX0_endOfPath cX0_endOfPath 5 (some .int), Cond.methodLink RX0 226 yX0_reachFirst, Cond.instanceMethod yX0_reachFirst, Cond.selects RX0 yX0_reachFirst yX0_reachFirst]
def wsL_law0_r3 : List Cond := [Cond.code yX0_reachFirst cX0_reachFirst 4 (some .int), Cond.methodLink RX0 229 yX0_hasRoom, Cond.instanceMethod yX0_hasRoom, Cond.selects RX0 yX0_hasRoom yX0_hasRoom, Cond.code yX0_hasRoom cX0_hasRoom 5 (some .boolean), Cond.methodLink RX0 96 yX0_colourOf, Cond.instanceMethod yX0_colourOf, Cond.selects RX0 yX0_colourOf yX0_colourOf, Cond.code yX0_colourOf cX0_colourOf 3 (some .int), Cond.methodLink RX0 68 yX0_at, Cond.static yX0_at, Cond.code yX0_at cX0_at 2 (some .int), Cond.methodLink RX0 83 yX0_has, Cond.static yX0_has, Cond.code yX0_has cX0_has 2 (some .boolean), Cond.methodLink RX0 210 yX0_countOf, Cond.instanceMethod yX0_countOf, Cond.selects RX0 yX0_countOf yX0_countOf, Cond.code yX0_countOf cX0_countOf 6 (some .int), Cond.methodLink RX0 99 yX0_roomOf, Cond.instanceMethod yX0_roomOf, Cond.selects RX0 yX0_roomOf yX0_roomOf, Cond.code yX0_roomOf cX0_roomOf 3 (some .int), Cond.methodLink RX0 79 yX0_put]
def wsL_law0_r4 : List Cond := [Cond.static yX0_put, Cond.code yX0_put cX0_put 3 none, Cond.methodLink RX0 232 yX0_reachFrom, Cond.instanceMethod yX0_reachFrom, Cond.selects RX0 yX0_reachFrom yX0_reachFrom, Cond.code yX0_reachFrom cX0_reachFrom 6 (some .int), Cond.methodLink RX0 235 yX0_isStep, Cond.instanceMethod yX0_isStep, Cond.selects RX0 yX0_isStep yX0_isStep, Cond.code yX0_isStep cX0_isStep 5 (some .boolean), Cond.methodLink RX0 157 yJ6_bitCount_0f7a4, Cond.static yJ6_bitCount_0f7a4, Cond.initialized RJ6, Cond.code yJ6_bitCount_0f7a4 cJ6_bitCount_0f7a4 1 (some .int), Cond.constant RJ6 265 (1431655765), Cond.constant RJ6 266 (858993459), Cond.constant RJ6 267 (252645135), Cond.methodLink RX0 168 yX0_flippedAlong, Cond.instanceMethod yX0_flippedAlong, Cond.selects RX0 yX0_flippedAlong yX0_flippedAlong, Cond.code yX0_flippedAlong cX0_flippedAlong 6 (some .int), Cond.methodLink RL 95 yL_act, Cond.static yL_act, Cond.codeWith yL_act cL_act 6 (some .int) [(0, 367, 368, 81), (0, 367, 373, 84), (0, 367, 378, 87)]]
def wsL_law0_r5 : List Cond := [Cond.classLink RL 81 "java/lang/IndexOutOfBoundsException", Cond.classLink RL 84 "java/lang/IllegalArgumentException", Cond.classLink RL 87 "java/lang/IllegalStateException", Cond.methodLink RL 7 yX0_elements, Cond.instanceMethod yX0_elements, Cond.selects RX0 yX0_elements yX0_elements, Cond.code yX0_elements cX0_elements 3 (some .int), Cond.methodLink RX0 53 yX0_isWithin, Cond.static yX0_isWithin, Cond.code yX0_isWithin cX0_isWithin 3 (some .boolean), Cond.methodLink RX0 57 yX0_needArgument, Cond.static yX0_needArgument, Cond.code yX0_needArgument cX0_needArgument 1 none, Cond.classLink RX0 188 "java/lang/IllegalArgumentException", Cond.initialized "java/lang/IllegalArgumentException", Cond.methodLink RL 13 yX0_cover, Cond.instanceMethod yX0_cover, Cond.selects RX0 yX0_cover yX0_cover, Cond.code yX0_cover cX0_cover 5 (some .boolean), Cond.methodLink RX0 61 yX0_isElement, Cond.instanceMethod yX0_isElement, Cond.selects RX0 yX0_isElement yX0_isElement, Cond.code yX0_isElement cX0_isElement 2 (some .boolean), Cond.methodLink RX0 65 yX0_needIndex]
def wsL_law0_r6 : List Cond := [Cond.static yX0_needIndex, Cond.code yX0_needIndex cX0_needIndex 1 none, Cond.classLink RX0 181 "java/lang/IndexOutOfBoundsException", Cond.initialized "java/lang/IndexOutOfBoundsException", Cond.methodLink RX0 72 yX0_with, Cond.static yX0_with, Cond.code yX0_with cX0_with 2 (some .int), Cond.methodLink RX0 76 yX0_without, Cond.static yX0_without, Cond.code yX0_without cX0_without 2 (some .int), Cond.methodLink RL 17 yX0_edge, Cond.instanceMethod yX0_edge, Cond.selects RX0 yX0_edge yX0_edge, Cond.code yX0_edge cX0_edge 5 (some .int), Cond.methodLink RX0 87 yX0_edgeWeight, Cond.instanceMethod yX0_edgeWeight, Cond.selects RX0 yX0_edgeWeight yX0_edgeWeight, Cond.code yX0_edgeWeight cX0_edgeWeight 3 (some .int), Cond.methodLink RL 21 yX0_colour, Cond.instanceMethod yX0_colour, Cond.selects RX0 yX0_colour yX0_colour, Cond.code yX0_colour cX0_colour 5 (some .int), Cond.methodLink RX0 90 yX0_isFamily, Cond.static yX0_isFamily]
def wsL_law0_r7 : List Cond := [Cond.code yX0_isFamily cX0_isFamily 1 (some .boolean), Cond.methodLink RX0 93 yX0_isColour, Cond.static yX0_isColour, Cond.code yX0_isColour cX0_isColour 1 (some .boolean), Cond.methodLink RL 24 yX0_room, Cond.instanceMethod yX0_room, Cond.selects RX0 yX0_room yX0_room, Cond.code yX0_room cX0_room 5 (some .int), Cond.methodLink RL 27 yX0_weigh, Cond.instanceMethod yX0_weigh, Cond.selects RX0 yX0_weigh yX0_weigh, Cond.code yX0_weigh cX0_weigh 4 (some .int), Cond.methodLink RL 31 yX0_make, Cond.instanceMethod yX0_make, Cond.selects RX0 yX0_make yX0_make, Cond.code yX0_make cX0_make 3 (some .int), Cond.methodLink RX0 102 yX0_needPlace, Cond.instanceMethod yX0_needPlace, Cond.selects RX0 yX0_needPlace yX0_needPlace, Cond.code yX0_needPlace cX0_needPlace 1 none, Cond.methodLink RX0 140 yX0_needState, Cond.static yX0_needState, Cond.code yX0_needState cX0_needState 1 none, Cond.classLink RX0 193 "java/lang/IllegalStateException"]
def wsL_law0_r8 : List Cond := [Cond.initialized "java/lang/IllegalStateException", Cond.methodLink RX0 105 yX0_sets, Cond.instanceMethod yX0_sets, Cond.selects RX0 yX0_sets yX0_sets, Cond.code yX0_sets cX0_sets 1 (some .int), Cond.methodLink RX0 109 yX0_toldValue, Cond.instanceMethod yX0_toldValue, Cond.selects RX0 yX0_toldValue yX0_toldValue, Cond.code yX0_toldValue cX0_toldValue 3 (some .int), Cond.methodLink RX0 198 yX0_coverValue, Cond.instanceMethod yX0_coverValue, Cond.selects RX0 yX0_coverValue yX0_coverValue, Cond.code yX0_coverValue cX0_coverValue 4 (some .int), Cond.methodLink RX0 201 yX0_cutValue, Cond.instanceMethod yX0_cutValue, Cond.selects RX0 yX0_cutValue yX0_cutValue, Cond.code yX0_cutValue cX0_cutValue 5 (some .int), Cond.methodLink RX0 204 yX0_rankValue, Cond.instanceMethod yX0_rankValue, Cond.selects RX0 yX0_rankValue yX0_rankValue, Cond.code yX0_rankValue cX0_rankValue 5 (some .int), Cond.methodLink RX0 128 Lib.Math.min.name, Cond.static Lib.Math.min.name, Cond.initialized "java/lang/Math"]
def wsL_law0_r9 : List Cond := [Cond.code Lib.Math.min.name Lib.Math.min.code 2 (some .int), Cond.methodLink RX0 207 yX0_weightsValue, Cond.instanceMethod yX0_weightsValue, Cond.selects RX0 yX0_weightsValue yX0_weightsValue, Cond.code yX0_weightsValue cX0_weightsValue 4 (some .int), Cond.methodLink RX0 112 yX0_putNew, Cond.instanceMethod yX0_putNew, Cond.selects RX0 yX0_putNew yX0_putNew, Cond.code yX0_putNew cX0_putNew 3 none, Cond.methodLink RX0 116 yX0_countNew, Cond.instanceMethod yX0_countNew, Cond.selects RX0 yX0_countNew yX0_countNew, Cond.code yX0_countNew cX0_countNew 2 (some .int), Cond.methodLink RL 34 yX0_sum, Cond.instanceMethod yX0_sum, Cond.selects RX0 yX0_sum yX0_sum, Cond.code yX0_sum cX0_sum 4 (some .int), Cond.methodLink RX0 119 yX0_isFunction, Cond.instanceMethod yX0_isFunction, Cond.selects RX0 yX0_isFunction yX0_isFunction, Cond.code yX0_isFunction cX0_isFunction 2 (some .boolean), Cond.methodLink RX0 122 yX0_valueOf, Cond.instanceMethod yX0_valueOf, Cond.selects RX0 yX0_valueOf yX0_valueOf]
def wsL_law0_r10 : List Cond := [Cond.code yX0_valueOf cX0_valueOf 3 (some .int), Cond.methodLink RL 37 yX0_contract, Cond.instanceMethod yX0_contract, Cond.selects RX0 yX0_contract yX0_contract, Cond.code yX0_contract cX0_contract 4 (some .int), Cond.methodLink RX0 125 yX0_isSet, Cond.instanceMethod yX0_isSet, Cond.selects RX0 yX0_isSet yX0_isSet, Cond.code yX0_isSet cX0_isSet 2 (some .boolean), Cond.methodLink RL 40 yX0_cap, Cond.instanceMethod yX0_cap, Cond.selects RX0 yX0_cap yX0_cap, Cond.code yX0_cap cX0_cap 4 (some .int), Cond.methodLink RL 43 yX0_value, Cond.instanceMethod yX0_value, Cond.selects RX0 yX0_value yX0_value, Cond.code yX0_value cX0_value 3 (some .int), Cond.methodLink RL 46 yX0_isLawful, Cond.instanceMethod yX0_isLawful, Cond.selects RX0 yX0_isLawful yX0_isLawful, Cond.code yX0_isLawful cX0_isLawful 2 (some .boolean), Cond.methodLink RX0 133 yX0_hasLaw, Cond.instanceMethod yX0_hasLaw, Cond.selects RX0 yX0_hasLaw yX0_hasLaw]
def wsL_law0_r11 : List Cond := [Cond.code yX0_hasLaw cX0_hasLaw 3 (some .boolean), Cond.methodLink RX0 213 yX0_hasLawAbove, Cond.instanceMethod yX0_hasLawAbove, Cond.selects RX0 yX0_hasLawAbove yX0_hasLawAbove, Cond.code yX0_hasLawAbove cX0_hasLawAbove 6 (some .boolean), Cond.methodLink RX0 136 yX0_gain, Cond.instanceMethod yX0_gain, Cond.selects RX0 yX0_gain yX0_gain, Cond.code yX0_gain cX0_gain 4 (some .int), Cond.methodLink RL 50 yX0_rises, Cond.instanceMethod yX0_rises, Cond.selects RX0 yX0_rises yX0_rises, Cond.code yX0_rises cX0_rises 4 (some .boolean), Cond.methodLink RL 53 yX0_least, Cond.instanceMethod yX0_least, Cond.selects RX0 yX0_least yX0_least, Cond.code yX0_least cX0_least 2 (some .int), Cond.methodLink RX0 143 yX0_leastBetween, Cond.instanceMethod yX0_leastBetween, Cond.selects RX0 yX0_leastBetween yX0_leastBetween, Cond.code yX0_leastBetween cX0_leastBetween 12 (some .int), Cond.methodLink RX0 216 yX0_takenIn, Cond.instanceMethod yX0_takenIn, Cond.selects RX0 yX0_takenIn yX0_takenIn]
def wsL_law0_r12 : List Cond := [Cond.code yX0_takenIn cX0_takenIn 8 (some .int), Cond.methodLink RX0 220 yX0_takenOut, Cond.instanceMethod yX0_takenOut, Cond.selects RX0 yX0_takenOut yX0_takenOut, Cond.code yX0_takenOut cX0_takenOut 8 (some .int), Cond.methodLink RX0 223 yX0_lowest, Cond.instanceMethod yX0_lowest, Cond.selects RX0 yX0_lowest yX0_lowest, Cond.code yX0_lowest cX0_lowest 3 (some .int), Cond.methodLink RL 56 yX0_leastSet, Cond.instanceMethod yX0_leastSet, Cond.selects RX0 yX0_leastSet yX0_leastSet, Cond.code yX0_leastSet cX0_leastSet 3 (some .int), Cond.methodLink RL 60 yX0_leastSetAnew, Cond.instanceMethod yX0_leastSetAnew, Cond.selects RX0 yX0_leastSetAnew yX0_leastSetAnew, Cond.code yX0_leastSetAnew cX0_leastSetAnew 7 (some .int), Cond.methodLink RL 63 yX0_order, Cond.instanceMethod yX0_order, Cond.selects RX0 yX0_order yX0_order, Cond.code yX0_order cX0_order 3 (some .int), Cond.methodLink RX0 147 yX0_isTold, Cond.instanceMethod yX0_isTold, Cond.selects RX0 yX0_isTold yX0_isTold]
def wsL_law0_r13 : List Cond := [Cond.code yX0_isTold cX0_isTold 3 (some .boolean), Cond.methodLink RL 66 yX0_corner, Cond.instanceMethod yX0_corner, Cond.selects RX0 yX0_corner yX0_corner, Cond.code yX0_corner cX0_corner 3 (some .int), Cond.methodLink RX0 150 yX0_aheadOf, Cond.instanceMethod yX0_aheadOf, Cond.selects RX0 yX0_aheadOf yX0_aheadOf, Cond.code yX0_aheadOf cX0_aheadOf 5 (some .int), Cond.methodLink RL 69 yX0_greedy, Cond.instanceMethod yX0_greedy, Cond.selects RX0 yX0_greedy yX0_greedy, Cond.code yX0_greedy cX0_greedy 6 (some .int), Cond.methodLink RX0 154 yX0_greediest, Cond.instanceMethod yX0_greediest, Cond.selects RX0 yX0_greediest yX0_greediest, Cond.code yX0_greediest cX0_greediest 7 (some .int), Cond.methodLink RL 72 yX0_best, Cond.instanceMethod yX0_best, Cond.selects RX0 yX0_best yX0_best, Cond.code yX0_best cX0_best 5 (some .int), Cond.methodLink RX0 162 Lib.Math.max.name, Cond.static Lib.Math.max.name, Cond.code Lib.Math.max.name Lib.Math.max.code 2 (some .int)]
def wsL_law0_r14 : List Cond := [Cond.methodLink RL 75 yX0_share, Cond.instanceMethod yX0_share, Cond.selects RX0 yX0_share yX0_share, Cond.code yX0_share cX0_share 7 (some .int), Cond.methodLink RX0 174 yX0_ordersOf, Cond.static yX0_ordersOf, Cond.code yX0_ordersOf cX0_ordersOf 3 (some .int), Cond.methodLink RL 78 yX0_shareAnew, Cond.instanceMethod yX0_shareAnew, Cond.selects RX0 yX0_shareAnew yX0_shareAnew, Cond.code yX0_shareAnew cX0_shareAnew 3 (some .int), Cond.methodLink RX0 177 yX0_gainsOverOrders, Cond.instanceMethod yX0_gainsOverOrders, Cond.selects RX0 yX0_gainsOverOrders yX0_gainsOverOrders, Cond.code yX0_gainsOverOrders cX0_gainsOverOrders 9 (some .int), Cond.methodLink RL 101 yX0_commonAnew, Cond.instanceMethod yX0_commonAnew, Cond.selects RX0 yX0_commonAnew yX0_commonAnew, Cond.code yX0_commonAnew cX0_commonAnew 3 (some .int), Cond.methodLink RX0 171 yX0_isFair, Cond.instanceMethod yX0_isFair, Cond.selects RX0 yX0_isFair yX0_isFair, Cond.code yX0_isFair cX0_isFair 4 (some .boolean), Cond.methodLink RL 109 yL_least]
def wsL_law0_r15 : List Cond := [Cond.static yL_least, Cond.code yL_least cL_least 5 (some .boolean), Cond.methodLink RL 112 yL_greed, Cond.static yL_greed, Cond.code yL_greed cL_greed 1 (some .boolean), Cond.methodLink RL 123 yL_share, Cond.static yL_share, Cond.code yL_share cL_share 4 (some .boolean), Cond.methodLink RL 116 yL_orders, Cond.static yL_orders, Cond.code yL_orders cL_orders 1 (some .boolean), Cond.methodLink RL 119 yL_six, Cond.static yL_six, Cond.code yL_six cL_six 3 (some .boolean)]
def wsL_law0 : List Cond := (wsL_law0_r1 ++ (wsL_law0_r2 ++ (wsL_law0_r3 ++ (wsL_law0_r4 ++ (wsL_law0_r5 ++ (wsL_law0_r6 ++ (wsL_law0_r7 ++ (wsL_law0_r8 ++ (wsL_law0_r9 ++ (wsL_law0_r10 ++ (wsL_law0_r11 ++ (wsL_law0_r12 ++ (wsL_law0_r13 ++ (wsL_law0_r14 ++ wsL_law0_r15)))))))))))))) ++ wsX00 ++ ([] : List Cond)
def wsL_law : List Cond := wsL_law0 ++ (vx_atS RX0 192 "java/lang/IllegalArgumentException" ["java/lang/RuntimeException", "java/lang/Exception"]).filter goodWord ++ (vx_atS RX0 185 "java/lang/IndexOutOfBoundsException" ["java/lang/RuntimeException", "java/lang/Exception"]).filter goodWord ++ (vx_atS RX0 197 "java/lang/IllegalStateException" ["java/lang/RuntimeException", "java/lang/Exception"]).filter goodWord
end
section
set_option maxRecDepth 20000 in
theorem in_wsL_law0_r1 : ∀ w ∈ wsL_law0_r1, w ∈ lw_tbl := fun w h => (goodIn_p wsL_law0_r1 [495, 51, 54] rfl (by decide +kernel) w h).1
set_option maxRecDepth 20000 in
theorem in_wsL_law0_r2 : ∀ w ∈ wsL_law0_r2, w ∈ lw_tbl := fun w h => (goodIn_p wsL_law0_r2 [57, 491, 356, 360] rfl (by decide +kernel) w h).1
set_option maxRecDepth 20000 in
theorem in_wsL_law0_r3 : ∀ w ∈ wsL_law0_r3, w ∈ lw_tbl := fun w h => (goodIn_p wsL_law0_r3 [364, 368, 229, 203, 215, 372, 237] (by decide +kernel) (by decide +kernel) w h).1
set_option maxRecDepth 20000 in
theorem in_wsL_law0_r4 : ∀ w ∈ wsL_law0_r4, w ∈ lw_tbl := fun w h => (goodIn_p wsL_law0_r4 [212, 376, 380, 346, 384] (by decide +kernel) (by decide +kernel) w h).1
set_option maxRecDepth 20000 in
theorem in_wsL_law0_r5 : ∀ w ∈ wsL_law0_r5, w ∈ lw_tbl := fun w h => (goodIn_p wsL_law0_r5 [99, 102, 105, 177, 181] (by decide +kernel) (by decide +kernel) w h).1
set_option maxRecDepth 20000 in
theorem in_wsL_law0_r6 : ∀ w ∈ wsL_law0_r6, w ∈ lw_tbl := fun w h => (goodIn_p wsL_law0_r6 [184, 206, 209, 402, 406, 219] (by decide +kernel) (by decide +kernel) w h).1
set_option maxRecDepth 20000 in
theorem in_wsL_law0_r7 : ∀ w ∈ wsL_law0_r7, w ∈ lw_tbl := fun w h => (goodIn_p wsL_law0_r7 [222, 225, 233, 241, 410, 414, 288] (by decide +kernel) (by decide +kernel) w h).1
set_option maxRecDepth 20000 in
theorem in_wsL_law0_r8 : ∀ w ∈ wsL_law0_r8, w ∈ lw_tbl := fun w h => (goodIn_p wsL_law0_r8 [257, 418, 422, 426, 430] (by decide +kernel) (by decide +kernel) w h).1
set_option maxRecDepth 20000 in
theorem in_wsL_law0_r9 : ∀ w ∈ wsL_law0_r9, w ∈ lw_tbl := fun w h => (goodIn_p wsL_law0_r9 [331, 434, 438, 442, 446, 249] (by decide +kernel) (by decide +kernel) w h).1
set_option maxRecDepth 20000 in
theorem in_wsL_law0_r10 : ∀ w ∈ wsL_law0_r10, w ∈ lw_tbl := fun w h => (goodIn_p wsL_law0_r10 [261, 450, 253, 454, 245, 265] (by decide +kernel) (by decide +kernel) w h).1
set_option maxRecDepth 20000 in
theorem in_wsL_law0_r11 : ∀ w ∈ wsL_law0_r11, w ∈ lw_tbl := fun w h => (goodIn_p wsL_law0_r11 [269, 273, 277, 281, 285, 308] (by decide +kernel) (by decide +kernel) w h).1
set_option maxRecDepth 20000 in
theorem in_wsL_law0_r12 : ∀ w ∈ wsL_law0_r12, w ∈ lw_tbl := fun w h => (goodIn_p wsL_law0_r12 [312, 316, 320, 324, 328, 458] (by decide +kernel) (by decide +kernel) w h).1
set_option maxRecDepth 20000 in
theorem in_wsL_law0_r13 : ∀ w ∈ wsL_law0_r13, w ∈ lw_tbl := fun w h => (goodIn_p wsL_law0_r13 [462, 466, 470, 335, 339, 343, 352] (by decide +kernel) (by decide +kernel) w h).1
set_option maxRecDepth 20000 in
theorem in_wsL_law0_r14 : ∀ w ∈ wsL_law0_r14, w ∈ lw_tbl := fun w h => (goodIn_p wsL_law0_r14 [474, 477, 481, 485, 388, 392] (by decide +kernel) (by decide +kernel) w h).1
set_option maxRecDepth 20000 in
theorem in_wsL_law0_r15 : ∀ w ∈ wsL_law0_r15, w ∈ lw_tbl := fun w h => (goodIn_p wsL_law0_r15 [498, 501, 504, 507, 510] rfl (by decide +kernel) w h).1
set_option maxRecDepth 20000 in
theorem in_wsX00 : ∀ w ∈ wsX00, w ∈ lw_tbl := by decide +kernel
theorem wsL_law_in0 : ∀ w ∈ wsL_law0, w ∈ lw_tbl := fun w h => (List.mem_append.mp h).elim (fun h => (List.mem_append.mp h).elim (fun h => (List.mem_append.mp h).elim (fun h => in_wsL_law0_r1 w h) (fun h => (List.mem_append.mp h).elim (fun h => in_wsL_law0_r2 w h) (fun h => (List.mem_append.mp h).elim (fun h => in_wsL_law0_r3 w h) (fun h => (List.mem_append.mp h).elim (fun h => in_wsL_law0_r4 w h) (fun h => (List.mem_append.mp h).elim (fun h => in_wsL_law0_r5 w h) (fun h => (List.mem_append.mp h).elim (fun h => in_wsL_law0_r6 w h) (fun h => (List.mem_append.mp h).elim (fun h => in_wsL_law0_r7 w h) (fun h => (List.mem_append.mp h).elim (fun h => in_wsL_law0_r8 w h) (fun h => (List.mem_append.mp h).elim (fun h => in_wsL_law0_r9 w h) (fun h => (List.mem_append.mp h).elim (fun h => in_wsL_law0_r10 w h) (fun h => (List.mem_append.mp h).elim (fun h => in_wsL_law0_r11 w h) (fun h => (List.mem_append.mp h).elim (fun h => in_wsL_law0_r12 w h) (fun h => (List.mem_append.mp h).elim (fun h => in_wsL_law0_r13 w h) (fun h => (List.mem_append.mp h).elim (fun h => in_wsL_law0_r14 w h) (fun h => in_wsL_law0_r15 w h))))))))))))))) (fun h => in_wsX00 w h)) (fun h => nomatch h)
theorem wsL_law_x0 : ∀ w ∈ (vx_atS RX0 192 "java/lang/IllegalArgumentException" ["java/lang/RuntimeException", "java/lang/Exception"]).filter goodWord, w ∈ lw_tbl := by decide +kernel
theorem wsL_law_x1 : ∀ w ∈ (vx_atS RX0 185 "java/lang/IndexOutOfBoundsException" ["java/lang/RuntimeException", "java/lang/Exception"]).filter goodWord, w ∈ lw_tbl := by decide +kernel
theorem wsL_law_x2 : ∀ w ∈ (vx_atS RX0 197 "java/lang/IllegalStateException" ["java/lang/RuntimeException", "java/lang/Exception"]).filter goodWord, w ∈ lw_tbl := by decide +kernel
theorem wsL_law_in : ∀ w ∈ wsL_law, w ∈ lw_tbl := fun w h => (List.mem_append.mp h).elim (fun h => (List.mem_append.mp h).elim (fun h => (List.mem_append.mp h).elim (fun h => wsL_law_in0 w h) (fun h => wsL_law_x0 w h)) (fun h => wsL_law_x1 w h)) (fun h => wsL_law_x2 w h)
theorem inlX0 : ∀ w ∈ wsX00, w ∈ wsL_law := fun _ h => List.mem_append_left _ (List.mem_append_left _ (List.mem_append_left _ (List.mem_append_left _ (List.mem_append_right _ h))))
theorem inX0 : ∀ w ∈ wsX00, w ∈ lw_tbl := fun w h => wsL_law_in w (inlX0 w h)
theorem inX1 : ∀ w ∈ wsX10, w ∈ lw_tbl := by decide +kernel
theorem inJx145de : ∀ w ∈ wsJx145de0, w ∈ lw_tbl := by decide +kernel
theorem inJ6 : ∀ w ∈ wsJ60, w ∈ lw_tbl := by decide +kernel
theorem inJ9 : ∀ w ∈ wsJ90, w ∈ lw_tbl := by decide +kernel
theorem inJ0 : ∀ w ∈ wsJ00, w ∈ lw_tbl := by decide +kernel
theorem inJ7 : ∀ w ∈ wsJ70, w ∈ lw_tbl := by decide +kernel
end
section
set_option maxRecDepth 20000 in
theorem ggX0_init_J7_fill_53178 : GoodIn wsX0_init wsJ7_fill_53178 := goodIn_r _ [20] (by decide +kernel) (by decide +kernel)
set_option maxRecDepth 20000 in
theorem gX0_init_J7_fill_53178 : GoodIn wsX0_init (va_wsS RX0 47 yJ7_fill_53178 wsJ7_fill_53178) := goodIn_app (goodIn_of _ (by decide +kernel)) ggX0_init_J7_fill_53178
theorem dX0_init_0 : decode cX0_init 0 = .ok (.aload_n 0, 1) := by decide +kernel
theorem dX0_init_1 : decode cX0_init 1 = .ok (.invokespecial 1, 3) := by decide +kernel
theorem dX0_init_4 : decode cX0_init 4 = .ok (.aload_n 0, 1) := by decide +kernel
theorem dX0_init_5 : decode cX0_init 5 = .ok (.iconst 4, 1) := by decide +kernel
theorem dX0_init_6 : decode cX0_init 6 = .ok (.putfield 9, 3) := by decide +kernel
theorem dX0_init_9 : decode cX0_init 9 = .ok (.aload_n 0, 1) := by decide +kernel
theorem dX0_init_10 : decode cX0_init 10 = .ok (.iconst 0, 1) := by decide +kernel
theorem dX0_init_11 : decode cX0_init 11 = .ok (.putfield 13, 3) := by decide +kernel
theorem dX0_init_14 : decode cX0_init 14 = .ok (.aload_n 0, 1) := by decide +kernel
theorem dX0_init_15 : decode cX0_init 15 = .ok (.iconst 0, 1) := by decide +kernel
theorem dX0_init_16 : decode cX0_init 16 = .ok (.putfield 16, 3) := by decide +kernel
theorem dX0_init_19 : decode cX0_init 19 = .ok (.aload_n 0, 1) := by decide +kernel
theorem dX0_init_20 : decode cX0_init 20 = .ok (.bipush 6, 2) := by decide +kernel
theorem dX0_init_22 : decode cX0_init 22 = .ok (.newarray .int, 2) := by decide +kernel
theorem dX0_init_24 : decode cX0_init 24 = .ok (.putfield 19, 3) := by decide +kernel
theorem dX0_init_27 : decode cX0_init 27 = .ok (.aload_n 0, 1) := by decide +kernel
theorem dX0_init_28 : decode cX0_init 28 = .ok (.bipush 36, 2) := by decide +kernel
theorem dX0_init_30 : decode cX0_init 30 = .ok (.newarray .int, 2) := by decide +kernel
theorem dX0_init_32 : decode cX0_init 32 = .ok (.putfield 23, 3) := by decide +kernel
theorem dX0_init_35 : decode cX0_init 35 = .ok (.aload_n 0, 1) := by decide +kernel
theorem dX0_init_36 : decode cX0_init 36 = .ok (.bipush 12, 2) := by decide +kernel
theorem dX0_init_38 : decode cX0_init 38 = .ok (.newarray .int, 2) := by decide +kernel
theorem dX0_init_40 : decode cX0_init 40 = .ok (.putfield 26, 3) := by decide +kernel
theorem dX0_init_43 : decode cX0_init 43 = .ok (.aload_n 0, 1) := by decide +kernel
theorem dX0_init_44 : decode cX0_init 44 = .ok (.bipush 12, 2) := by decide +kernel
theorem dX0_init_46 : decode cX0_init 46 = .ok (.newarray .int, 2) := by decide +kernel
theorem dX0_init_48 : decode cX0_init 48 = .ok (.putfield 29, 3) := by decide +kernel
theorem dX0_init_51 : decode cX0_init 51 = .ok (.aload_n 0, 1) := by decide +kernel
theorem dX0_init_52 : decode cX0_init 52 = .ok (.bipush 6, 2) := by decide +kernel
theorem dX0_init_54 : decode cX0_init 54 = .ok (.newarray .int, 2) := by decide +kernel
theorem dX0_init_56 : decode cX0_init 56 = .ok (.putfield 32, 3) := by decide +kernel
theorem dX0_init_59 : decode cX0_init 59 = .ok (.aload_n 0, 1) := by decide +kernel
theorem dX0_init_60 : decode cX0_init 60 = .ok (.sipush 512, 3) := by decide +kernel
theorem dX0_init_63 : decode cX0_init 63 = .ok (.newarray .int, 2) := by decide +kernel
theorem dX0_init_65 : decode cX0_init 65 = .ok (.putfield 35, 3) := by decide +kernel
theorem dX0_init_68 : decode cX0_init 68 = .ok (.aload_n 0, 1) := by decide +kernel
theorem dX0_init_69 : decode cX0_init 69 = .ok (.bipush 6, 2) := by decide +kernel
theorem dX0_init_71 : decode cX0_init 71 = .ok (.newarray .int, 2) := by decide +kernel
theorem dX0_init_73 : decode cX0_init 73 = .ok (.putfield 38, 3) := by decide +kernel
theorem dX0_init_76 : decode cX0_init 76 = .ok (.aload_n 0, 1) := by decide +kernel
theorem dX0_init_77 : decode cX0_init 77 = .ok (.bipush 6, 2) := by decide +kernel
theorem dX0_init_79 : decode cX0_init 79 = .ok (.newarray .int, 2) := by decide +kernel
theorem dX0_init_81 : decode cX0_init 81 = .ok (.putfield 41, 3) := by decide +kernel
theorem dX0_init_84 : decode cX0_init 84 = .ok (.aload_n 0, 1) := by decide +kernel
theorem dX0_init_85 : decode cX0_init 85 = .ok (.bipush 6, 2) := by decide +kernel
theorem dX0_init_87 : decode cX0_init 87 = .ok (.newarray .int, 2) := by decide +kernel
theorem dX0_init_89 : decode cX0_init 89 = .ok (.putfield 44, 3) := by decide +kernel
theorem dX0_init_92 : decode cX0_init 92 = .ok (.aload_n 0, 1) := by decide +kernel
theorem dX0_init_93 : decode cX0_init 93 = .ok (.getfield 29, 3) := by decide +kernel
theorem dX0_init_96 : decode cX0_init 96 = .ok (.iconst 1, 1) := by decide +kernel
theorem dX0_init_97 : decode cX0_init 97 = .ok (.invokestatic 47, 3) := by decide +kernel
theorem dX0_init_100 : decode cX0_init 100 = .ok (.return_, 1) := by decide +kernel
set_option maxRecDepth 20000 in
theorem ggX0_elements_X0_isWithin : GoodIn wsX0_elements wsX0_isWithin := goodIn_r _ [12] (by decide +kernel) (by decide +kernel)
set_option maxRecDepth 20000 in
theorem gX0_elements_X0_isWithin : GoodIn wsX0_elements (va_wsS RX0 53 yX0_isWithin wsX0_isWithin) := goodIn_app (goodIn_of _ (by decide +kernel)) ggX0_elements_X0_isWithin
set_option maxRecDepth 20000 in
theorem ggX0_elements_X0_needArgument : GoodIn wsX0_elements wsX0_needArgument := goodIn_ca (goodIn_r _ [15, 16, 17] (by decide +kernel) (by decide +kernel)) (goodIn_sub (fun _ h => List.mem_cons_of_mem _ (List.mem_append_right _ h)) (by decide +kernel))
set_option maxRecDepth 20000 in
theorem gX0_elements_X0_needArgument : GoodIn wsX0_elements (va_wsS RX0 57 yX0_needArgument wsX0_needArgument) := goodIn_app (goodIn_of _ (by decide +kernel)) ggX0_elements_X0_needArgument
set_option maxRecDepth 20000 in
theorem ggX0_elements_J7_fill_53178 : GoodIn wsX0_elements wsJ7_fill_53178 := goodIn_r _ [21] (by decide +kernel) (by decide +kernel)
set_option maxRecDepth 20000 in
theorem gX0_elements_J7_fill_53178 : GoodIn wsX0_elements (va_wsS RX0 47 yJ7_fill_53178 wsJ7_fill_53178) := goodIn_app (goodIn_of _ (by decide +kernel)) ggX0_elements_J7_fill_53178
theorem dX0_elements_0 : decode cX0_elements 0 = .ok (.iload_n 1, 1) := by decide +kernel
theorem dX0_elements_1 : decode cX0_elements 1 = .ok (.iconst 1, 1) := by decide +kernel
theorem dX0_elements_2 : decode cX0_elements 2 = .ok (.bipush 6, 2) := by decide +kernel
theorem dX0_elements_4 : decode cX0_elements 4 = .ok (.invokestatic 53, 3) := by decide +kernel
theorem dX0_elements_7 : decode cX0_elements 7 = .ok (.invokestatic 57, 3) := by decide +kernel
theorem dX0_elements_10 : decode cX0_elements 10 = .ok (.aload_n 0, 1) := by decide +kernel
theorem dX0_elements_11 : decode cX0_elements 11 = .ok (.getfield 9, 3) := by decide +kernel
theorem dX0_elements_14 : decode cX0_elements 14 = .ok (.istore_n 2, 1) := by decide +kernel
theorem dX0_elements_15 : decode cX0_elements 15 = .ok (.aload_n 0, 1) := by decide +kernel
theorem dX0_elements_16 : decode cX0_elements 16 = .ok (.iload_n 1, 1) := by decide +kernel
theorem dX0_elements_17 : decode cX0_elements 17 = .ok (.putfield 9, 3) := by decide +kernel
theorem dX0_elements_20 : decode cX0_elements 20 = .ok (.aload_n 0, 1) := by decide +kernel
theorem dX0_elements_21 : decode cX0_elements 21 = .ok (.iconst 0, 1) := by decide +kernel
theorem dX0_elements_22 : decode cX0_elements 22 = .ok (.putfield 13, 3) := by decide +kernel
theorem dX0_elements_25 : decode cX0_elements 25 = .ok (.aload_n 0, 1) := by decide +kernel
theorem dX0_elements_26 : decode cX0_elements 26 = .ok (.iconst 0, 1) := by decide +kernel
theorem dX0_elements_27 : decode cX0_elements 27 = .ok (.putfield 16, 3) := by decide +kernel
theorem dX0_elements_30 : decode cX0_elements 30 = .ok (.aload_n 0, 1) := by decide +kernel
theorem dX0_elements_31 : decode cX0_elements 31 = .ok (.getfield 19, 3) := by decide +kernel
theorem dX0_elements_34 : decode cX0_elements 34 = .ok (.iconst 0, 1) := by decide +kernel
theorem dX0_elements_35 : decode cX0_elements 35 = .ok (.invokestatic 47, 3) := by decide +kernel
theorem dX0_elements_38 : decode cX0_elements 38 = .ok (.aload_n 0, 1) := by decide +kernel
theorem dX0_elements_39 : decode cX0_elements 39 = .ok (.getfield 23, 3) := by decide +kernel
theorem dX0_elements_42 : decode cX0_elements 42 = .ok (.iconst 0, 1) := by decide +kernel
theorem dX0_elements_43 : decode cX0_elements 43 = .ok (.invokestatic 47, 3) := by decide +kernel
theorem dX0_elements_46 : decode cX0_elements 46 = .ok (.aload_n 0, 1) := by decide +kernel
theorem dX0_elements_47 : decode cX0_elements 47 = .ok (.getfield 26, 3) := by decide +kernel
theorem dX0_elements_50 : decode cX0_elements 50 = .ok (.iconst 0, 1) := by decide +kernel
theorem dX0_elements_51 : decode cX0_elements 51 = .ok (.invokestatic 47, 3) := by decide +kernel
theorem dX0_elements_54 : decode cX0_elements 54 = .ok (.aload_n 0, 1) := by decide +kernel
theorem dX0_elements_55 : decode cX0_elements 55 = .ok (.getfield 29, 3) := by decide +kernel
theorem dX0_elements_58 : decode cX0_elements 58 = .ok (.iconst 1, 1) := by decide +kernel
theorem dX0_elements_59 : decode cX0_elements 59 = .ok (.invokestatic 47, 3) := by decide +kernel
theorem dX0_elements_62 : decode cX0_elements 62 = .ok (.aload_n 0, 1) := by decide +kernel
theorem dX0_elements_63 : decode cX0_elements 63 = .ok (.getfield 32, 3) := by decide +kernel
theorem dX0_elements_66 : decode cX0_elements 66 = .ok (.iconst 0, 1) := by decide +kernel
theorem dX0_elements_67 : decode cX0_elements 67 = .ok (.invokestatic 47, 3) := by decide +kernel
theorem dX0_elements_70 : decode cX0_elements 70 = .ok (.iload_n 2, 1) := by decide +kernel
theorem dX0_elements_71 : decode cX0_elements 71 = .ok (.ireturn, 1) := by decide +kernel
set_option maxRecDepth 20000 in
theorem ggX0_cover_X0_isElement : GoodIn wsX0_cover wsX0_isElement := goodIn_r _ [6, 7, 31, 32, 33, 34, 35, 36, 37, 38, 39, 40, 41, 42] (by decide +kernel) (by decide +kernel)
set_option maxRecDepth 20000 in
theorem gX0_cover_X0_isElement : GoodIn wsX0_cover (wsV RX0 61 RX0 yX0_isElement wsX0_isElement) := goodIn_app (goodIn_of _ (by decide +kernel)) ggX0_cover_X0_isElement
set_option maxRecDepth 20000 in
theorem ggX0_cover_X0_isWithin : GoodIn wsX0_cover wsX0_isWithin := goodIn_r _ [10] (by decide +kernel) (by decide +kernel)
set_option maxRecDepth 20000 in
theorem gX0_cover_X0_isWithin : GoodIn wsX0_cover (va_wsS RX0 53 yX0_isWithin wsX0_isWithin) := goodIn_app (goodIn_of _ (by decide +kernel)) ggX0_cover_X0_isWithin
set_option maxRecDepth 20000 in
theorem ggX0_cover_X0_needIndex : GoodIn wsX0_cover wsX0_needIndex := goodIn_ca (goodIn_r _ [13, 14, 15] (by decide +kernel) (by decide +kernel)) (goodIn_sub (fun _ h => List.mem_cons_of_mem _ (List.mem_append_right _ h)) (by decide +kernel))
set_option maxRecDepth 20000 in
theorem gX0_cover_X0_needIndex : GoodIn wsX0_cover (va_wsS RX0 65 yX0_needIndex wsX0_needIndex) := goodIn_app (goodIn_of _ (by decide +kernel)) ggX0_cover_X0_needIndex
set_option maxRecDepth 20000 in
theorem ggX0_cover_X0_at : GoodIn wsX0_cover wsX0_at := goodIn_r _ [18] (by decide +kernel) (by decide +kernel)
set_option maxRecDepth 20000 in
theorem gX0_cover_X0_at : GoodIn wsX0_cover (va_wsS RX0 68 yX0_at wsX0_at) := goodIn_app (goodIn_of _ (by decide +kernel)) ggX0_cover_X0_at
set_option maxRecDepth 20000 in
theorem ggX0_cover_X0_with : GoodIn wsX0_cover wsX0_with := goodIn_r _ [21] (by decide +kernel) (by decide +kernel)
set_option maxRecDepth 20000 in
theorem gX0_cover_X0_with : GoodIn wsX0_cover (va_wsS RX0 72 yX0_with wsX0_with) := goodIn_app (goodIn_of _ (by decide +kernel)) ggX0_cover_X0_with
set_option maxRecDepth 20000 in
theorem ggX0_cover_X0_without : GoodIn wsX0_cover wsX0_without := goodIn_r _ [24] (by decide +kernel) (by decide +kernel)
set_option maxRecDepth 20000 in
theorem gX0_cover_X0_without : GoodIn wsX0_cover (va_wsS RX0 76 yX0_without wsX0_without) := goodIn_app (goodIn_of _ (by decide +kernel)) ggX0_cover_X0_without
set_option maxRecDepth 20000 in
theorem ggX0_cover_X0_put : GoodIn wsX0_cover wsX0_put := goodIn_r _ [27] (by decide +kernel) (by decide +kernel)
set_option maxRecDepth 20000 in
theorem gX0_cover_X0_put : GoodIn wsX0_cover (va_wsS RX0 79 yX0_put wsX0_put) := goodIn_app (goodIn_of _ (by decide +kernel)) ggX0_cover_X0_put
set_option maxRecDepth 20000 in
theorem ggX0_cover_X0_has : GoodIn wsX0_cover wsX0_has := goodIn_r _ [30] (by decide +kernel) (by decide +kernel)
set_option maxRecDepth 20000 in
theorem gX0_cover_X0_has : GoodIn wsX0_cover (va_wsS RX0 83 yX0_has wsX0_has) := goodIn_app (goodIn_of _ (by decide +kernel)) ggX0_cover_X0_has
theorem dX0_cover_0 : decode cX0_cover 0 = .ok (.aload_n 0, 1) := by decide +kernel
theorem dX0_cover_1 : decode cX0_cover 1 = .ok (.iload_n 1, 1) := by decide +kernel
theorem dX0_cover_2 : decode cX0_cover 2 = .ok (.invokevirtual 61, 3) := by decide +kernel
theorem dX0_cover_5 : decode cX0_cover 5 = .ok (.ifCond .eq 17, 3) := by decide +kernel
theorem dX0_cover_8 : decode cX0_cover 8 = .ok (.iload_n 2, 1) := by decide +kernel
theorem dX0_cover_9 : decode cX0_cover 9 = .ok (.iconst 0, 1) := by decide +kernel
theorem dX0_cover_10 : decode cX0_cover 10 = .ok (.bipush 9, 2) := by decide +kernel
theorem dX0_cover_12 : decode cX0_cover 12 = .ok (.invokestatic 53, 3) := by decide +kernel
theorem dX0_cover_15 : decode cX0_cover 15 = .ok (.ifCond .eq 7, 3) := by decide +kernel
theorem dX0_cover_18 : decode cX0_cover 18 = .ok (.iconst 1, 1) := by decide +kernel
theorem dX0_cover_19 : decode cX0_cover 19 = .ok (.goto 4, 3) := by decide +kernel
theorem dX0_cover_22 : decode cX0_cover 22 = .ok (.iconst 0, 1) := by decide +kernel
theorem dX0_cover_23 : decode cX0_cover 23 = .ok (.invokestatic 65, 3) := by decide +kernel
theorem dX0_cover_26 : decode cX0_cover 26 = .ok (.aload_n 0, 1) := by decide +kernel
theorem dX0_cover_27 : decode cX0_cover 27 = .ok (.getfield 19, 3) := by decide +kernel
theorem dX0_cover_30 : decode cX0_cover 30 = .ok (.iload_n 1, 1) := by decide +kernel
theorem dX0_cover_31 : decode cX0_cover 31 = .ok (.invokestatic 68, 3) := by decide +kernel
theorem dX0_cover_34 : decode cX0_cover 34 = .ok (.istore 4, 2) := by decide +kernel
theorem dX0_cover_36 : decode cX0_cover 36 = .ok (.aload_n 0, 1) := by decide +kernel
theorem dX0_cover_37 : decode cX0_cover 37 = .ok (.getfield 19, 3) := by decide +kernel
theorem dX0_cover_40 : decode cX0_cover 40 = .ok (.iload_n 1, 1) := by decide +kernel
theorem dX0_cover_41 : decode cX0_cover 41 = .ok (.iload_n 3, 1) := by decide +kernel
theorem dX0_cover_42 : decode cX0_cover 42 = .ok (.ifCond .eq 12, 3) := by decide +kernel
theorem dX0_cover_45 : decode cX0_cover 45 = .ok (.iload 4, 2) := by decide +kernel
theorem dX0_cover_47 : decode cX0_cover 47 = .ok (.iload_n 2, 1) := by decide +kernel
theorem dX0_cover_48 : decode cX0_cover 48 = .ok (.invokestatic 72, 3) := by decide +kernel
theorem dX0_cover_51 : decode cX0_cover 51 = .ok (.goto 9, 3) := by decide +kernel
theorem dX0_cover_54 : decode cX0_cover 54 = .ok (.iload 4, 2) := by decide +kernel
theorem dX0_cover_56 : decode cX0_cover 56 = .ok (.iload_n 2, 1) := by decide +kernel
theorem dX0_cover_57 : decode cX0_cover 57 = .ok (.invokestatic 76, 3) := by decide +kernel
theorem dX0_cover_60 : decode cX0_cover 60 = .ok (.invokestatic 79, 3) := by decide +kernel
theorem dX0_cover_63 : decode cX0_cover 63 = .ok (.iload 4, 2) := by decide +kernel
theorem dX0_cover_65 : decode cX0_cover 65 = .ok (.iload_n 2, 1) := by decide +kernel
theorem dX0_cover_66 : decode cX0_cover 66 = .ok (.invokestatic 83, 3) := by decide +kernel
theorem dX0_cover_69 : decode cX0_cover 69 = .ok (.ireturn, 1) := by decide +kernel
set_option maxRecDepth 20000 in
theorem ggX0_edge_X0_isElement : GoodIn wsX0_edge wsX0_isElement := goodIn_r _ [6, 7, 31, 32, 33, 34, 35, 36, 37, 38, 39, 40, 41, 42] (by decide +kernel) (by decide +kernel)
set_option maxRecDepth 20000 in
theorem gX0_edge_X0_isElement : GoodIn wsX0_edge (wsV RX0 61 RX0 yX0_isElement wsX0_isElement) := goodIn_app (goodIn_of _ (by decide +kernel)) ggX0_edge_X0_isElement
set_option maxRecDepth 20000 in
theorem ggX0_edge_X0_needIndex : GoodIn wsX0_edge wsX0_needIndex := goodIn_ca (goodIn_r _ [10, 11, 12] (by decide +kernel) (by decide +kernel)) (goodIn_sub (fun _ h => List.mem_cons_of_mem _ (List.mem_append_left _ (List.mem_append_right _ h))) (by decide +kernel))
set_option maxRecDepth 20000 in
theorem gX0_edge_X0_needIndex : GoodIn wsX0_edge (va_wsS RX0 65 yX0_needIndex wsX0_needIndex) := goodIn_app (goodIn_of _ (by decide +kernel)) ggX0_edge_X0_needIndex
set_option maxRecDepth 20000 in
theorem ggX0_edge_X0_isWithin : GoodIn wsX0_edge wsX0_isWithin := goodIn_r _ [15] (by decide +kernel) (by decide +kernel)
set_option maxRecDepth 20000 in
theorem gX0_edge_X0_isWithin : GoodIn wsX0_edge (va_wsS RX0 53 yX0_isWithin wsX0_isWithin) := goodIn_app (goodIn_of _ (by decide +kernel)) ggX0_edge_X0_isWithin
set_option maxRecDepth 20000 in
theorem ggX0_edge_X0_needArgument : GoodIn wsX0_edge wsX0_needArgument := goodIn_ca (goodIn_r _ [18, 19, 20] (by decide +kernel) (by decide +kernel)) (goodIn_sub (fun _ h => List.mem_cons_of_mem _ (List.mem_append_right _ h)) (by decide +kernel))
set_option maxRecDepth 20000 in
theorem gX0_edge_X0_needArgument : GoodIn wsX0_edge (va_wsS RX0 57 yX0_needArgument wsX0_needArgument) := goodIn_app (goodIn_of _ (by decide +kernel)) ggX0_edge_X0_needArgument
set_option maxRecDepth 20000 in
theorem ggX0_edge_X0_edgeWeight : GoodIn wsX0_edge wsX0_edgeWeight := goodIn_r _ [24, 1, 25, 26, 5, 27, 31, 32, 33, 34, 35, 36, 37, 38, 39, 40, 41, 42] (by decide +kernel) (by decide +kernel)
set_option maxRecDepth 20000 in
theorem gX0_edge_X0_edgeWeight : GoodIn wsX0_edge (wsV RX0 87 RX0 yX0_edgeWeight wsX0_edgeWeight) := goodIn_app (goodIn_of _ (by decide +kernel)) ggX0_edge_X0_edgeWeight
set_option maxRecDepth 20000 in
theorem ggX0_edge_X0_put : GoodIn wsX0_edge wsX0_put := goodIn_r _ [30] (by decide +kernel) (by decide +kernel)
set_option maxRecDepth 20000 in
theorem gX0_edge_X0_put : GoodIn wsX0_edge (va_wsS RX0 79 yX0_put wsX0_put) := goodIn_app (goodIn_of _ (by decide +kernel)) ggX0_edge_X0_put
theorem dX0_edge_0 : decode cX0_edge 0 = .ok (.aload_n 0, 1) := by decide +kernel
theorem dX0_edge_1 : decode cX0_edge 1 = .ok (.iload_n 1, 1) := by decide +kernel
theorem dX0_edge_2 : decode cX0_edge 2 = .ok (.invokevirtual 61, 3) := by decide +kernel
theorem dX0_edge_5 : decode cX0_edge 5 = .ok (.ifCond .eq 15, 3) := by decide +kernel
theorem dX0_edge_8 : decode cX0_edge 8 = .ok (.aload_n 0, 1) := by decide +kernel
theorem dX0_edge_9 : decode cX0_edge 9 = .ok (.iload_n 2, 1) := by decide +kernel
theorem dX0_edge_10 : decode cX0_edge 10 = .ok (.invokevirtual 61, 3) := by decide +kernel
theorem dX0_edge_13 : decode cX0_edge 13 = .ok (.ifCond .eq 7, 3) := by decide +kernel
theorem dX0_edge_16 : decode cX0_edge 16 = .ok (.iconst 1, 1) := by decide +kernel
theorem dX0_edge_17 : decode cX0_edge 17 = .ok (.goto 4, 3) := by decide +kernel
theorem dX0_edge_20 : decode cX0_edge 20 = .ok (.iconst 0, 1) := by decide +kernel
theorem dX0_edge_21 : decode cX0_edge 21 = .ok (.invokestatic 65, 3) := by decide +kernel
theorem dX0_edge_24 : decode cX0_edge 24 = .ok (.iload_n 1, 1) := by decide +kernel
theorem dX0_edge_25 : decode cX0_edge 25 = .ok (.iload_n 2, 1) := by decide +kernel
theorem dX0_edge_26 : decode cX0_edge 26 = .ok (.if_icmp .eq 17, 3) := by decide +kernel
theorem dX0_edge_29 : decode cX0_edge 29 = .ok (.iload_n 3, 1) := by decide +kernel
theorem dX0_edge_30 : decode cX0_edge 30 = .ok (.iconst 0, 1) := by decide +kernel
theorem dX0_edge_31 : decode cX0_edge 31 = .ok (.bipush 20, 2) := by decide +kernel
theorem dX0_edge_33 : decode cX0_edge 33 = .ok (.invokestatic 53, 3) := by decide +kernel
theorem dX0_edge_36 : decode cX0_edge 36 = .ok (.ifCond .eq 7, 3) := by decide +kernel
theorem dX0_edge_39 : decode cX0_edge 39 = .ok (.iconst 1, 1) := by decide +kernel
theorem dX0_edge_40 : decode cX0_edge 40 = .ok (.goto 4, 3) := by decide +kernel
theorem dX0_edge_43 : decode cX0_edge 43 = .ok (.iconst 0, 1) := by decide +kernel
theorem dX0_edge_44 : decode cX0_edge 44 = .ok (.invokestatic 57, 3) := by decide +kernel
theorem dX0_edge_47 : decode cX0_edge 47 = .ok (.aload_n 0, 1) := by decide +kernel
theorem dX0_edge_48 : decode cX0_edge 48 = .ok (.iload_n 1, 1) := by decide +kernel
theorem dX0_edge_49 : decode cX0_edge 49 = .ok (.iload_n 2, 1) := by decide +kernel
theorem dX0_edge_50 : decode cX0_edge 50 = .ok (.invokevirtual 87, 3) := by decide +kernel
theorem dX0_edge_53 : decode cX0_edge 53 = .ok (.istore 4, 2) := by decide +kernel
theorem dX0_edge_55 : decode cX0_edge 55 = .ok (.aload_n 0, 1) := by decide +kernel
theorem dX0_edge_56 : decode cX0_edge 56 = .ok (.getfield 23, 3) := by decide +kernel
theorem dX0_edge_59 : decode cX0_edge 59 = .ok (.iload_n 1, 1) := by decide +kernel
theorem dX0_edge_60 : decode cX0_edge 60 = .ok (.bipush 6, 2) := by decide +kernel
theorem dX0_edge_62 : decode cX0_edge 62 = .ok (.imul, 1) := by decide +kernel
theorem dX0_edge_63 : decode cX0_edge 63 = .ok (.iload_n 2, 1) := by decide +kernel
theorem dX0_edge_64 : decode cX0_edge 64 = .ok (.iadd, 1) := by decide +kernel
theorem dX0_edge_65 : decode cX0_edge 65 = .ok (.iload_n 3, 1) := by decide +kernel
theorem dX0_edge_66 : decode cX0_edge 66 = .ok (.invokestatic 79, 3) := by decide +kernel
theorem dX0_edge_69 : decode cX0_edge 69 = .ok (.aload_n 0, 1) := by decide +kernel
theorem dX0_edge_70 : decode cX0_edge 70 = .ok (.getfield 23, 3) := by decide +kernel
theorem dX0_edge_73 : decode cX0_edge 73 = .ok (.iload_n 2, 1) := by decide +kernel
theorem dX0_edge_74 : decode cX0_edge 74 = .ok (.bipush 6, 2) := by decide +kernel
theorem dX0_edge_76 : decode cX0_edge 76 = .ok (.imul, 1) := by decide +kernel
theorem dX0_edge_77 : decode cX0_edge 77 = .ok (.iload_n 1, 1) := by decide +kernel
theorem dX0_edge_78 : decode cX0_edge 78 = .ok (.iadd, 1) := by decide +kernel
theorem dX0_edge_79 : decode cX0_edge 79 = .ok (.iload_n 3, 1) := by decide +kernel
theorem dX0_edge_80 : decode cX0_edge 80 = .ok (.invokestatic 79, 3) := by decide +kernel
theorem dX0_edge_83 : decode cX0_edge 83 = .ok (.iload 4, 2) := by decide +kernel
theorem dX0_edge_85 : decode cX0_edge 85 = .ok (.ireturn, 1) := by decide +kernel
set_option maxRecDepth 20000 in
theorem ggX0_colour_X0_isFamily : GoodIn wsX0_colour wsX0_isFamily := goodIn_r _ [5] (by decide +kernel) (by decide +kernel)
set_option maxRecDepth 20000 in
theorem gX0_colour_X0_isFamily : GoodIn wsX0_colour (va_wsS RX0 90 yX0_isFamily wsX0_isFamily) := goodIn_app (goodIn_of _ (by decide +kernel)) ggX0_colour_X0_isFamily
set_option maxRecDepth 20000 in
theorem ggX0_colour_X0_isElement : GoodIn wsX0_colour wsX0_isElement := goodIn_r _ [9, 10, 29, 30, 31, 32, 33, 34, 35, 36, 37, 38, 39, 40] (by decide +kernel) (by decide +kernel)
set_option maxRecDepth 20000 in
theorem gX0_colour_X0_isElement : GoodIn wsX0_colour (wsV RX0 61 RX0 yX0_isElement wsX0_isElement) := goodIn_app (goodIn_of _ (by decide +kernel)) ggX0_colour_X0_isElement
set_option maxRecDepth 20000 in
theorem ggX0_colour_X0_isColour : GoodIn wsX0_colour wsX0_isColour := goodIn_r _ [13] (by decide +kernel) (by decide +kernel)
set_option maxRecDepth 20000 in
theorem gX0_colour_X0_isColour : GoodIn wsX0_colour (va_wsS RX0 93 yX0_isColour wsX0_isColour) := goodIn_app (goodIn_of _ (by decide +kernel)) ggX0_colour_X0_isColour
set_option maxRecDepth 20000 in
theorem ggX0_colour_X0_needIndex : GoodIn wsX0_colour wsX0_needIndex := goodIn_ca (goodIn_r _ [16, 17, 18] (by decide +kernel) (by decide +kernel)) (goodIn_sub (fun _ h => List.mem_cons_of_mem _ (List.mem_append_right _ h)) (by decide +kernel))
set_option maxRecDepth 20000 in
theorem gX0_colour_X0_needIndex : GoodIn wsX0_colour (va_wsS RX0 65 yX0_needIndex wsX0_needIndex) := goodIn_app (goodIn_of _ (by decide +kernel)) ggX0_colour_X0_needIndex
set_option maxRecDepth 20000 in
theorem ggX0_colour_X0_colourOf : GoodIn wsX0_colour wsX0_colourOf := goodIn_r _ [22, 1, 23, 24, 4, 25, 29, 30, 31, 32, 33, 34, 35, 36, 37, 38, 39, 40] (by decide +kernel) (by decide +kernel)
set_option maxRecDepth 20000 in
theorem gX0_colour_X0_colourOf : GoodIn wsX0_colour (wsV RX0 96 RX0 yX0_colourOf wsX0_colourOf) := goodIn_app (goodIn_of _ (by decide +kernel)) ggX0_colour_X0_colourOf
set_option maxRecDepth 20000 in
theorem ggX0_colour_X0_put : GoodIn wsX0_colour wsX0_put := goodIn_r _ [28] (by decide +kernel) (by decide +kernel)
set_option maxRecDepth 20000 in
theorem gX0_colour_X0_put : GoodIn wsX0_colour (va_wsS RX0 79 yX0_put wsX0_put) := goodIn_app (goodIn_of _ (by decide +kernel)) ggX0_colour_X0_put
theorem dX0_colour_0 : decode cX0_colour 0 = .ok (.iload_n 1, 1) := by decide +kernel
theorem dX0_colour_1 : decode cX0_colour 1 = .ok (.invokestatic 90, 3) := by decide +kernel
theorem dX0_colour_4 : decode cX0_colour 4 = .ok (.ifCond .eq 22, 3) := by decide +kernel
theorem dX0_colour_7 : decode cX0_colour 7 = .ok (.aload_n 0, 1) := by decide +kernel
theorem dX0_colour_8 : decode cX0_colour 8 = .ok (.iload_n 2, 1) := by decide +kernel
theorem dX0_colour_9 : decode cX0_colour 9 = .ok (.invokevirtual 61, 3) := by decide +kernel
theorem dX0_colour_12 : decode cX0_colour 12 = .ok (.ifCond .eq 14, 3) := by decide +kernel
theorem dX0_colour_15 : decode cX0_colour 15 = .ok (.iload_n 3, 1) := by decide +kernel
theorem dX0_colour_16 : decode cX0_colour 16 = .ok (.invokestatic 93, 3) := by decide +kernel
theorem dX0_colour_19 : decode cX0_colour 19 = .ok (.ifCond .eq 7, 3) := by decide +kernel
theorem dX0_colour_22 : decode cX0_colour 22 = .ok (.iconst 1, 1) := by decide +kernel
theorem dX0_colour_23 : decode cX0_colour 23 = .ok (.goto 4, 3) := by decide +kernel
theorem dX0_colour_26 : decode cX0_colour 26 = .ok (.iconst 0, 1) := by decide +kernel
theorem dX0_colour_27 : decode cX0_colour 27 = .ok (.invokestatic 65, 3) := by decide +kernel
theorem dX0_colour_30 : decode cX0_colour 30 = .ok (.aload_n 0, 1) := by decide +kernel
theorem dX0_colour_31 : decode cX0_colour 31 = .ok (.iload_n 1, 1) := by decide +kernel
theorem dX0_colour_32 : decode cX0_colour 32 = .ok (.iload_n 2, 1) := by decide +kernel
theorem dX0_colour_33 : decode cX0_colour 33 = .ok (.invokevirtual 96, 3) := by decide +kernel
theorem dX0_colour_36 : decode cX0_colour 36 = .ok (.istore 4, 2) := by decide +kernel
theorem dX0_colour_38 : decode cX0_colour 38 = .ok (.aload_n 0, 1) := by decide +kernel
theorem dX0_colour_39 : decode cX0_colour 39 = .ok (.getfield 26, 3) := by decide +kernel
theorem dX0_colour_42 : decode cX0_colour 42 = .ok (.iload_n 1, 1) := by decide +kernel
theorem dX0_colour_43 : decode cX0_colour 43 = .ok (.bipush 6, 2) := by decide +kernel
theorem dX0_colour_45 : decode cX0_colour 45 = .ok (.imul, 1) := by decide +kernel
theorem dX0_colour_46 : decode cX0_colour 46 = .ok (.iload_n 2, 1) := by decide +kernel
theorem dX0_colour_47 : decode cX0_colour 47 = .ok (.iadd, 1) := by decide +kernel
theorem dX0_colour_48 : decode cX0_colour 48 = .ok (.iload_n 3, 1) := by decide +kernel
theorem dX0_colour_49 : decode cX0_colour 49 = .ok (.invokestatic 79, 3) := by decide +kernel
theorem dX0_colour_52 : decode cX0_colour 52 = .ok (.iload 4, 2) := by decide +kernel
theorem dX0_colour_54 : decode cX0_colour 54 = .ok (.ireturn, 1) := by decide +kernel
set_option maxRecDepth 20000 in
theorem ggX0_room_X0_isFamily : GoodIn wsX0_room wsX0_isFamily := goodIn_r _ [5] (by decide +kernel) (by decide +kernel)
set_option maxRecDepth 20000 in
theorem gX0_room_X0_isFamily : GoodIn wsX0_room (va_wsS RX0 90 yX0_isFamily wsX0_isFamily) := goodIn_app (goodIn_of _ (by decide +kernel)) ggX0_room_X0_isFamily
set_option maxRecDepth 20000 in
theorem ggX0_room_X0_isColour : GoodIn wsX0_room wsX0_isColour := goodIn_r _ [8] (by decide +kernel) (by decide +kernel)
set_option maxRecDepth 20000 in
theorem gX0_room_X0_isColour : GoodIn wsX0_room (va_wsS RX0 93 yX0_isColour wsX0_isColour) := goodIn_app (goodIn_of _ (by decide +kernel)) ggX0_room_X0_isColour
set_option maxRecDepth 20000 in
theorem ggX0_room_X0_needIndex : GoodIn wsX0_room wsX0_needIndex := goodIn_ca (goodIn_r _ [11, 12, 13] (by decide +kernel) (by decide +kernel)) (goodIn_sub (fun _ h => List.mem_cons_of_mem _ (List.mem_append_left _ (List.mem_append_right _ h))) (by decide +kernel))
set_option maxRecDepth 20000 in
theorem gX0_room_X0_needIndex : GoodIn wsX0_room (va_wsS RX0 65 yX0_needIndex wsX0_needIndex) := goodIn_app (goodIn_of _ (by decide +kernel)) ggX0_room_X0_needIndex
set_option maxRecDepth 20000 in
theorem ggX0_room_X0_isWithin : GoodIn wsX0_room wsX0_isWithin := goodIn_r _ [16] (by decide +kernel) (by decide +kernel)
set_option maxRecDepth 20000 in
theorem gX0_room_X0_isWithin : GoodIn wsX0_room (va_wsS RX0 53 yX0_isWithin wsX0_isWithin) := goodIn_app (goodIn_of _ (by decide +kernel)) ggX0_room_X0_isWithin
set_option maxRecDepth 20000 in
theorem ggX0_room_X0_needArgument : GoodIn wsX0_room wsX0_needArgument := goodIn_ca (goodIn_r _ [19, 20, 21] (by decide +kernel) (by decide +kernel)) (goodIn_sub (fun _ h => List.mem_cons_of_mem _ (List.mem_append_right _ h)) (by decide +kernel))
set_option maxRecDepth 20000 in
theorem gX0_room_X0_needArgument : GoodIn wsX0_room (va_wsS RX0 57 yX0_needArgument wsX0_needArgument) := goodIn_app (goodIn_of _ (by decide +kernel)) ggX0_room_X0_needArgument
set_option maxRecDepth 20000 in
theorem ggX0_room_X0_roomOf : GoodIn wsX0_room wsX0_roomOf := goodIn_r _ [25, 1, 26, 27, 4, 28, 32, 33, 34, 35, 36, 37, 38, 39, 40, 41, 42, 43] (by decide +kernel) (by decide +kernel)
set_option maxRecDepth 20000 in
theorem gX0_room_X0_roomOf : GoodIn wsX0_room (wsV RX0 99 RX0 yX0_roomOf wsX0_roomOf) := goodIn_app (goodIn_of _ (by decide +kernel)) ggX0_room_X0_roomOf
set_option maxRecDepth 20000 in
theorem ggX0_room_X0_put : GoodIn wsX0_room wsX0_put := goodIn_r _ [31] (by decide +kernel) (by decide +kernel)
set_option maxRecDepth 20000 in
theorem gX0_room_X0_put : GoodIn wsX0_room (va_wsS RX0 79 yX0_put wsX0_put) := goodIn_app (goodIn_of _ (by decide +kernel)) ggX0_room_X0_put
theorem dX0_room_0 : decode cX0_room 0 = .ok (.iload_n 1, 1) := by decide +kernel
theorem dX0_room_1 : decode cX0_room 1 = .ok (.invokestatic 90, 3) := by decide +kernel
theorem dX0_room_4 : decode cX0_room 4 = .ok (.ifCond .eq 14, 3) := by decide +kernel
theorem dX0_room_7 : decode cX0_room 7 = .ok (.iload_n 2, 1) := by decide +kernel
theorem dX0_room_8 : decode cX0_room 8 = .ok (.invokestatic 93, 3) := by decide +kernel
theorem dX0_room_11 : decode cX0_room 11 = .ok (.ifCond .eq 7, 3) := by decide +kernel
theorem dX0_room_14 : decode cX0_room 14 = .ok (.iconst 1, 1) := by decide +kernel
theorem dX0_room_15 : decode cX0_room 15 = .ok (.goto 4, 3) := by decide +kernel
theorem dX0_room_18 : decode cX0_room 18 = .ok (.iconst 0, 1) := by decide +kernel
theorem dX0_room_19 : decode cX0_room 19 = .ok (.invokestatic 65, 3) := by decide +kernel
theorem dX0_room_22 : decode cX0_room 22 = .ok (.iload_n 3, 1) := by decide +kernel
theorem dX0_room_23 : decode cX0_room 23 = .ok (.iconst 0, 1) := by decide +kernel
theorem dX0_room_24 : decode cX0_room 24 = .ok (.bipush 6, 2) := by decide +kernel
theorem dX0_room_26 : decode cX0_room 26 = .ok (.invokestatic 53, 3) := by decide +kernel
theorem dX0_room_29 : decode cX0_room 29 = .ok (.invokestatic 57, 3) := by decide +kernel
theorem dX0_room_32 : decode cX0_room 32 = .ok (.aload_n 0, 1) := by decide +kernel
theorem dX0_room_33 : decode cX0_room 33 = .ok (.iload_n 1, 1) := by decide +kernel
theorem dX0_room_34 : decode cX0_room 34 = .ok (.iload_n 2, 1) := by decide +kernel
theorem dX0_room_35 : decode cX0_room 35 = .ok (.invokevirtual 99, 3) := by decide +kernel
theorem dX0_room_38 : decode cX0_room 38 = .ok (.istore 4, 2) := by decide +kernel
theorem dX0_room_40 : decode cX0_room 40 = .ok (.aload_n 0, 1) := by decide +kernel
theorem dX0_room_41 : decode cX0_room 41 = .ok (.getfield 29, 3) := by decide +kernel
theorem dX0_room_44 : decode cX0_room 44 = .ok (.iload_n 1, 1) := by decide +kernel
theorem dX0_room_45 : decode cX0_room 45 = .ok (.bipush 6, 2) := by decide +kernel
theorem dX0_room_47 : decode cX0_room 47 = .ok (.imul, 1) := by decide +kernel
theorem dX0_room_48 : decode cX0_room 48 = .ok (.iload_n 2, 1) := by decide +kernel
theorem dX0_room_49 : decode cX0_room 49 = .ok (.iadd, 1) := by decide +kernel
theorem dX0_room_50 : decode cX0_room 50 = .ok (.iload_n 3, 1) := by decide +kernel
theorem dX0_room_51 : decode cX0_room 51 = .ok (.invokestatic 79, 3) := by decide +kernel
theorem dX0_room_54 : decode cX0_room 54 = .ok (.iload 4, 2) := by decide +kernel
theorem dX0_room_56 : decode cX0_room 56 = .ok (.ireturn, 1) := by decide +kernel
set_option maxRecDepth 20000 in
theorem ggX0_weigh_X0_isElement : GoodIn wsX0_weigh wsX0_isElement := goodIn_r _ [6, 7, 27, 28, 29, 30, 31, 32, 33, 34, 35, 36, 37, 38] (by decide +kernel) (by decide +kernel)
set_option maxRecDepth 20000 in
theorem gX0_weigh_X0_isElement : GoodIn wsX0_weigh (wsV RX0 61 RX0 yX0_isElement wsX0_isElement) := goodIn_app (goodIn_of _ (by decide +kernel)) ggX0_weigh_X0_isElement
set_option maxRecDepth 20000 in
theorem ggX0_weigh_X0_needIndex : GoodIn wsX0_weigh wsX0_needIndex := goodIn_ca (goodIn_r _ [10, 11, 12] (by decide +kernel) (by decide +kernel)) (goodIn_sub (fun _ h => List.mem_cons_of_mem _ (List.mem_append_left _ (List.mem_append_right _ h))) (by decide +kernel))
set_option maxRecDepth 20000 in
theorem gX0_weigh_X0_needIndex : GoodIn wsX0_weigh (va_wsS RX0 65 yX0_needIndex wsX0_needIndex) := goodIn_app (goodIn_of _ (by decide +kernel)) ggX0_weigh_X0_needIndex
set_option maxRecDepth 20000 in
theorem ggX0_weigh_X0_isWithin : GoodIn wsX0_weigh wsX0_isWithin := goodIn_r _ [15] (by decide +kernel) (by decide +kernel)
set_option maxRecDepth 20000 in
theorem gX0_weigh_X0_isWithin : GoodIn wsX0_weigh (va_wsS RX0 53 yX0_isWithin wsX0_isWithin) := goodIn_app (goodIn_of _ (by decide +kernel)) ggX0_weigh_X0_isWithin
set_option maxRecDepth 20000 in
theorem ggX0_weigh_X0_needArgument : GoodIn wsX0_weigh wsX0_needArgument := goodIn_ca (goodIn_r _ [18, 19, 20] (by decide +kernel) (by decide +kernel)) (goodIn_sub (fun _ h => List.mem_cons_of_mem _ (List.mem_append_right _ h)) (by decide +kernel))
set_option maxRecDepth 20000 in
theorem gX0_weigh_X0_needArgument : GoodIn wsX0_weigh (va_wsS RX0 57 yX0_needArgument wsX0_needArgument) := goodIn_app (goodIn_of _ (by decide +kernel)) ggX0_weigh_X0_needArgument
set_option maxRecDepth 20000 in
theorem ggX0_weigh_X0_at : GoodIn wsX0_weigh wsX0_at := goodIn_r _ [23] (by decide +kernel) (by decide +kernel)
set_option maxRecDepth 20000 in
theorem gX0_weigh_X0_at : GoodIn wsX0_weigh (va_wsS RX0 68 yX0_at wsX0_at) := goodIn_app (goodIn_of _ (by decide +kernel)) ggX0_weigh_X0_at
set_option maxRecDepth 20000 in
theorem ggX0_weigh_X0_put : GoodIn wsX0_weigh wsX0_put := goodIn_r _ [26] (by decide +kernel) (by decide +kernel)
set_option maxRecDepth 20000 in
theorem gX0_weigh_X0_put : GoodIn wsX0_weigh (va_wsS RX0 79 yX0_put wsX0_put) := goodIn_app (goodIn_of _ (by decide +kernel)) ggX0_weigh_X0_put
theorem dX0_weigh_0 : decode cX0_weigh 0 = .ok (.aload_n 0, 1) := by decide +kernel
theorem dX0_weigh_1 : decode cX0_weigh 1 = .ok (.iload_n 1, 1) := by decide +kernel
theorem dX0_weigh_2 : decode cX0_weigh 2 = .ok (.invokevirtual 61, 3) := by decide +kernel
theorem dX0_weigh_5 : decode cX0_weigh 5 = .ok (.invokestatic 65, 3) := by decide +kernel
theorem dX0_weigh_8 : decode cX0_weigh 8 = .ok (.iload_n 2, 1) := by decide +kernel
theorem dX0_weigh_9 : decode cX0_weigh 9 = .ok (.bipush (-20), 2) := by decide +kernel
theorem dX0_weigh_11 : decode cX0_weigh 11 = .ok (.bipush 20, 2) := by decide +kernel
theorem dX0_weigh_13 : decode cX0_weigh 13 = .ok (.invokestatic 53, 3) := by decide +kernel
theorem dX0_weigh_16 : decode cX0_weigh 16 = .ok (.invokestatic 57, 3) := by decide +kernel
theorem dX0_weigh_19 : decode cX0_weigh 19 = .ok (.aload_n 0, 1) := by decide +kernel
theorem dX0_weigh_20 : decode cX0_weigh 20 = .ok (.getfield 32, 3) := by decide +kernel
theorem dX0_weigh_23 : decode cX0_weigh 23 = .ok (.iload_n 1, 1) := by decide +kernel
theorem dX0_weigh_24 : decode cX0_weigh 24 = .ok (.invokestatic 68, 3) := by decide +kernel
theorem dX0_weigh_27 : decode cX0_weigh 27 = .ok (.istore_n 3, 1) := by decide +kernel
theorem dX0_weigh_28 : decode cX0_weigh 28 = .ok (.aload_n 0, 1) := by decide +kernel
theorem dX0_weigh_29 : decode cX0_weigh 29 = .ok (.getfield 32, 3) := by decide +kernel
theorem dX0_weigh_32 : decode cX0_weigh 32 = .ok (.iload_n 1, 1) := by decide +kernel
theorem dX0_weigh_33 : decode cX0_weigh 33 = .ok (.iload_n 2, 1) := by decide +kernel
theorem dX0_weigh_34 : decode cX0_weigh 34 = .ok (.invokestatic 79, 3) := by decide +kernel
theorem dX0_weigh_37 : decode cX0_weigh 37 = .ok (.iload_n 3, 1) := by decide +kernel
theorem dX0_weigh_38 : decode cX0_weigh 38 = .ok (.ireturn, 1) := by decide +kernel
set_option maxRecDepth 20000 in
theorem ggX0_make_X0_isWithin : GoodIn wsX0_make wsX0_isWithin := goodIn_r _ [4] (by decide +kernel) (by decide +kernel)
set_option maxRecDepth 20000 in
theorem gX0_make_X0_isWithin : GoodIn wsX0_make (va_wsS RX0 53 yX0_isWithin wsX0_isWithin) := goodIn_app (goodIn_of _ (by decide +kernel)) ggX0_make_X0_isWithin
set_option maxRecDepth 20000 in
theorem ggX0_make_X0_needArgument : GoodIn wsX0_make wsX0_needArgument := goodIn_ca (goodIn_r _ [7, 8, 9] (by decide +kernel) (by decide +kernel)) (goodIn_sub (fun _ h => List.mem_cons_of_mem _ (List.mem_append_left _ (List.mem_append_right _ h))) (by decide +kernel))
set_option maxRecDepth 20000 in
theorem gX0_make_X0_needArgument : GoodIn wsX0_make (va_wsS RX0 57 yX0_needArgument wsX0_needArgument) := goodIn_app (goodIn_of _ (by decide +kernel)) ggX0_make_X0_needArgument
set_option maxRecDepth 20000 in
theorem ggX0_make_X0_needPlace : GoodIn wsX0_make wsX0_needPlace := goodIn_ca (goodIn_r _ [13, 14, 15, 16, 3, 17, 18, 19, 95, 96, 97, 98, 99, 100, 101, 102, 103, 104, 105, 106] (by decide +kernel) (by decide +kernel)) (goodIn_sub (fun _ h => List.mem_cons_of_mem _ (List.mem_append_right _ h)) (by decide +kernel))
set_option maxRecDepth 20000 in
theorem gX0_make_X0_needPlace : GoodIn wsX0_make (wsV RX0 102 RX0 yX0_needPlace wsX0_needPlace) := goodIn_app (goodIn_of _ (by decide +kernel)) ggX0_make_X0_needPlace
set_option maxRecDepth 20000 in
theorem ggX0_make_X0_sets : GoodIn wsX0_make wsX0_sets := goodIn_r _ [23, 24, 95, 96, 97, 98, 99, 100, 101, 102, 103, 104, 105, 106] (by decide +kernel) (by decide +kernel)
set_option maxRecDepth 20000 in
theorem gX0_make_X0_sets : GoodIn wsX0_make (wsV RX0 105 RX0 yX0_sets wsX0_sets) := goodIn_app (goodIn_of _ (by decide +kernel)) ggX0_make_X0_sets
set_option maxRecDepth 20000 in
theorem ggX0_make_X0_toldValue : GoodIn wsX0_make wsX0_toldValue := goodIn_r _ [28, 29, 30, 31, 3, 32, 24, 33, 34, 35, 36, 37, 38, 39, 40, 41, 42, 43, 44, 45, 46, 47, 48, 49, 50, 51, 52, 53, 54, 55, 56, 57, 58, 59, 60, 61, 62, 63, 64, 65, 66, 67, 68, 69, 70, 71, 72, 73, 74, 75, 76, 77, 78, 79, 80, 81, 82, 95, 96, 97, 98, 99, 100, 101, 102, 103, 104, 105, 106] (by decide +kernel) (by decide +kernel)
set_option maxRecDepth 20000 in
theorem gX0_make_X0_toldValue : GoodIn wsX0_make (wsV RX0 109 RX0 yX0_toldValue wsX0_toldValue) := goodIn_app (goodIn_of _ (by decide +kernel)) ggX0_make_X0_toldValue
set_option maxRecDepth 20000 in
theorem ggX0_make_X0_putNew : GoodIn wsX0_make wsX0_putNew := goodIn_r _ [86, 87, 14, 88, 89, 3, 90, 95, 96, 97, 98, 99, 100, 101, 102, 103, 104, 105, 106] (by decide +kernel) (by decide +kernel)
set_option maxRecDepth 20000 in
theorem gX0_make_X0_putNew : GoodIn wsX0_make (wsV RX0 112 RX0 yX0_putNew wsX0_putNew) := goodIn_app (goodIn_of _ (by decide +kernel)) ggX0_make_X0_putNew
set_option maxRecDepth 20000 in
theorem ggX0_make_X0_countNew : GoodIn wsX0_make wsX0_countNew := goodIn_r _ [94, 14, 95, 96, 97, 98, 99, 100, 101, 102, 103, 104, 105, 106] (by decide +kernel) (by decide +kernel)
set_option maxRecDepth 20000 in
theorem gX0_make_X0_countNew : GoodIn wsX0_make (wsV RX0 116 RX0 yX0_countNew wsX0_countNew) := goodIn_app (goodIn_of _ (by decide +kernel)) ggX0_make_X0_countNew
theorem dX0_make_0 : decode cX0_make 0 = .ok (.iload_n 1, 1) := by decide +kernel
theorem dX0_make_1 : decode cX0_make 1 = .ok (.iconst 0, 1) := by decide +kernel
theorem dX0_make_2 : decode cX0_make 2 = .ok (.iconst 4, 1) := by decide +kernel
theorem dX0_make_3 : decode cX0_make 3 = .ok (.invokestatic 53, 3) := by decide +kernel
theorem dX0_make_6 : decode cX0_make 6 = .ok (.invokestatic 57, 3) := by decide +kernel
theorem dX0_make_9 : decode cX0_make 9 = .ok (.aload_n 0, 1) := by decide +kernel
theorem dX0_make_10 : decode cX0_make 10 = .ok (.invokevirtual 102, 3) := by decide +kernel
theorem dX0_make_13 : decode cX0_make 13 = .ok (.iconst 0, 1) := by decide +kernel
theorem dX0_make_14 : decode cX0_make 14 = .ok (.istore_n 2, 1) := by decide +kernel
theorem dX0_make_15 : decode cX0_make 15 = .ok (.iload_n 2, 1) := by decide +kernel
theorem dX0_make_16 : decode cX0_make 16 = .ok (.aload_n 0, 1) := by decide +kernel
theorem dX0_make_17 : decode cX0_make 17 = .ok (.invokevirtual 105, 3) := by decide +kernel
theorem dX0_make_20 : decode cX0_make 20 = .ok (.if_icmp .ge 20, 3) := by decide +kernel
theorem dX0_make_23 : decode cX0_make 23 = .ok (.aload_n 0, 1) := by decide +kernel
theorem dX0_make_24 : decode cX0_make 24 = .ok (.iload_n 2, 1) := by decide +kernel
theorem dX0_make_25 : decode cX0_make 25 = .ok (.aload_n 0, 1) := by decide +kernel
theorem dX0_make_26 : decode cX0_make 26 = .ok (.iload_n 1, 1) := by decide +kernel
theorem dX0_make_27 : decode cX0_make 27 = .ok (.iload_n 2, 1) := by decide +kernel
theorem dX0_make_28 : decode cX0_make 28 = .ok (.invokevirtual 109, 3) := by decide +kernel
theorem dX0_make_31 : decode cX0_make 31 = .ok (.invokevirtual 112, 3) := by decide +kernel
theorem dX0_make_34 : decode cX0_make 34 = .ok (.iinc 2 1, 3) := by decide +kernel
theorem dX0_make_37 : decode cX0_make 37 = .ok (.goto (-22), 3) := by decide +kernel
theorem dX0_make_40 : decode cX0_make 40 = .ok (.aload_n 0, 1) := by decide +kernel
theorem dX0_make_41 : decode cX0_make 41 = .ok (.invokevirtual 116, 3) := by decide +kernel
theorem dX0_make_44 : decode cX0_make 44 = .ok (.ireturn, 1) := by decide +kernel
set_option maxRecDepth 20000 in
theorem ggX0_sum_X0_isFunction : GoodIn wsX0_sum wsX0_isFunction := goodIn_r _ [5, 6, 45, 46, 47, 48, 49, 50, 51, 52, 53, 54, 55, 56] (by decide +kernel) (by decide +kernel)
set_option maxRecDepth 20000 in
theorem gX0_sum_X0_isFunction : GoodIn wsX0_sum (wsV RX0 119 RX0 yX0_isFunction wsX0_isFunction) := goodIn_app (goodIn_of _ (by decide +kernel)) ggX0_sum_X0_isFunction
set_option maxRecDepth 20000 in
theorem ggX0_sum_X0_needIndex : GoodIn wsX0_sum wsX0_needIndex := goodIn_ca (goodIn_r _ [9, 10, 11] (by decide +kernel) (by decide +kernel)) (goodIn_sub (fun _ h => List.mem_cons_of_mem _ (List.mem_append_left _ (List.mem_append_right _ h))) (by decide +kernel))
set_option maxRecDepth 20000 in
theorem gX0_sum_X0_needIndex : GoodIn wsX0_sum (va_wsS RX0 65 yX0_needIndex wsX0_needIndex) := goodIn_app (goodIn_of _ (by decide +kernel)) ggX0_sum_X0_needIndex
set_option maxRecDepth 20000 in
theorem ggX0_sum_X0_needPlace : GoodIn wsX0_sum wsX0_needPlace := goodIn_ca (goodIn_r _ [15, 6, 16, 17, 4, 18, 19, 20, 45, 46, 47, 48, 49, 50, 51, 52, 53, 54, 55, 56] (by decide +kernel) (by decide +kernel)) (goodIn_sub (fun _ h => List.mem_cons_of_mem _ (List.mem_append_right _ h)) (by decide +kernel))
set_option maxRecDepth 20000 in
theorem gX0_sum_X0_needPlace : GoodIn wsX0_sum (wsV RX0 102 RX0 yX0_needPlace wsX0_needPlace) := goodIn_app (goodIn_of _ (by decide +kernel)) ggX0_sum_X0_needPlace
set_option maxRecDepth 20000 in
theorem ggX0_sum_X0_sets : GoodIn wsX0_sum wsX0_sets := goodIn_r _ [24, 25, 45, 46, 47, 48, 49, 50, 51, 52, 53, 54, 55, 56] (by decide +kernel) (by decide +kernel)
set_option maxRecDepth 20000 in
theorem gX0_sum_X0_sets : GoodIn wsX0_sum (wsV RX0 105 RX0 yX0_sets wsX0_sets) := goodIn_app (goodIn_of _ (by decide +kernel)) ggX0_sum_X0_sets
set_option maxRecDepth 20000 in
theorem ggX0_sum_X0_valueOf : GoodIn wsX0_sum wsX0_valueOf := goodIn_r _ [29, 30, 31, 32, 4, 33, 45, 46, 47, 48, 49, 50, 51, 52, 53, 54, 55, 56] (by decide +kernel) (by decide +kernel)
set_option maxRecDepth 20000 in
theorem gX0_sum_X0_valueOf : GoodIn wsX0_sum (wsV RX0 122 RX0 yX0_valueOf wsX0_valueOf) := goodIn_app (goodIn_of _ (by decide +kernel)) ggX0_sum_X0_valueOf
set_option maxRecDepth 20000 in
theorem ggX0_sum_X0_putNew : GoodIn wsX0_sum wsX0_putNew := goodIn_r _ [37, 30, 6, 38, 39, 4, 40, 45, 46, 47, 48, 49, 50, 51, 52, 53, 54, 55, 56] (by decide +kernel) (by decide +kernel)
set_option maxRecDepth 20000 in
theorem gX0_sum_X0_putNew : GoodIn wsX0_sum (wsV RX0 112 RX0 yX0_putNew wsX0_putNew) := goodIn_app (goodIn_of _ (by decide +kernel)) ggX0_sum_X0_putNew
set_option maxRecDepth 20000 in
theorem ggX0_sum_X0_countNew : GoodIn wsX0_sum wsX0_countNew := goodIn_r _ [44, 6, 45, 46, 47, 48, 49, 50, 51, 52, 53, 54, 55, 56] (by decide +kernel) (by decide +kernel)
set_option maxRecDepth 20000 in
theorem gX0_sum_X0_countNew : GoodIn wsX0_sum (wsV RX0 116 RX0 yX0_countNew wsX0_countNew) := goodIn_app (goodIn_of _ (by decide +kernel)) ggX0_sum_X0_countNew
theorem dX0_sum_0 : decode cX0_sum 0 = .ok (.aload_n 0, 1) := by decide +kernel
theorem dX0_sum_1 : decode cX0_sum 1 = .ok (.iload_n 1, 1) := by decide +kernel
theorem dX0_sum_2 : decode cX0_sum 2 = .ok (.invokevirtual 119, 3) := by decide +kernel
theorem dX0_sum_5 : decode cX0_sum 5 = .ok (.ifCond .eq 15, 3) := by decide +kernel
theorem dX0_sum_8 : decode cX0_sum 8 = .ok (.aload_n 0, 1) := by decide +kernel
theorem dX0_sum_9 : decode cX0_sum 9 = .ok (.iload_n 2, 1) := by decide +kernel
theorem dX0_sum_10 : decode cX0_sum 10 = .ok (.invokevirtual 119, 3) := by decide +kernel
theorem dX0_sum_13 : decode cX0_sum 13 = .ok (.ifCond .eq 7, 3) := by decide +kernel
theorem dX0_sum_16 : decode cX0_sum 16 = .ok (.iconst 1, 1) := by decide +kernel
theorem dX0_sum_17 : decode cX0_sum 17 = .ok (.goto 4, 3) := by decide +kernel
theorem dX0_sum_20 : decode cX0_sum 20 = .ok (.iconst 0, 1) := by decide +kernel
theorem dX0_sum_21 : decode cX0_sum 21 = .ok (.invokestatic 65, 3) := by decide +kernel
theorem dX0_sum_24 : decode cX0_sum 24 = .ok (.aload_n 0, 1) := by decide +kernel
theorem dX0_sum_25 : decode cX0_sum 25 = .ok (.invokevirtual 102, 3) := by decide +kernel
theorem dX0_sum_28 : decode cX0_sum 28 = .ok (.iconst 0, 1) := by decide +kernel
theorem dX0_sum_29 : decode cX0_sum 29 = .ok (.istore_n 3, 1) := by decide +kernel
theorem dX0_sum_30 : decode cX0_sum 30 = .ok (.iload_n 3, 1) := by decide +kernel
theorem dX0_sum_31 : decode cX0_sum 31 = .ok (.aload_n 0, 1) := by decide +kernel
theorem dX0_sum_32 : decode cX0_sum 32 = .ok (.invokevirtual 105, 3) := by decide +kernel
theorem dX0_sum_35 : decode cX0_sum 35 = .ok (.if_icmp .ge 27, 3) := by decide +kernel
theorem dX0_sum_38 : decode cX0_sum 38 = .ok (.aload_n 0, 1) := by decide +kernel
theorem dX0_sum_39 : decode cX0_sum 39 = .ok (.iload_n 3, 1) := by decide +kernel
theorem dX0_sum_40 : decode cX0_sum 40 = .ok (.aload_n 0, 1) := by decide +kernel
theorem dX0_sum_41 : decode cX0_sum 41 = .ok (.iload_n 1, 1) := by decide +kernel
theorem dX0_sum_42 : decode cX0_sum 42 = .ok (.iload_n 3, 1) := by decide +kernel
theorem dX0_sum_43 : decode cX0_sum 43 = .ok (.invokevirtual 122, 3) := by decide +kernel
theorem dX0_sum_46 : decode cX0_sum 46 = .ok (.aload_n 0, 1) := by decide +kernel
theorem dX0_sum_47 : decode cX0_sum 47 = .ok (.iload_n 2, 1) := by decide +kernel
theorem dX0_sum_48 : decode cX0_sum 48 = .ok (.iload_n 3, 1) := by decide +kernel
theorem dX0_sum_49 : decode cX0_sum 49 = .ok (.invokevirtual 122, 3) := by decide +kernel
theorem dX0_sum_52 : decode cX0_sum 52 = .ok (.iadd, 1) := by decide +kernel
theorem dX0_sum_53 : decode cX0_sum 53 = .ok (.invokevirtual 112, 3) := by decide +kernel
theorem dX0_sum_56 : decode cX0_sum 56 = .ok (.iinc 3 1, 3) := by decide +kernel
theorem dX0_sum_59 : decode cX0_sum 59 = .ok (.goto (-29), 3) := by decide +kernel
theorem dX0_sum_62 : decode cX0_sum 62 = .ok (.aload_n 0, 1) := by decide +kernel
theorem dX0_sum_63 : decode cX0_sum 63 = .ok (.invokevirtual 116, 3) := by decide +kernel
theorem dX0_sum_66 : decode cX0_sum 66 = .ok (.ireturn, 1) := by decide +kernel
set_option maxRecDepth 20000 in
theorem ggX0_contract_X0_isFunction : GoodIn wsX0_contract wsX0_isFunction := goodIn_r _ [5, 6, 54, 55, 56, 57, 58, 59, 60, 61, 62, 63, 64, 65] (by decide +kernel) (by decide +kernel)
set_option maxRecDepth 20000 in
theorem gX0_contract_X0_isFunction : GoodIn wsX0_contract (wsV RX0 119 RX0 yX0_isFunction wsX0_isFunction) := goodIn_app (goodIn_of _ (by decide +kernel)) ggX0_contract_X0_isFunction
set_option maxRecDepth 20000 in
theorem ggX0_contract_X0_needIndex : GoodIn wsX0_contract wsX0_needIndex := goodIn_ca (goodIn_r _ [9, 10, 11] (by decide +kernel) (by decide +kernel)) (goodIn_sub (fun _ h => List.mem_cons_of_mem _ (List.mem_append_left _ (List.mem_append_left _ (List.mem_append_right _ h)))) (by decide +kernel))
set_option maxRecDepth 20000 in
theorem gX0_contract_X0_needIndex : GoodIn wsX0_contract (va_wsS RX0 65 yX0_needIndex wsX0_needIndex) := goodIn_app (goodIn_of _ (by decide +kernel)) ggX0_contract_X0_needIndex
set_option maxRecDepth 20000 in
theorem ggX0_contract_X0_isSet : GoodIn wsX0_contract wsX0_isSet := goodIn_r _ [15, 16, 17, 18, 4, 19, 20, 54, 55, 56, 57, 58, 59, 60, 61, 62, 63, 64, 65] (by decide +kernel) (by decide +kernel)
set_option maxRecDepth 20000 in
theorem gX0_contract_X0_isSet : GoodIn wsX0_contract (wsV RX0 125 RX0 yX0_isSet wsX0_isSet) := goodIn_app (goodIn_of _ (by decide +kernel)) ggX0_contract_X0_isSet
set_option maxRecDepth 20000 in
theorem ggX0_contract_X0_needArgument : GoodIn wsX0_contract wsX0_needArgument := goodIn_ca (goodIn_r _ [23, 24, 25] (by decide +kernel) (by decide +kernel)) (goodIn_sub (fun _ h => List.mem_cons_of_mem _ (List.mem_append_left _ (List.mem_append_right _ h))) (by decide +kernel))
set_option maxRecDepth 20000 in
theorem gX0_contract_X0_needArgument : GoodIn wsX0_contract (va_wsS RX0 57 yX0_needArgument wsX0_needArgument) := goodIn_app (goodIn_of _ (by decide +kernel)) ggX0_contract_X0_needArgument
set_option maxRecDepth 20000 in
theorem ggX0_contract_X0_needPlace : GoodIn wsX0_contract wsX0_needPlace := goodIn_ca (goodIn_r _ [29, 6, 30, 31, 4, 32, 33, 34, 54, 55, 56, 57, 58, 59, 60, 61, 62, 63, 64, 65] (by decide +kernel) (by decide +kernel)) (goodIn_sub (fun _ h => List.mem_cons_of_mem _ (List.mem_append_right _ h)) (by decide +kernel))
set_option maxRecDepth 20000 in
theorem gX0_contract_X0_needPlace : GoodIn wsX0_contract (wsV RX0 102 RX0 yX0_needPlace wsX0_needPlace) := goodIn_app (goodIn_of _ (by decide +kernel)) ggX0_contract_X0_needPlace
set_option maxRecDepth 20000 in
theorem ggX0_contract_X0_sets : GoodIn wsX0_contract wsX0_sets := goodIn_r _ [19, 20, 54, 55, 56, 57, 58, 59, 60, 61, 62, 63, 64, 65] (by decide +kernel) (by decide +kernel)
set_option maxRecDepth 20000 in
theorem gX0_contract_X0_sets : GoodIn wsX0_contract (wsV RX0 105 RX0 yX0_sets wsX0_sets) := goodIn_app (goodIn_of _ (by decide +kernel)) ggX0_contract_X0_sets
set_option maxRecDepth 20000 in
theorem ggX0_contract_X0_valueOf : GoodIn wsX0_contract wsX0_valueOf := goodIn_r _ [38, 39, 40, 41, 4, 42, 54, 55, 56, 57, 58, 59, 60, 61, 62, 63, 64, 65] (by decide +kernel) (by decide +kernel)
set_option maxRecDepth 20000 in
theorem gX0_contract_X0_valueOf : GoodIn wsX0_contract (wsV RX0 122 RX0 yX0_valueOf wsX0_valueOf) := goodIn_app (goodIn_of _ (by decide +kernel)) ggX0_contract_X0_valueOf
set_option maxRecDepth 20000 in
theorem ggX0_contract_X0_putNew : GoodIn wsX0_contract wsX0_putNew := goodIn_r _ [46, 39, 6, 47, 48, 4, 49, 54, 55, 56, 57, 58, 59, 60, 61, 62, 63, 64, 65] (by decide +kernel) (by decide +kernel)
set_option maxRecDepth 20000 in
theorem gX0_contract_X0_putNew : GoodIn wsX0_contract (wsV RX0 112 RX0 yX0_putNew wsX0_putNew) := goodIn_app (goodIn_of _ (by decide +kernel)) ggX0_contract_X0_putNew
set_option maxRecDepth 20000 in
theorem ggX0_contract_X0_countNew : GoodIn wsX0_contract wsX0_countNew := goodIn_r _ [53, 6, 54, 55, 56, 57, 58, 59, 60, 61, 62, 63, 64, 65] (by decide +kernel) (by decide +kernel)
set_option maxRecDepth 20000 in
theorem gX0_contract_X0_countNew : GoodIn wsX0_contract (wsV RX0 116 RX0 yX0_countNew wsX0_countNew) := goodIn_app (goodIn_of _ (by decide +kernel)) ggX0_contract_X0_countNew
theorem dX0_contract_0 : decode cX0_contract 0 = .ok (.aload_n 0, 1) := by decide +kernel
theorem dX0_contract_1 : decode cX0_contract 1 = .ok (.iload_n 1, 1) := by decide +kernel
theorem dX0_contract_2 : decode cX0_contract 2 = .ok (.invokevirtual 119, 3) := by decide +kernel
theorem dX0_contract_5 : decode cX0_contract 5 = .ok (.invokestatic 65, 3) := by decide +kernel
theorem dX0_contract_8 : decode cX0_contract 8 = .ok (.aload_n 0, 1) := by decide +kernel
theorem dX0_contract_9 : decode cX0_contract 9 = .ok (.iload_n 2, 1) := by decide +kernel
theorem dX0_contract_10 : decode cX0_contract 10 = .ok (.invokevirtual 125, 3) := by decide +kernel
theorem dX0_contract_13 : decode cX0_contract 13 = .ok (.invokestatic 57, 3) := by decide +kernel
theorem dX0_contract_16 : decode cX0_contract 16 = .ok (.aload_n 0, 1) := by decide +kernel
theorem dX0_contract_17 : decode cX0_contract 17 = .ok (.invokevirtual 102, 3) := by decide +kernel
theorem dX0_contract_20 : decode cX0_contract 20 = .ok (.iconst 0, 1) := by decide +kernel
theorem dX0_contract_21 : decode cX0_contract 21 = .ok (.istore_n 3, 1) := by decide +kernel
theorem dX0_contract_22 : decode cX0_contract 22 = .ok (.iload_n 3, 1) := by decide +kernel
theorem dX0_contract_23 : decode cX0_contract 23 = .ok (.aload_n 0, 1) := by decide +kernel
theorem dX0_contract_24 : decode cX0_contract 24 = .ok (.invokevirtual 105, 3) := by decide +kernel
theorem dX0_contract_27 : decode cX0_contract 27 = .ok (.if_icmp .ge 29, 3) := by decide +kernel
theorem dX0_contract_30 : decode cX0_contract 30 = .ok (.aload_n 0, 1) := by decide +kernel
theorem dX0_contract_31 : decode cX0_contract 31 = .ok (.iload_n 3, 1) := by decide +kernel
theorem dX0_contract_32 : decode cX0_contract 32 = .ok (.aload_n 0, 1) := by decide +kernel
theorem dX0_contract_33 : decode cX0_contract 33 = .ok (.iload_n 1, 1) := by decide +kernel
theorem dX0_contract_34 : decode cX0_contract 34 = .ok (.iload_n 3, 1) := by decide +kernel
theorem dX0_contract_35 : decode cX0_contract 35 = .ok (.iload_n 2, 1) := by decide +kernel
theorem dX0_contract_36 : decode cX0_contract 36 = .ok (.ior, 1) := by decide +kernel
theorem dX0_contract_37 : decode cX0_contract 37 = .ok (.invokevirtual 122, 3) := by decide +kernel
theorem dX0_contract_40 : decode cX0_contract 40 = .ok (.aload_n 0, 1) := by decide +kernel
theorem dX0_contract_41 : decode cX0_contract 41 = .ok (.iload_n 1, 1) := by decide +kernel
theorem dX0_contract_42 : decode cX0_contract 42 = .ok (.iload_n 2, 1) := by decide +kernel
theorem dX0_contract_43 : decode cX0_contract 43 = .ok (.invokevirtual 122, 3) := by decide +kernel
theorem dX0_contract_46 : decode cX0_contract 46 = .ok (.isub, 1) := by decide +kernel
theorem dX0_contract_47 : decode cX0_contract 47 = .ok (.invokevirtual 112, 3) := by decide +kernel
theorem dX0_contract_50 : decode cX0_contract 50 = .ok (.iinc 3 1, 3) := by decide +kernel
theorem dX0_contract_53 : decode cX0_contract 53 = .ok (.goto (-31), 3) := by decide +kernel
theorem dX0_contract_56 : decode cX0_contract 56 = .ok (.aload_n 0, 1) := by decide +kernel
theorem dX0_contract_57 : decode cX0_contract 57 = .ok (.invokevirtual 116, 3) := by decide +kernel
theorem dX0_contract_60 : decode cX0_contract 60 = .ok (.ireturn, 1) := by decide +kernel
set_option maxRecDepth 20000 in
theorem ggX0_cap_X0_isFunction : GoodIn wsX0_cap wsX0_isFunction := goodIn_r _ [9, 10, 57, 58, 59, 60, 61, 62, 63, 64, 65, 66, 67, 68] (by decide +kernel) (by decide +kernel)
set_option maxRecDepth 20000 in
theorem gX0_cap_X0_isFunction : GoodIn wsX0_cap (wsV RX0 119 RX0 yX0_isFunction wsX0_isFunction) := goodIn_app (goodIn_of _ (by decide +kernel)) ggX0_cap_X0_isFunction
set_option maxRecDepth 20000 in
theorem ggX0_cap_X0_needIndex : GoodIn wsX0_cap wsX0_needIndex := goodIn_ca (goodIn_r _ [13, 14, 15] (by decide +kernel) (by decide +kernel)) (goodIn_sub (fun _ h => List.mem_cons_of_mem _ (List.mem_append_left _ (List.mem_append_left _ (List.mem_append_right _ h)))) (by decide +kernel))
set_option maxRecDepth 20000 in
theorem gX0_cap_X0_needIndex : GoodIn wsX0_cap (va_wsS RX0 65 yX0_needIndex wsX0_needIndex) := goodIn_app (goodIn_of _ (by decide +kernel)) ggX0_cap_X0_needIndex
set_option maxRecDepth 20000 in
theorem ggX0_cap_X0_isWithin : GoodIn wsX0_cap wsX0_isWithin := goodIn_r _ [18] (by decide +kernel) (by decide +kernel)
set_option maxRecDepth 20000 in
theorem gX0_cap_X0_isWithin : GoodIn wsX0_cap (va_wsS RX0 53 yX0_isWithin wsX0_isWithin) := goodIn_app (goodIn_of _ (by decide +kernel)) ggX0_cap_X0_isWithin
set_option maxRecDepth 20000 in
theorem ggX0_cap_X0_needArgument : GoodIn wsX0_cap wsX0_needArgument := goodIn_ca (goodIn_r _ [21, 22, 23] (by decide +kernel) (by decide +kernel)) (goodIn_sub (fun _ h => List.mem_cons_of_mem _ (List.mem_append_left _ (List.mem_append_right _ h))) (by decide +kernel))
set_option maxRecDepth 20000 in
theorem gX0_cap_X0_needArgument : GoodIn wsX0_cap (va_wsS RX0 57 yX0_needArgument wsX0_needArgument) := goodIn_app (goodIn_of _ (by decide +kernel)) ggX0_cap_X0_needArgument
set_option maxRecDepth 20000 in
theorem ggX0_cap_X0_needPlace : GoodIn wsX0_cap wsX0_needPlace := goodIn_ca (goodIn_r _ [27, 10, 28, 29, 8, 30, 31, 32, 57, 58, 59, 60, 61, 62, 63, 64, 65, 66, 67, 68] (by decide +kernel) (by decide +kernel)) (goodIn_sub (fun _ h => List.mem_cons_of_mem _ (List.mem_append_right _ h)) (by decide +kernel))
set_option maxRecDepth 20000 in
theorem gX0_cap_X0_needPlace : GoodIn wsX0_cap (wsV RX0 102 RX0 yX0_needPlace wsX0_needPlace) := goodIn_app (goodIn_of _ (by decide +kernel)) ggX0_cap_X0_needPlace
set_option maxRecDepth 20000 in
theorem ggX0_cap_X0_sets : GoodIn wsX0_cap wsX0_sets := goodIn_r _ [36, 37, 57, 58, 59, 60, 61, 62, 63, 64, 65, 66, 67, 68] (by decide +kernel) (by decide +kernel)
set_option maxRecDepth 20000 in
theorem gX0_cap_X0_sets : GoodIn wsX0_cap (wsV RX0 105 RX0 yX0_sets wsX0_sets) := goodIn_app (goodIn_of _ (by decide +kernel)) ggX0_cap_X0_sets
set_option maxRecDepth 20000 in
theorem ggX0_cap_X0_valueOf : GoodIn wsX0_cap wsX0_valueOf := goodIn_r _ [41, 42, 43, 44, 8, 45, 57, 58, 59, 60, 61, 62, 63, 64, 65, 66, 67, 68] (by decide +kernel) (by decide +kernel)
set_option maxRecDepth 20000 in
theorem gX0_cap_X0_valueOf : GoodIn wsX0_cap (wsV RX0 122 RX0 yX0_valueOf wsX0_valueOf) := goodIn_app (goodIn_of _ (by decide +kernel)) ggX0_cap_X0_valueOf
set_option maxRecDepth 20000 in
theorem ggX0_cap_X0_putNew : GoodIn wsX0_cap wsX0_putNew := goodIn_r _ [49, 42, 10, 50, 51, 8, 52, 57, 58, 59, 60, 61, 62, 63, 64, 65, 66, 67, 68] (by decide +kernel) (by decide +kernel)
set_option maxRecDepth 20000 in
theorem gX0_cap_X0_putNew : GoodIn wsX0_cap (wsV RX0 112 RX0 yX0_putNew wsX0_putNew) := goodIn_app (goodIn_of _ (by decide +kernel)) ggX0_cap_X0_putNew
set_option maxRecDepth 20000 in
theorem ggX0_cap_X0_countNew : GoodIn wsX0_cap wsX0_countNew := goodIn_r _ [56, 10, 57, 58, 59, 60, 61, 62, 63, 64, 65, 66, 67, 68] (by decide +kernel) (by decide +kernel)
set_option maxRecDepth 20000 in
theorem gX0_cap_X0_countNew : GoodIn wsX0_cap (wsV RX0 116 RX0 yX0_countNew wsX0_countNew) := goodIn_app (goodIn_of _ (by decide +kernel)) ggX0_cap_X0_countNew
theorem dX0_cap_0 : decode cX0_cap 0 = .ok (.aload_n 0, 1) := by decide +kernel
theorem dX0_cap_1 : decode cX0_cap 1 = .ok (.iload_n 1, 1) := by decide +kernel
theorem dX0_cap_2 : decode cX0_cap 2 = .ok (.invokevirtual 119, 3) := by decide +kernel
theorem dX0_cap_5 : decode cX0_cap 5 = .ok (.invokestatic 65, 3) := by decide +kernel
theorem dX0_cap_8 : decode cX0_cap 8 = .ok (.iload_n 2, 1) := by decide +kernel
theorem dX0_cap_9 : decode cX0_cap 9 = .ok (.iconst 0, 1) := by decide +kernel
theorem dX0_cap_10 : decode cX0_cap 10 = .ok (.bipush 100, 2) := by decide +kernel
theorem dX0_cap_12 : decode cX0_cap 12 = .ok (.invokestatic 53, 3) := by decide +kernel
theorem dX0_cap_15 : decode cX0_cap 15 = .ok (.invokestatic 57, 3) := by decide +kernel
theorem dX0_cap_18 : decode cX0_cap 18 = .ok (.aload_n 0, 1) := by decide +kernel
theorem dX0_cap_19 : decode cX0_cap 19 = .ok (.invokevirtual 102, 3) := by decide +kernel
theorem dX0_cap_22 : decode cX0_cap 22 = .ok (.iconst 0, 1) := by decide +kernel
theorem dX0_cap_23 : decode cX0_cap 23 = .ok (.istore_n 3, 1) := by decide +kernel
theorem dX0_cap_24 : decode cX0_cap 24 = .ok (.iload_n 3, 1) := by decide +kernel
theorem dX0_cap_25 : decode cX0_cap 25 = .ok (.aload_n 0, 1) := by decide +kernel
theorem dX0_cap_26 : decode cX0_cap 26 = .ok (.invokevirtual 105, 3) := by decide +kernel
theorem dX0_cap_29 : decode cX0_cap 29 = .ok (.if_icmp .ge 24, 3) := by decide +kernel
theorem dX0_cap_32 : decode cX0_cap 32 = .ok (.aload_n 0, 1) := by decide +kernel
theorem dX0_cap_33 : decode cX0_cap 33 = .ok (.iload_n 3, 1) := by decide +kernel
theorem dX0_cap_34 : decode cX0_cap 34 = .ok (.aload_n 0, 1) := by decide +kernel
theorem dX0_cap_35 : decode cX0_cap 35 = .ok (.iload_n 1, 1) := by decide +kernel
theorem dX0_cap_36 : decode cX0_cap 36 = .ok (.iload_n 3, 1) := by decide +kernel
theorem dX0_cap_37 : decode cX0_cap 37 = .ok (.invokevirtual 122, 3) := by decide +kernel
theorem dX0_cap_40 : decode cX0_cap 40 = .ok (.iload_n 2, 1) := by decide +kernel
theorem dX0_cap_41 : decode cX0_cap 41 = .ok (.invokestatic 128, 3) := by decide +kernel
theorem dX0_cap_44 : decode cX0_cap 44 = .ok (.invokevirtual 112, 3) := by decide +kernel
theorem dX0_cap_47 : decode cX0_cap 47 = .ok (.iinc 3 1, 3) := by decide +kernel
theorem dX0_cap_50 : decode cX0_cap 50 = .ok (.goto (-26), 3) := by decide +kernel
theorem dX0_cap_53 : decode cX0_cap 53 = .ok (.aload_n 0, 1) := by decide +kernel
theorem dX0_cap_54 : decode cX0_cap 54 = .ok (.invokevirtual 116, 3) := by decide +kernel
theorem dX0_cap_57 : decode cX0_cap 57 = .ok (.ireturn, 1) := by decide +kernel
set_option maxRecDepth 20000 in
theorem ggX0_value_X0_isFunction : GoodIn wsX0_value wsX0_isFunction := goodIn_r _ [5, 6, 34, 35, 36, 37, 38, 39, 40, 41, 42, 43, 44, 45] (by decide +kernel) (by decide +kernel)
set_option maxRecDepth 20000 in
theorem gX0_value_X0_isFunction : GoodIn wsX0_value (wsV RX0 119 RX0 yX0_isFunction wsX0_isFunction) := goodIn_app (goodIn_of _ (by decide +kernel)) ggX0_value_X0_isFunction
set_option maxRecDepth 20000 in
theorem ggX0_value_X0_needIndex : GoodIn wsX0_value wsX0_needIndex := goodIn_ca (goodIn_r _ [9, 10, 11] (by decide +kernel) (by decide +kernel)) (goodIn_sub (fun _ h => List.mem_cons_of_mem _ (List.mem_append_left _ (List.mem_append_right _ h))) (by decide +kernel))
set_option maxRecDepth 20000 in
theorem gX0_value_X0_needIndex : GoodIn wsX0_value (va_wsS RX0 65 yX0_needIndex wsX0_needIndex) := goodIn_app (goodIn_of _ (by decide +kernel)) ggX0_value_X0_needIndex
set_option maxRecDepth 20000 in
theorem ggX0_value_X0_isSet : GoodIn wsX0_value wsX0_isSet := goodIn_r _ [15, 16, 17, 18, 4, 19, 20, 34, 35, 36, 37, 38, 39, 40, 41, 42, 43, 44, 45] (by decide +kernel) (by decide +kernel)
set_option maxRecDepth 20000 in
theorem gX0_value_X0_isSet : GoodIn wsX0_value (wsV RX0 125 RX0 yX0_isSet wsX0_isSet) := goodIn_app (goodIn_of _ (by decide +kernel)) ggX0_value_X0_isSet
set_option maxRecDepth 20000 in
theorem ggX0_value_X0_needArgument : GoodIn wsX0_value wsX0_needArgument := goodIn_ca (goodIn_r _ [23, 24, 25] (by decide +kernel) (by decide +kernel)) (goodIn_sub (fun _ h => List.mem_cons_of_mem _ (List.mem_append_right _ h)) (by decide +kernel))
set_option maxRecDepth 20000 in
theorem gX0_value_X0_needArgument : GoodIn wsX0_value (va_wsS RX0 57 yX0_needArgument wsX0_needArgument) := goodIn_app (goodIn_of _ (by decide +kernel)) ggX0_value_X0_needArgument
set_option maxRecDepth 20000 in
theorem ggX0_value_X0_valueOf : GoodIn wsX0_value wsX0_valueOf := goodIn_r _ [29, 30, 31, 32, 4, 33, 34, 35, 36, 37, 38, 39, 40, 41, 42, 43, 44, 45] (by decide +kernel) (by decide +kernel)
set_option maxRecDepth 20000 in
theorem gX0_value_X0_valueOf : GoodIn wsX0_value (wsV RX0 122 RX0 yX0_valueOf wsX0_valueOf) := goodIn_app (goodIn_of _ (by decide +kernel)) ggX0_value_X0_valueOf
theorem dX0_value_0 : decode cX0_value 0 = .ok (.aload_n 0, 1) := by decide +kernel
theorem dX0_value_1 : decode cX0_value 1 = .ok (.iload_n 1, 1) := by decide +kernel
theorem dX0_value_2 : decode cX0_value 2 = .ok (.invokevirtual 119, 3) := by decide +kernel
theorem dX0_value_5 : decode cX0_value 5 = .ok (.invokestatic 65, 3) := by decide +kernel
theorem dX0_value_8 : decode cX0_value 8 = .ok (.aload_n 0, 1) := by decide +kernel
theorem dX0_value_9 : decode cX0_value 9 = .ok (.iload_n 2, 1) := by decide +kernel
theorem dX0_value_10 : decode cX0_value 10 = .ok (.invokevirtual 125, 3) := by decide +kernel
theorem dX0_value_13 : decode cX0_value 13 = .ok (.invokestatic 57, 3) := by decide +kernel
theorem dX0_value_16 : decode cX0_value 16 = .ok (.aload_n 0, 1) := by decide +kernel
theorem dX0_value_17 : decode cX0_value 17 = .ok (.iload_n 1, 1) := by decide +kernel
theorem dX0_value_18 : decode cX0_value 18 = .ok (.iload_n 2, 1) := by decide +kernel
theorem dX0_value_19 : decode cX0_value 19 = .ok (.invokevirtual 122, 3) := by decide +kernel
theorem dX0_value_22 : decode cX0_value 22 = .ok (.ireturn, 1) := by decide +kernel
set_option maxRecDepth 20000 in
theorem ggX0_isLawful_X0_isFunction : GoodIn wsX0_isLawful wsX0_isFunction := goodIn_r _ [5, 6, 43, 44, 45, 46, 47, 48, 49, 50, 51, 52, 53, 54] (by decide +kernel) (by decide +kernel)
set_option maxRecDepth 20000 in
theorem gX0_isLawful_X0_isFunction : GoodIn wsX0_isLawful (wsV RX0 119 RX0 yX0_isFunction wsX0_isFunction) := goodIn_app (goodIn_of _ (by decide +kernel)) ggX0_isLawful_X0_isFunction
set_option maxRecDepth 20000 in
theorem ggX0_isLawful_X0_needIndex : GoodIn wsX0_isLawful wsX0_needIndex := goodIn_ca (goodIn_r _ [9, 10, 11] (by decide +kernel) (by decide +kernel)) (goodIn_sub (fun _ h => List.mem_cons_of_mem _ (List.mem_append_right _ h)) (by decide +kernel))
set_option maxRecDepth 20000 in
theorem gX0_isLawful_X0_needIndex : GoodIn wsX0_isLawful (va_wsS RX0 65 yX0_needIndex wsX0_needIndex) := goodIn_app (goodIn_of _ (by decide +kernel)) ggX0_isLawful_X0_needIndex
set_option maxRecDepth 20000 in
theorem ggX0_isLawful_X0_hasLaw : GoodIn wsX0_isLawful wsX0_hasLaw := goodIn_r _ [15, 16, 17, 18, 4, 19, 20, 21, 22, 23, 24, 25, 26, 27, 28, 29, 30, 31, 32, 33, 34, 35, 36, 37, 38, 39, 40, 41, 42, 43, 44, 45, 46, 47, 48, 49, 50, 51, 52, 53, 54] (by decide +kernel) (by decide +kernel)
set_option maxRecDepth 20000 in
theorem gX0_isLawful_X0_hasLaw : GoodIn wsX0_isLawful (wsV RX0 133 RX0 yX0_hasLaw wsX0_hasLaw) := goodIn_app (goodIn_of _ (by decide +kernel)) ggX0_isLawful_X0_hasLaw
theorem dX0_isLawful_0 : decode cX0_isLawful 0 = .ok (.aload_n 0, 1) := by decide +kernel
theorem dX0_isLawful_1 : decode cX0_isLawful 1 = .ok (.iload_n 1, 1) := by decide +kernel
theorem dX0_isLawful_2 : decode cX0_isLawful 2 = .ok (.invokevirtual 119, 3) := by decide +kernel
theorem dX0_isLawful_5 : decode cX0_isLawful 5 = .ok (.invokestatic 65, 3) := by decide +kernel
theorem dX0_isLawful_8 : decode cX0_isLawful 8 = .ok (.aload_n 0, 1) := by decide +kernel
theorem dX0_isLawful_9 : decode cX0_isLawful 9 = .ok (.iload_n 1, 1) := by decide +kernel
theorem dX0_isLawful_10 : decode cX0_isLawful 10 = .ok (.invokevirtual 133, 3) := by decide +kernel
theorem dX0_isLawful_13 : decode cX0_isLawful 13 = .ok (.ireturn, 1) := by decide +kernel
set_option maxRecDepth 20000 in
theorem ggX0_rises_X0_isFunction : GoodIn wsX0_rises wsX0_isFunction := goodIn_r _ [6, 7, 32, 33, 34, 35, 36, 37, 38, 39, 40, 41, 42, 43] (by decide +kernel) (by decide +kernel)
set_option maxRecDepth 20000 in
theorem gX0_rises_X0_isFunction : GoodIn wsX0_rises (wsV RX0 119 RX0 yX0_isFunction wsX0_isFunction) := goodIn_app (goodIn_of _ (by decide +kernel)) ggX0_rises_X0_isFunction
set_option maxRecDepth 20000 in
theorem ggX0_rises_X0_needIndex : GoodIn wsX0_rises wsX0_needIndex := goodIn_ca (goodIn_r _ [10, 11, 12] (by decide +kernel) (by decide +kernel)) (goodIn_sub (fun _ h => List.mem_cons_of_mem _ (List.mem_append_right _ h)) (by decide +kernel))
set_option maxRecDepth 20000 in
theorem gX0_rises_X0_needIndex : GoodIn wsX0_rises (va_wsS RX0 65 yX0_needIndex wsX0_needIndex) := goodIn_app (goodIn_of _ (by decide +kernel)) ggX0_rises_X0_needIndex
set_option maxRecDepth 20000 in
theorem ggX0_rises_X0_sets : GoodIn wsX0_rises wsX0_sets := goodIn_r _ [16, 1, 32, 33, 34, 35, 36, 37, 38, 39, 40, 41, 42, 43] (by decide +kernel) (by decide +kernel)
set_option maxRecDepth 20000 in
theorem gX0_rises_X0_sets : GoodIn wsX0_rises (wsV RX0 105 RX0 yX0_sets wsX0_sets) := goodIn_app (goodIn_of _ (by decide +kernel)) ggX0_rises_X0_sets
set_option maxRecDepth 20000 in
theorem ggX0_rises_X0_gain : GoodIn wsX0_rises wsX0_gain := goodIn_r _ [20, 21, 22, 5, 23, 24, 25, 26, 27, 28, 29, 30, 31, 32, 33, 34, 35, 36, 37, 38, 39, 40, 41, 42, 43] (by decide +kernel) (by decide +kernel)
set_option maxRecDepth 20000 in
theorem gX0_rises_X0_gain : GoodIn wsX0_rises (wsV RX0 136 RX0 yX0_gain wsX0_gain) := goodIn_app (goodIn_of _ (by decide +kernel)) ggX0_rises_X0_gain
theorem dX0_rises_0 : decode cX0_rises 0 = .ok (.aload_n 0, 1) := by decide +kernel
theorem dX0_rises_1 : decode cX0_rises 1 = .ok (.iload_n 1, 1) := by decide +kernel
theorem dX0_rises_2 : decode cX0_rises 2 = .ok (.invokevirtual 119, 3) := by decide +kernel
theorem dX0_rises_5 : decode cX0_rises 5 = .ok (.invokestatic 65, 3) := by decide +kernel
theorem dX0_rises_8 : decode cX0_rises 8 = .ok (.iconst 0, 1) := by decide +kernel
theorem dX0_rises_9 : decode cX0_rises 9 = .ok (.istore_n 2, 1) := by decide +kernel
theorem dX0_rises_10 : decode cX0_rises 10 = .ok (.iload_n 2, 1) := by decide +kernel
theorem dX0_rises_11 : decode cX0_rises 11 = .ok (.aload_n 0, 1) := by decide +kernel
theorem dX0_rises_12 : decode cX0_rises 12 = .ok (.invokevirtual 105, 3) := by decide +kernel
theorem dX0_rises_15 : decode cX0_rises 15 = .ok (.if_icmp .ge 37, 3) := by decide +kernel
theorem dX0_rises_18 : decode cX0_rises 18 = .ok (.iconst 0, 1) := by decide +kernel
theorem dX0_rises_19 : decode cX0_rises 19 = .ok (.istore_n 3, 1) := by decide +kernel
theorem dX0_rises_20 : decode cX0_rises 20 = .ok (.iload_n 3, 1) := by decide +kernel
theorem dX0_rises_21 : decode cX0_rises 21 = .ok (.aload_n 0, 1) := by decide +kernel
theorem dX0_rises_22 : decode cX0_rises 22 = .ok (.getfield 9, 3) := by decide +kernel
theorem dX0_rises_25 : decode cX0_rises 25 = .ok (.if_icmp .ge 21, 3) := by decide +kernel
theorem dX0_rises_28 : decode cX0_rises 28 = .ok (.aload_n 0, 1) := by decide +kernel
theorem dX0_rises_29 : decode cX0_rises 29 = .ok (.iload_n 1, 1) := by decide +kernel
theorem dX0_rises_30 : decode cX0_rises 30 = .ok (.iload_n 2, 1) := by decide +kernel
theorem dX0_rises_31 : decode cX0_rises 31 = .ok (.iload_n 3, 1) := by decide +kernel
theorem dX0_rises_32 : decode cX0_rises 32 = .ok (.invokevirtual 136, 3) := by decide +kernel
theorem dX0_rises_35 : decode cX0_rises 35 = .ok (.ifCond .ge 5, 3) := by decide +kernel
theorem dX0_rises_38 : decode cX0_rises 38 = .ok (.iconst 0, 1) := by decide +kernel
theorem dX0_rises_39 : decode cX0_rises 39 = .ok (.ireturn, 1) := by decide +kernel
theorem dX0_rises_40 : decode cX0_rises 40 = .ok (.iinc 3 1, 3) := by decide +kernel
theorem dX0_rises_43 : decode cX0_rises 43 = .ok (.goto (-23), 3) := by decide +kernel
theorem dX0_rises_46 : decode cX0_rises 46 = .ok (.iinc 2 1, 3) := by decide +kernel
theorem dX0_rises_49 : decode cX0_rises 49 = .ok (.goto (-39), 3) := by decide +kernel
theorem dX0_rises_52 : decode cX0_rises 52 = .ok (.iconst 1, 1) := by decide +kernel
theorem dX0_rises_53 : decode cX0_rises 53 = .ok (.ireturn, 1) := by decide +kernel
set_option maxRecDepth 20000 in
theorem ggX0_least_X0_isFunction : GoodIn wsX0_least wsX0_isFunction := goodIn_r _ [5, 6, 67, 68, 69, 70, 71, 72, 73, 74, 75, 76, 77, 78] (by decide +kernel) (by decide +kernel)
set_option maxRecDepth 20000 in
theorem gX0_least_X0_isFunction : GoodIn wsX0_least (wsV RX0 119 RX0 yX0_isFunction wsX0_isFunction) := goodIn_app (goodIn_of _ (by decide +kernel)) ggX0_least_X0_isFunction
set_option maxRecDepth 20000 in
theorem ggX0_least_X0_needIndex : GoodIn wsX0_least wsX0_needIndex := goodIn_ca (goodIn_r _ [9, 10, 11] (by decide +kernel) (by decide +kernel)) (goodIn_sub (fun _ h => List.mem_cons_of_mem _ (List.mem_append_left _ (List.mem_append_right _ h))) (by decide +kernel))
set_option maxRecDepth 20000 in
theorem gX0_least_X0_needIndex : GoodIn wsX0_least (va_wsS RX0 65 yX0_needIndex wsX0_needIndex) := goodIn_app (goodIn_of _ (by decide +kernel)) ggX0_least_X0_needIndex
set_option maxRecDepth 20000 in
theorem ggX0_least_X0_hasLaw : GoodIn wsX0_least wsX0_hasLaw := goodIn_r _ [15, 16, 17, 18, 4, 19, 20, 21, 22, 23, 24, 25, 26, 27, 28, 29, 30, 31, 32, 33, 34, 35, 36, 37, 38, 39, 40, 41, 42, 67, 68, 69, 70, 71, 72, 73, 74, 75, 76, 77, 78] (by decide +kernel) (by decide +kernel)
set_option maxRecDepth 20000 in
theorem gX0_least_X0_hasLaw : GoodIn wsX0_least (wsV RX0 133 RX0 yX0_hasLaw wsX0_hasLaw) := goodIn_app (goodIn_of _ (by decide +kernel)) ggX0_least_X0_hasLaw
set_option maxRecDepth 20000 in
theorem ggX0_least_X0_needState : GoodIn wsX0_least wsX0_needState := goodIn_ca (goodIn_r _ [45, 46, 47] (by decide +kernel) (by decide +kernel)) (goodIn_sub (fun _ h => List.mem_cons_of_mem _ (List.mem_append_right _ h)) (by decide +kernel))
set_option maxRecDepth 20000 in
theorem gX0_least_X0_needState : GoodIn wsX0_least (va_wsS RX0 140 yX0_needState wsX0_needState) := goodIn_app (goodIn_of _ (by decide +kernel)) ggX0_least_X0_needState
set_option maxRecDepth 20000 in
theorem ggX0_least_X0_sets : GoodIn wsX0_least wsX0_sets := goodIn_r _ [19, 20, 67, 68, 69, 70, 71, 72, 73, 74, 75, 76, 77, 78] (by decide +kernel) (by decide +kernel)
set_option maxRecDepth 20000 in
theorem gX0_least_X0_sets : GoodIn wsX0_least (wsV RX0 105 RX0 yX0_sets wsX0_sets) := goodIn_app (goodIn_of _ (by decide +kernel)) ggX0_least_X0_sets
set_option maxRecDepth 20000 in
theorem ggX0_least_X0_leastBetween : GoodIn wsX0_least wsX0_leastBetween := goodIn_r _ [51, 20, 52, 53, 54, 4, 55, 25, 26, 27, 28, 29, 30, 31, 32, 33, 34, 35, 36, 37, 38, 39, 40, 41, 42, 56, 57, 58, 59, 60, 61, 62, 63, 64, 65, 66, 48, 49, 50, 67, 68, 69, 70, 71, 72, 73, 74, 75, 76, 77, 78] (by decide +kernel) (by decide +kernel)
set_option maxRecDepth 20000 in
theorem gX0_least_X0_leastBetween : GoodIn wsX0_least (wsV RX0 143 RX0 yX0_leastBetween wsX0_leastBetween) := goodIn_app (goodIn_of _ (by decide +kernel)) ggX0_least_X0_leastBetween
set_option maxRecDepth 20000 in
theorem ggX0_least_X0_valueOf : GoodIn wsX0_least wsX0_valueOf := goodIn_r _ [38, 39, 40, 41, 4, 42, 67, 68, 69, 70, 71, 72, 73, 74, 75, 76, 77, 78] (by decide +kernel) (by decide +kernel)
set_option maxRecDepth 20000 in
theorem gX0_least_X0_valueOf : GoodIn wsX0_least (wsV RX0 122 RX0 yX0_valueOf wsX0_valueOf) := goodIn_app (goodIn_of _ (by decide +kernel)) ggX0_least_X0_valueOf
theorem dX0_least_0 : decode cX0_least 0 = .ok (.aload_n 0, 1) := by decide +kernel
theorem dX0_least_1 : decode cX0_least 1 = .ok (.iload_n 1, 1) := by decide +kernel
theorem dX0_least_2 : decode cX0_least 2 = .ok (.invokevirtual 119, 3) := by decide +kernel
theorem dX0_least_5 : decode cX0_least 5 = .ok (.invokestatic 65, 3) := by decide +kernel
theorem dX0_least_8 : decode cX0_least 8 = .ok (.aload_n 0, 1) := by decide +kernel
theorem dX0_least_9 : decode cX0_least 9 = .ok (.iload_n 1, 1) := by decide +kernel
theorem dX0_least_10 : decode cX0_least 10 = .ok (.invokevirtual 133, 3) := by decide +kernel
theorem dX0_least_13 : decode cX0_least 13 = .ok (.invokestatic 140, 3) := by decide +kernel
theorem dX0_least_16 : decode cX0_least 16 = .ok (.aload_n 0, 1) := by decide +kernel
theorem dX0_least_17 : decode cX0_least 17 = .ok (.iload_n 1, 1) := by decide +kernel
theorem dX0_least_18 : decode cX0_least 18 = .ok (.aload_n 0, 1) := by decide +kernel
theorem dX0_least_19 : decode cX0_least 19 = .ok (.iload_n 1, 1) := by decide +kernel
theorem dX0_least_20 : decode cX0_least 20 = .ok (.iconst 0, 1) := by decide +kernel
theorem dX0_least_21 : decode cX0_least 21 = .ok (.aload_n 0, 1) := by decide +kernel
theorem dX0_least_22 : decode cX0_least 22 = .ok (.invokevirtual 105, 3) := by decide +kernel
theorem dX0_least_25 : decode cX0_least 25 = .ok (.iconst 1, 1) := by decide +kernel
theorem dX0_least_26 : decode cX0_least 26 = .ok (.isub, 1) := by decide +kernel
theorem dX0_least_27 : decode cX0_least 27 = .ok (.iconst 0, 1) := by decide +kernel
theorem dX0_least_28 : decode cX0_least 28 = .ok (.iconst 0, 1) := by decide +kernel
theorem dX0_least_29 : decode cX0_least 29 = .ok (.invokevirtual 143, 3) := by decide +kernel
theorem dX0_least_32 : decode cX0_least 32 = .ok (.invokevirtual 122, 3) := by decide +kernel
theorem dX0_least_35 : decode cX0_least 35 = .ok (.ireturn, 1) := by decide +kernel
set_option maxRecDepth 20000 in
theorem ggX0_leastSet_X0_isFunction : GoodIn wsX0_leastSet wsX0_isFunction := goodIn_r _ [5, 6, 67, 68, 69, 70, 71, 72, 73, 74, 75, 76, 77, 78] (by decide +kernel) (by decide +kernel)
set_option maxRecDepth 20000 in
theorem gX0_leastSet_X0_isFunction : GoodIn wsX0_leastSet (wsV RX0 119 RX0 yX0_isFunction wsX0_isFunction) := goodIn_app (goodIn_of _ (by decide +kernel)) ggX0_leastSet_X0_isFunction
set_option maxRecDepth 20000 in
theorem ggX0_leastSet_X0_needIndex : GoodIn wsX0_leastSet wsX0_needIndex := goodIn_ca (goodIn_r _ [9, 10, 11] (by decide +kernel) (by decide +kernel)) (goodIn_sub (fun _ h => List.mem_cons_of_mem _ (List.mem_append_left _ (List.mem_append_right _ h))) (by decide +kernel))
set_option maxRecDepth 20000 in
theorem gX0_leastSet_X0_needIndex : GoodIn wsX0_leastSet (va_wsS RX0 65 yX0_needIndex wsX0_needIndex) := goodIn_app (goodIn_of _ (by decide +kernel)) ggX0_leastSet_X0_needIndex
set_option maxRecDepth 20000 in
theorem ggX0_leastSet_X0_hasLaw : GoodIn wsX0_leastSet wsX0_hasLaw := goodIn_r _ [15, 16, 17, 18, 4, 19, 20, 21, 22, 23, 24, 25, 26, 27, 28, 29, 30, 31, 32, 33, 34, 35, 36, 37, 38, 39, 40, 41, 42, 67, 68, 69, 70, 71, 72, 73, 74, 75, 76, 77, 78] (by decide +kernel) (by decide +kernel)
set_option maxRecDepth 20000 in
theorem gX0_leastSet_X0_hasLaw : GoodIn wsX0_leastSet (wsV RX0 133 RX0 yX0_hasLaw wsX0_hasLaw) := goodIn_app (goodIn_of _ (by decide +kernel)) ggX0_leastSet_X0_hasLaw
set_option maxRecDepth 20000 in
theorem ggX0_leastSet_X0_needState : GoodIn wsX0_leastSet wsX0_needState := goodIn_ca (goodIn_r _ [45, 46, 47] (by decide +kernel) (by decide +kernel)) (goodIn_sub (fun _ h => List.mem_cons_of_mem _ (List.mem_append_right _ h)) (by decide +kernel))
set_option maxRecDepth 20000 in
theorem gX0_leastSet_X0_needState : GoodIn wsX0_leastSet (va_wsS RX0 140 yX0_needState wsX0_needState) := goodIn_app (goodIn_of _ (by decide +kernel)) ggX0_leastSet_X0_needState
set_option maxRecDepth 20000 in
theorem ggX0_leastSet_X0_sets : GoodIn wsX0_leastSet wsX0_sets := goodIn_r _ [19, 20, 67, 68, 69, 70, 71, 72, 73, 74, 75, 76, 77, 78] (by decide +kernel) (by decide +kernel)
set_option maxRecDepth 20000 in
theorem gX0_leastSet_X0_sets : GoodIn wsX0_leastSet (wsV RX0 105 RX0 yX0_sets wsX0_sets) := goodIn_app (goodIn_of _ (by decide +kernel)) ggX0_leastSet_X0_sets
set_option maxRecDepth 20000 in
theorem ggX0_leastSet_X0_leastBetween : GoodIn wsX0_leastSet wsX0_leastBetween := goodIn_r _ [51, 20, 52, 53, 54, 4, 55, 25, 26, 27, 28, 29, 30, 31, 32, 33, 34, 35, 36, 37, 38, 39, 40, 41, 42, 56, 57, 58, 59, 60, 61, 62, 63, 64, 65, 66, 48, 49, 50, 67, 68, 69, 70, 71, 72, 73, 74, 75, 76, 77, 78] (by decide +kernel) (by decide +kernel)
set_option maxRecDepth 20000 in
theorem gX0_leastSet_X0_leastBetween : GoodIn wsX0_leastSet (wsV RX0 143 RX0 yX0_leastBetween wsX0_leastBetween) := goodIn_app (goodIn_of _ (by decide +kernel)) ggX0_leastSet_X0_leastBetween
theorem dX0_leastSet_0 : decode cX0_leastSet 0 = .ok (.aload_n 0, 1) := by decide +kernel
theorem dX0_leastSet_1 : decode cX0_leastSet 1 = .ok (.iload_n 1, 1) := by decide +kernel
theorem dX0_leastSet_2 : decode cX0_leastSet 2 = .ok (.invokevirtual 119, 3) := by decide +kernel
theorem dX0_leastSet_5 : decode cX0_leastSet 5 = .ok (.invokestatic 65, 3) := by decide +kernel
theorem dX0_leastSet_8 : decode cX0_leastSet 8 = .ok (.aload_n 0, 1) := by decide +kernel
theorem dX0_leastSet_9 : decode cX0_leastSet 9 = .ok (.iload_n 1, 1) := by decide +kernel
theorem dX0_leastSet_10 : decode cX0_leastSet 10 = .ok (.invokevirtual 133, 3) := by decide +kernel
theorem dX0_leastSet_13 : decode cX0_leastSet 13 = .ok (.invokestatic 140, 3) := by decide +kernel
theorem dX0_leastSet_16 : decode cX0_leastSet 16 = .ok (.aload_n 0, 1) := by decide +kernel
theorem dX0_leastSet_17 : decode cX0_leastSet 17 = .ok (.iload_n 1, 1) := by decide +kernel
theorem dX0_leastSet_18 : decode cX0_leastSet 18 = .ok (.iconst 0, 1) := by decide +kernel
theorem dX0_leastSet_19 : decode cX0_leastSet 19 = .ok (.aload_n 0, 1) := by decide +kernel
theorem dX0_leastSet_20 : decode cX0_leastSet 20 = .ok (.invokevirtual 105, 3) := by decide +kernel
theorem dX0_leastSet_23 : decode cX0_leastSet 23 = .ok (.iconst 1, 1) := by decide +kernel
theorem dX0_leastSet_24 : decode cX0_leastSet 24 = .ok (.isub, 1) := by decide +kernel
theorem dX0_leastSet_25 : decode cX0_leastSet 25 = .ok (.iload_n 2, 1) := by decide +kernel
theorem dX0_leastSet_26 : decode cX0_leastSet 26 = .ok (.iconst 0, 1) := by decide +kernel
theorem dX0_leastSet_27 : decode cX0_leastSet 27 = .ok (.invokevirtual 143, 3) := by decide +kernel
theorem dX0_leastSet_30 : decode cX0_leastSet 30 = .ok (.ireturn, 1) := by decide +kernel
set_option maxRecDepth 20000 in
theorem ggX0_leastSetAnew_X0_isFunction : GoodIn wsX0_leastSetAnew wsX0_isFunction := goodIn_r _ [9, 10, 52, 53, 54, 55, 56, 57, 58, 59, 60, 61, 62, 63] (by decide +kernel) (by decide +kernel)
set_option maxRecDepth 20000 in
theorem gX0_leastSetAnew_X0_isFunction : GoodIn wsX0_leastSetAnew (wsV RX0 119 RX0 yX0_isFunction wsX0_isFunction) := goodIn_app (goodIn_of _ (by decide +kernel)) ggX0_leastSetAnew_X0_isFunction
set_option maxRecDepth 20000 in
theorem ggX0_leastSetAnew_X0_needIndex : GoodIn wsX0_leastSetAnew wsX0_needIndex := goodIn_ca (goodIn_r _ [13, 14, 15] (by decide +kernel) (by decide +kernel)) (goodIn_sub (fun _ h => List.mem_cons_of_mem _ (List.mem_append_left _ (List.mem_append_right _ h))) (by decide +kernel))
set_option maxRecDepth 20000 in
theorem gX0_leastSetAnew_X0_needIndex : GoodIn wsX0_leastSetAnew (va_wsS RX0 65 yX0_needIndex wsX0_needIndex) := goodIn_app (goodIn_of _ (by decide +kernel)) ggX0_leastSetAnew_X0_needIndex
set_option maxRecDepth 20000 in
theorem ggX0_leastSetAnew_X0_hasLaw : GoodIn wsX0_leastSetAnew wsX0_hasLaw := goodIn_r _ [19, 20, 21, 22, 8, 23, 24, 25, 26, 27, 28, 29, 30, 31, 32, 33, 34, 35, 36, 37, 38, 39, 40, 41, 42, 43, 44, 45, 46, 52, 53, 54, 55, 56, 57, 58, 59, 60, 61, 62, 63] (by decide +kernel) (by decide +kernel)
set_option maxRecDepth 20000 in
theorem gX0_leastSetAnew_X0_hasLaw : GoodIn wsX0_leastSetAnew (wsV RX0 133 RX0 yX0_hasLaw wsX0_hasLaw) := goodIn_app (goodIn_of _ (by decide +kernel)) ggX0_leastSetAnew_X0_hasLaw
set_option maxRecDepth 20000 in
theorem ggX0_leastSetAnew_X0_needState : GoodIn wsX0_leastSetAnew wsX0_needState := goodIn_ca (goodIn_r _ [49, 50, 51] (by decide +kernel) (by decide +kernel)) (goodIn_sub (fun _ h => List.mem_cons_of_mem _ (List.mem_append_right _ h)) (by decide +kernel))
set_option maxRecDepth 20000 in
theorem gX0_leastSetAnew_X0_needState : GoodIn wsX0_leastSetAnew (va_wsS RX0 140 yX0_needState wsX0_needState) := goodIn_app (goodIn_of _ (by decide +kernel)) ggX0_leastSetAnew_X0_needState
set_option maxRecDepth 20000 in
theorem ggX0_leastSetAnew_X0_sets : GoodIn wsX0_leastSetAnew wsX0_sets := goodIn_r _ [23, 24, 52, 53, 54, 55, 56, 57, 58, 59, 60, 61, 62, 63] (by decide +kernel) (by decide +kernel)
set_option maxRecDepth 20000 in
theorem gX0_leastSetAnew_X0_sets : GoodIn wsX0_leastSetAnew (wsV RX0 105 RX0 yX0_sets wsX0_sets) := goodIn_app (goodIn_of _ (by decide +kernel)) ggX0_leastSetAnew_X0_sets
set_option maxRecDepth 20000 in
theorem ggX0_leastSetAnew_X0_valueOf : GoodIn wsX0_leastSetAnew wsX0_valueOf := goodIn_r _ [42, 43, 44, 45, 8, 46, 52, 53, 54, 55, 56, 57, 58, 59, 60, 61, 62, 63] (by decide +kernel) (by decide +kernel)
set_option maxRecDepth 20000 in
theorem gX0_leastSetAnew_X0_valueOf : GoodIn wsX0_leastSetAnew (wsV RX0 122 RX0 yX0_valueOf wsX0_valueOf) := goodIn_app (goodIn_of _ (by decide +kernel)) ggX0_leastSetAnew_X0_valueOf
theorem dX0_leastSetAnew_0 : decode cX0_leastSetAnew 0 = .ok (.aload_n 0, 1) := by decide +kernel
theorem dX0_leastSetAnew_1 : decode cX0_leastSetAnew 1 = .ok (.iload_n 1, 1) := by decide +kernel
theorem dX0_leastSetAnew_2 : decode cX0_leastSetAnew 2 = .ok (.invokevirtual 119, 3) := by decide +kernel
theorem dX0_leastSetAnew_5 : decode cX0_leastSetAnew 5 = .ok (.invokestatic 65, 3) := by decide +kernel
theorem dX0_leastSetAnew_8 : decode cX0_leastSetAnew 8 = .ok (.aload_n 0, 1) := by decide +kernel
theorem dX0_leastSetAnew_9 : decode cX0_leastSetAnew 9 = .ok (.iload_n 1, 1) := by decide +kernel
theorem dX0_leastSetAnew_10 : decode cX0_leastSetAnew 10 = .ok (.invokevirtual 133, 3) := by decide +kernel
theorem dX0_leastSetAnew_13 : decode cX0_leastSetAnew 13 = .ok (.invokestatic 140, 3) := by decide +kernel
theorem dX0_leastSetAnew_16 : decode cX0_leastSetAnew 16 = .ok (.iconst 0, 1) := by decide +kernel
theorem dX0_leastSetAnew_17 : decode cX0_leastSetAnew 17 = .ok (.istore_n 3, 1) := by decide +kernel
theorem dX0_leastSetAnew_18 : decode cX0_leastSetAnew 18 = .ok (.iconst 0, 1) := by decide +kernel
theorem dX0_leastSetAnew_19 : decode cX0_leastSetAnew 19 = .ok (.istore 4, 2) := by decide +kernel
theorem dX0_leastSetAnew_21 : decode cX0_leastSetAnew 21 = .ok (.iload 4, 2) := by decide +kernel
theorem dX0_leastSetAnew_23 : decode cX0_leastSetAnew 23 = .ok (.aload_n 0, 1) := by decide +kernel
theorem dX0_leastSetAnew_24 : decode cX0_leastSetAnew 24 = .ok (.invokevirtual 105, 3) := by decide +kernel
theorem dX0_leastSetAnew_27 : decode cX0_leastSetAnew 27 = .ok (.if_icmp .ge 21, 3) := by decide +kernel
theorem dX0_leastSetAnew_30 : decode cX0_leastSetAnew 30 = .ok (.iload_n 3, 1) := by decide +kernel
theorem dX0_leastSetAnew_31 : decode cX0_leastSetAnew 31 = .ok (.aload_n 0, 1) := by decide +kernel
theorem dX0_leastSetAnew_32 : decode cX0_leastSetAnew 32 = .ok (.iload_n 1, 1) := by decide +kernel
theorem dX0_leastSetAnew_33 : decode cX0_leastSetAnew 33 = .ok (.iload 4, 2) := by decide +kernel
theorem dX0_leastSetAnew_35 : decode cX0_leastSetAnew 35 = .ok (.invokevirtual 122, 3) := by decide +kernel
theorem dX0_leastSetAnew_38 : decode cX0_leastSetAnew 38 = .ok (.invokestatic 128, 3) := by decide +kernel
theorem dX0_leastSetAnew_41 : decode cX0_leastSetAnew 41 = .ok (.istore_n 3, 1) := by decide +kernel
theorem dX0_leastSetAnew_42 : decode cX0_leastSetAnew 42 = .ok (.iinc 4 1, 3) := by decide +kernel
theorem dX0_leastSetAnew_45 : decode cX0_leastSetAnew 45 = .ok (.goto (-24), 3) := by decide +kernel
theorem dX0_leastSetAnew_48 : decode cX0_leastSetAnew 48 = .ok (.aload_n 0, 1) := by decide +kernel
theorem dX0_leastSetAnew_49 : decode cX0_leastSetAnew 49 = .ok (.invokevirtual 105, 3) := by decide +kernel
theorem dX0_leastSetAnew_52 : decode cX0_leastSetAnew 52 = .ok (.iconst 1, 1) := by decide +kernel
theorem dX0_leastSetAnew_53 : decode cX0_leastSetAnew 53 = .ok (.isub, 1) := by decide +kernel
theorem dX0_leastSetAnew_54 : decode cX0_leastSetAnew 54 = .ok (.istore 4, 2) := by decide +kernel
theorem dX0_leastSetAnew_56 : decode cX0_leastSetAnew 56 = .ok (.iconst 0, 1) := by decide +kernel
theorem dX0_leastSetAnew_57 : decode cX0_leastSetAnew 57 = .ok (.istore 5, 2) := by decide +kernel
theorem dX0_leastSetAnew_59 : decode cX0_leastSetAnew 59 = .ok (.iconst 0, 1) := by decide +kernel
theorem dX0_leastSetAnew_60 : decode cX0_leastSetAnew 60 = .ok (.istore 6, 2) := by decide +kernel
theorem dX0_leastSetAnew_62 : decode cX0_leastSetAnew 62 = .ok (.iload 6, 2) := by decide +kernel
theorem dX0_leastSetAnew_64 : decode cX0_leastSetAnew 64 = .ok (.aload_n 0, 1) := by decide +kernel
theorem dX0_leastSetAnew_65 : decode cX0_leastSetAnew 65 = .ok (.invokevirtual 105, 3) := by decide +kernel
theorem dX0_leastSetAnew_68 : decode cX0_leastSetAnew 68 = .ok (.if_icmp .ge 34, 3) := by decide +kernel
theorem dX0_leastSetAnew_71 : decode cX0_leastSetAnew 71 = .ok (.aload_n 0, 1) := by decide +kernel
theorem dX0_leastSetAnew_72 : decode cX0_leastSetAnew 72 = .ok (.iload_n 1, 1) := by decide +kernel
theorem dX0_leastSetAnew_73 : decode cX0_leastSetAnew 73 = .ok (.iload 6, 2) := by decide +kernel
theorem dX0_leastSetAnew_75 : decode cX0_leastSetAnew 75 = .ok (.invokevirtual 122, 3) := by decide +kernel
theorem dX0_leastSetAnew_78 : decode cX0_leastSetAnew 78 = .ok (.iload_n 3, 1) := by decide +kernel
theorem dX0_leastSetAnew_79 : decode cX0_leastSetAnew 79 = .ok (.if_icmp .ne 17, 3) := by decide +kernel
theorem dX0_leastSetAnew_82 : decode cX0_leastSetAnew 82 = .ok (.iload 4, 2) := by decide +kernel
theorem dX0_leastSetAnew_84 : decode cX0_leastSetAnew 84 = .ok (.iload 6, 2) := by decide +kernel
theorem dX0_leastSetAnew_86 : decode cX0_leastSetAnew 86 = .ok (.iand, 1) := by decide +kernel
theorem dX0_leastSetAnew_87 : decode cX0_leastSetAnew 87 = .ok (.istore 4, 2) := by decide +kernel
theorem dX0_leastSetAnew_89 : decode cX0_leastSetAnew 89 = .ok (.iload 5, 2) := by decide +kernel
theorem dX0_leastSetAnew_91 : decode cX0_leastSetAnew 91 = .ok (.iload 6, 2) := by decide +kernel
theorem dX0_leastSetAnew_93 : decode cX0_leastSetAnew 93 = .ok (.ior, 1) := by decide +kernel
theorem dX0_leastSetAnew_94 : decode cX0_leastSetAnew 94 = .ok (.istore 5, 2) := by decide +kernel
theorem dX0_leastSetAnew_96 : decode cX0_leastSetAnew 96 = .ok (.iinc 6 1, 3) := by decide +kernel
theorem dX0_leastSetAnew_99 : decode cX0_leastSetAnew 99 = .ok (.goto (-37), 3) := by decide +kernel
theorem dX0_leastSetAnew_102 : decode cX0_leastSetAnew 102 = .ok (.iload_n 2, 1) := by decide +kernel
theorem dX0_leastSetAnew_103 : decode cX0_leastSetAnew 103 = .ok (.ifCond .eq 8, 3) := by decide +kernel
theorem dX0_leastSetAnew_106 : decode cX0_leastSetAnew 106 = .ok (.iload 5, 2) := by decide +kernel
theorem dX0_leastSetAnew_108 : decode cX0_leastSetAnew 108 = .ok (.goto 5, 3) := by decide +kernel
theorem dX0_leastSetAnew_111 : decode cX0_leastSetAnew 111 = .ok (.iload 4, 2) := by decide +kernel
theorem dX0_leastSetAnew_113 : decode cX0_leastSetAnew 113 = .ok (.ireturn, 1) := by decide +kernel
set_option maxRecDepth 20000 in
theorem ggX0_order_X0_isElement : GoodIn wsX0_order wsX0_isElement := goodIn_r _ [8, 2, 29, 30, 31, 32, 33, 34, 35, 36, 37, 38, 39, 40] (by decide +kernel) (by decide +kernel)
set_option maxRecDepth 20000 in
theorem gX0_order_X0_isElement : GoodIn wsX0_order (wsV RX0 61 RX0 yX0_isElement wsX0_isElement) := goodIn_app (goodIn_of _ (by decide +kernel)) ggX0_order_X0_isElement
set_option maxRecDepth 20000 in
theorem ggX0_order_X0_needIndex : GoodIn wsX0_order wsX0_needIndex := goodIn_ca (goodIn_r _ [11, 12, 13] (by decide +kernel) (by decide +kernel)) (goodIn_sub (fun _ h => List.mem_cons_of_mem _ (List.mem_append_left _ (List.mem_append_right _ h))) (by decide +kernel))
set_option maxRecDepth 20000 in
theorem gX0_order_X0_needIndex : GoodIn wsX0_order (va_wsS RX0 65 yX0_needIndex wsX0_needIndex) := goodIn_app (goodIn_of _ (by decide +kernel)) ggX0_order_X0_needIndex
set_option maxRecDepth 20000 in
theorem ggX0_order_X0_isTold : GoodIn wsX0_order wsX0_isTold := goodIn_r _ [17, 1, 3, 18, 19, 7, 20, 29, 30, 31, 32, 33, 34, 35, 36, 37, 38, 39, 40] (by decide +kernel) (by decide +kernel)
set_option maxRecDepth 20000 in
theorem gX0_order_X0_isTold : GoodIn wsX0_order (wsV RX0 147 RX0 yX0_isTold wsX0_isTold) := goodIn_app (goodIn_of _ (by decide +kernel)) ggX0_order_X0_isTold
set_option maxRecDepth 20000 in
theorem ggX0_order_X0_needState : GoodIn wsX0_order wsX0_needState := goodIn_ca (goodIn_r _ [23, 24, 25] (by decide +kernel) (by decide +kernel)) (goodIn_sub (fun _ h => List.mem_cons_of_mem _ (List.mem_append_right _ h)) (by decide +kernel))
set_option maxRecDepth 20000 in
theorem gX0_order_X0_needState : GoodIn wsX0_order (va_wsS RX0 140 yX0_needState wsX0_needState) := goodIn_app (goodIn_of _ (by decide +kernel)) ggX0_order_X0_needState
set_option maxRecDepth 20000 in
theorem ggX0_order_X0_put : GoodIn wsX0_order wsX0_put := goodIn_r _ [28] (by decide +kernel) (by decide +kernel)
set_option maxRecDepth 20000 in
theorem gX0_order_X0_put : GoodIn wsX0_order (va_wsS RX0 79 yX0_put wsX0_put) := goodIn_app (goodIn_of _ (by decide +kernel)) ggX0_order_X0_put
theorem dX0_order_0 : decode cX0_order 0 = .ok (.aload_n 0, 1) := by decide +kernel
theorem dX0_order_1 : decode cX0_order 1 = .ok (.iload_n 1, 1) := by decide +kernel
theorem dX0_order_2 : decode cX0_order 2 = .ok (.invokevirtual 61, 3) := by decide +kernel
theorem dX0_order_5 : decode cX0_order 5 = .ok (.invokestatic 65, 3) := by decide +kernel
theorem dX0_order_8 : decode cX0_order 8 = .ok (.aload_n 0, 1) := by decide +kernel
theorem dX0_order_9 : decode cX0_order 9 = .ok (.getfield 16, 3) := by decide +kernel
theorem dX0_order_12 : decode cX0_order 12 = .ok (.aload_n 0, 1) := by decide +kernel
theorem dX0_order_13 : decode cX0_order 13 = .ok (.getfield 9, 3) := by decide +kernel
theorem dX0_order_16 : decode cX0_order 16 = .ok (.if_icmp .lt 7, 3) := by decide +kernel
theorem dX0_order_19 : decode cX0_order 19 = .ok (.iconst 1, 1) := by decide +kernel
theorem dX0_order_20 : decode cX0_order 20 = .ok (.goto 4, 3) := by decide +kernel
theorem dX0_order_23 : decode cX0_order 23 = .ok (.iconst 0, 1) := by decide +kernel
theorem dX0_order_24 : decode cX0_order 24 = .ok (.istore_n 2, 1) := by decide +kernel
theorem dX0_order_25 : decode cX0_order 25 = .ok (.iload_n 2, 1) := by decide +kernel
theorem dX0_order_26 : decode cX0_order 26 = .ok (.ifCond .ne 11, 3) := by decide +kernel
theorem dX0_order_29 : decode cX0_order 29 = .ok (.aload_n 0, 1) := by decide +kernel
theorem dX0_order_30 : decode cX0_order 30 = .ok (.iload_n 1, 1) := by decide +kernel
theorem dX0_order_31 : decode cX0_order 31 = .ok (.invokevirtual 147, 3) := by decide +kernel
theorem dX0_order_34 : decode cX0_order 34 = .ok (.ifCond .ne 7, 3) := by decide +kernel
theorem dX0_order_37 : decode cX0_order 37 = .ok (.iconst 1, 1) := by decide +kernel
theorem dX0_order_38 : decode cX0_order 38 = .ok (.goto 4, 3) := by decide +kernel
theorem dX0_order_41 : decode cX0_order 41 = .ok (.iconst 0, 1) := by decide +kernel
theorem dX0_order_42 : decode cX0_order 42 = .ok (.invokestatic 140, 3) := by decide +kernel
theorem dX0_order_45 : decode cX0_order 45 = .ok (.iload_n 2, 1) := by decide +kernel
theorem dX0_order_46 : decode cX0_order 46 = .ok (.ifCond .eq 8, 3) := by decide +kernel
theorem dX0_order_49 : decode cX0_order 49 = .ok (.aload_n 0, 1) := by decide +kernel
theorem dX0_order_50 : decode cX0_order 50 = .ok (.iconst 0, 1) := by decide +kernel
theorem dX0_order_51 : decode cX0_order 51 = .ok (.putfield 16, 3) := by decide +kernel
theorem dX0_order_54 : decode cX0_order 54 = .ok (.aload_n 0, 1) := by decide +kernel
theorem dX0_order_55 : decode cX0_order 55 = .ok (.getfield 38, 3) := by decide +kernel
theorem dX0_order_58 : decode cX0_order 58 = .ok (.aload_n 0, 1) := by decide +kernel
theorem dX0_order_59 : decode cX0_order 59 = .ok (.getfield 16, 3) := by decide +kernel
theorem dX0_order_62 : decode cX0_order 62 = .ok (.iload_n 1, 1) := by decide +kernel
theorem dX0_order_63 : decode cX0_order 63 = .ok (.invokestatic 79, 3) := by decide +kernel
theorem dX0_order_66 : decode cX0_order 66 = .ok (.aload_n 0, 1) := by decide +kernel
theorem dX0_order_67 : decode cX0_order 67 = .ok (.dup, 1) := by decide +kernel
theorem dX0_order_68 : decode cX0_order 68 = .ok (.getfield 16, 3) := by decide +kernel
theorem dX0_order_71 : decode cX0_order 71 = .ok (.iconst 1, 1) := by decide +kernel
theorem dX0_order_72 : decode cX0_order 72 = .ok (.iadd, 1) := by decide +kernel
theorem dX0_order_73 : decode cX0_order 73 = .ok (.putfield 16, 3) := by decide +kernel
theorem dX0_order_76 : decode cX0_order 76 = .ok (.aload_n 0, 1) := by decide +kernel
theorem dX0_order_77 : decode cX0_order 77 = .ok (.getfield 16, 3) := by decide +kernel
theorem dX0_order_80 : decode cX0_order 80 = .ok (.ireturn, 1) := by decide +kernel
set_option maxRecDepth 20000 in
theorem ggX0_corner_X0_isFunction : GoodIn wsX0_corner wsX0_isFunction := goodIn_r _ [5, 6, 47, 48, 49, 50, 51, 52, 53, 54, 55, 56, 57, 58] (by decide +kernel) (by decide +kernel)
set_option maxRecDepth 20000 in
theorem gX0_corner_X0_isFunction : GoodIn wsX0_corner (wsV RX0 119 RX0 yX0_isFunction wsX0_isFunction) := goodIn_app (goodIn_of _ (by decide +kernel)) ggX0_corner_X0_isFunction
set_option maxRecDepth 20000 in
theorem ggX0_corner_X0_isElement : GoodIn wsX0_corner wsX0_isElement := goodIn_r _ [10, 11, 47, 48, 49, 50, 51, 52, 53, 54, 55, 56, 57, 58] (by decide +kernel) (by decide +kernel)
set_option maxRecDepth 20000 in
theorem gX0_corner_X0_isElement : GoodIn wsX0_corner (wsV RX0 61 RX0 yX0_isElement wsX0_isElement) := goodIn_app (goodIn_of _ (by decide +kernel)) ggX0_corner_X0_isElement
set_option maxRecDepth 20000 in
theorem ggX0_corner_X0_needIndex : GoodIn wsX0_corner wsX0_needIndex := goodIn_ca (goodIn_r _ [14, 15, 16] (by decide +kernel) (by decide +kernel)) (goodIn_sub (fun _ h => List.mem_cons_of_mem _ (List.mem_append_left _ (List.mem_append_right _ h))) (by decide +kernel))
set_option maxRecDepth 20000 in
theorem gX0_corner_X0_needIndex : GoodIn wsX0_corner (va_wsS RX0 65 yX0_needIndex wsX0_needIndex) := goodIn_app (goodIn_of _ (by decide +kernel)) ggX0_corner_X0_needIndex
set_option maxRecDepth 20000 in
theorem ggX0_corner_X0_isTold : GoodIn wsX0_corner wsX0_isTold := goodIn_r _ [20, 21, 22, 23, 24, 4, 25, 47, 48, 49, 50, 51, 52, 53, 54, 55, 56, 57, 58] (by decide +kernel) (by decide +kernel)
set_option maxRecDepth 20000 in
theorem gX0_corner_X0_isTold : GoodIn wsX0_corner (wsV RX0 147 RX0 yX0_isTold wsX0_isTold) := goodIn_app (goodIn_of _ (by decide +kernel)) ggX0_corner_X0_isTold
set_option maxRecDepth 20000 in
theorem ggX0_corner_X0_needState : GoodIn wsX0_corner wsX0_needState := goodIn_ca (goodIn_r _ [28, 29, 30] (by decide +kernel) (by decide +kernel)) (goodIn_sub (fun _ h => List.mem_cons_of_mem _ (List.mem_append_right _ h)) (by decide +kernel))
set_option maxRecDepth 20000 in
theorem gX0_corner_X0_needState : GoodIn wsX0_corner (va_wsS RX0 140 yX0_needState wsX0_needState) := goodIn_app (goodIn_of _ (by decide +kernel)) ggX0_corner_X0_needState
set_option maxRecDepth 20000 in
theorem ggX0_corner_X0_aheadOf : GoodIn wsX0_corner wsX0_aheadOf := goodIn_r _ [34, 21, 22, 23, 24, 4, 25, 35, 36, 37, 47, 48, 49, 50, 51, 52, 53, 54, 55, 56, 57, 58] (by decide +kernel) (by decide +kernel)
set_option maxRecDepth 20000 in
theorem gX0_corner_X0_aheadOf : GoodIn wsX0_corner (wsV RX0 150 RX0 yX0_aheadOf wsX0_aheadOf) := goodIn_app (goodIn_of _ (by decide +kernel)) ggX0_corner_X0_aheadOf
set_option maxRecDepth 20000 in
theorem ggX0_corner_X0_gain : GoodIn wsX0_corner wsX0_gain := goodIn_r _ [41, 35, 36, 4, 37, 42, 43, 44, 45, 46, 23, 24, 25, 47, 48, 49, 50, 51, 52, 53, 54, 55, 56, 57, 58] (by decide +kernel) (by decide +kernel)
set_option maxRecDepth 20000 in
theorem gX0_corner_X0_gain : GoodIn wsX0_corner (wsV RX0 136 RX0 yX0_gain wsX0_gain) := goodIn_app (goodIn_of _ (by decide +kernel)) ggX0_corner_X0_gain
theorem dX0_corner_0 : decode cX0_corner 0 = .ok (.aload_n 0, 1) := by decide +kernel
theorem dX0_corner_1 : decode cX0_corner 1 = .ok (.iload_n 1, 1) := by decide +kernel
theorem dX0_corner_2 : decode cX0_corner 2 = .ok (.invokevirtual 119, 3) := by decide +kernel
theorem dX0_corner_5 : decode cX0_corner 5 = .ok (.ifCond .eq 15, 3) := by decide +kernel
theorem dX0_corner_8 : decode cX0_corner 8 = .ok (.aload_n 0, 1) := by decide +kernel
theorem dX0_corner_9 : decode cX0_corner 9 = .ok (.iload_n 2, 1) := by decide +kernel
theorem dX0_corner_10 : decode cX0_corner 10 = .ok (.invokevirtual 61, 3) := by decide +kernel
theorem dX0_corner_13 : decode cX0_corner 13 = .ok (.ifCond .eq 7, 3) := by decide +kernel
theorem dX0_corner_16 : decode cX0_corner 16 = .ok (.iconst 1, 1) := by decide +kernel
theorem dX0_corner_17 : decode cX0_corner 17 = .ok (.goto 4, 3) := by decide +kernel
theorem dX0_corner_20 : decode cX0_corner 20 = .ok (.iconst 0, 1) := by decide +kernel
theorem dX0_corner_21 : decode cX0_corner 21 = .ok (.invokestatic 65, 3) := by decide +kernel
theorem dX0_corner_24 : decode cX0_corner 24 = .ok (.aload_n 0, 1) := by decide +kernel
theorem dX0_corner_25 : decode cX0_corner 25 = .ok (.iload_n 2, 1) := by decide +kernel
theorem dX0_corner_26 : decode cX0_corner 26 = .ok (.invokevirtual 147, 3) := by decide +kernel
theorem dX0_corner_29 : decode cX0_corner 29 = .ok (.invokestatic 140, 3) := by decide +kernel
theorem dX0_corner_32 : decode cX0_corner 32 = .ok (.aload_n 0, 1) := by decide +kernel
theorem dX0_corner_33 : decode cX0_corner 33 = .ok (.iload_n 1, 1) := by decide +kernel
theorem dX0_corner_34 : decode cX0_corner 34 = .ok (.aload_n 0, 1) := by decide +kernel
theorem dX0_corner_35 : decode cX0_corner 35 = .ok (.iload_n 2, 1) := by decide +kernel
theorem dX0_corner_36 : decode cX0_corner 36 = .ok (.invokevirtual 150, 3) := by decide +kernel
theorem dX0_corner_39 : decode cX0_corner 39 = .ok (.iload_n 2, 1) := by decide +kernel
theorem dX0_corner_40 : decode cX0_corner 40 = .ok (.invokevirtual 136, 3) := by decide +kernel
theorem dX0_corner_43 : decode cX0_corner 43 = .ok (.ireturn, 1) := by decide +kernel
set_option maxRecDepth 20000 in
theorem ggX0_greedy_X0_isFunction : GoodIn wsX0_greedy wsX0_isFunction := goodIn_r _ [5, 6, 40, 41, 42, 43, 44, 45, 46, 47, 48, 49, 50, 51] (by decide +kernel) (by decide +kernel)
set_option maxRecDepth 20000 in
theorem gX0_greedy_X0_isFunction : GoodIn wsX0_greedy (wsV RX0 119 RX0 yX0_isFunction wsX0_isFunction) := goodIn_app (goodIn_of _ (by decide +kernel)) ggX0_greedy_X0_isFunction
set_option maxRecDepth 20000 in
theorem ggX0_greedy_X0_needIndex : GoodIn wsX0_greedy wsX0_needIndex := goodIn_ca (goodIn_r _ [9, 10, 11] (by decide +kernel) (by decide +kernel)) (goodIn_sub (fun _ h => List.mem_cons_of_mem _ (List.mem_append_left _ (List.mem_append_right _ h))) (by decide +kernel))
set_option maxRecDepth 20000 in
theorem gX0_greedy_X0_needIndex : GoodIn wsX0_greedy (va_wsS RX0 65 yX0_needIndex wsX0_needIndex) := goodIn_app (goodIn_of _ (by decide +kernel)) ggX0_greedy_X0_needIndex
set_option maxRecDepth 20000 in
theorem ggX0_greedy_X0_isWithin : GoodIn wsX0_greedy wsX0_isWithin := goodIn_r _ [14] (by decide +kernel) (by decide +kernel)
set_option maxRecDepth 20000 in
theorem gX0_greedy_X0_isWithin : GoodIn wsX0_greedy (va_wsS RX0 53 yX0_isWithin wsX0_isWithin) := goodIn_app (goodIn_of _ (by decide +kernel)) ggX0_greedy_X0_isWithin
set_option maxRecDepth 20000 in
theorem ggX0_greedy_X0_needArgument : GoodIn wsX0_greedy wsX0_needArgument := goodIn_ca (goodIn_r _ [17, 18, 19] (by decide +kernel) (by decide +kernel)) (goodIn_sub (fun _ h => List.mem_cons_of_mem _ (List.mem_append_right _ h)) (by decide +kernel))
set_option maxRecDepth 20000 in
theorem gX0_greedy_X0_needArgument : GoodIn wsX0_greedy (va_wsS RX0 57 yX0_needArgument wsX0_needArgument) := goodIn_app (goodIn_of _ (by decide +kernel)) ggX0_greedy_X0_needArgument
set_option maxRecDepth 20000 in
theorem ggX0_greedy_X0_greediest : GoodIn wsX0_greedy wsX0_greediest := goodIn_r _ [23, 24, 25, 26, 27, 4, 28, 29, 30, 31, 32, 33, 34, 35, 36, 37, 38, 39, 40, 41, 42, 43, 44, 45, 46, 47, 48, 49, 50, 51] (by decide +kernel) (by decide +kernel)
set_option maxRecDepth 20000 in
theorem gX0_greedy_X0_greediest : GoodIn wsX0_greedy (wsV RX0 154 RX0 yX0_greediest wsX0_greediest) := goodIn_app (goodIn_of _ (by decide +kernel)) ggX0_greedy_X0_greediest
set_option maxRecDepth 20000 in
theorem ggX0_greedy_X0_with : GoodIn wsX0_greedy wsX0_with := goodIn_r _ [31] (by decide +kernel) (by decide +kernel)
set_option maxRecDepth 20000 in
theorem gX0_greedy_X0_with : GoodIn wsX0_greedy (va_wsS RX0 72 yX0_with wsX0_with) := goodIn_app (goodIn_of _ (by decide +kernel)) ggX0_greedy_X0_with
theorem dX0_greedy_0 : decode cX0_greedy 0 = .ok (.aload_n 0, 1) := by decide +kernel
theorem dX0_greedy_1 : decode cX0_greedy 1 = .ok (.iload_n 1, 1) := by decide +kernel
theorem dX0_greedy_2 : decode cX0_greedy 2 = .ok (.invokevirtual 119, 3) := by decide +kernel
theorem dX0_greedy_5 : decode cX0_greedy 5 = .ok (.invokestatic 65, 3) := by decide +kernel
theorem dX0_greedy_8 : decode cX0_greedy 8 = .ok (.iload_n 2, 1) := by decide +kernel
theorem dX0_greedy_9 : decode cX0_greedy 9 = .ok (.iconst 0, 1) := by decide +kernel
theorem dX0_greedy_10 : decode cX0_greedy 10 = .ok (.bipush 6, 2) := by decide +kernel
theorem dX0_greedy_12 : decode cX0_greedy 12 = .ok (.invokestatic 53, 3) := by decide +kernel
theorem dX0_greedy_15 : decode cX0_greedy 15 = .ok (.invokestatic 57, 3) := by decide +kernel
theorem dX0_greedy_18 : decode cX0_greedy 18 = .ok (.iconst 0, 1) := by decide +kernel
theorem dX0_greedy_19 : decode cX0_greedy 19 = .ok (.istore_n 3, 1) := by decide +kernel
theorem dX0_greedy_20 : decode cX0_greedy 20 = .ok (.iconst 0, 1) := by decide +kernel
theorem dX0_greedy_21 : decode cX0_greedy 21 = .ok (.istore 4, 2) := by decide +kernel
theorem dX0_greedy_23 : decode cX0_greedy 23 = .ok (.iload 4, 2) := by decide +kernel
theorem dX0_greedy_25 : decode cX0_greedy 25 = .ok (.iload_n 2, 1) := by decide +kernel
theorem dX0_greedy_26 : decode cX0_greedy 26 = .ok (.if_icmp .ge 32, 3) := by decide +kernel
theorem dX0_greedy_29 : decode cX0_greedy 29 = .ok (.aload_n 0, 1) := by decide +kernel
theorem dX0_greedy_30 : decode cX0_greedy 30 = .ok (.iload_n 1, 1) := by decide +kernel
theorem dX0_greedy_31 : decode cX0_greedy 31 = .ok (.iload_n 3, 1) := by decide +kernel
theorem dX0_greedy_32 : decode cX0_greedy 32 = .ok (.invokevirtual 154, 3) := by decide +kernel
theorem dX0_greedy_35 : decode cX0_greedy 35 = .ok (.istore 5, 2) := by decide +kernel
theorem dX0_greedy_37 : decode cX0_greedy 37 = .ok (.iload 5, 2) := by decide +kernel
theorem dX0_greedy_39 : decode cX0_greedy 39 = .ok (.iconst (-1), 1) := by decide +kernel
theorem dX0_greedy_40 : decode cX0_greedy 40 = .ok (.if_icmp .ne 5, 3) := by decide +kernel
theorem dX0_greedy_43 : decode cX0_greedy 43 = .ok (.iload_n 3, 1) := by decide +kernel
theorem dX0_greedy_44 : decode cX0_greedy 44 = .ok (.ireturn, 1) := by decide +kernel
theorem dX0_greedy_45 : decode cX0_greedy 45 = .ok (.iload_n 3, 1) := by decide +kernel
theorem dX0_greedy_46 : decode cX0_greedy 46 = .ok (.iload 5, 2) := by decide +kernel
theorem dX0_greedy_48 : decode cX0_greedy 48 = .ok (.invokestatic 72, 3) := by decide +kernel
theorem dX0_greedy_51 : decode cX0_greedy 51 = .ok (.istore_n 3, 1) := by decide +kernel
theorem dX0_greedy_52 : decode cX0_greedy 52 = .ok (.iinc 4 1, 3) := by decide +kernel
theorem dX0_greedy_55 : decode cX0_greedy 55 = .ok (.goto (-32), 3) := by decide +kernel
theorem dX0_greedy_58 : decode cX0_greedy 58 = .ok (.iload_n 3, 1) := by decide +kernel
theorem dX0_greedy_59 : decode cX0_greedy 59 = .ok (.ireturn, 1) := by decide +kernel
set_option maxRecDepth 20000 in
theorem ggX0_best_X0_isFunction : GoodIn wsX0_best wsX0_isFunction := goodIn_r _ [9, 10, 44, 45, 46, 47, 48, 49, 50, 51, 52, 53, 54, 55] (by decide +kernel) (by decide +kernel)
set_option maxRecDepth 20000 in
theorem gX0_best_X0_isFunction : GoodIn wsX0_best (wsV RX0 119 RX0 yX0_isFunction wsX0_isFunction) := goodIn_app (goodIn_of _ (by decide +kernel)) ggX0_best_X0_isFunction
set_option maxRecDepth 20000 in
theorem ggX0_best_X0_needIndex : GoodIn wsX0_best wsX0_needIndex := goodIn_ca (goodIn_r _ [13, 14, 15] (by decide +kernel) (by decide +kernel)) (goodIn_sub (fun _ h => List.mem_cons_of_mem _ (List.mem_append_left _ (List.mem_append_right _ h))) (by decide +kernel))
set_option maxRecDepth 20000 in
theorem gX0_best_X0_needIndex : GoodIn wsX0_best (va_wsS RX0 65 yX0_needIndex wsX0_needIndex) := goodIn_app (goodIn_of _ (by decide +kernel)) ggX0_best_X0_needIndex
set_option maxRecDepth 20000 in
theorem ggX0_best_X0_isWithin : GoodIn wsX0_best wsX0_isWithin := goodIn_r _ [18] (by decide +kernel) (by decide +kernel)
set_option maxRecDepth 20000 in
theorem gX0_best_X0_isWithin : GoodIn wsX0_best (va_wsS RX0 53 yX0_isWithin wsX0_isWithin) := goodIn_app (goodIn_of _ (by decide +kernel)) ggX0_best_X0_isWithin
set_option maxRecDepth 20000 in
theorem ggX0_best_X0_needArgument : GoodIn wsX0_best wsX0_needArgument := goodIn_ca (goodIn_r _ [21, 22, 23] (by decide +kernel) (by decide +kernel)) (goodIn_sub (fun _ h => List.mem_cons_of_mem _ (List.mem_append_right _ h)) (by decide +kernel))
set_option maxRecDepth 20000 in
theorem gX0_best_X0_needArgument : GoodIn wsX0_best (va_wsS RX0 57 yX0_needArgument wsX0_needArgument) := goodIn_app (goodIn_of _ (by decide +kernel)) ggX0_best_X0_needArgument
set_option maxRecDepth 20000 in
theorem ggX0_best_X0_sets : GoodIn wsX0_best wsX0_sets := goodIn_r _ [27, 28, 44, 45, 46, 47, 48, 49, 50, 51, 52, 53, 54, 55] (by decide +kernel) (by decide +kernel)
set_option maxRecDepth 20000 in
theorem gX0_best_X0_sets : GoodIn wsX0_best (wsV RX0 105 RX0 yX0_sets wsX0_sets) := goodIn_app (goodIn_of _ (by decide +kernel)) ggX0_best_X0_sets
set_option maxRecDepth 20000 in
theorem ggX0_best_J6_bitCount_0f7a4 : GoodIn wsX0_best wsJ6_bitCount_0f7a4 := goodIn_r _ [32, 33, 34, 35] (by decide +kernel) (by decide +kernel)
set_option maxRecDepth 20000 in
theorem gX0_best_J6_bitCount_0f7a4 : GoodIn wsX0_best (va_wsS RX0 157 yJ6_bitCount_0f7a4 wsJ6_bitCount_0f7a4) := goodIn_app (goodIn_of _ (by decide +kernel)) ggX0_best_J6_bitCount_0f7a4
set_option maxRecDepth 20000 in
theorem ggX0_best_X0_valueOf : GoodIn wsX0_best wsX0_valueOf := goodIn_r _ [39, 40, 41, 42, 8, 43, 44, 45, 46, 47, 48, 49, 50, 51, 52, 53, 54, 55] (by decide +kernel) (by decide +kernel)
set_option maxRecDepth 20000 in
theorem gX0_best_X0_valueOf : GoodIn wsX0_best (wsV RX0 122 RX0 yX0_valueOf wsX0_valueOf) := goodIn_app (goodIn_of _ (by decide +kernel)) ggX0_best_X0_valueOf
theorem dX0_best_0 : decode cX0_best 0 = .ok (.aload_n 0, 1) := by decide +kernel
theorem dX0_best_1 : decode cX0_best 1 = .ok (.iload_n 1, 1) := by decide +kernel
theorem dX0_best_2 : decode cX0_best 2 = .ok (.invokevirtual 119, 3) := by decide +kernel
theorem dX0_best_5 : decode cX0_best 5 = .ok (.invokestatic 65, 3) := by decide +kernel
theorem dX0_best_8 : decode cX0_best 8 = .ok (.iload_n 2, 1) := by decide +kernel
theorem dX0_best_9 : decode cX0_best 9 = .ok (.iconst 0, 1) := by decide +kernel
theorem dX0_best_10 : decode cX0_best 10 = .ok (.bipush 6, 2) := by decide +kernel
theorem dX0_best_12 : decode cX0_best 12 = .ok (.invokestatic 53, 3) := by decide +kernel
theorem dX0_best_15 : decode cX0_best 15 = .ok (.invokestatic 57, 3) := by decide +kernel
theorem dX0_best_18 : decode cX0_best 18 = .ok (.iconst 0, 1) := by decide +kernel
theorem dX0_best_19 : decode cX0_best 19 = .ok (.istore_n 3, 1) := by decide +kernel
theorem dX0_best_20 : decode cX0_best 20 = .ok (.iconst 0, 1) := by decide +kernel
theorem dX0_best_21 : decode cX0_best 21 = .ok (.istore 4, 2) := by decide +kernel
theorem dX0_best_23 : decode cX0_best 23 = .ok (.iload 4, 2) := by decide +kernel
theorem dX0_best_25 : decode cX0_best 25 = .ok (.aload_n 0, 1) := by decide +kernel
theorem dX0_best_26 : decode cX0_best 26 = .ok (.invokevirtual 105, 3) := by decide +kernel
theorem dX0_best_29 : decode cX0_best 29 = .ok (.if_icmp .ge 30, 3) := by decide +kernel
theorem dX0_best_32 : decode cX0_best 32 = .ok (.iload 4, 2) := by decide +kernel
theorem dX0_best_34 : decode cX0_best 34 = .ok (.invokestatic 157, 3) := by decide +kernel
theorem dX0_best_37 : decode cX0_best 37 = .ok (.iload_n 2, 1) := by decide +kernel
theorem dX0_best_38 : decode cX0_best 38 = .ok (.if_icmp .gt 15, 3) := by decide +kernel
theorem dX0_best_41 : decode cX0_best 41 = .ok (.iload_n 3, 1) := by decide +kernel
theorem dX0_best_42 : decode cX0_best 42 = .ok (.aload_n 0, 1) := by decide +kernel
theorem dX0_best_43 : decode cX0_best 43 = .ok (.iload_n 1, 1) := by decide +kernel
theorem dX0_best_44 : decode cX0_best 44 = .ok (.iload 4, 2) := by decide +kernel
theorem dX0_best_46 : decode cX0_best 46 = .ok (.invokevirtual 122, 3) := by decide +kernel
theorem dX0_best_49 : decode cX0_best 49 = .ok (.invokestatic 162, 3) := by decide +kernel
theorem dX0_best_52 : decode cX0_best 52 = .ok (.istore_n 3, 1) := by decide +kernel
theorem dX0_best_53 : decode cX0_best 53 = .ok (.iinc 4 1, 3) := by decide +kernel
theorem dX0_best_56 : decode cX0_best 56 = .ok (.goto (-33), 3) := by decide +kernel
theorem dX0_best_59 : decode cX0_best 59 = .ok (.iload_n 3, 1) := by decide +kernel
theorem dX0_best_60 : decode cX0_best 60 = .ok (.ireturn, 1) := by decide +kernel
set_option maxRecDepth 20000 in
theorem ggX0_common_X0_endOfPath : GoodIn wsX0_common wsX0_endOfPath := goodIn_r _ [6, 7, 8, 9, 10, 5, 11, 12, 1, 13, 14, 15, 16, 17, 18, 19, 20, 21, 22, 23, 24, 25, 26, 27, 28, 29, 30, 31, 32, 33, 34, 35, 36, 37, 38, 39, 40, 41, 42, 43, 44, 45, 46, 47, 48, 49, 50, 51, 63, 64, 65, 66, 67, 68, 69, 70, 71, 72, 73, 74] (by decide +kernel) (by decide +kernel)
set_option maxRecDepth 20000 in
theorem gX0_common_X0_endOfPath : GoodIn wsX0_common (wsV RX0 165 RX0 yX0_endOfPath wsX0_endOfPath) := goodIn_app (goodIn_of _ (by decide +kernel)) ggX0_common_X0_endOfPath
set_option maxRecDepth 20000 in
theorem ggX0_common_J6_bitCount_0f7a4 : GoodIn wsX0_common wsJ6_bitCount_0f7a4 := goodIn_r _ [55, 56, 57, 58] (by decide +kernel) (by decide +kernel)
set_option maxRecDepth 20000 in
theorem gX0_common_J6_bitCount_0f7a4 : GoodIn wsX0_common (va_wsS RX0 157 yJ6_bitCount_0f7a4 wsJ6_bitCount_0f7a4) := goodIn_app (goodIn_of _ (by decide +kernel)) ggX0_common_J6_bitCount_0f7a4
set_option maxRecDepth 20000 in
theorem ggX0_common_X0_flippedAlong : GoodIn wsX0_common wsX0_flippedAlong := goodIn_r _ [62, 1, 12, 26, 27, 5, 28, 63, 64, 65, 66, 67, 68, 69, 70, 71, 72, 73, 74] (by decide +kernel) (by decide +kernel)
set_option maxRecDepth 20000 in
theorem gX0_common_X0_flippedAlong : GoodIn wsX0_common (wsV RX0 168 RX0 yX0_flippedAlong wsX0_flippedAlong) := goodIn_app (goodIn_of _ (by decide +kernel)) ggX0_common_X0_flippedAlong
theorem dX0_common_0 : decode cX0_common 0 = .ok (.iconst 0, 1) := by decide +kernel
theorem dX0_common_1 : decode cX0_common 1 = .ok (.istore_n 1, 1) := by decide +kernel
theorem dX0_common_2 : decode cX0_common 2 = .ok (.iconst 0, 1) := by decide +kernel
theorem dX0_common_3 : decode cX0_common 3 = .ok (.istore_n 2, 1) := by decide +kernel
theorem dX0_common_4 : decode cX0_common 4 = .ok (.iload_n 2, 1) := by decide +kernel
theorem dX0_common_5 : decode cX0_common 5 = .ok (.aload_n 0, 1) := by decide +kernel
theorem dX0_common_6 : decode cX0_common 6 = .ok (.getfield 9, 3) := by decide +kernel
theorem dX0_common_9 : decode cX0_common 9 = .ok (.if_icmp .ge 32, 3) := by decide +kernel
theorem dX0_common_12 : decode cX0_common 12 = .ok (.aload_n 0, 1) := by decide +kernel
theorem dX0_common_13 : decode cX0_common 13 = .ok (.iload_n 1, 1) := by decide +kernel
theorem dX0_common_14 : decode cX0_common 14 = .ok (.invokevirtual 165, 3) := by decide +kernel
theorem dX0_common_17 : decode cX0_common 17 = .ok (.istore_n 3, 1) := by decide +kernel
theorem dX0_common_18 : decode cX0_common 18 = .ok (.iload_n 3, 1) := by decide +kernel
theorem dX0_common_19 : decode cX0_common 19 = .ok (.iconst (-1), 1) := by decide +kernel
theorem dX0_common_20 : decode cX0_common 20 = .ok (.if_icmp .ne 8, 3) := by decide +kernel
theorem dX0_common_23 : decode cX0_common 23 = .ok (.iload_n 1, 1) := by decide +kernel
theorem dX0_common_24 : decode cX0_common 24 = .ok (.invokestatic 157, 3) := by decide +kernel
theorem dX0_common_27 : decode cX0_common 27 = .ok (.ireturn, 1) := by decide +kernel
theorem dX0_common_28 : decode cX0_common 28 = .ok (.aload_n 0, 1) := by decide +kernel
theorem dX0_common_29 : decode cX0_common 29 = .ok (.iload_n 1, 1) := by decide +kernel
theorem dX0_common_30 : decode cX0_common 30 = .ok (.iload_n 3, 1) := by decide +kernel
theorem dX0_common_31 : decode cX0_common 31 = .ok (.invokevirtual 168, 3) := by decide +kernel
theorem dX0_common_34 : decode cX0_common 34 = .ok (.istore_n 1, 1) := by decide +kernel
theorem dX0_common_35 : decode cX0_common 35 = .ok (.iinc 2 1, 3) := by decide +kernel
theorem dX0_common_38 : decode cX0_common 38 = .ok (.goto (-34), 3) := by decide +kernel
theorem dX0_common_41 : decode cX0_common 41 = .ok (.iload_n 1, 1) := by decide +kernel
theorem dX0_common_42 : decode cX0_common 42 = .ok (.invokestatic 157, 3) := by decide +kernel
theorem dX0_common_45 : decode cX0_common 45 = .ok (.ireturn, 1) := by decide +kernel
set_option maxRecDepth 20000 in
theorem ggX0_commonAnew_X0_sets : GoodIn wsX0_commonAnew wsX0_sets := goodIn_r _ [9, 10, 42, 43, 44, 45, 46, 47, 48, 49, 50, 51, 52, 53] (by decide +kernel) (by decide +kernel)
set_option maxRecDepth 20000 in
theorem gX0_commonAnew_X0_sets : GoodIn wsX0_commonAnew (wsV RX0 105 RX0 yX0_sets wsX0_sets) := goodIn_app (goodIn_of _ (by decide +kernel)) ggX0_commonAnew_X0_sets
set_option maxRecDepth 20000 in
theorem ggX0_commonAnew_X0_isFair : GoodIn wsX0_commonAnew wsX0_isFair := goodIn_r _ [14, 15, 16, 17, 8, 18, 10, 19, 20, 21, 22, 23, 24, 25, 26, 27, 28, 29, 30, 31, 32, 33, 34, 42, 43, 44, 45, 46, 47, 48, 49, 50, 51, 52, 53] (by decide +kernel) (by decide +kernel)
set_option maxRecDepth 20000 in
theorem gX0_commonAnew_X0_isFair : GoodIn wsX0_commonAnew (wsV RX0 171 RX0 yX0_isFair wsX0_isFair) := goodIn_app (goodIn_of _ (by decide +kernel)) ggX0_commonAnew_X0_isFair
set_option maxRecDepth 20000 in
theorem ggX0_commonAnew_J6_bitCount_0f7a4 : GoodIn wsX0_commonAnew wsJ6_bitCount_0f7a4 := goodIn_r _ [38, 39, 40, 41] (by decide +kernel) (by decide +kernel)
set_option maxRecDepth 20000 in
theorem gX0_commonAnew_J6_bitCount_0f7a4 : GoodIn wsX0_commonAnew (va_wsS RX0 157 yJ6_bitCount_0f7a4 wsJ6_bitCount_0f7a4) := goodIn_app (goodIn_of _ (by decide +kernel)) ggX0_commonAnew_J6_bitCount_0f7a4
theorem dX0_commonAnew_0 : decode cX0_commonAnew 0 = .ok (.iconst 0, 1) := by decide +kernel
theorem dX0_commonAnew_1 : decode cX0_commonAnew 1 = .ok (.istore_n 1, 1) := by decide +kernel
theorem dX0_commonAnew_2 : decode cX0_commonAnew 2 = .ok (.iconst 0, 1) := by decide +kernel
theorem dX0_commonAnew_3 : decode cX0_commonAnew 3 = .ok (.istore_n 2, 1) := by decide +kernel
theorem dX0_commonAnew_4 : decode cX0_commonAnew 4 = .ok (.iload_n 2, 1) := by decide +kernel
theorem dX0_commonAnew_5 : decode cX0_commonAnew 5 = .ok (.aload_n 0, 1) := by decide +kernel
theorem dX0_commonAnew_6 : decode cX0_commonAnew 6 = .ok (.invokevirtual 105, 3) := by decide +kernel
theorem dX0_commonAnew_9 : decode cX0_commonAnew 9 = .ok (.if_icmp .ge 36, 3) := by decide +kernel
theorem dX0_commonAnew_12 : decode cX0_commonAnew 12 = .ok (.aload_n 0, 1) := by decide +kernel
theorem dX0_commonAnew_13 : decode cX0_commonAnew 13 = .ok (.iconst 0, 1) := by decide +kernel
theorem dX0_commonAnew_14 : decode cX0_commonAnew 14 = .ok (.iload_n 2, 1) := by decide +kernel
theorem dX0_commonAnew_15 : decode cX0_commonAnew 15 = .ok (.invokevirtual 171, 3) := by decide +kernel
theorem dX0_commonAnew_18 : decode cX0_commonAnew 18 = .ok (.ifCond .eq 21, 3) := by decide +kernel
theorem dX0_commonAnew_21 : decode cX0_commonAnew 21 = .ok (.aload_n 0, 1) := by decide +kernel
theorem dX0_commonAnew_22 : decode cX0_commonAnew 22 = .ok (.iconst 1, 1) := by decide +kernel
theorem dX0_commonAnew_23 : decode cX0_commonAnew 23 = .ok (.iload_n 2, 1) := by decide +kernel
theorem dX0_commonAnew_24 : decode cX0_commonAnew 24 = .ok (.invokevirtual 171, 3) := by decide +kernel
theorem dX0_commonAnew_27 : decode cX0_commonAnew 27 = .ok (.ifCond .eq 12, 3) := by decide +kernel
theorem dX0_commonAnew_30 : decode cX0_commonAnew 30 = .ok (.iload_n 1, 1) := by decide +kernel
theorem dX0_commonAnew_31 : decode cX0_commonAnew 31 = .ok (.iload_n 2, 1) := by decide +kernel
theorem dX0_commonAnew_32 : decode cX0_commonAnew 32 = .ok (.invokestatic 157, 3) := by decide +kernel
theorem dX0_commonAnew_35 : decode cX0_commonAnew 35 = .ok (.invokestatic 162, 3) := by decide +kernel
theorem dX0_commonAnew_38 : decode cX0_commonAnew 38 = .ok (.istore_n 1, 1) := by decide +kernel
theorem dX0_commonAnew_39 : decode cX0_commonAnew 39 = .ok (.iinc 2 1, 3) := by decide +kernel
theorem dX0_commonAnew_42 : decode cX0_commonAnew 42 = .ok (.goto (-38), 3) := by decide +kernel
theorem dX0_commonAnew_45 : decode cX0_commonAnew 45 = .ok (.iload_n 1, 1) := by decide +kernel
theorem dX0_commonAnew_46 : decode cX0_commonAnew 46 = .ok (.ireturn, 1) := by decide +kernel
set_option maxRecDepth 20000 in
theorem ggX0_share_X0_isFunction : GoodIn wsX0_share wsX0_isFunction := goodIn_r _ [6, 7, 49, 50, 51, 52, 53, 54, 55, 56, 57, 58, 59, 60] (by decide +kernel) (by decide +kernel)
set_option maxRecDepth 20000 in
theorem gX0_share_X0_isFunction : GoodIn wsX0_share (wsV RX0 119 RX0 yX0_isFunction wsX0_isFunction) := goodIn_app (goodIn_of _ (by decide +kernel)) ggX0_share_X0_isFunction
set_option maxRecDepth 20000 in
theorem ggX0_share_X0_isElement : GoodIn wsX0_share wsX0_isElement := goodIn_r _ [11, 1, 49, 50, 51, 52, 53, 54, 55, 56, 57, 58, 59, 60] (by decide +kernel) (by decide +kernel)
set_option maxRecDepth 20000 in
theorem gX0_share_X0_isElement : GoodIn wsX0_share (wsV RX0 61 RX0 yX0_isElement wsX0_isElement) := goodIn_app (goodIn_of _ (by decide +kernel)) ggX0_share_X0_isElement
set_option maxRecDepth 20000 in
theorem ggX0_share_X0_needIndex : GoodIn wsX0_share wsX0_needIndex := goodIn_ca (goodIn_r _ [14, 15, 16] (by decide +kernel) (by decide +kernel)) (goodIn_sub (fun _ h => List.mem_cons_of_mem _ (List.mem_append_right _ h)) (by decide +kernel))
set_option maxRecDepth 20000 in
theorem gX0_share_X0_needIndex : GoodIn wsX0_share (va_wsS RX0 65 yX0_needIndex wsX0_needIndex) := goodIn_app (goodIn_of _ (by decide +kernel)) ggX0_share_X0_needIndex
set_option maxRecDepth 20000 in
theorem ggX0_share_X0_sets : GoodIn wsX0_share wsX0_sets := goodIn_r _ [20, 1, 49, 50, 51, 52, 53, 54, 55, 56, 57, 58, 59, 60] (by decide +kernel) (by decide +kernel)
set_option maxRecDepth 20000 in
theorem gX0_share_X0_sets : GoodIn wsX0_share (wsV RX0 105 RX0 yX0_sets wsX0_sets) := goodIn_app (goodIn_of _ (by decide +kernel)) ggX0_share_X0_sets
set_option maxRecDepth 20000 in
theorem ggX0_share_X0_has : GoodIn wsX0_share wsX0_has := goodIn_r _ [23] (by decide +kernel) (by decide +kernel)
set_option maxRecDepth 20000 in
theorem gX0_share_X0_has : GoodIn wsX0_share (va_wsS RX0 83 yX0_has wsX0_has) := goodIn_app (goodIn_of _ (by decide +kernel)) ggX0_share_X0_has
set_option maxRecDepth 20000 in
theorem ggX0_share_J6_bitCount_0f7a4 : GoodIn wsX0_share wsJ6_bitCount_0f7a4 := goodIn_r _ [27, 28, 29, 30] (by decide +kernel) (by decide +kernel)
set_option maxRecDepth 20000 in
theorem gX0_share_J6_bitCount_0f7a4 : GoodIn wsX0_share (va_wsS RX0 157 yJ6_bitCount_0f7a4 wsJ6_bitCount_0f7a4) := goodIn_app (goodIn_of _ (by decide +kernel)) ggX0_share_J6_bitCount_0f7a4
set_option maxRecDepth 20000 in
theorem ggX0_share_X0_ordersOf : GoodIn wsX0_share wsX0_ordersOf := goodIn_r _ [33] (by decide +kernel) (by decide +kernel)
set_option maxRecDepth 20000 in
theorem gX0_share_X0_ordersOf : GoodIn wsX0_share (va_wsS RX0 174 yX0_ordersOf wsX0_ordersOf) := goodIn_app (goodIn_of _ (by decide +kernel)) ggX0_share_X0_ordersOf
set_option maxRecDepth 20000 in
theorem ggX0_share_X0_gain : GoodIn wsX0_share wsX0_gain := goodIn_r _ [37, 38, 39, 5, 40, 41, 42, 43, 44, 45, 46, 47, 48, 49, 50, 51, 52, 53, 54, 55, 56, 57, 58, 59, 60] (by decide +kernel) (by decide +kernel)
set_option maxRecDepth 20000 in
theorem gX0_share_X0_gain : GoodIn wsX0_share (wsV RX0 136 RX0 yX0_gain wsX0_gain) := goodIn_app (goodIn_of _ (by decide +kernel)) ggX0_share_X0_gain
theorem dX0_share_0 : decode cX0_share 0 = .ok (.aload_n 0, 1) := by decide +kernel
theorem dX0_share_1 : decode cX0_share 1 = .ok (.iload_n 1, 1) := by decide +kernel
theorem dX0_share_2 : decode cX0_share 2 = .ok (.invokevirtual 119, 3) := by decide +kernel
theorem dX0_share_5 : decode cX0_share 5 = .ok (.ifCond .eq 15, 3) := by decide +kernel
theorem dX0_share_8 : decode cX0_share 8 = .ok (.aload_n 0, 1) := by decide +kernel
theorem dX0_share_9 : decode cX0_share 9 = .ok (.iload_n 2, 1) := by decide +kernel
theorem dX0_share_10 : decode cX0_share 10 = .ok (.invokevirtual 61, 3) := by decide +kernel
theorem dX0_share_13 : decode cX0_share 13 = .ok (.ifCond .eq 7, 3) := by decide +kernel
theorem dX0_share_16 : decode cX0_share 16 = .ok (.iconst 1, 1) := by decide +kernel
theorem dX0_share_17 : decode cX0_share 17 = .ok (.goto 4, 3) := by decide +kernel
theorem dX0_share_20 : decode cX0_share 20 = .ok (.iconst 0, 1) := by decide +kernel
theorem dX0_share_21 : decode cX0_share 21 = .ok (.invokestatic 65, 3) := by decide +kernel
theorem dX0_share_24 : decode cX0_share 24 = .ok (.iconst 0, 1) := by decide +kernel
theorem dX0_share_25 : decode cX0_share 25 = .ok (.istore_n 3, 1) := by decide +kernel
theorem dX0_share_26 : decode cX0_share 26 = .ok (.iconst 0, 1) := by decide +kernel
theorem dX0_share_27 : decode cX0_share 27 = .ok (.istore 4, 2) := by decide +kernel
theorem dX0_share_29 : decode cX0_share 29 = .ok (.iload 4, 2) := by decide +kernel
theorem dX0_share_31 : decode cX0_share 31 = .ok (.aload_n 0, 1) := by decide +kernel
theorem dX0_share_32 : decode cX0_share 32 = .ok (.invokevirtual 105, 3) := by decide +kernel
theorem dX0_share_35 : decode cX0_share 35 = .ok (.if_icmp .ge 59, 3) := by decide +kernel
theorem dX0_share_38 : decode cX0_share 38 = .ok (.iload 4, 2) := by decide +kernel
theorem dX0_share_40 : decode cX0_share 40 = .ok (.iload_n 2, 1) := by decide +kernel
theorem dX0_share_41 : decode cX0_share 41 = .ok (.invokestatic 83, 3) := by decide +kernel
theorem dX0_share_44 : decode cX0_share 44 = .ok (.ifCond .ne 44, 3) := by decide +kernel
theorem dX0_share_47 : decode cX0_share 47 = .ok (.iload 4, 2) := by decide +kernel
theorem dX0_share_49 : decode cX0_share 49 = .ok (.invokestatic 157, 3) := by decide +kernel
theorem dX0_share_52 : decode cX0_share 52 = .ok (.istore 5, 2) := by decide +kernel
theorem dX0_share_54 : decode cX0_share 54 = .ok (.iload 5, 2) := by decide +kernel
theorem dX0_share_56 : decode cX0_share 56 = .ok (.invokestatic 174, 3) := by decide +kernel
theorem dX0_share_59 : decode cX0_share 59 = .ok (.aload_n 0, 1) := by decide +kernel
theorem dX0_share_60 : decode cX0_share 60 = .ok (.getfield 9, 3) := by decide +kernel
theorem dX0_share_63 : decode cX0_share 63 = .ok (.iconst 1, 1) := by decide +kernel
theorem dX0_share_64 : decode cX0_share 64 = .ok (.isub, 1) := by decide +kernel
theorem dX0_share_65 : decode cX0_share 65 = .ok (.iload 5, 2) := by decide +kernel
theorem dX0_share_67 : decode cX0_share 67 = .ok (.isub, 1) := by decide +kernel
theorem dX0_share_68 : decode cX0_share 68 = .ok (.invokestatic 174, 3) := by decide +kernel
theorem dX0_share_71 : decode cX0_share 71 = .ok (.imul, 1) := by decide +kernel
theorem dX0_share_72 : decode cX0_share 72 = .ok (.istore 6, 2) := by decide +kernel
theorem dX0_share_74 : decode cX0_share 74 = .ok (.iload_n 3, 1) := by decide +kernel
theorem dX0_share_75 : decode cX0_share 75 = .ok (.iload 6, 2) := by decide +kernel
theorem dX0_share_77 : decode cX0_share 77 = .ok (.aload_n 0, 1) := by decide +kernel
theorem dX0_share_78 : decode cX0_share 78 = .ok (.iload_n 1, 1) := by decide +kernel
theorem dX0_share_79 : decode cX0_share 79 = .ok (.iload 4, 2) := by decide +kernel
theorem dX0_share_81 : decode cX0_share 81 = .ok (.iload_n 2, 1) := by decide +kernel
theorem dX0_share_82 : decode cX0_share 82 = .ok (.invokevirtual 136, 3) := by decide +kernel
theorem dX0_share_85 : decode cX0_share 85 = .ok (.imul, 1) := by decide +kernel
theorem dX0_share_86 : decode cX0_share 86 = .ok (.iadd, 1) := by decide +kernel
theorem dX0_share_87 : decode cX0_share 87 = .ok (.istore_n 3, 1) := by decide +kernel
theorem dX0_share_88 : decode cX0_share 88 = .ok (.iinc 4 1, 3) := by decide +kernel
theorem dX0_share_91 : decode cX0_share 91 = .ok (.goto (-62), 3) := by decide +kernel
theorem dX0_share_94 : decode cX0_share 94 = .ok (.iload_n 3, 1) := by decide +kernel
theorem dX0_share_95 : decode cX0_share 95 = .ok (.ireturn, 1) := by decide +kernel
set_option maxRecDepth 20000 in
theorem ggX0_shareAnew_X0_isFunction : GoodIn wsX0_shareAnew wsX0_isFunction := goodIn_r _ [5, 6, 39, 40, 41, 42, 43, 44, 45, 46, 47, 48, 49, 50] (by decide +kernel) (by decide +kernel)
set_option maxRecDepth 20000 in
theorem gX0_shareAnew_X0_isFunction : GoodIn wsX0_shareAnew (wsV RX0 119 RX0 yX0_isFunction wsX0_isFunction) := goodIn_app (goodIn_of _ (by decide +kernel)) ggX0_shareAnew_X0_isFunction
set_option maxRecDepth 20000 in
theorem ggX0_shareAnew_X0_isElement : GoodIn wsX0_shareAnew wsX0_isElement := goodIn_r _ [10, 11, 39, 40, 41, 42, 43, 44, 45, 46, 47, 48, 49, 50] (by decide +kernel) (by decide +kernel)
set_option maxRecDepth 20000 in
theorem gX0_shareAnew_X0_isElement : GoodIn wsX0_shareAnew (wsV RX0 61 RX0 yX0_isElement wsX0_isElement) := goodIn_app (goodIn_of _ (by decide +kernel)) ggX0_shareAnew_X0_isElement
set_option maxRecDepth 20000 in
theorem ggX0_shareAnew_X0_needIndex : GoodIn wsX0_shareAnew wsX0_needIndex := goodIn_ca (goodIn_r _ [14, 15, 16] (by decide +kernel) (by decide +kernel)) (goodIn_sub (fun _ h => List.mem_cons_of_mem _ (List.mem_append_right _ h)) (by decide +kernel))
set_option maxRecDepth 20000 in
theorem gX0_shareAnew_X0_needIndex : GoodIn wsX0_shareAnew (va_wsS RX0 65 yX0_needIndex wsX0_needIndex) := goodIn_app (goodIn_of _ (by decide +kernel)) ggX0_shareAnew_X0_needIndex
set_option maxRecDepth 20000 in
theorem ggX0_shareAnew_X0_gainsOverOrders : GoodIn wsX0_shareAnew wsX0_gainsOverOrders := goodIn_r _ [20, 11, 21, 22, 4, 23, 24, 25, 26, 27, 28, 29, 30, 31, 32, 33, 34, 35, 36, 37, 38, 17, 18, 19, 39, 40, 41, 42, 43, 44, 45, 46, 47, 48, 49, 50] (by decide +kernel) (by decide +kernel)
set_option maxRecDepth 20000 in
theorem gX0_shareAnew_X0_gainsOverOrders : GoodIn wsX0_shareAnew (wsV RX0 177 RX0 yX0_gainsOverOrders wsX0_gainsOverOrders) := goodIn_app (goodIn_of _ (by decide +kernel)) ggX0_shareAnew_X0_gainsOverOrders
theorem dX0_shareAnew_0 : decode cX0_shareAnew 0 = .ok (.aload_n 0, 1) := by decide +kernel
theorem dX0_shareAnew_1 : decode cX0_shareAnew 1 = .ok (.iload_n 1, 1) := by decide +kernel
theorem dX0_shareAnew_2 : decode cX0_shareAnew 2 = .ok (.invokevirtual 119, 3) := by decide +kernel
theorem dX0_shareAnew_5 : decode cX0_shareAnew 5 = .ok (.ifCond .eq 15, 3) := by decide +kernel
theorem dX0_shareAnew_8 : decode cX0_shareAnew 8 = .ok (.aload_n 0, 1) := by decide +kernel
theorem dX0_shareAnew_9 : decode cX0_shareAnew 9 = .ok (.iload_n 2, 1) := by decide +kernel
theorem dX0_shareAnew_10 : decode cX0_shareAnew 10 = .ok (.invokevirtual 61, 3) := by decide +kernel
theorem dX0_shareAnew_13 : decode cX0_shareAnew 13 = .ok (.ifCond .eq 7, 3) := by decide +kernel
theorem dX0_shareAnew_16 : decode cX0_shareAnew 16 = .ok (.iconst 1, 1) := by decide +kernel
theorem dX0_shareAnew_17 : decode cX0_shareAnew 17 = .ok (.goto 4, 3) := by decide +kernel
theorem dX0_shareAnew_20 : decode cX0_shareAnew 20 = .ok (.iconst 0, 1) := by decide +kernel
theorem dX0_shareAnew_21 : decode cX0_shareAnew 21 = .ok (.invokestatic 65, 3) := by decide +kernel
theorem dX0_shareAnew_24 : decode cX0_shareAnew 24 = .ok (.aload_n 0, 1) := by decide +kernel
theorem dX0_shareAnew_25 : decode cX0_shareAnew 25 = .ok (.iload_n 1, 1) := by decide +kernel
theorem dX0_shareAnew_26 : decode cX0_shareAnew 26 = .ok (.iload_n 2, 1) := by decide +kernel
theorem dX0_shareAnew_27 : decode cX0_shareAnew 27 = .ok (.iconst 0, 1) := by decide +kernel
theorem dX0_shareAnew_28 : decode cX0_shareAnew 28 = .ok (.iconst 0, 1) := by decide +kernel
theorem dX0_shareAnew_29 : decode cX0_shareAnew 29 = .ok (.iconst 0, 1) := by decide +kernel
theorem dX0_shareAnew_30 : decode cX0_shareAnew 30 = .ok (.invokevirtual 177, 3) := by decide +kernel
theorem dX0_shareAnew_33 : decode cX0_shareAnew 33 = .ok (.ireturn, 1) := by decide +kernel
end
section
theorem dX0_needIndex_0 : decode cX0_needIndex 0 = .ok (.iload_n 0, 1) := by decide +kernel
theorem dX0_needIndex_1 : decode cX0_needIndex 1 = .ok (.ifCond .ne 13, 3) := by decide +kernel
theorem dX0_needIndex_4 : decode cX0_needIndex 4 = .ok (.new 181, 3) := by decide +kernel
theorem dX0_needIndex_7 : decode cX0_needIndex 7 = .ok (.dup, 1) := by decide +kernel
theorem dX0_needIndex_8 : decode cX0_needIndex 8 = .ok (.ldc 183, 2) := by decide +kernel
theorem dX0_needIndex_10 : decode cX0_needIndex 10 = .ok (.invokespecial 185, 3) := by decide +kernel
theorem dX0_needIndex_13 : decode cX0_needIndex 13 = .ok (.athrow, 1) := by decide +kernel
theorem dX0_needIndex_14 : decode cX0_needIndex 14 = .ok (.return_, 1) := by decide +kernel
theorem dX0_needArgument_0 : decode cX0_needArgument 0 = .ok (.iload_n 0, 1) := by decide +kernel
theorem dX0_needArgument_1 : decode cX0_needArgument 1 = .ok (.ifCond .ne 13, 3) := by decide +kernel
theorem dX0_needArgument_4 : decode cX0_needArgument 4 = .ok (.new 188, 3) := by decide +kernel
theorem dX0_needArgument_7 : decode cX0_needArgument 7 = .ok (.dup, 1) := by decide +kernel
theorem dX0_needArgument_8 : decode cX0_needArgument 8 = .ok (.ldc 190, 2) := by decide +kernel
theorem dX0_needArgument_10 : decode cX0_needArgument 10 = .ok (.invokespecial 192, 3) := by decide +kernel
theorem dX0_needArgument_13 : decode cX0_needArgument 13 = .ok (.athrow, 1) := by decide +kernel
theorem dX0_needArgument_14 : decode cX0_needArgument 14 = .ok (.return_, 1) := by decide +kernel
theorem dX0_needState_0 : decode cX0_needState 0 = .ok (.iload_n 0, 1) := by decide +kernel
theorem dX0_needState_1 : decode cX0_needState 1 = .ok (.ifCond .ne 13, 3) := by decide +kernel
theorem dX0_needState_4 : decode cX0_needState 4 = .ok (.new 193, 3) := by decide +kernel
theorem dX0_needState_7 : decode cX0_needState 7 = .ok (.dup, 1) := by decide +kernel
theorem dX0_needState_8 : decode cX0_needState 8 = .ok (.ldc 195, 2) := by decide +kernel
theorem dX0_needState_10 : decode cX0_needState 10 = .ok (.invokespecial 197, 3) := by decide +kernel
theorem dX0_needState_13 : decode cX0_needState 13 = .ok (.athrow, 1) := by decide +kernel
theorem dX0_needState_14 : decode cX0_needState 14 = .ok (.return_, 1) := by decide +kernel
set_option maxRecDepth 20000 in
theorem ggX0_needPlace_X0_needState : GoodIn wsX0_needPlace wsX0_needState := goodIn_ca (goodIn_r _ [5, 6, 7] (by decide +kernel) (by decide +kernel)) (goodIn_sub (fun _ h => List.mem_cons_of_mem _ (List.mem_append_right _ h)) (by decide +kernel))
set_option maxRecDepth 20000 in
theorem gX0_needPlace_X0_needState : GoodIn wsX0_needPlace (va_wsS RX0 140 yX0_needState wsX0_needState) := goodIn_app (goodIn_of _ (by decide +kernel)) ggX0_needPlace_X0_needState
theorem dX0_needPlace_0 : decode cX0_needPlace 0 = .ok (.aload_n 0, 1) := by decide +kernel
theorem dX0_needPlace_1 : decode cX0_needPlace 1 = .ok (.getfield 13, 3) := by decide +kernel
theorem dX0_needPlace_4 : decode cX0_needPlace 4 = .ok (.bipush 8, 2) := by decide +kernel
theorem dX0_needPlace_6 : decode cX0_needPlace 6 = .ok (.if_icmp .ge 7, 3) := by decide +kernel
theorem dX0_needPlace_9 : decode cX0_needPlace 9 = .ok (.iconst 1, 1) := by decide +kernel
theorem dX0_needPlace_10 : decode cX0_needPlace 10 = .ok (.goto 4, 3) := by decide +kernel
theorem dX0_needPlace_13 : decode cX0_needPlace 13 = .ok (.iconst 0, 1) := by decide +kernel
theorem dX0_needPlace_14 : decode cX0_needPlace 14 = .ok (.invokestatic 140, 3) := by decide +kernel
theorem dX0_needPlace_17 : decode cX0_needPlace 17 = .ok (.return_, 1) := by decide +kernel
theorem dX0_isWithin_0 : decode cX0_isWithin 0 = .ok (.iload_n 0, 1) := by decide +kernel
theorem dX0_isWithin_1 : decode cX0_isWithin 1 = .ok (.iload_n 1, 1) := by decide +kernel
theorem dX0_isWithin_2 : decode cX0_isWithin 2 = .ok (.if_icmp .lt 12, 3) := by decide +kernel
theorem dX0_isWithin_5 : decode cX0_isWithin 5 = .ok (.iload_n 0, 1) := by decide +kernel
theorem dX0_isWithin_6 : decode cX0_isWithin 6 = .ok (.iload_n 2, 1) := by decide +kernel
theorem dX0_isWithin_7 : decode cX0_isWithin 7 = .ok (.if_icmp .gt 7, 3) := by decide +kernel
theorem dX0_isWithin_10 : decode cX0_isWithin 10 = .ok (.iconst 1, 1) := by decide +kernel
theorem dX0_isWithin_11 : decode cX0_isWithin 11 = .ok (.goto 4, 3) := by decide +kernel
theorem dX0_isWithin_14 : decode cX0_isWithin 14 = .ok (.iconst 0, 1) := by decide +kernel
theorem dX0_isWithin_15 : decode cX0_isWithin 15 = .ok (.ireturn, 1) := by decide +kernel
theorem dX0_isElement_0 : decode cX0_isElement 0 = .ok (.iload_n 1, 1) := by decide +kernel
theorem dX0_isElement_1 : decode cX0_isElement 1 = .ok (.ifCond .lt 15, 3) := by decide +kernel
theorem dX0_isElement_4 : decode cX0_isElement 4 = .ok (.iload_n 1, 1) := by decide +kernel
theorem dX0_isElement_5 : decode cX0_isElement 5 = .ok (.aload_n 0, 1) := by decide +kernel
theorem dX0_isElement_6 : decode cX0_isElement 6 = .ok (.getfield 9, 3) := by decide +kernel
theorem dX0_isElement_9 : decode cX0_isElement 9 = .ok (.if_icmp .ge 7, 3) := by decide +kernel
theorem dX0_isElement_12 : decode cX0_isElement 12 = .ok (.iconst 1, 1) := by decide +kernel
theorem dX0_isElement_13 : decode cX0_isElement 13 = .ok (.goto 4, 3) := by decide +kernel
theorem dX0_isElement_16 : decode cX0_isElement 16 = .ok (.iconst 0, 1) := by decide +kernel
theorem dX0_isElement_17 : decode cX0_isElement 17 = .ok (.ireturn, 1) := by decide +kernel
theorem dX0_isFamily_0 : decode cX0_isFamily 0 = .ok (.iload_n 0, 1) := by decide +kernel
theorem dX0_isFamily_1 : decode cX0_isFamily 1 = .ok (.ifCond .lt 12, 3) := by decide +kernel
theorem dX0_isFamily_4 : decode cX0_isFamily 4 = .ok (.iload_n 0, 1) := by decide +kernel
theorem dX0_isFamily_5 : decode cX0_isFamily 5 = .ok (.iconst 2, 1) := by decide +kernel
theorem dX0_isFamily_6 : decode cX0_isFamily 6 = .ok (.if_icmp .ge 7, 3) := by decide +kernel
theorem dX0_isFamily_9 : decode cX0_isFamily 9 = .ok (.iconst 1, 1) := by decide +kernel
theorem dX0_isFamily_10 : decode cX0_isFamily 10 = .ok (.goto 4, 3) := by decide +kernel
theorem dX0_isFamily_13 : decode cX0_isFamily 13 = .ok (.iconst 0, 1) := by decide +kernel
theorem dX0_isFamily_14 : decode cX0_isFamily 14 = .ok (.ireturn, 1) := by decide +kernel
theorem dX0_isColour_0 : decode cX0_isColour 0 = .ok (.iload_n 0, 1) := by decide +kernel
theorem dX0_isColour_1 : decode cX0_isColour 1 = .ok (.ifCond .lt 13, 3) := by decide +kernel
theorem dX0_isColour_4 : decode cX0_isColour 4 = .ok (.iload_n 0, 1) := by decide +kernel
theorem dX0_isColour_5 : decode cX0_isColour 5 = .ok (.bipush 6, 2) := by decide +kernel
theorem dX0_isColour_7 : decode cX0_isColour 7 = .ok (.if_icmp .ge 7, 3) := by decide +kernel
theorem dX0_isColour_10 : decode cX0_isColour 10 = .ok (.iconst 1, 1) := by decide +kernel
theorem dX0_isColour_11 : decode cX0_isColour 11 = .ok (.goto 4, 3) := by decide +kernel
theorem dX0_isColour_14 : decode cX0_isColour 14 = .ok (.iconst 0, 1) := by decide +kernel
theorem dX0_isColour_15 : decode cX0_isColour 15 = .ok (.ireturn, 1) := by decide +kernel
theorem dX0_isFunction_0 : decode cX0_isFunction 0 = .ok (.iload_n 1, 1) := by decide +kernel
theorem dX0_isFunction_1 : decode cX0_isFunction 1 = .ok (.ifCond .lt 15, 3) := by decide +kernel
theorem dX0_isFunction_4 : decode cX0_isFunction 4 = .ok (.iload_n 1, 1) := by decide +kernel
theorem dX0_isFunction_5 : decode cX0_isFunction 5 = .ok (.aload_n 0, 1) := by decide +kernel
theorem dX0_isFunction_6 : decode cX0_isFunction 6 = .ok (.getfield 13, 3) := by decide +kernel
theorem dX0_isFunction_9 : decode cX0_isFunction 9 = .ok (.if_icmp .ge 7, 3) := by decide +kernel
theorem dX0_isFunction_12 : decode cX0_isFunction 12 = .ok (.iconst 1, 1) := by decide +kernel
theorem dX0_isFunction_13 : decode cX0_isFunction 13 = .ok (.goto 4, 3) := by decide +kernel
theorem dX0_isFunction_16 : decode cX0_isFunction 16 = .ok (.iconst 0, 1) := by decide +kernel
theorem dX0_isFunction_17 : decode cX0_isFunction 17 = .ok (.ireturn, 1) := by decide +kernel
set_option maxRecDepth 20000 in
theorem ggX0_isSet_X0_sets : GoodIn wsX0_isSet wsX0_sets := goodIn_r _ [5, 6, 7, 8, 9, 10, 11, 12, 13, 14, 15, 16, 17, 18] (by decide +kernel) (by decide +kernel)
set_option maxRecDepth 20000 in
theorem gX0_isSet_X0_sets : GoodIn wsX0_isSet (wsV RX0 105 RX0 yX0_sets wsX0_sets) := goodIn_app (goodIn_of _ (by decide +kernel)) ggX0_isSet_X0_sets
theorem dX0_isSet_0 : decode cX0_isSet 0 = .ok (.iload_n 1, 1) := by decide +kernel
theorem dX0_isSet_1 : decode cX0_isSet 1 = .ok (.ifCond .lt 15, 3) := by decide +kernel
theorem dX0_isSet_4 : decode cX0_isSet 4 = .ok (.iload_n 1, 1) := by decide +kernel
theorem dX0_isSet_5 : decode cX0_isSet 5 = .ok (.aload_n 0, 1) := by decide +kernel
theorem dX0_isSet_6 : decode cX0_isSet 6 = .ok (.invokevirtual 105, 3) := by decide +kernel
theorem dX0_isSet_9 : decode cX0_isSet 9 = .ok (.if_icmp .ge 7, 3) := by decide +kernel
theorem dX0_isSet_12 : decode cX0_isSet 12 = .ok (.iconst 1, 1) := by decide +kernel
theorem dX0_isSet_13 : decode cX0_isSet 13 = .ok (.goto 4, 3) := by decide +kernel
theorem dX0_isSet_16 : decode cX0_isSet 16 = .ok (.iconst 0, 1) := by decide +kernel
theorem dX0_isSet_17 : decode cX0_isSet 17 = .ok (.ireturn, 1) := by decide +kernel
theorem dX0_at_0 : decode cX0_at 0 = .ok (.iload_n 1, 1) := by decide +kernel
theorem dX0_at_1 : decode cX0_at 1 = .ok (.ifCond .lt 15, 3) := by decide +kernel
theorem dX0_at_4 : decode cX0_at 4 = .ok (.iload_n 1, 1) := by decide +kernel
theorem dX0_at_5 : decode cX0_at 5 = .ok (.aload_n 0, 1) := by decide +kernel
theorem dX0_at_6 : decode cX0_at 6 = .ok (.arraylength, 1) := by decide +kernel
theorem dX0_at_7 : decode cX0_at 7 = .ok (.if_icmp .ge 9, 3) := by decide +kernel
theorem dX0_at_10 : decode cX0_at 10 = .ok (.aload_n 0, 1) := by decide +kernel
theorem dX0_at_11 : decode cX0_at 11 = .ok (.iload_n 1, 1) := by decide +kernel
theorem dX0_at_12 : decode cX0_at 12 = .ok (.iaload, 1) := by decide +kernel
theorem dX0_at_13 : decode cX0_at 13 = .ok (.goto 4, 3) := by decide +kernel
theorem dX0_at_16 : decode cX0_at 16 = .ok (.iconst 0, 1) := by decide +kernel
theorem dX0_at_17 : decode cX0_at 17 = .ok (.ireturn, 1) := by decide +kernel
theorem dX0_put_0 : decode cX0_put 0 = .ok (.iload_n 1, 1) := by decide +kernel
theorem dX0_put_1 : decode cX0_put 1 = .ok (.ifCond .lt 13, 3) := by decide +kernel
theorem dX0_put_4 : decode cX0_put 4 = .ok (.iload_n 1, 1) := by decide +kernel
theorem dX0_put_5 : decode cX0_put 5 = .ok (.aload_n 0, 1) := by decide +kernel
theorem dX0_put_6 : decode cX0_put 6 = .ok (.arraylength, 1) := by decide +kernel
theorem dX0_put_7 : decode cX0_put 7 = .ok (.if_icmp .ge 7, 3) := by decide +kernel
theorem dX0_put_10 : decode cX0_put 10 = .ok (.aload_n 0, 1) := by decide +kernel
theorem dX0_put_11 : decode cX0_put 11 = .ok (.iload_n 1, 1) := by decide +kernel
theorem dX0_put_12 : decode cX0_put 12 = .ok (.iload_n 2, 1) := by decide +kernel
theorem dX0_put_13 : decode cX0_put 13 = .ok (.iastore, 1) := by decide +kernel
theorem dX0_put_14 : decode cX0_put 14 = .ok (.return_, 1) := by decide +kernel
set_option maxRecDepth 20000 in
theorem ggX0_edgeWeight_X0_at : GoodIn wsX0_edgeWeight wsX0_at := goodIn_r _ [5] (by decide +kernel) (by decide +kernel)
set_option maxRecDepth 20000 in
theorem gX0_edgeWeight_X0_at : GoodIn wsX0_edgeWeight (va_wsS RX0 68 yX0_at wsX0_at) := goodIn_app (goodIn_of _ (by decide +kernel)) ggX0_edgeWeight_X0_at
theorem dX0_edgeWeight_0 : decode cX0_edgeWeight 0 = .ok (.aload_n 0, 1) := by decide +kernel
theorem dX0_edgeWeight_1 : decode cX0_edgeWeight 1 = .ok (.getfield 23, 3) := by decide +kernel
theorem dX0_edgeWeight_4 : decode cX0_edgeWeight 4 = .ok (.iload_n 1, 1) := by decide +kernel
theorem dX0_edgeWeight_5 : decode cX0_edgeWeight 5 = .ok (.bipush 6, 2) := by decide +kernel
theorem dX0_edgeWeight_7 : decode cX0_edgeWeight 7 = .ok (.imul, 1) := by decide +kernel
theorem dX0_edgeWeight_8 : decode cX0_edgeWeight 8 = .ok (.iload_n 2, 1) := by decide +kernel
theorem dX0_edgeWeight_9 : decode cX0_edgeWeight 9 = .ok (.iadd, 1) := by decide +kernel
theorem dX0_edgeWeight_10 : decode cX0_edgeWeight 10 = .ok (.invokestatic 68, 3) := by decide +kernel
theorem dX0_edgeWeight_13 : decode cX0_edgeWeight 13 = .ok (.ireturn, 1) := by decide +kernel
set_option maxRecDepth 20000 in
theorem ggX0_colourOf_X0_at : GoodIn wsX0_colourOf wsX0_at := goodIn_r _ [5] (by decide +kernel) (by decide +kernel)
set_option maxRecDepth 20000 in
theorem gX0_colourOf_X0_at : GoodIn wsX0_colourOf (va_wsS RX0 68 yX0_at wsX0_at) := goodIn_app (goodIn_of _ (by decide +kernel)) ggX0_colourOf_X0_at
theorem dX0_colourOf_0 : decode cX0_colourOf 0 = .ok (.aload_n 0, 1) := by decide +kernel
theorem dX0_colourOf_1 : decode cX0_colourOf 1 = .ok (.getfield 26, 3) := by decide +kernel
theorem dX0_colourOf_4 : decode cX0_colourOf 4 = .ok (.iload_n 1, 1) := by decide +kernel
theorem dX0_colourOf_5 : decode cX0_colourOf 5 = .ok (.bipush 6, 2) := by decide +kernel
theorem dX0_colourOf_7 : decode cX0_colourOf 7 = .ok (.imul, 1) := by decide +kernel
theorem dX0_colourOf_8 : decode cX0_colourOf 8 = .ok (.iload_n 2, 1) := by decide +kernel
theorem dX0_colourOf_9 : decode cX0_colourOf 9 = .ok (.iadd, 1) := by decide +kernel
theorem dX0_colourOf_10 : decode cX0_colourOf 10 = .ok (.invokestatic 68, 3) := by decide +kernel
theorem dX0_colourOf_13 : decode cX0_colourOf 13 = .ok (.ireturn, 1) := by decide +kernel
set_option maxRecDepth 20000 in
theorem ggX0_roomOf_X0_at : GoodIn wsX0_roomOf wsX0_at := goodIn_r _ [5] (by decide +kernel) (by decide +kernel)
set_option maxRecDepth 20000 in
theorem gX0_roomOf_X0_at : GoodIn wsX0_roomOf (va_wsS RX0 68 yX0_at wsX0_at) := goodIn_app (goodIn_of _ (by decide +kernel)) ggX0_roomOf_X0_at
theorem dX0_roomOf_0 : decode cX0_roomOf 0 = .ok (.aload_n 0, 1) := by decide +kernel
theorem dX0_roomOf_1 : decode cX0_roomOf 1 = .ok (.getfield 29, 3) := by decide +kernel
theorem dX0_roomOf_4 : decode cX0_roomOf 4 = .ok (.iload_n 1, 1) := by decide +kernel
theorem dX0_roomOf_5 : decode cX0_roomOf 5 = .ok (.bipush 6, 2) := by decide +kernel
theorem dX0_roomOf_7 : decode cX0_roomOf 7 = .ok (.imul, 1) := by decide +kernel
theorem dX0_roomOf_8 : decode cX0_roomOf 8 = .ok (.iload_n 2, 1) := by decide +kernel
theorem dX0_roomOf_9 : decode cX0_roomOf 9 = .ok (.iadd, 1) := by decide +kernel
theorem dX0_roomOf_10 : decode cX0_roomOf 10 = .ok (.invokestatic 68, 3) := by decide +kernel
theorem dX0_roomOf_13 : decode cX0_roomOf 13 = .ok (.ireturn, 1) := by decide +kernel
set_option maxRecDepth 20000 in
theorem ggX0_valueOf_X0_at : GoodIn wsX0_valueOf wsX0_at := goodIn_r _ [5] (by decide +kernel) (by decide +kernel)
set_option maxRecDepth 20000 in
theorem gX0_valueOf_X0_at : GoodIn wsX0_valueOf (va_wsS RX0 68 yX0_at wsX0_at) := goodIn_app (goodIn_of _ (by decide +kernel)) ggX0_valueOf_X0_at
theorem dX0_valueOf_0 : decode cX0_valueOf 0 = .ok (.aload_n 0, 1) := by decide +kernel
theorem dX0_valueOf_1 : decode cX0_valueOf 1 = .ok (.getfield 35, 3) := by decide +kernel
theorem dX0_valueOf_4 : decode cX0_valueOf 4 = .ok (.iload_n 1, 1) := by decide +kernel
theorem dX0_valueOf_5 : decode cX0_valueOf 5 = .ok (.bipush 64, 2) := by decide +kernel
theorem dX0_valueOf_7 : decode cX0_valueOf 7 = .ok (.imul, 1) := by decide +kernel
theorem dX0_valueOf_8 : decode cX0_valueOf 8 = .ok (.iload_n 2, 1) := by decide +kernel
theorem dX0_valueOf_9 : decode cX0_valueOf 9 = .ok (.iadd, 1) := by decide +kernel
theorem dX0_valueOf_10 : decode cX0_valueOf 10 = .ok (.invokestatic 68, 3) := by decide +kernel
theorem dX0_valueOf_13 : decode cX0_valueOf 13 = .ok (.ireturn, 1) := by decide +kernel
set_option maxRecDepth 20000 in
theorem ggX0_putNew_X0_put : GoodIn wsX0_putNew wsX0_put := goodIn_r _ [6] (by decide +kernel) (by decide +kernel)
set_option maxRecDepth 20000 in
theorem gX0_putNew_X0_put : GoodIn wsX0_putNew (va_wsS RX0 79 yX0_put wsX0_put) := goodIn_app (goodIn_of _ (by decide +kernel)) ggX0_putNew_X0_put
theorem dX0_putNew_0 : decode cX0_putNew 0 = .ok (.aload_n 0, 1) := by decide +kernel
theorem dX0_putNew_1 : decode cX0_putNew 1 = .ok (.getfield 35, 3) := by decide +kernel
theorem dX0_putNew_4 : decode cX0_putNew 4 = .ok (.aload_n 0, 1) := by decide +kernel
theorem dX0_putNew_5 : decode cX0_putNew 5 = .ok (.getfield 13, 3) := by decide +kernel
theorem dX0_putNew_8 : decode cX0_putNew 8 = .ok (.bipush 64, 2) := by decide +kernel
theorem dX0_putNew_10 : decode cX0_putNew 10 = .ok (.imul, 1) := by decide +kernel
theorem dX0_putNew_11 : decode cX0_putNew 11 = .ok (.iload_n 1, 1) := by decide +kernel
theorem dX0_putNew_12 : decode cX0_putNew 12 = .ok (.iadd, 1) := by decide +kernel
theorem dX0_putNew_13 : decode cX0_putNew 13 = .ok (.iload_n 2, 1) := by decide +kernel
theorem dX0_putNew_14 : decode cX0_putNew 14 = .ok (.invokestatic 79, 3) := by decide +kernel
theorem dX0_putNew_17 : decode cX0_putNew 17 = .ok (.return_, 1) := by decide +kernel
theorem dX0_countNew_0 : decode cX0_countNew 0 = .ok (.aload_n 0, 1) := by decide +kernel
theorem dX0_countNew_1 : decode cX0_countNew 1 = .ok (.getfield 13, 3) := by decide +kernel
theorem dX0_countNew_4 : decode cX0_countNew 4 = .ok (.istore_n 1, 1) := by decide +kernel
theorem dX0_countNew_5 : decode cX0_countNew 5 = .ok (.aload_n 0, 1) := by decide +kernel
theorem dX0_countNew_6 : decode cX0_countNew 6 = .ok (.dup, 1) := by decide +kernel
theorem dX0_countNew_7 : decode cX0_countNew 7 = .ok (.getfield 13, 3) := by decide +kernel
theorem dX0_countNew_10 : decode cX0_countNew 10 = .ok (.iconst 1, 1) := by decide +kernel
theorem dX0_countNew_11 : decode cX0_countNew 11 = .ok (.iadd, 1) := by decide +kernel
theorem dX0_countNew_12 : decode cX0_countNew 12 = .ok (.putfield 13, 3) := by decide +kernel
theorem dX0_countNew_15 : decode cX0_countNew 15 = .ok (.iload_n 1, 1) := by decide +kernel
theorem dX0_countNew_16 : decode cX0_countNew 16 = .ok (.ireturn, 1) := by decide +kernel
theorem dX0_sets_0 : decode cX0_sets 0 = .ok (.iconst 1, 1) := by decide +kernel
theorem dX0_sets_1 : decode cX0_sets 1 = .ok (.aload_n 0, 1) := by decide +kernel
theorem dX0_sets_2 : decode cX0_sets 2 = .ok (.getfield 9, 3) := by decide +kernel
theorem dX0_sets_5 : decode cX0_sets 5 = .ok (.ishl, 1) := by decide +kernel
theorem dX0_sets_6 : decode cX0_sets 6 = .ok (.ireturn, 1) := by decide +kernel
theorem dX0_has_0 : decode cX0_has 0 = .ok (.iload_n 0, 1) := by decide +kernel
theorem dX0_has_1 : decode cX0_has 1 = .ok (.iload_n 1, 1) := by decide +kernel
theorem dX0_has_2 : decode cX0_has 2 = .ok (.ishr, 1) := by decide +kernel
theorem dX0_has_3 : decode cX0_has 3 = .ok (.iconst 1, 1) := by decide +kernel
theorem dX0_has_4 : decode cX0_has 4 = .ok (.iand, 1) := by decide +kernel
theorem dX0_has_5 : decode cX0_has 5 = .ok (.iconst 1, 1) := by decide +kernel
theorem dX0_has_6 : decode cX0_has 6 = .ok (.if_icmp .ne 7, 3) := by decide +kernel
theorem dX0_has_9 : decode cX0_has 9 = .ok (.iconst 1, 1) := by decide +kernel
theorem dX0_has_10 : decode cX0_has 10 = .ok (.goto 4, 3) := by decide +kernel
theorem dX0_has_13 : decode cX0_has 13 = .ok (.iconst 0, 1) := by decide +kernel
theorem dX0_has_14 : decode cX0_has 14 = .ok (.ireturn, 1) := by decide +kernel
theorem dX0_with_0 : decode cX0_with 0 = .ok (.iload_n 0, 1) := by decide +kernel
theorem dX0_with_1 : decode cX0_with 1 = .ok (.iconst 1, 1) := by decide +kernel
theorem dX0_with_2 : decode cX0_with 2 = .ok (.iload_n 1, 1) := by decide +kernel
theorem dX0_with_3 : decode cX0_with 3 = .ok (.ishl, 1) := by decide +kernel
theorem dX0_with_4 : decode cX0_with 4 = .ok (.ior, 1) := by decide +kernel
theorem dX0_with_5 : decode cX0_with 5 = .ok (.ireturn, 1) := by decide +kernel
theorem dX0_without_0 : decode cX0_without 0 = .ok (.iload_n 0, 1) := by decide +kernel
theorem dX0_without_1 : decode cX0_without 1 = .ok (.iconst 1, 1) := by decide +kernel
theorem dX0_without_2 : decode cX0_without 2 = .ok (.iload_n 1, 1) := by decide +kernel
theorem dX0_without_3 : decode cX0_without 3 = .ok (.ishl, 1) := by decide +kernel
theorem dX0_without_4 : decode cX0_without 4 = .ok (.iconst (-1), 1) := by decide +kernel
theorem dX0_without_5 : decode cX0_without 5 = .ok (.ixor, 1) := by decide +kernel
theorem dX0_without_6 : decode cX0_without 6 = .ok (.iand, 1) := by decide +kernel
theorem dX0_without_7 : decode cX0_without 7 = .ok (.ireturn, 1) := by decide +kernel
set_option maxRecDepth 20000 in
theorem ggX0_toldValue_X0_coverValue : GoodIn wsX0_toldValue wsX0_coverValue := goodIn_r _ [5, 6, 7, 8, 9, 4, 10, 11, 12, 13, 14, 15, 16, 17, 18, 19, 20, 57, 58, 59, 60, 61, 62, 63, 64, 65, 66, 67, 68] (by decide +kernel) (by decide +kernel)
set_option maxRecDepth 20000 in
theorem gX0_toldValue_X0_coverValue : GoodIn wsX0_toldValue (wsV RX0 198 RX0 yX0_coverValue wsX0_coverValue) := goodIn_app (goodIn_of _ (by decide +kernel)) ggX0_toldValue_X0_coverValue
set_option maxRecDepth 20000 in
theorem ggX0_toldValue_X0_cutValue : GoodIn wsX0_toldValue wsX0_cutValue := goodIn_r _ [24, 6, 8, 9, 4, 10, 25, 26, 27, 28, 29, 11, 12, 13, 57, 58, 59, 60, 61, 62, 63, 64, 65, 66, 67, 68] (by decide +kernel) (by decide +kernel)
set_option maxRecDepth 20000 in
theorem gX0_toldValue_X0_cutValue : GoodIn wsX0_toldValue (wsV RX0 201 RX0 yX0_cutValue wsX0_cutValue) := goodIn_app (goodIn_of _ (by decide +kernel)) ggX0_toldValue_X0_cutValue
set_option maxRecDepth 20000 in
theorem ggX0_toldValue_X0_rankValue : GoodIn wsX0_toldValue wsX0_rankValue := goodIn_r _ [33, 34, 35, 36, 37, 38, 39, 40, 4, 41, 6, 8, 9, 10, 42, 43, 44, 45, 46, 11, 12, 13, 47, 48, 49, 50, 51, 57, 58, 59, 60, 61, 62, 63, 64, 65, 66, 67, 68] (by decide +kernel) (by decide +kernel)
set_option maxRecDepth 20000 in
theorem gX0_toldValue_X0_rankValue : GoodIn wsX0_toldValue (wsV RX0 204 RX0 yX0_rankValue wsX0_rankValue) := goodIn_app (goodIn_of _ (by decide +kernel)) ggX0_toldValue_X0_rankValue
set_option maxRecDepth 20000 in
theorem ggX0_toldValue_X0_weightsValue : GoodIn wsX0_toldValue wsX0_weightsValue := goodIn_r _ [55, 6, 56, 8, 9, 4, 10, 11, 12, 13, 57, 58, 59, 60, 61, 62, 63, 64, 65, 66, 67, 68] (by decide +kernel) (by decide +kernel)
set_option maxRecDepth 20000 in
theorem gX0_toldValue_X0_weightsValue : GoodIn wsX0_toldValue (wsV RX0 207 RX0 yX0_weightsValue wsX0_weightsValue) := goodIn_app (goodIn_of _ (by decide +kernel)) ggX0_toldValue_X0_weightsValue
theorem dX0_toldValue_0 : decode cX0_toldValue 0 = .ok (.iload_n 1, 1) := by decide +kernel
theorem dX0_toldValue_1 : decode cX0_toldValue 1 = .ok (.tableswitch 57 0 3 #[31, 37, 43, 50], 31) := by decide +kernel
theorem dX0_toldValue_32 : decode cX0_toldValue 32 = .ok (.aload_n 0, 1) := by decide +kernel
theorem dX0_toldValue_33 : decode cX0_toldValue 33 = .ok (.iload_n 2, 1) := by decide +kernel
theorem dX0_toldValue_34 : decode cX0_toldValue 34 = .ok (.invokevirtual 198, 3) := by decide +kernel
theorem dX0_toldValue_37 : decode cX0_toldValue 37 = .ok (.ireturn, 1) := by decide +kernel
theorem dX0_toldValue_38 : decode cX0_toldValue 38 = .ok (.aload_n 0, 1) := by decide +kernel
theorem dX0_toldValue_39 : decode cX0_toldValue 39 = .ok (.iload_n 2, 1) := by decide +kernel
theorem dX0_toldValue_40 : decode cX0_toldValue 40 = .ok (.invokevirtual 201, 3) := by decide +kernel
theorem dX0_toldValue_43 : decode cX0_toldValue 43 = .ok (.ireturn, 1) := by decide +kernel
theorem dX0_toldValue_44 : decode cX0_toldValue 44 = .ok (.aload_n 0, 1) := by decide +kernel
theorem dX0_toldValue_45 : decode cX0_toldValue 45 = .ok (.iconst 0, 1) := by decide +kernel
theorem dX0_toldValue_46 : decode cX0_toldValue 46 = .ok (.iload_n 2, 1) := by decide +kernel
theorem dX0_toldValue_47 : decode cX0_toldValue 47 = .ok (.invokevirtual 204, 3) := by decide +kernel
theorem dX0_toldValue_50 : decode cX0_toldValue 50 = .ok (.ireturn, 1) := by decide +kernel
theorem dX0_toldValue_51 : decode cX0_toldValue 51 = .ok (.aload_n 0, 1) := by decide +kernel
theorem dX0_toldValue_52 : decode cX0_toldValue 52 = .ok (.iconst 1, 1) := by decide +kernel
theorem dX0_toldValue_53 : decode cX0_toldValue 53 = .ok (.iload_n 2, 1) := by decide +kernel
theorem dX0_toldValue_54 : decode cX0_toldValue 54 = .ok (.invokevirtual 204, 3) := by decide +kernel
theorem dX0_toldValue_57 : decode cX0_toldValue 57 = .ok (.ireturn, 1) := by decide +kernel
theorem dX0_toldValue_58 : decode cX0_toldValue 58 = .ok (.aload_n 0, 1) := by decide +kernel
theorem dX0_toldValue_59 : decode cX0_toldValue 59 = .ok (.iload_n 2, 1) := by decide +kernel
theorem dX0_toldValue_60 : decode cX0_toldValue 60 = .ok (.invokevirtual 207, 3) := by decide +kernel
theorem dX0_toldValue_63 : decode cX0_toldValue 63 = .ok (.ireturn, 1) := by decide +kernel
set_option maxRecDepth 20000 in
theorem ggX0_coverValue_X0_has : GoodIn wsX0_coverValue wsX0_has := goodIn_r _ [6] (by decide +kernel) (by decide +kernel)
set_option maxRecDepth 20000 in
theorem gX0_coverValue_X0_has : GoodIn wsX0_coverValue (va_wsS RX0 83 yX0_has wsX0_has) := goodIn_app (goodIn_of _ (by decide +kernel)) ggX0_coverValue_X0_has
set_option maxRecDepth 20000 in
theorem ggX0_coverValue_X0_at : GoodIn wsX0_coverValue wsX0_at := goodIn_r _ [9] (by decide +kernel) (by decide +kernel)
set_option maxRecDepth 20000 in
theorem gX0_coverValue_X0_at : GoodIn wsX0_coverValue (va_wsS RX0 68 yX0_at wsX0_at) := goodIn_app (goodIn_of _ (by decide +kernel)) ggX0_coverValue_X0_at
set_option maxRecDepth 20000 in
theorem ggX0_coverValue_J6_bitCount_0f7a4 : GoodIn wsX0_coverValue wsJ6_bitCount_0f7a4 := goodIn_r _ [13, 14, 15, 16] (by decide +kernel) (by decide +kernel)
set_option maxRecDepth 20000 in
theorem gX0_coverValue_J6_bitCount_0f7a4 : GoodIn wsX0_coverValue (va_wsS RX0 157 yJ6_bitCount_0f7a4 wsJ6_bitCount_0f7a4) := goodIn_app (goodIn_of _ (by decide +kernel)) ggX0_coverValue_J6_bitCount_0f7a4
theorem dX0_coverValue_0 : decode cX0_coverValue 0 = .ok (.iconst 0, 1) := by decide +kernel
theorem dX0_coverValue_1 : decode cX0_coverValue 1 = .ok (.istore_n 2, 1) := by decide +kernel
theorem dX0_coverValue_2 : decode cX0_coverValue 2 = .ok (.iconst 0, 1) := by decide +kernel
theorem dX0_coverValue_3 : decode cX0_coverValue 3 = .ok (.istore_n 3, 1) := by decide +kernel
theorem dX0_coverValue_4 : decode cX0_coverValue 4 = .ok (.iload_n 3, 1) := by decide +kernel
theorem dX0_coverValue_5 : decode cX0_coverValue 5 = .ok (.aload_n 0, 1) := by decide +kernel
theorem dX0_coverValue_6 : decode cX0_coverValue 6 = .ok (.getfield 9, 3) := by decide +kernel
theorem dX0_coverValue_9 : decode cX0_coverValue 9 = .ok (.if_icmp .ge 28, 3) := by decide +kernel
theorem dX0_coverValue_12 : decode cX0_coverValue 12 = .ok (.iload_n 1, 1) := by decide +kernel
theorem dX0_coverValue_13 : decode cX0_coverValue 13 = .ok (.iload_n 3, 1) := by decide +kernel
theorem dX0_coverValue_14 : decode cX0_coverValue 14 = .ok (.invokestatic 83, 3) := by decide +kernel
theorem dX0_coverValue_17 : decode cX0_coverValue 17 = .ok (.ifCond .eq 14, 3) := by decide +kernel
theorem dX0_coverValue_20 : decode cX0_coverValue 20 = .ok (.iload_n 2, 1) := by decide +kernel
theorem dX0_coverValue_21 : decode cX0_coverValue 21 = .ok (.aload_n 0, 1) := by decide +kernel
theorem dX0_coverValue_22 : decode cX0_coverValue 22 = .ok (.getfield 19, 3) := by decide +kernel
theorem dX0_coverValue_25 : decode cX0_coverValue 25 = .ok (.iload_n 3, 1) := by decide +kernel
theorem dX0_coverValue_26 : decode cX0_coverValue 26 = .ok (.invokestatic 68, 3) := by decide +kernel
theorem dX0_coverValue_29 : decode cX0_coverValue 29 = .ok (.ior, 1) := by decide +kernel
theorem dX0_coverValue_30 : decode cX0_coverValue 30 = .ok (.istore_n 2, 1) := by decide +kernel
theorem dX0_coverValue_31 : decode cX0_coverValue 31 = .ok (.iinc 3 1, 3) := by decide +kernel
theorem dX0_coverValue_34 : decode cX0_coverValue 34 = .ok (.goto (-30), 3) := by decide +kernel
theorem dX0_coverValue_37 : decode cX0_coverValue 37 = .ok (.iload_n 2, 1) := by decide +kernel
theorem dX0_coverValue_38 : decode cX0_coverValue 38 = .ok (.invokestatic 157, 3) := by decide +kernel
theorem dX0_coverValue_41 : decode cX0_coverValue 41 = .ok (.ireturn, 1) := by decide +kernel
set_option maxRecDepth 20000 in
theorem ggX0_cutValue_X0_has : GoodIn wsX0_cutValue wsX0_has := goodIn_r _ [5] (by decide +kernel) (by decide +kernel)
set_option maxRecDepth 20000 in
theorem gX0_cutValue_X0_has : GoodIn wsX0_cutValue (va_wsS RX0 83 yX0_has wsX0_has) := goodIn_app (goodIn_of _ (by decide +kernel)) ggX0_cutValue_X0_has
set_option maxRecDepth 20000 in
theorem ggX0_cutValue_X0_edgeWeight : GoodIn wsX0_cutValue wsX0_edgeWeight := goodIn_r _ [9, 10, 11, 12, 4, 13, 14, 15, 16, 17, 18, 19, 20, 21, 22, 23, 24, 25] (by decide +kernel) (by decide +kernel)
set_option maxRecDepth 20000 in
theorem gX0_cutValue_X0_edgeWeight : GoodIn wsX0_cutValue (wsV RX0 87 RX0 yX0_edgeWeight wsX0_edgeWeight) := goodIn_app (goodIn_of _ (by decide +kernel)) ggX0_cutValue_X0_edgeWeight
theorem dX0_cutValue_0 : decode cX0_cutValue 0 = .ok (.iconst 0, 1) := by decide +kernel
theorem dX0_cutValue_1 : decode cX0_cutValue 1 = .ok (.istore_n 2, 1) := by decide +kernel
theorem dX0_cutValue_2 : decode cX0_cutValue 2 = .ok (.iconst 0, 1) := by decide +kernel
theorem dX0_cutValue_3 : decode cX0_cutValue 3 = .ok (.istore_n 3, 1) := by decide +kernel
theorem dX0_cutValue_4 : decode cX0_cutValue 4 = .ok (.iload_n 3, 1) := by decide +kernel
theorem dX0_cutValue_5 : decode cX0_cutValue 5 = .ok (.aload_n 0, 1) := by decide +kernel
theorem dX0_cutValue_6 : decode cX0_cutValue 6 = .ok (.getfield 9, 3) := by decide +kernel
theorem dX0_cutValue_9 : decode cX0_cutValue 9 = .ok (.if_icmp .ge 53, 3) := by decide +kernel
theorem dX0_cutValue_12 : decode cX0_cutValue 12 = .ok (.iload_n 3, 1) := by decide +kernel
theorem dX0_cutValue_13 : decode cX0_cutValue 13 = .ok (.iconst 1, 1) := by decide +kernel
theorem dX0_cutValue_14 : decode cX0_cutValue 14 = .ok (.iadd, 1) := by decide +kernel
theorem dX0_cutValue_15 : decode cX0_cutValue 15 = .ok (.istore 4, 2) := by decide +kernel
theorem dX0_cutValue_17 : decode cX0_cutValue 17 = .ok (.iload 4, 2) := by decide +kernel
theorem dX0_cutValue_19 : decode cX0_cutValue 19 = .ok (.aload_n 0, 1) := by decide +kernel
theorem dX0_cutValue_20 : decode cX0_cutValue 20 = .ok (.getfield 9, 3) := by decide +kernel
theorem dX0_cutValue_23 : decode cX0_cutValue 23 = .ok (.if_icmp .ge 33, 3) := by decide +kernel
theorem dX0_cutValue_26 : decode cX0_cutValue 26 = .ok (.iload_n 1, 1) := by decide +kernel
theorem dX0_cutValue_27 : decode cX0_cutValue 27 = .ok (.iload_n 3, 1) := by decide +kernel
theorem dX0_cutValue_28 : decode cX0_cutValue 28 = .ok (.invokestatic 83, 3) := by decide +kernel
theorem dX0_cutValue_31 : decode cX0_cutValue 31 = .ok (.iload_n 1, 1) := by decide +kernel
theorem dX0_cutValue_32 : decode cX0_cutValue 32 = .ok (.iload 4, 2) := by decide +kernel
theorem dX0_cutValue_34 : decode cX0_cutValue 34 = .ok (.invokestatic 83, 3) := by decide +kernel
theorem dX0_cutValue_37 : decode cX0_cutValue 37 = .ok (.if_icmp .eq 13, 3) := by decide +kernel
theorem dX0_cutValue_40 : decode cX0_cutValue 40 = .ok (.iload_n 2, 1) := by decide +kernel
theorem dX0_cutValue_41 : decode cX0_cutValue 41 = .ok (.aload_n 0, 1) := by decide +kernel
theorem dX0_cutValue_42 : decode cX0_cutValue 42 = .ok (.iload_n 3, 1) := by decide +kernel
theorem dX0_cutValue_43 : decode cX0_cutValue 43 = .ok (.iload 4, 2) := by decide +kernel
theorem dX0_cutValue_45 : decode cX0_cutValue 45 = .ok (.invokevirtual 87, 3) := by decide +kernel
theorem dX0_cutValue_48 : decode cX0_cutValue 48 = .ok (.iadd, 1) := by decide +kernel
theorem dX0_cutValue_49 : decode cX0_cutValue 49 = .ok (.istore_n 2, 1) := by decide +kernel
theorem dX0_cutValue_50 : decode cX0_cutValue 50 = .ok (.iinc 4 1, 3) := by decide +kernel
theorem dX0_cutValue_53 : decode cX0_cutValue 53 = .ok (.goto (-36), 3) := by decide +kernel
theorem dX0_cutValue_56 : decode cX0_cutValue 56 = .ok (.iinc 3 1, 3) := by decide +kernel
theorem dX0_cutValue_59 : decode cX0_cutValue 59 = .ok (.goto (-55), 3) := by decide +kernel
theorem dX0_cutValue_62 : decode cX0_cutValue 62 = .ok (.iload_n 2, 1) := by decide +kernel
theorem dX0_cutValue_63 : decode cX0_cutValue 63 = .ok (.ireturn, 1) := by decide +kernel
set_option maxRecDepth 20000 in
theorem ggX0_rankValue_X0_countOf : GoodIn wsX0_rankValue wsX0_countOf := goodIn_r _ [9, 10, 11, 12, 8, 13, 14, 15, 16, 17, 18, 19, 20, 21, 27, 28, 29, 30, 31, 32, 33, 34, 35, 36, 37, 38] (by decide +kernel) (by decide +kernel)
set_option maxRecDepth 20000 in
theorem gX0_rankValue_X0_countOf : GoodIn wsX0_rankValue (wsV RX0 210 RX0 yX0_countOf wsX0_countOf) := goodIn_app (goodIn_of _ (by decide +kernel)) ggX0_rankValue_X0_countOf
set_option maxRecDepth 20000 in
theorem ggX0_rankValue_X0_roomOf : GoodIn wsX0_rankValue wsX0_roomOf := goodIn_r _ [25, 26, 19, 20, 8, 21, 27, 28, 29, 30, 31, 32, 33, 34, 35, 36, 37, 38] (by decide +kernel) (by decide +kernel)
set_option maxRecDepth 20000 in
theorem gX0_rankValue_X0_roomOf : GoodIn wsX0_rankValue (wsV RX0 99 RX0 yX0_roomOf wsX0_roomOf) := goodIn_app (goodIn_of _ (by decide +kernel)) ggX0_rankValue_X0_roomOf
theorem dX0_rankValue_0 : decode cX0_rankValue 0 = .ok (.iconst 0, 1) := by decide +kernel
theorem dX0_rankValue_1 : decode cX0_rankValue 1 = .ok (.istore_n 3, 1) := by decide +kernel
theorem dX0_rankValue_2 : decode cX0_rankValue 2 = .ok (.iconst 0, 1) := by decide +kernel
theorem dX0_rankValue_3 : decode cX0_rankValue 3 = .ok (.istore 4, 2) := by decide +kernel
theorem dX0_rankValue_5 : decode cX0_rankValue 5 = .ok (.iload 4, 2) := by decide +kernel
theorem dX0_rankValue_7 : decode cX0_rankValue 7 = .ok (.bipush 6, 2) := by decide +kernel
theorem dX0_rankValue_9 : decode cX0_rankValue 9 = .ok (.if_icmp .ge 30, 3) := by decide +kernel
theorem dX0_rankValue_12 : decode cX0_rankValue 12 = .ok (.iload_n 3, 1) := by decide +kernel
theorem dX0_rankValue_13 : decode cX0_rankValue 13 = .ok (.aload_n 0, 1) := by decide +kernel
theorem dX0_rankValue_14 : decode cX0_rankValue 14 = .ok (.iload_n 1, 1) := by decide +kernel
theorem dX0_rankValue_15 : decode cX0_rankValue 15 = .ok (.iload 4, 2) := by decide +kernel
theorem dX0_rankValue_17 : decode cX0_rankValue 17 = .ok (.iload_n 2, 1) := by decide +kernel
theorem dX0_rankValue_18 : decode cX0_rankValue 18 = .ok (.invokevirtual 210, 3) := by decide +kernel
theorem dX0_rankValue_21 : decode cX0_rankValue 21 = .ok (.aload_n 0, 1) := by decide +kernel
theorem dX0_rankValue_22 : decode cX0_rankValue 22 = .ok (.iload_n 1, 1) := by decide +kernel
theorem dX0_rankValue_23 : decode cX0_rankValue 23 = .ok (.iload 4, 2) := by decide +kernel
theorem dX0_rankValue_25 : decode cX0_rankValue 25 = .ok (.invokevirtual 99, 3) := by decide +kernel
theorem dX0_rankValue_28 : decode cX0_rankValue 28 = .ok (.invokestatic 128, 3) := by decide +kernel
theorem dX0_rankValue_31 : decode cX0_rankValue 31 = .ok (.iadd, 1) := by decide +kernel
theorem dX0_rankValue_32 : decode cX0_rankValue 32 = .ok (.istore_n 3, 1) := by decide +kernel
theorem dX0_rankValue_33 : decode cX0_rankValue 33 = .ok (.iinc 4 1, 3) := by decide +kernel
theorem dX0_rankValue_36 : decode cX0_rankValue 36 = .ok (.goto (-31), 3) := by decide +kernel
theorem dX0_rankValue_39 : decode cX0_rankValue 39 = .ok (.iload_n 3, 1) := by decide +kernel
theorem dX0_rankValue_40 : decode cX0_rankValue 40 = .ok (.ireturn, 1) := by decide +kernel
set_option maxRecDepth 20000 in
theorem ggX0_weightsValue_X0_has : GoodIn wsX0_weightsValue wsX0_has := goodIn_r _ [6] (by decide +kernel) (by decide +kernel)
set_option maxRecDepth 20000 in
theorem gX0_weightsValue_X0_has : GoodIn wsX0_weightsValue (va_wsS RX0 83 yX0_has wsX0_has) := goodIn_app (goodIn_of _ (by decide +kernel)) ggX0_weightsValue_X0_has
set_option maxRecDepth 20000 in
theorem ggX0_weightsValue_X0_at : GoodIn wsX0_weightsValue wsX0_at := goodIn_r _ [9] (by decide +kernel) (by decide +kernel)
set_option maxRecDepth 20000 in
theorem gX0_weightsValue_X0_at : GoodIn wsX0_weightsValue (va_wsS RX0 68 yX0_at wsX0_at) := goodIn_app (goodIn_of _ (by decide +kernel)) ggX0_weightsValue_X0_at
theorem dX0_weightsValue_0 : decode cX0_weightsValue 0 = .ok (.iconst 0, 1) := by decide +kernel
theorem dX0_weightsValue_1 : decode cX0_weightsValue 1 = .ok (.istore_n 2, 1) := by decide +kernel
theorem dX0_weightsValue_2 : decode cX0_weightsValue 2 = .ok (.iconst 0, 1) := by decide +kernel
theorem dX0_weightsValue_3 : decode cX0_weightsValue 3 = .ok (.istore_n 3, 1) := by decide +kernel
theorem dX0_weightsValue_4 : decode cX0_weightsValue 4 = .ok (.iload_n 3, 1) := by decide +kernel
theorem dX0_weightsValue_5 : decode cX0_weightsValue 5 = .ok (.aload_n 0, 1) := by decide +kernel
theorem dX0_weightsValue_6 : decode cX0_weightsValue 6 = .ok (.getfield 9, 3) := by decide +kernel
theorem dX0_weightsValue_9 : decode cX0_weightsValue 9 = .ok (.if_icmp .ge 28, 3) := by decide +kernel
theorem dX0_weightsValue_12 : decode cX0_weightsValue 12 = .ok (.iload_n 1, 1) := by decide +kernel
theorem dX0_weightsValue_13 : decode cX0_weightsValue 13 = .ok (.iload_n 3, 1) := by decide +kernel
theorem dX0_weightsValue_14 : decode cX0_weightsValue 14 = .ok (.invokestatic 83, 3) := by decide +kernel
theorem dX0_weightsValue_17 : decode cX0_weightsValue 17 = .ok (.ifCond .eq 14, 3) := by decide +kernel
theorem dX0_weightsValue_20 : decode cX0_weightsValue 20 = .ok (.iload_n 2, 1) := by decide +kernel
theorem dX0_weightsValue_21 : decode cX0_weightsValue 21 = .ok (.aload_n 0, 1) := by decide +kernel
theorem dX0_weightsValue_22 : decode cX0_weightsValue 22 = .ok (.getfield 32, 3) := by decide +kernel
theorem dX0_weightsValue_25 : decode cX0_weightsValue 25 = .ok (.iload_n 3, 1) := by decide +kernel
theorem dX0_weightsValue_26 : decode cX0_weightsValue 26 = .ok (.invokestatic 68, 3) := by decide +kernel
theorem dX0_weightsValue_29 : decode cX0_weightsValue 29 = .ok (.iadd, 1) := by decide +kernel
theorem dX0_weightsValue_30 : decode cX0_weightsValue 30 = .ok (.istore_n 2, 1) := by decide +kernel
theorem dX0_weightsValue_31 : decode cX0_weightsValue 31 = .ok (.iinc 3 1, 3) := by decide +kernel
theorem dX0_weightsValue_34 : decode cX0_weightsValue 34 = .ok (.goto (-30), 3) := by decide +kernel
theorem dX0_weightsValue_37 : decode cX0_weightsValue 37 = .ok (.iload_n 2, 1) := by decide +kernel
theorem dX0_weightsValue_38 : decode cX0_weightsValue 38 = .ok (.ireturn, 1) := by decide +kernel
set_option maxRecDepth 20000 in
theorem ggX0_countOf_X0_has : GoodIn wsX0_countOf wsX0_has := goodIn_r _ [5] (by decide +kernel) (by decide +kernel)
set_option maxRecDepth 20000 in
theorem gX0_countOf_X0_has : GoodIn wsX0_countOf (va_wsS RX0 83 yX0_has wsX0_has) := goodIn_app (goodIn_of _ (by decide +kernel)) ggX0_countOf_X0_has
set_option maxRecDepth 20000 in
theorem ggX0_countOf_X0_colourOf : GoodIn wsX0_countOf wsX0_colourOf := goodIn_r _ [9, 10, 11, 12, 4, 13, 14, 15, 16, 17, 18, 19, 20, 21, 22, 23, 24, 25] (by decide +kernel) (by decide +kernel)
set_option maxRecDepth 20000 in
theorem gX0_countOf_X0_colourOf : GoodIn wsX0_countOf (wsV RX0 96 RX0 yX0_colourOf wsX0_colourOf) := goodIn_app (goodIn_of _ (by decide +kernel)) ggX0_countOf_X0_colourOf
theorem dX0_countOf_0 : decode cX0_countOf 0 = .ok (.iconst 0, 1) := by decide +kernel
theorem dX0_countOf_1 : decode cX0_countOf 1 = .ok (.istore 4, 2) := by decide +kernel
theorem dX0_countOf_3 : decode cX0_countOf 3 = .ok (.iconst 0, 1) := by decide +kernel
theorem dX0_countOf_4 : decode cX0_countOf 4 = .ok (.istore 5, 2) := by decide +kernel
theorem dX0_countOf_6 : decode cX0_countOf 6 = .ok (.iload 5, 2) := by decide +kernel
theorem dX0_countOf_8 : decode cX0_countOf 8 = .ok (.aload_n 0, 1) := by decide +kernel
theorem dX0_countOf_9 : decode cX0_countOf 9 = .ok (.getfield 9, 3) := by decide +kernel
theorem dX0_countOf_12 : decode cX0_countOf 12 = .ok (.if_icmp .ge 32, 3) := by decide +kernel
theorem dX0_countOf_15 : decode cX0_countOf 15 = .ok (.iload_n 3, 1) := by decide +kernel
theorem dX0_countOf_16 : decode cX0_countOf 16 = .ok (.iload 5, 2) := by decide +kernel
theorem dX0_countOf_18 : decode cX0_countOf 18 = .ok (.invokestatic 83, 3) := by decide +kernel
theorem dX0_countOf_21 : decode cX0_countOf 21 = .ok (.ifCond .eq 17, 3) := by decide +kernel
theorem dX0_countOf_24 : decode cX0_countOf 24 = .ok (.aload_n 0, 1) := by decide +kernel
theorem dX0_countOf_25 : decode cX0_countOf 25 = .ok (.iload_n 1, 1) := by decide +kernel
theorem dX0_countOf_26 : decode cX0_countOf 26 = .ok (.iload 5, 2) := by decide +kernel
theorem dX0_countOf_28 : decode cX0_countOf 28 = .ok (.invokevirtual 96, 3) := by decide +kernel
theorem dX0_countOf_31 : decode cX0_countOf 31 = .ok (.iload_n 2, 1) := by decide +kernel
theorem dX0_countOf_32 : decode cX0_countOf 32 = .ok (.if_icmp .ne 6, 3) := by decide +kernel
theorem dX0_countOf_35 : decode cX0_countOf 35 = .ok (.iinc 4 1, 3) := by decide +kernel
theorem dX0_countOf_38 : decode cX0_countOf 38 = .ok (.iinc 5 1, 3) := by decide +kernel
theorem dX0_countOf_41 : decode cX0_countOf 41 = .ok (.goto (-35), 3) := by decide +kernel
theorem dX0_countOf_44 : decode cX0_countOf 44 = .ok (.iload 4, 2) := by decide +kernel
theorem dX0_countOf_46 : decode cX0_countOf 46 = .ok (.ireturn, 1) := by decide +kernel
set_option maxRecDepth 20000 in
theorem ggX0_gain_X0_with : GoodIn wsX0_gain wsX0_with := goodIn_r _ [4] (by decide +kernel) (by decide +kernel)
set_option maxRecDepth 20000 in
theorem gX0_gain_X0_with : GoodIn wsX0_gain (va_wsS RX0 72 yX0_with wsX0_with) := goodIn_app (goodIn_of _ (by decide +kernel)) ggX0_gain_X0_with
set_option maxRecDepth 20000 in
theorem ggX0_gain_X0_valueOf : GoodIn wsX0_gain wsX0_valueOf := goodIn_r _ [8, 9, 10, 11, 3, 12, 13, 14, 15, 16, 17, 18, 19, 20, 21, 22, 23, 24] (by decide +kernel) (by decide +kernel)
set_option maxRecDepth 20000 in
theorem gX0_gain_X0_valueOf : GoodIn wsX0_gain (wsV RX0 122 RX0 yX0_valueOf wsX0_valueOf) := goodIn_app (goodIn_of _ (by decide +kernel)) ggX0_gain_X0_valueOf
theorem dX0_gain_0 : decode cX0_gain 0 = .ok (.aload_n 0, 1) := by decide +kernel
theorem dX0_gain_1 : decode cX0_gain 1 = .ok (.iload_n 1, 1) := by decide +kernel
theorem dX0_gain_2 : decode cX0_gain 2 = .ok (.iload_n 2, 1) := by decide +kernel
theorem dX0_gain_3 : decode cX0_gain 3 = .ok (.iload_n 3, 1) := by decide +kernel
theorem dX0_gain_4 : decode cX0_gain 4 = .ok (.invokestatic 72, 3) := by decide +kernel
theorem dX0_gain_7 : decode cX0_gain 7 = .ok (.invokevirtual 122, 3) := by decide +kernel
theorem dX0_gain_10 : decode cX0_gain 10 = .ok (.aload_n 0, 1) := by decide +kernel
theorem dX0_gain_11 : decode cX0_gain 11 = .ok (.iload_n 1, 1) := by decide +kernel
theorem dX0_gain_12 : decode cX0_gain 12 = .ok (.iload_n 2, 1) := by decide +kernel
theorem dX0_gain_13 : decode cX0_gain 13 = .ok (.invokevirtual 122, 3) := by decide +kernel
theorem dX0_gain_16 : decode cX0_gain 16 = .ok (.isub, 1) := by decide +kernel
theorem dX0_gain_17 : decode cX0_gain 17 = .ok (.ireturn, 1) := by decide +kernel
set_option maxRecDepth 20000 in
theorem ggX0_hasLaw_X0_sets : GoodIn wsX0_hasLaw wsX0_sets := goodIn_r _ [5, 6, 29, 30, 31, 32, 33, 34, 35, 36, 37, 38, 39, 40] (by decide +kernel) (by decide +kernel)
set_option maxRecDepth 20000 in
theorem gX0_hasLaw_X0_sets : GoodIn wsX0_hasLaw (wsV RX0 105 RX0 yX0_sets wsX0_sets) := goodIn_app (goodIn_of _ (by decide +kernel)) ggX0_hasLaw_X0_sets
set_option maxRecDepth 20000 in
theorem ggX0_hasLaw_X0_hasLawAbove : GoodIn wsX0_hasLaw wsX0_hasLawAbove := goodIn_r _ [10, 6, 11, 12, 4, 13, 14, 15, 16, 17, 18, 19, 20, 21, 22, 23, 24, 25, 26, 27, 28, 29, 30, 31, 32, 33, 34, 35, 36, 37, 38, 39, 40] (by decide +kernel) (by decide +kernel)
set_option maxRecDepth 20000 in
theorem gX0_hasLaw_X0_hasLawAbove : GoodIn wsX0_hasLaw (wsV RX0 213 RX0 yX0_hasLawAbove wsX0_hasLawAbove) := goodIn_app (goodIn_of _ (by decide +kernel)) ggX0_hasLaw_X0_hasLawAbove
theorem dX0_hasLaw_0 : decode cX0_hasLaw 0 = .ok (.iconst 0, 1) := by decide +kernel
theorem dX0_hasLaw_1 : decode cX0_hasLaw 1 = .ok (.istore_n 2, 1) := by decide +kernel
theorem dX0_hasLaw_2 : decode cX0_hasLaw 2 = .ok (.iload_n 2, 1) := by decide +kernel
theorem dX0_hasLaw_3 : decode cX0_hasLaw 3 = .ok (.aload_n 0, 1) := by decide +kernel
theorem dX0_hasLaw_4 : decode cX0_hasLaw 4 = .ok (.invokevirtual 105, 3) := by decide +kernel
theorem dX0_hasLaw_7 : decode cX0_hasLaw 7 = .ok (.if_icmp .ge 20, 3) := by decide +kernel
theorem dX0_hasLaw_10 : decode cX0_hasLaw 10 = .ok (.aload_n 0, 1) := by decide +kernel
theorem dX0_hasLaw_11 : decode cX0_hasLaw 11 = .ok (.iload_n 1, 1) := by decide +kernel
theorem dX0_hasLaw_12 : decode cX0_hasLaw 12 = .ok (.iload_n 2, 1) := by decide +kernel
theorem dX0_hasLaw_13 : decode cX0_hasLaw 13 = .ok (.invokevirtual 213, 3) := by decide +kernel
theorem dX0_hasLaw_16 : decode cX0_hasLaw 16 = .ok (.ifCond .ne 5, 3) := by decide +kernel
theorem dX0_hasLaw_19 : decode cX0_hasLaw 19 = .ok (.iconst 0, 1) := by decide +kernel
theorem dX0_hasLaw_20 : decode cX0_hasLaw 20 = .ok (.ireturn, 1) := by decide +kernel
theorem dX0_hasLaw_21 : decode cX0_hasLaw 21 = .ok (.iinc 2 1, 3) := by decide +kernel
theorem dX0_hasLaw_24 : decode cX0_hasLaw 24 = .ok (.goto (-22), 3) := by decide +kernel
theorem dX0_hasLaw_27 : decode cX0_hasLaw 27 = .ok (.iconst 1, 1) := by decide +kernel
theorem dX0_hasLaw_28 : decode cX0_hasLaw 28 = .ok (.ireturn, 1) := by decide +kernel
set_option maxRecDepth 20000 in
theorem ggX0_hasLawAbove_X0_has : GoodIn wsX0_hasLawAbove wsX0_has := goodIn_r _ [5] (by decide +kernel) (by decide +kernel)
set_option maxRecDepth 20000 in
theorem gX0_hasLawAbove_X0_has : GoodIn wsX0_hasLawAbove (va_wsS RX0 83 yX0_has wsX0_has) := goodIn_app (goodIn_of _ (by decide +kernel)) ggX0_hasLawAbove_X0_has
set_option maxRecDepth 20000 in
theorem ggX0_hasLawAbove_X0_gain : GoodIn wsX0_hasLawAbove wsX0_gain := goodIn_r _ [9, 10, 11, 4, 12, 13, 14, 15, 16, 17, 18, 19, 20, 21, 22, 23, 24, 25, 26, 27, 28, 29, 30, 31, 32] (by decide +kernel) (by decide +kernel)
set_option maxRecDepth 20000 in
theorem gX0_hasLawAbove_X0_gain : GoodIn wsX0_hasLawAbove (wsV RX0 136 RX0 yX0_gain wsX0_gain) := goodIn_app (goodIn_of _ (by decide +kernel)) ggX0_hasLawAbove_X0_gain
set_option maxRecDepth 20000 in
theorem ggX0_hasLawAbove_X0_with : GoodIn wsX0_hasLawAbove wsX0_with := goodIn_r _ [12] (by decide +kernel) (by decide +kernel)
set_option maxRecDepth 20000 in
theorem gX0_hasLawAbove_X0_with : GoodIn wsX0_hasLawAbove (va_wsS RX0 72 yX0_with wsX0_with) := goodIn_app (goodIn_of _ (by decide +kernel)) ggX0_hasLawAbove_X0_with
theorem dX0_hasLawAbove_0 : decode cX0_hasLawAbove 0 = .ok (.iconst 0, 1) := by decide +kernel
theorem dX0_hasLawAbove_1 : decode cX0_hasLawAbove 1 = .ok (.istore_n 3, 1) := by decide +kernel
theorem dX0_hasLawAbove_2 : decode cX0_hasLawAbove 2 = .ok (.iload_n 3, 1) := by decide +kernel
theorem dX0_hasLawAbove_3 : decode cX0_hasLawAbove 3 = .ok (.aload_n 0, 1) := by decide +kernel
theorem dX0_hasLawAbove_4 : decode cX0_hasLawAbove 4 = .ok (.getfield 9, 3) := by decide +kernel
theorem dX0_hasLawAbove_7 : decode cX0_hasLawAbove 7 = .ok (.if_icmp .ge 82, 3) := by decide +kernel
theorem dX0_hasLawAbove_10 : decode cX0_hasLawAbove 10 = .ok (.iload_n 3, 1) := by decide +kernel
theorem dX0_hasLawAbove_11 : decode cX0_hasLawAbove 11 = .ok (.iconst 1, 1) := by decide +kernel
theorem dX0_hasLawAbove_12 : decode cX0_hasLawAbove 12 = .ok (.iadd, 1) := by decide +kernel
theorem dX0_hasLawAbove_13 : decode cX0_hasLawAbove 13 = .ok (.istore 4, 2) := by decide +kernel
theorem dX0_hasLawAbove_15 : decode cX0_hasLawAbove 15 = .ok (.iload 4, 2) := by decide +kernel
theorem dX0_hasLawAbove_17 : decode cX0_hasLawAbove 17 = .ok (.aload_n 0, 1) := by decide +kernel
theorem dX0_hasLawAbove_18 : decode cX0_hasLawAbove 18 = .ok (.getfield 9, 3) := by decide +kernel
theorem dX0_hasLawAbove_21 : decode cX0_hasLawAbove 21 = .ok (.if_icmp .ge 62, 3) := by decide +kernel
theorem dX0_hasLawAbove_24 : decode cX0_hasLawAbove 24 = .ok (.iload_n 2, 1) := by decide +kernel
theorem dX0_hasLawAbove_25 : decode cX0_hasLawAbove 25 = .ok (.iload_n 3, 1) := by decide +kernel
theorem dX0_hasLawAbove_26 : decode cX0_hasLawAbove 26 = .ok (.invokestatic 83, 3) := by decide +kernel
theorem dX0_hasLawAbove_29 : decode cX0_hasLawAbove 29 = .ok (.ifCond .ne 16, 3) := by decide +kernel
theorem dX0_hasLawAbove_32 : decode cX0_hasLawAbove 32 = .ok (.iload_n 2, 1) := by decide +kernel
theorem dX0_hasLawAbove_33 : decode cX0_hasLawAbove 33 = .ok (.iload 4, 2) := by decide +kernel
theorem dX0_hasLawAbove_35 : decode cX0_hasLawAbove 35 = .ok (.invokestatic 83, 3) := by decide +kernel
theorem dX0_hasLawAbove_38 : decode cX0_hasLawAbove 38 = .ok (.ifCond .ne 7, 3) := by decide +kernel
theorem dX0_hasLawAbove_41 : decode cX0_hasLawAbove 41 = .ok (.iconst 1, 1) := by decide +kernel
theorem dX0_hasLawAbove_42 : decode cX0_hasLawAbove 42 = .ok (.goto 4, 3) := by decide +kernel
theorem dX0_hasLawAbove_45 : decode cX0_hasLawAbove 45 = .ok (.iconst 0, 1) := by decide +kernel
theorem dX0_hasLawAbove_46 : decode cX0_hasLawAbove 46 = .ok (.istore 5, 2) := by decide +kernel
theorem dX0_hasLawAbove_48 : decode cX0_hasLawAbove 48 = .ok (.iload 5, 2) := by decide +kernel
theorem dX0_hasLawAbove_50 : decode cX0_hasLawAbove 50 = .ok (.ifCond .eq 27, 3) := by decide +kernel
theorem dX0_hasLawAbove_53 : decode cX0_hasLawAbove 53 = .ok (.aload_n 0, 1) := by decide +kernel
theorem dX0_hasLawAbove_54 : decode cX0_hasLawAbove 54 = .ok (.iload_n 1, 1) := by decide +kernel
theorem dX0_hasLawAbove_55 : decode cX0_hasLawAbove 55 = .ok (.iload_n 2, 1) := by decide +kernel
theorem dX0_hasLawAbove_56 : decode cX0_hasLawAbove 56 = .ok (.iload_n 3, 1) := by decide +kernel
theorem dX0_hasLawAbove_57 : decode cX0_hasLawAbove 57 = .ok (.invokevirtual 136, 3) := by decide +kernel
theorem dX0_hasLawAbove_60 : decode cX0_hasLawAbove 60 = .ok (.aload_n 0, 1) := by decide +kernel
theorem dX0_hasLawAbove_61 : decode cX0_hasLawAbove 61 = .ok (.iload_n 1, 1) := by decide +kernel
theorem dX0_hasLawAbove_62 : decode cX0_hasLawAbove 62 = .ok (.iload_n 2, 1) := by decide +kernel
theorem dX0_hasLawAbove_63 : decode cX0_hasLawAbove 63 = .ok (.iload 4, 2) := by decide +kernel
theorem dX0_hasLawAbove_65 : decode cX0_hasLawAbove 65 = .ok (.invokestatic 72, 3) := by decide +kernel
theorem dX0_hasLawAbove_68 : decode cX0_hasLawAbove 68 = .ok (.iload_n 3, 1) := by decide +kernel
theorem dX0_hasLawAbove_69 : decode cX0_hasLawAbove 69 = .ok (.invokevirtual 136, 3) := by decide +kernel
theorem dX0_hasLawAbove_72 : decode cX0_hasLawAbove 72 = .ok (.if_icmp .ge 5, 3) := by decide +kernel
theorem dX0_hasLawAbove_75 : decode cX0_hasLawAbove 75 = .ok (.iconst 0, 1) := by decide +kernel
theorem dX0_hasLawAbove_76 : decode cX0_hasLawAbove 76 = .ok (.ireturn, 1) := by decide +kernel
theorem dX0_hasLawAbove_77 : decode cX0_hasLawAbove 77 = .ok (.iinc 4 1, 3) := by decide +kernel
theorem dX0_hasLawAbove_80 : decode cX0_hasLawAbove 80 = .ok (.goto (-65), 3) := by decide +kernel
theorem dX0_hasLawAbove_83 : decode cX0_hasLawAbove 83 = .ok (.iinc 3 1, 3) := by decide +kernel
theorem dX0_hasLawAbove_86 : decode cX0_hasLawAbove 86 = .ok (.goto (-84), 3) := by decide +kernel
theorem dX0_hasLawAbove_89 : decode cX0_hasLawAbove 89 = .ok (.iconst 1, 1) := by decide +kernel
theorem dX0_hasLawAbove_90 : decode cX0_hasLawAbove 90 = .ok (.ireturn, 1) := by decide +kernel
set_option maxRecDepth 20000 in
theorem ggX0_leastBetween_X0_takenIn : GoodIn wsX0_leastBetween wsX0_takenIn := goodIn_r _ [6, 1, 7, 8, 5, 9, 10, 11, 12, 13, 14, 15, 16, 17, 18, 19, 20, 21, 22, 23, 24, 39, 40, 41, 42, 43, 44, 45, 46, 47, 48, 49, 50] (by decide +kernel) (by decide +kernel)
set_option maxRecDepth 20000 in
theorem gX0_leastBetween_X0_takenIn : GoodIn wsX0_leastBetween (wsV RX0 216 RX0 yX0_takenIn wsX0_takenIn) := goodIn_app (goodIn_of _ (by decide +kernel)) ggX0_leastBetween_X0_takenIn
set_option maxRecDepth 20000 in
theorem ggX0_leastBetween_X0_takenOut : GoodIn wsX0_leastBetween wsX0_takenOut := goodIn_r _ [28, 1, 7, 8, 5, 9, 29, 30, 31, 10, 11, 12, 13, 14, 15, 16, 17, 18, 19, 20, 21, 22, 23, 24, 39, 40, 41, 42, 43, 44, 45, 46, 47, 48, 49, 50] (by decide +kernel) (by decide +kernel)
set_option maxRecDepth 20000 in
theorem gX0_leastBetween_X0_takenOut : GoodIn wsX0_leastBetween (wsV RX0 220 RX0 yX0_takenOut wsX0_takenOut) := goodIn_app (goodIn_of _ (by decide +kernel)) ggX0_leastBetween_X0_takenOut
set_option maxRecDepth 20000 in
theorem ggX0_leastBetween_X0_lowest : GoodIn wsX0_leastBetween wsX0_lowest := goodIn_r _ [35, 1, 7, 8, 5, 9, 39, 40, 41, 42, 43, 44, 45, 46, 47, 48, 49, 50] (by decide +kernel) (by decide +kernel)
set_option maxRecDepth 20000 in
theorem gX0_leastBetween_X0_lowest : GoodIn wsX0_leastBetween (wsV RX0 223 RX0 yX0_lowest wsX0_lowest) := goodIn_app (goodIn_of _ (by decide +kernel)) ggX0_leastBetween_X0_lowest
set_option maxRecDepth 20000 in
theorem ggX0_leastBetween_X0_with : GoodIn wsX0_leastBetween wsX0_with := goodIn_r _ [16] (by decide +kernel) (by decide +kernel)
set_option maxRecDepth 20000 in
theorem gX0_leastBetween_X0_with : GoodIn wsX0_leastBetween (va_wsS RX0 72 yX0_with wsX0_with) := goodIn_app (goodIn_of _ (by decide +kernel)) ggX0_leastBetween_X0_with
set_option maxRecDepth 20000 in
theorem ggX0_leastBetween_X0_leastBetween : GoodIn wsX0_leastBetween wsX0_leastBetween := goodIn_r _ [0, 1, 2, 3, 4, 5, 6, 7, 8, 9, 10, 11, 12, 13, 14, 15, 16, 17, 18, 19, 20, 21, 22, 23, 24, 25, 26, 27, 28, 29, 30, 31, 32, 33, 34, 35, 36, 37, 38, 39, 40, 41, 42, 43, 44, 45, 46, 47, 48, 49, 50] (by decide +kernel) (by decide +kernel)
set_option maxRecDepth 20000 in
theorem gX0_leastBetween_X0_leastBetween : GoodIn wsX0_leastBetween (wsV RX0 143 RX0 yX0_leastBetween wsX0_leastBetween) := goodIn_app (goodIn_of _ (by decide +kernel)) ggX0_leastBetween_X0_leastBetween
set_option maxRecDepth 20000 in
theorem ggX0_leastBetween_X0_without : GoodIn wsX0_leastBetween wsX0_without := goodIn_r _ [31] (by decide +kernel) (by decide +kernel)
set_option maxRecDepth 20000 in
theorem gX0_leastBetween_X0_without : GoodIn wsX0_leastBetween (va_wsS RX0 76 yX0_without wsX0_without) := goodIn_app (goodIn_of _ (by decide +kernel)) ggX0_leastBetween_X0_without
set_option maxRecDepth 20000 in
theorem ggX0_leastBetween_X0_valueOf : GoodIn wsX0_leastBetween wsX0_valueOf := goodIn_r _ [20, 21, 22, 23, 5, 24, 39, 40, 41, 42, 43, 44, 45, 46, 47, 48, 49, 50] (by decide +kernel) (by decide +kernel)
set_option maxRecDepth 20000 in
theorem gX0_leastBetween_X0_valueOf : GoodIn wsX0_leastBetween (wsV RX0 122 RX0 yX0_valueOf wsX0_valueOf) := goodIn_app (goodIn_of _ (by decide +kernel)) ggX0_leastBetween_X0_valueOf
theorem dX0_leastBetween_0 : decode cX0_leastBetween 0 = .ok (.iload_n 2, 1) := by decide +kernel
theorem dX0_leastBetween_1 : decode cX0_leastBetween 1 = .ok (.istore 6, 2) := by decide +kernel
theorem dX0_leastBetween_3 : decode cX0_leastBetween 3 = .ok (.iload_n 3, 1) := by decide +kernel
theorem dX0_leastBetween_4 : decode cX0_leastBetween 4 = .ok (.istore 7, 2) := by decide +kernel
theorem dX0_leastBetween_6 : decode cX0_leastBetween 6 = .ok (.iconst 0, 1) := by decide +kernel
theorem dX0_leastBetween_7 : decode cX0_leastBetween 7 = .ok (.istore 8, 2) := by decide +kernel
theorem dX0_leastBetween_9 : decode cX0_leastBetween 9 = .ok (.iload 8, 2) := by decide +kernel
theorem dX0_leastBetween_11 : decode cX0_leastBetween 11 = .ok (.aload_n 0, 1) := by decide +kernel
theorem dX0_leastBetween_12 : decode cX0_leastBetween 12 = .ok (.getfield 9, 3) := by decide +kernel
theorem dX0_leastBetween_15 : decode cX0_leastBetween 15 = .ok (.if_icmp .ge 60, 3) := by decide +kernel
theorem dX0_leastBetween_18 : decode cX0_leastBetween 18 = .ok (.aload_n 0, 1) := by decide +kernel
theorem dX0_leastBetween_19 : decode cX0_leastBetween 19 = .ok (.iload_n 1, 1) := by decide +kernel
theorem dX0_leastBetween_20 : decode cX0_leastBetween 20 = .ok (.iload 6, 2) := by decide +kernel
theorem dX0_leastBetween_22 : decode cX0_leastBetween 22 = .ok (.iload 7, 2) := by decide +kernel
theorem dX0_leastBetween_24 : decode cX0_leastBetween 24 = .ok (.iload 4, 2) := by decide +kernel
theorem dX0_leastBetween_26 : decode cX0_leastBetween 26 = .ok (.invokevirtual 216, 3) := by decide +kernel
theorem dX0_leastBetween_29 : decode cX0_leastBetween 29 = .ok (.istore 9, 2) := by decide +kernel
theorem dX0_leastBetween_31 : decode cX0_leastBetween 31 = .ok (.aload_n 0, 1) := by decide +kernel
theorem dX0_leastBetween_32 : decode cX0_leastBetween 32 = .ok (.iload_n 1, 1) := by decide +kernel
theorem dX0_leastBetween_33 : decode cX0_leastBetween 33 = .ok (.iload 9, 2) := by decide +kernel
theorem dX0_leastBetween_35 : decode cX0_leastBetween 35 = .ok (.iload 7, 2) := by decide +kernel
theorem dX0_leastBetween_37 : decode cX0_leastBetween 37 = .ok (.iload 4, 2) := by decide +kernel
theorem dX0_leastBetween_39 : decode cX0_leastBetween 39 = .ok (.invokevirtual 220, 3) := by decide +kernel
theorem dX0_leastBetween_42 : decode cX0_leastBetween 42 = .ok (.istore 10, 2) := by decide +kernel
theorem dX0_leastBetween_44 : decode cX0_leastBetween 44 = .ok (.iload 9, 2) := by decide +kernel
theorem dX0_leastBetween_46 : decode cX0_leastBetween 46 = .ok (.iload 6, 2) := by decide +kernel
theorem dX0_leastBetween_48 : decode cX0_leastBetween 48 = .ok (.if_icmp .ne 13, 3) := by decide +kernel
theorem dX0_leastBetween_51 : decode cX0_leastBetween 51 = .ok (.iload 10, 2) := by decide +kernel
theorem dX0_leastBetween_53 : decode cX0_leastBetween 53 = .ok (.iload 7, 2) := by decide +kernel
theorem dX0_leastBetween_55 : decode cX0_leastBetween 55 = .ok (.if_icmp .ne 6, 3) := by decide +kernel
theorem dX0_leastBetween_58 : decode cX0_leastBetween 58 = .ok (.goto 17, 3) := by decide +kernel
theorem dX0_leastBetween_61 : decode cX0_leastBetween 61 = .ok (.iload 9, 2) := by decide +kernel
theorem dX0_leastBetween_63 : decode cX0_leastBetween 63 = .ok (.istore 6, 2) := by decide +kernel
theorem dX0_leastBetween_65 : decode cX0_leastBetween 65 = .ok (.iload 10, 2) := by decide +kernel
theorem dX0_leastBetween_67 : decode cX0_leastBetween 67 = .ok (.istore 7, 2) := by decide +kernel
theorem dX0_leastBetween_69 : decode cX0_leastBetween 69 = .ok (.iinc 8 1, 3) := by decide +kernel
theorem dX0_leastBetween_72 : decode cX0_leastBetween 72 = .ok (.goto (-63), 3) := by decide +kernel
theorem dX0_leastBetween_75 : decode cX0_leastBetween 75 = .ok (.aload_n 0, 1) := by decide +kernel
theorem dX0_leastBetween_76 : decode cX0_leastBetween 76 = .ok (.iload 7, 2) := by decide +kernel
theorem dX0_leastBetween_78 : decode cX0_leastBetween 78 = .ok (.iload 6, 2) := by decide +kernel
theorem dX0_leastBetween_80 : decode cX0_leastBetween 80 = .ok (.iconst (-1), 1) := by decide +kernel
theorem dX0_leastBetween_81 : decode cX0_leastBetween 81 = .ok (.ixor, 1) := by decide +kernel
theorem dX0_leastBetween_82 : decode cX0_leastBetween 82 = .ok (.iand, 1) := by decide +kernel
theorem dX0_leastBetween_83 : decode cX0_leastBetween 83 = .ok (.invokevirtual 223, 3) := by decide +kernel
theorem dX0_leastBetween_86 : decode cX0_leastBetween 86 = .ok (.istore 8, 2) := by decide +kernel
theorem dX0_leastBetween_88 : decode cX0_leastBetween 88 = .ok (.iload 8, 2) := by decide +kernel
theorem dX0_leastBetween_90 : decode cX0_leastBetween 90 = .ok (.iconst (-1), 1) := by decide +kernel
theorem dX0_leastBetween_91 : decode cX0_leastBetween 91 = .ok (.if_icmp .eq 10, 3) := by decide +kernel
theorem dX0_leastBetween_94 : decode cX0_leastBetween 94 = .ok (.iload 5, 2) := by decide +kernel
theorem dX0_leastBetween_96 : decode cX0_leastBetween 96 = .ok (.bipush 6, 2) := by decide +kernel
theorem dX0_leastBetween_98 : decode cX0_leastBetween 98 = .ok (.if_icmp .lt 6, 3) := by decide +kernel
theorem dX0_leastBetween_101 : decode cX0_leastBetween 101 = .ok (.iload 6, 2) := by decide +kernel
theorem dX0_leastBetween_103 : decode cX0_leastBetween 103 = .ok (.ireturn, 1) := by decide +kernel
theorem dX0_leastBetween_104 : decode cX0_leastBetween 104 = .ok (.aload_n 0, 1) := by decide +kernel
theorem dX0_leastBetween_105 : decode cX0_leastBetween 105 = .ok (.iload_n 1, 1) := by decide +kernel
theorem dX0_leastBetween_106 : decode cX0_leastBetween 106 = .ok (.iload 6, 2) := by decide +kernel
theorem dX0_leastBetween_108 : decode cX0_leastBetween 108 = .ok (.iload 8, 2) := by decide +kernel
theorem dX0_leastBetween_110 : decode cX0_leastBetween 110 = .ok (.invokestatic 72, 3) := by decide +kernel
theorem dX0_leastBetween_113 : decode cX0_leastBetween 113 = .ok (.iload 7, 2) := by decide +kernel
theorem dX0_leastBetween_115 : decode cX0_leastBetween 115 = .ok (.iload 4, 2) := by decide +kernel
theorem dX0_leastBetween_117 : decode cX0_leastBetween 117 = .ok (.iload 5, 2) := by decide +kernel
theorem dX0_leastBetween_119 : decode cX0_leastBetween 119 = .ok (.iconst 1, 1) := by decide +kernel
theorem dX0_leastBetween_120 : decode cX0_leastBetween 120 = .ok (.iadd, 1) := by decide +kernel
theorem dX0_leastBetween_121 : decode cX0_leastBetween 121 = .ok (.invokevirtual 143, 3) := by decide +kernel
theorem dX0_leastBetween_124 : decode cX0_leastBetween 124 = .ok (.istore 9, 2) := by decide +kernel
theorem dX0_leastBetween_126 : decode cX0_leastBetween 126 = .ok (.aload_n 0, 1) := by decide +kernel
theorem dX0_leastBetween_127 : decode cX0_leastBetween 127 = .ok (.iload_n 1, 1) := by decide +kernel
theorem dX0_leastBetween_128 : decode cX0_leastBetween 128 = .ok (.iload 6, 2) := by decide +kernel
theorem dX0_leastBetween_130 : decode cX0_leastBetween 130 = .ok (.iload 7, 2) := by decide +kernel
theorem dX0_leastBetween_132 : decode cX0_leastBetween 132 = .ok (.iload 8, 2) := by decide +kernel
theorem dX0_leastBetween_134 : decode cX0_leastBetween 134 = .ok (.invokestatic 76, 3) := by decide +kernel
theorem dX0_leastBetween_137 : decode cX0_leastBetween 137 = .ok (.iload 4, 2) := by decide +kernel
theorem dX0_leastBetween_139 : decode cX0_leastBetween 139 = .ok (.iload 5, 2) := by decide +kernel
theorem dX0_leastBetween_141 : decode cX0_leastBetween 141 = .ok (.iconst 1, 1) := by decide +kernel
theorem dX0_leastBetween_142 : decode cX0_leastBetween 142 = .ok (.iadd, 1) := by decide +kernel
theorem dX0_leastBetween_143 : decode cX0_leastBetween 143 = .ok (.invokevirtual 143, 3) := by decide +kernel
theorem dX0_leastBetween_146 : decode cX0_leastBetween 146 = .ok (.istore 10, 2) := by decide +kernel
theorem dX0_leastBetween_148 : decode cX0_leastBetween 148 = .ok (.aload_n 0, 1) := by decide +kernel
theorem dX0_leastBetween_149 : decode cX0_leastBetween 149 = .ok (.iload_n 1, 1) := by decide +kernel
theorem dX0_leastBetween_150 : decode cX0_leastBetween 150 = .ok (.iload 9, 2) := by decide +kernel
theorem dX0_leastBetween_152 : decode cX0_leastBetween 152 = .ok (.invokevirtual 122, 3) := by decide +kernel
theorem dX0_leastBetween_155 : decode cX0_leastBetween 155 = .ok (.aload_n 0, 1) := by decide +kernel
theorem dX0_leastBetween_156 : decode cX0_leastBetween 156 = .ok (.iload_n 1, 1) := by decide +kernel
theorem dX0_leastBetween_157 : decode cX0_leastBetween 157 = .ok (.iload 10, 2) := by decide +kernel
theorem dX0_leastBetween_159 : decode cX0_leastBetween 159 = .ok (.invokevirtual 122, 3) := by decide +kernel
theorem dX0_leastBetween_162 : decode cX0_leastBetween 162 = .ok (.isub, 1) := by decide +kernel
theorem dX0_leastBetween_163 : decode cX0_leastBetween 163 = .ok (.istore 11, 2) := by decide +kernel
theorem dX0_leastBetween_165 : decode cX0_leastBetween 165 = .ok (.iload 11, 2) := by decide +kernel
theorem dX0_leastBetween_167 : decode cX0_leastBetween 167 = .ok (.ifCond .lt 13, 3) := by decide +kernel
theorem dX0_leastBetween_170 : decode cX0_leastBetween 170 = .ok (.iload 11, 2) := by decide +kernel
theorem dX0_leastBetween_172 : decode cX0_leastBetween 172 = .ok (.ifCond .ne 13, 3) := by decide +kernel
theorem dX0_leastBetween_175 : decode cX0_leastBetween 175 = .ok (.iload 4, 2) := by decide +kernel
theorem dX0_leastBetween_177 : decode cX0_leastBetween 177 = .ok (.ifCond .eq 8, 3) := by decide +kernel
theorem dX0_leastBetween_180 : decode cX0_leastBetween 180 = .ok (.iload 9, 2) := by decide +kernel
theorem dX0_leastBetween_182 : decode cX0_leastBetween 182 = .ok (.goto 5, 3) := by decide +kernel
theorem dX0_leastBetween_185 : decode cX0_leastBetween 185 = .ok (.iload 10, 2) := by decide +kernel
theorem dX0_leastBetween_187 : decode cX0_leastBetween 187 = .ok (.ireturn, 1) := by decide +kernel
set_option maxRecDepth 20000 in
theorem ggX0_takenIn_X0_has : GoodIn wsX0_takenIn wsX0_has := goodIn_r _ [5] (by decide +kernel) (by decide +kernel)
set_option maxRecDepth 20000 in
theorem gX0_takenIn_X0_has : GoodIn wsX0_takenIn (va_wsS RX0 83 yX0_has wsX0_has) := goodIn_app (goodIn_of _ (by decide +kernel)) ggX0_takenIn_X0_has
set_option maxRecDepth 20000 in
theorem ggX0_takenIn_X0_gain : GoodIn wsX0_takenIn wsX0_gain := goodIn_r _ [9, 10, 11, 4, 12, 13, 14, 15, 16, 17, 18, 19, 20, 21, 22, 23, 24, 25, 26, 27, 28, 29, 30, 31, 32] (by decide +kernel) (by decide +kernel)
set_option maxRecDepth 20000 in
theorem gX0_takenIn_X0_gain : GoodIn wsX0_takenIn (wsV RX0 136 RX0 yX0_gain wsX0_gain) := goodIn_app (goodIn_of _ (by decide +kernel)) ggX0_takenIn_X0_gain
set_option maxRecDepth 20000 in
theorem ggX0_takenIn_X0_with : GoodIn wsX0_takenIn wsX0_with := goodIn_r _ [12] (by decide +kernel) (by decide +kernel)
set_option maxRecDepth 20000 in
theorem gX0_takenIn_X0_with : GoodIn wsX0_takenIn (va_wsS RX0 72 yX0_with wsX0_with) := goodIn_app (goodIn_of _ (by decide +kernel)) ggX0_takenIn_X0_with
theorem dX0_takenIn_0 : decode cX0_takenIn 0 = .ok (.iload_n 2, 1) := by decide +kernel
theorem dX0_takenIn_1 : decode cX0_takenIn 1 = .ok (.istore 5, 2) := by decide +kernel
theorem dX0_takenIn_3 : decode cX0_takenIn 3 = .ok (.iconst 0, 1) := by decide +kernel
theorem dX0_takenIn_4 : decode cX0_takenIn 4 = .ok (.istore 6, 2) := by decide +kernel
theorem dX0_takenIn_6 : decode cX0_takenIn 6 = .ok (.iload 6, 2) := by decide +kernel
theorem dX0_takenIn_8 : decode cX0_takenIn 8 = .ok (.aload_n 0, 1) := by decide +kernel
theorem dX0_takenIn_9 : decode cX0_takenIn 9 = .ok (.getfield 9, 3) := by decide +kernel
theorem dX0_takenIn_12 : decode cX0_takenIn 12 = .ok (.if_icmp .ge 63, 3) := by decide +kernel
theorem dX0_takenIn_15 : decode cX0_takenIn 15 = .ok (.iload_n 3, 1) := by decide +kernel
theorem dX0_takenIn_16 : decode cX0_takenIn 16 = .ok (.iload 6, 2) := by decide +kernel
theorem dX0_takenIn_18 : decode cX0_takenIn 18 = .ok (.invokestatic 83, 3) := by decide +kernel
theorem dX0_takenIn_21 : decode cX0_takenIn 21 = .ok (.ifCond .eq 48, 3) := by decide +kernel
theorem dX0_takenIn_24 : decode cX0_takenIn 24 = .ok (.iload 5, 2) := by decide +kernel
theorem dX0_takenIn_26 : decode cX0_takenIn 26 = .ok (.iload 6, 2) := by decide +kernel
theorem dX0_takenIn_28 : decode cX0_takenIn 28 = .ok (.invokestatic 83, 3) := by decide +kernel
theorem dX0_takenIn_31 : decode cX0_takenIn 31 = .ok (.ifCond .ne 38, 3) := by decide +kernel
theorem dX0_takenIn_34 : decode cX0_takenIn 34 = .ok (.aload_n 0, 1) := by decide +kernel
theorem dX0_takenIn_35 : decode cX0_takenIn 35 = .ok (.iload_n 1, 1) := by decide +kernel
theorem dX0_takenIn_36 : decode cX0_takenIn 36 = .ok (.iload 5, 2) := by decide +kernel
theorem dX0_takenIn_38 : decode cX0_takenIn 38 = .ok (.iload 6, 2) := by decide +kernel
theorem dX0_takenIn_40 : decode cX0_takenIn 40 = .ok (.invokevirtual 136, 3) := by decide +kernel
theorem dX0_takenIn_43 : decode cX0_takenIn 43 = .ok (.istore 7, 2) := by decide +kernel
theorem dX0_takenIn_45 : decode cX0_takenIn 45 = .ok (.iload 7, 2) := by decide +kernel
theorem dX0_takenIn_47 : decode cX0_takenIn 47 = .ok (.ifCond .lt 13, 3) := by decide +kernel
theorem dX0_takenIn_50 : decode cX0_takenIn 50 = .ok (.iload 7, 2) := by decide +kernel
theorem dX0_takenIn_52 : decode cX0_takenIn 52 = .ok (.ifCond .ne 17, 3) := by decide +kernel
theorem dX0_takenIn_55 : decode cX0_takenIn 55 = .ok (.iload 4, 2) := by decide +kernel
theorem dX0_takenIn_57 : decode cX0_takenIn 57 = .ok (.ifCond .eq 12, 3) := by decide +kernel
theorem dX0_takenIn_60 : decode cX0_takenIn 60 = .ok (.iload 5, 2) := by decide +kernel
theorem dX0_takenIn_62 : decode cX0_takenIn 62 = .ok (.iload 6, 2) := by decide +kernel
theorem dX0_takenIn_64 : decode cX0_takenIn 64 = .ok (.invokestatic 72, 3) := by decide +kernel
theorem dX0_takenIn_67 : decode cX0_takenIn 67 = .ok (.istore 5, 2) := by decide +kernel
theorem dX0_takenIn_69 : decode cX0_takenIn 69 = .ok (.iinc 6 1, 3) := by decide +kernel
theorem dX0_takenIn_72 : decode cX0_takenIn 72 = .ok (.goto (-66), 3) := by decide +kernel
theorem dX0_takenIn_75 : decode cX0_takenIn 75 = .ok (.iload 5, 2) := by decide +kernel
theorem dX0_takenIn_77 : decode cX0_takenIn 77 = .ok (.ireturn, 1) := by decide +kernel
set_option maxRecDepth 20000 in
theorem ggX0_takenOut_X0_has : GoodIn wsX0_takenOut wsX0_has := goodIn_r _ [5] (by decide +kernel) (by decide +kernel)
set_option maxRecDepth 20000 in
theorem gX0_takenOut_X0_has : GoodIn wsX0_takenOut (va_wsS RX0 83 yX0_has wsX0_has) := goodIn_app (goodIn_of _ (by decide +kernel)) ggX0_takenOut_X0_has
set_option maxRecDepth 20000 in
theorem ggX0_takenOut_X0_without : GoodIn wsX0_takenOut wsX0_without := goodIn_r _ [8] (by decide +kernel) (by decide +kernel)
set_option maxRecDepth 20000 in
theorem gX0_takenOut_X0_without : GoodIn wsX0_takenOut (va_wsS RX0 76 yX0_without wsX0_without) := goodIn_app (goodIn_of _ (by decide +kernel)) ggX0_takenOut_X0_without
set_option maxRecDepth 20000 in
theorem ggX0_takenOut_X0_gain : GoodIn wsX0_takenOut wsX0_gain := goodIn_r _ [12, 13, 14, 4, 15, 16, 17, 18, 19, 20, 21, 22, 23, 24, 25, 26, 27, 28, 29, 30, 31, 32, 33, 34, 35] (by decide +kernel) (by decide +kernel)
set_option maxRecDepth 20000 in
theorem gX0_takenOut_X0_gain : GoodIn wsX0_takenOut (wsV RX0 136 RX0 yX0_gain wsX0_gain) := goodIn_app (goodIn_of _ (by decide +kernel)) ggX0_takenOut_X0_gain
theorem dX0_takenOut_0 : decode cX0_takenOut 0 = .ok (.iload_n 3, 1) := by decide +kernel
theorem dX0_takenOut_1 : decode cX0_takenOut 1 = .ok (.istore 5, 2) := by decide +kernel
theorem dX0_takenOut_3 : decode cX0_takenOut 3 = .ok (.iconst 0, 1) := by decide +kernel
theorem dX0_takenOut_4 : decode cX0_takenOut 4 = .ok (.istore 6, 2) := by decide +kernel
theorem dX0_takenOut_6 : decode cX0_takenOut 6 = .ok (.iload 6, 2) := by decide +kernel
theorem dX0_takenOut_8 : decode cX0_takenOut 8 = .ok (.aload_n 0, 1) := by decide +kernel
theorem dX0_takenOut_9 : decode cX0_takenOut 9 = .ok (.getfield 9, 3) := by decide +kernel
theorem dX0_takenOut_12 : decode cX0_takenOut 12 = .ok (.if_icmp .ge 68, 3) := by decide +kernel
theorem dX0_takenOut_15 : decode cX0_takenOut 15 = .ok (.iload 5, 2) := by decide +kernel
theorem dX0_takenOut_17 : decode cX0_takenOut 17 = .ok (.iload 6, 2) := by decide +kernel
theorem dX0_takenOut_19 : decode cX0_takenOut 19 = .ok (.invokestatic 83, 3) := by decide +kernel
theorem dX0_takenOut_22 : decode cX0_takenOut 22 = .ok (.ifCond .eq 52, 3) := by decide +kernel
theorem dX0_takenOut_25 : decode cX0_takenOut 25 = .ok (.iload_n 2, 1) := by decide +kernel
theorem dX0_takenOut_26 : decode cX0_takenOut 26 = .ok (.iload 6, 2) := by decide +kernel
theorem dX0_takenOut_28 : decode cX0_takenOut 28 = .ok (.invokestatic 83, 3) := by decide +kernel
theorem dX0_takenOut_31 : decode cX0_takenOut 31 = .ok (.ifCond .ne 43, 3) := by decide +kernel
theorem dX0_takenOut_34 : decode cX0_takenOut 34 = .ok (.aload_n 0, 1) := by decide +kernel
theorem dX0_takenOut_35 : decode cX0_takenOut 35 = .ok (.iload_n 1, 1) := by decide +kernel
theorem dX0_takenOut_36 : decode cX0_takenOut 36 = .ok (.iload 5, 2) := by decide +kernel
theorem dX0_takenOut_38 : decode cX0_takenOut 38 = .ok (.iload 6, 2) := by decide +kernel
theorem dX0_takenOut_40 : decode cX0_takenOut 40 = .ok (.invokestatic 76, 3) := by decide +kernel
theorem dX0_takenOut_43 : decode cX0_takenOut 43 = .ok (.iload 6, 2) := by decide +kernel
theorem dX0_takenOut_45 : decode cX0_takenOut 45 = .ok (.invokevirtual 136, 3) := by decide +kernel
theorem dX0_takenOut_48 : decode cX0_takenOut 48 = .ok (.istore 7, 2) := by decide +kernel
theorem dX0_takenOut_50 : decode cX0_takenOut 50 = .ok (.iload 7, 2) := by decide +kernel
theorem dX0_takenOut_52 : decode cX0_takenOut 52 = .ok (.ifCond .gt 13, 3) := by decide +kernel
theorem dX0_takenOut_55 : decode cX0_takenOut 55 = .ok (.iload 7, 2) := by decide +kernel
theorem dX0_takenOut_57 : decode cX0_takenOut 57 = .ok (.ifCond .ne 17, 3) := by decide +kernel
theorem dX0_takenOut_60 : decode cX0_takenOut 60 = .ok (.iload 4, 2) := by decide +kernel
theorem dX0_takenOut_62 : decode cX0_takenOut 62 = .ok (.ifCond .ne 12, 3) := by decide +kernel
theorem dX0_takenOut_65 : decode cX0_takenOut 65 = .ok (.iload 5, 2) := by decide +kernel
theorem dX0_takenOut_67 : decode cX0_takenOut 67 = .ok (.iload 6, 2) := by decide +kernel
theorem dX0_takenOut_69 : decode cX0_takenOut 69 = .ok (.invokestatic 76, 3) := by decide +kernel
theorem dX0_takenOut_72 : decode cX0_takenOut 72 = .ok (.istore 5, 2) := by decide +kernel
theorem dX0_takenOut_74 : decode cX0_takenOut 74 = .ok (.iinc 6 1, 3) := by decide +kernel
theorem dX0_takenOut_77 : decode cX0_takenOut 77 = .ok (.goto (-71), 3) := by decide +kernel
theorem dX0_takenOut_80 : decode cX0_takenOut 80 = .ok (.iload 5, 2) := by decide +kernel
theorem dX0_takenOut_82 : decode cX0_takenOut 82 = .ok (.ireturn, 1) := by decide +kernel
set_option maxRecDepth 20000 in
theorem ggX0_lowest_X0_has : GoodIn wsX0_lowest wsX0_has := goodIn_r _ [5] (by decide +kernel) (by decide +kernel)
set_option maxRecDepth 20000 in
theorem gX0_lowest_X0_has : GoodIn wsX0_lowest (va_wsS RX0 83 yX0_has wsX0_has) := goodIn_app (goodIn_of _ (by decide +kernel)) ggX0_lowest_X0_has
theorem dX0_lowest_0 : decode cX0_lowest 0 = .ok (.iconst 0, 1) := by decide +kernel
theorem dX0_lowest_1 : decode cX0_lowest 1 = .ok (.istore_n 2, 1) := by decide +kernel
theorem dX0_lowest_2 : decode cX0_lowest 2 = .ok (.iload_n 2, 1) := by decide +kernel
theorem dX0_lowest_3 : decode cX0_lowest 3 = .ok (.aload_n 0, 1) := by decide +kernel
theorem dX0_lowest_4 : decode cX0_lowest 4 = .ok (.getfield 9, 3) := by decide +kernel
theorem dX0_lowest_7 : decode cX0_lowest 7 = .ok (.if_icmp .ge 19, 3) := by decide +kernel
theorem dX0_lowest_10 : decode cX0_lowest 10 = .ok (.iload_n 1, 1) := by decide +kernel
theorem dX0_lowest_11 : decode cX0_lowest 11 = .ok (.iload_n 2, 1) := by decide +kernel
theorem dX0_lowest_12 : decode cX0_lowest 12 = .ok (.invokestatic 83, 3) := by decide +kernel
theorem dX0_lowest_15 : decode cX0_lowest 15 = .ok (.ifCond .eq 5, 3) := by decide +kernel
theorem dX0_lowest_18 : decode cX0_lowest 18 = .ok (.iload_n 2, 1) := by decide +kernel
theorem dX0_lowest_19 : decode cX0_lowest 19 = .ok (.ireturn, 1) := by decide +kernel
theorem dX0_lowest_20 : decode cX0_lowest 20 = .ok (.iinc 2 1, 3) := by decide +kernel
theorem dX0_lowest_23 : decode cX0_lowest 23 = .ok (.goto (-21), 3) := by decide +kernel
theorem dX0_lowest_26 : decode cX0_lowest 26 = .ok (.iconst (-1), 1) := by decide +kernel
theorem dX0_lowest_27 : decode cX0_lowest 27 = .ok (.ireturn, 1) := by decide +kernel
set_option maxRecDepth 20000 in
theorem ggX0_isTold_X0_at : GoodIn wsX0_isTold wsX0_at := goodIn_r _ [6] (by decide +kernel) (by decide +kernel)
set_option maxRecDepth 20000 in
theorem gX0_isTold_X0_at : GoodIn wsX0_isTold (va_wsS RX0 68 yX0_at wsX0_at) := goodIn_app (goodIn_of _ (by decide +kernel)) ggX0_isTold_X0_at
theorem dX0_isTold_0 : decode cX0_isTold 0 = .ok (.iconst 0, 1) := by decide +kernel
theorem dX0_isTold_1 : decode cX0_isTold 1 = .ok (.istore_n 2, 1) := by decide +kernel
theorem dX0_isTold_2 : decode cX0_isTold 2 = .ok (.iload_n 2, 1) := by decide +kernel
theorem dX0_isTold_3 : decode cX0_isTold 3 = .ok (.aload_n 0, 1) := by decide +kernel
theorem dX0_isTold_4 : decode cX0_isTold 4 = .ok (.getfield 16, 3) := by decide +kernel
theorem dX0_isTold_7 : decode cX0_isTold 7 = .ok (.if_icmp .ge 23, 3) := by decide +kernel
theorem dX0_isTold_10 : decode cX0_isTold 10 = .ok (.aload_n 0, 1) := by decide +kernel
theorem dX0_isTold_11 : decode cX0_isTold 11 = .ok (.getfield 38, 3) := by decide +kernel
theorem dX0_isTold_14 : decode cX0_isTold 14 = .ok (.iload_n 2, 1) := by decide +kernel
theorem dX0_isTold_15 : decode cX0_isTold 15 = .ok (.invokestatic 68, 3) := by decide +kernel
theorem dX0_isTold_18 : decode cX0_isTold 18 = .ok (.iload_n 1, 1) := by decide +kernel
theorem dX0_isTold_19 : decode cX0_isTold 19 = .ok (.if_icmp .ne 5, 3) := by decide +kernel
theorem dX0_isTold_22 : decode cX0_isTold 22 = .ok (.iconst 1, 1) := by decide +kernel
theorem dX0_isTold_23 : decode cX0_isTold 23 = .ok (.ireturn, 1) := by decide +kernel
theorem dX0_isTold_24 : decode cX0_isTold 24 = .ok (.iinc 2 1, 3) := by decide +kernel
theorem dX0_isTold_27 : decode cX0_isTold 27 = .ok (.goto (-25), 3) := by decide +kernel
theorem dX0_isTold_30 : decode cX0_isTold 30 = .ok (.iconst 0, 1) := by decide +kernel
theorem dX0_isTold_31 : decode cX0_isTold 31 = .ok (.ireturn, 1) := by decide +kernel
set_option maxRecDepth 20000 in
theorem ggX0_aheadOf_X0_at : GoodIn wsX0_aheadOf wsX0_at := goodIn_r _ [6] (by decide +kernel) (by decide +kernel)
set_option maxRecDepth 20000 in
theorem gX0_aheadOf_X0_at : GoodIn wsX0_aheadOf (va_wsS RX0 68 yX0_at wsX0_at) := goodIn_app (goodIn_of _ (by decide +kernel)) ggX0_aheadOf_X0_at
set_option maxRecDepth 20000 in
theorem ggX0_aheadOf_X0_with : GoodIn wsX0_aheadOf wsX0_with := goodIn_r _ [9] (by decide +kernel) (by decide +kernel)
set_option maxRecDepth 20000 in
theorem gX0_aheadOf_X0_with : GoodIn wsX0_aheadOf (va_wsS RX0 72 yX0_with wsX0_with) := goodIn_app (goodIn_of _ (by decide +kernel)) ggX0_aheadOf_X0_with
theorem dX0_aheadOf_0 : decode cX0_aheadOf 0 = .ok (.iconst 0, 1) := by decide +kernel
theorem dX0_aheadOf_1 : decode cX0_aheadOf 1 = .ok (.istore_n 2, 1) := by decide +kernel
theorem dX0_aheadOf_2 : decode cX0_aheadOf 2 = .ok (.iconst 0, 1) := by decide +kernel
theorem dX0_aheadOf_3 : decode cX0_aheadOf 3 = .ok (.istore_n 3, 1) := by decide +kernel
theorem dX0_aheadOf_4 : decode cX0_aheadOf 4 = .ok (.iload_n 3, 1) := by decide +kernel
theorem dX0_aheadOf_5 : decode cX0_aheadOf 5 = .ok (.aload_n 0, 1) := by decide +kernel
theorem dX0_aheadOf_6 : decode cX0_aheadOf 6 = .ok (.getfield 16, 3) := by decide +kernel
theorem dX0_aheadOf_9 : decode cX0_aheadOf 9 = .ok (.if_icmp .ge 34, 3) := by decide +kernel
theorem dX0_aheadOf_12 : decode cX0_aheadOf 12 = .ok (.aload_n 0, 1) := by decide +kernel
theorem dX0_aheadOf_13 : decode cX0_aheadOf 13 = .ok (.getfield 38, 3) := by decide +kernel
theorem dX0_aheadOf_16 : decode cX0_aheadOf 16 = .ok (.iload_n 3, 1) := by decide +kernel
theorem dX0_aheadOf_17 : decode cX0_aheadOf 17 = .ok (.invokestatic 68, 3) := by decide +kernel
theorem dX0_aheadOf_20 : decode cX0_aheadOf 20 = .ok (.istore 4, 2) := by decide +kernel
theorem dX0_aheadOf_22 : decode cX0_aheadOf 22 = .ok (.iload 4, 2) := by decide +kernel
theorem dX0_aheadOf_24 : decode cX0_aheadOf 24 = .ok (.iload_n 1, 1) := by decide +kernel
theorem dX0_aheadOf_25 : decode cX0_aheadOf 25 = .ok (.if_icmp .ne 5, 3) := by decide +kernel
theorem dX0_aheadOf_28 : decode cX0_aheadOf 28 = .ok (.iload_n 2, 1) := by decide +kernel
theorem dX0_aheadOf_29 : decode cX0_aheadOf 29 = .ok (.ireturn, 1) := by decide +kernel
theorem dX0_aheadOf_30 : decode cX0_aheadOf 30 = .ok (.iload_n 2, 1) := by decide +kernel
theorem dX0_aheadOf_31 : decode cX0_aheadOf 31 = .ok (.iload 4, 2) := by decide +kernel
theorem dX0_aheadOf_33 : decode cX0_aheadOf 33 = .ok (.invokestatic 72, 3) := by decide +kernel
theorem dX0_aheadOf_36 : decode cX0_aheadOf 36 = .ok (.istore_n 2, 1) := by decide +kernel
theorem dX0_aheadOf_37 : decode cX0_aheadOf 37 = .ok (.iinc 3 1, 3) := by decide +kernel
theorem dX0_aheadOf_40 : decode cX0_aheadOf 40 = .ok (.goto (-36), 3) := by decide +kernel
theorem dX0_aheadOf_43 : decode cX0_aheadOf 43 = .ok (.iload_n 2, 1) := by decide +kernel
theorem dX0_aheadOf_44 : decode cX0_aheadOf 44 = .ok (.ireturn, 1) := by decide +kernel
set_option maxRecDepth 20000 in
theorem ggX0_greediest_X0_gain : GoodIn wsX0_greediest wsX0_gain := goodIn_r _ [6, 7, 8, 5, 9, 10, 11, 12, 13, 14, 15, 16, 17, 18, 19, 20, 21, 22, 23, 24, 25, 26, 27, 28, 29] (by decide +kernel) (by decide +kernel)
set_option maxRecDepth 20000 in
theorem gX0_greediest_X0_gain : GoodIn wsX0_greediest (wsV RX0 136 RX0 yX0_gain wsX0_gain) := goodIn_app (goodIn_of _ (by decide +kernel)) ggX0_greediest_X0_gain
theorem dX0_greediest_0 : decode cX0_greediest 0 = .ok (.iconst (-1), 1) := by decide +kernel
theorem dX0_greediest_1 : decode cX0_greediest 1 = .ok (.istore_n 3, 1) := by decide +kernel
theorem dX0_greediest_2 : decode cX0_greediest 2 = .ok (.iconst 0, 1) := by decide +kernel
theorem dX0_greediest_3 : decode cX0_greediest 3 = .ok (.istore 4, 2) := by decide +kernel
theorem dX0_greediest_5 : decode cX0_greediest 5 = .ok (.iconst 0, 1) := by decide +kernel
theorem dX0_greediest_6 : decode cX0_greediest 6 = .ok (.istore 5, 2) := by decide +kernel
theorem dX0_greediest_8 : decode cX0_greediest 8 = .ok (.iload 5, 2) := by decide +kernel
theorem dX0_greediest_10 : decode cX0_greediest 10 = .ok (.aload_n 0, 1) := by decide +kernel
theorem dX0_greediest_11 : decode cX0_greediest 11 = .ok (.getfield 9, 3) := by decide +kernel
theorem dX0_greediest_14 : decode cX0_greediest 14 = .ok (.if_icmp .ge 33, 3) := by decide +kernel
theorem dX0_greediest_17 : decode cX0_greediest 17 = .ok (.aload_n 0, 1) := by decide +kernel
theorem dX0_greediest_18 : decode cX0_greediest 18 = .ok (.iload_n 1, 1) := by decide +kernel
theorem dX0_greediest_19 : decode cX0_greediest 19 = .ok (.iload_n 2, 1) := by decide +kernel
theorem dX0_greediest_20 : decode cX0_greediest 20 = .ok (.iload 5, 2) := by decide +kernel
theorem dX0_greediest_22 : decode cX0_greediest 22 = .ok (.invokevirtual 136, 3) := by decide +kernel
theorem dX0_greediest_25 : decode cX0_greediest 25 = .ok (.istore 6, 2) := by decide +kernel
theorem dX0_greediest_27 : decode cX0_greediest 27 = .ok (.iload 6, 2) := by decide +kernel
theorem dX0_greediest_29 : decode cX0_greediest 29 = .ok (.iload 4, 2) := by decide +kernel
theorem dX0_greediest_31 : decode cX0_greediest 31 = .ok (.if_icmp .le 10, 3) := by decide +kernel
theorem dX0_greediest_34 : decode cX0_greediest 34 = .ok (.iload 6, 2) := by decide +kernel
theorem dX0_greediest_36 : decode cX0_greediest 36 = .ok (.istore 4, 2) := by decide +kernel
theorem dX0_greediest_38 : decode cX0_greediest 38 = .ok (.iload 5, 2) := by decide +kernel
theorem dX0_greediest_40 : decode cX0_greediest 40 = .ok (.istore_n 3, 1) := by decide +kernel
theorem dX0_greediest_41 : decode cX0_greediest 41 = .ok (.iinc 5 1, 3) := by decide +kernel
theorem dX0_greediest_44 : decode cX0_greediest 44 = .ok (.goto (-36), 3) := by decide +kernel
theorem dX0_greediest_47 : decode cX0_greediest 47 = .ok (.iload_n 3, 1) := by decide +kernel
theorem dX0_greediest_48 : decode cX0_greediest 48 = .ok (.ireturn, 1) := by decide +kernel
set_option maxRecDepth 20000 in
theorem ggX0_isFair_X0_countOf : GoodIn wsX0_isFair wsX0_countOf := goodIn_r _ [5, 6, 7, 8, 4, 9, 10, 11, 12, 13, 14, 15, 16, 17, 23, 24, 25, 26, 27, 28, 29, 30, 31, 32, 33, 34] (by decide +kernel) (by decide +kernel)
set_option maxRecDepth 20000 in
theorem gX0_isFair_X0_countOf : GoodIn wsX0_isFair (wsV RX0 210 RX0 yX0_countOf wsX0_countOf) := goodIn_app (goodIn_of _ (by decide +kernel)) ggX0_isFair_X0_countOf
set_option maxRecDepth 20000 in
theorem ggX0_isFair_X0_roomOf : GoodIn wsX0_isFair wsX0_roomOf := goodIn_r _ [21, 22, 15, 16, 4, 17, 23, 24, 25, 26, 27, 28, 29, 30, 31, 32, 33, 34] (by decide +kernel) (by decide +kernel)
set_option maxRecDepth 20000 in
theorem gX0_isFair_X0_roomOf : GoodIn wsX0_isFair (wsV RX0 99 RX0 yX0_roomOf wsX0_roomOf) := goodIn_app (goodIn_of _ (by decide +kernel)) ggX0_isFair_X0_roomOf
theorem dX0_isFair_0 : decode cX0_isFair 0 = .ok (.iconst 0, 1) := by decide +kernel
theorem dX0_isFair_1 : decode cX0_isFair 1 = .ok (.istore_n 3, 1) := by decide +kernel
theorem dX0_isFair_2 : decode cX0_isFair 2 = .ok (.iload_n 3, 1) := by decide +kernel
theorem dX0_isFair_3 : decode cX0_isFair 3 = .ok (.bipush 6, 2) := by decide +kernel
theorem dX0_isFair_5 : decode cX0_isFair 5 = .ok (.if_icmp .ge 27, 3) := by decide +kernel
theorem dX0_isFair_8 : decode cX0_isFair 8 = .ok (.aload_n 0, 1) := by decide +kernel
theorem dX0_isFair_9 : decode cX0_isFair 9 = .ok (.iload_n 1, 1) := by decide +kernel
theorem dX0_isFair_10 : decode cX0_isFair 10 = .ok (.iload_n 3, 1) := by decide +kernel
theorem dX0_isFair_11 : decode cX0_isFair 11 = .ok (.iload_n 2, 1) := by decide +kernel
theorem dX0_isFair_12 : decode cX0_isFair 12 = .ok (.invokevirtual 210, 3) := by decide +kernel
theorem dX0_isFair_15 : decode cX0_isFair 15 = .ok (.aload_n 0, 1) := by decide +kernel
theorem dX0_isFair_16 : decode cX0_isFair 16 = .ok (.iload_n 1, 1) := by decide +kernel
theorem dX0_isFair_17 : decode cX0_isFair 17 = .ok (.iload_n 3, 1) := by decide +kernel
theorem dX0_isFair_18 : decode cX0_isFair 18 = .ok (.invokevirtual 99, 3) := by decide +kernel
theorem dX0_isFair_21 : decode cX0_isFair 21 = .ok (.if_icmp .le 5, 3) := by decide +kernel
theorem dX0_isFair_24 : decode cX0_isFair 24 = .ok (.iconst 0, 1) := by decide +kernel
theorem dX0_isFair_25 : decode cX0_isFair 25 = .ok (.ireturn, 1) := by decide +kernel
theorem dX0_isFair_26 : decode cX0_isFair 26 = .ok (.iinc 3 1, 3) := by decide +kernel
theorem dX0_isFair_29 : decode cX0_isFair 29 = .ok (.goto (-27), 3) := by decide +kernel
theorem dX0_isFair_32 : decode cX0_isFair 32 = .ok (.iconst 1, 1) := by decide +kernel
theorem dX0_isFair_33 : decode cX0_isFair 33 = .ok (.ireturn, 1) := by decide +kernel
set_option maxRecDepth 20000 in
theorem ggX0_hasRoom_X0_colourOf : GoodIn wsX0_hasRoom wsX0_colourOf := goodIn_r _ [5, 6, 7, 8, 4, 9, 23, 24, 25, 26, 27, 28, 29, 30, 31, 32, 33, 34] (by decide +kernel) (by decide +kernel)
set_option maxRecDepth 20000 in
theorem gX0_hasRoom_X0_colourOf : GoodIn wsX0_hasRoom (wsV RX0 96 RX0 yX0_colourOf wsX0_colourOf) := goodIn_app (goodIn_of _ (by decide +kernel)) ggX0_hasRoom_X0_colourOf
set_option maxRecDepth 20000 in
theorem ggX0_hasRoom_X0_has : GoodIn wsX0_hasRoom wsX0_has := goodIn_r _ [12] (by decide +kernel) (by decide +kernel)
set_option maxRecDepth 20000 in
theorem gX0_hasRoom_X0_has : GoodIn wsX0_hasRoom (va_wsS RX0 83 yX0_has wsX0_has) := goodIn_app (goodIn_of _ (by decide +kernel)) ggX0_hasRoom_X0_has
set_option maxRecDepth 20000 in
theorem ggX0_hasRoom_X0_countOf : GoodIn wsX0_hasRoom wsX0_countOf := goodIn_r _ [16, 17, 10, 11, 4, 12, 1, 2, 3, 5, 6, 7, 8, 9, 23, 24, 25, 26, 27, 28, 29, 30, 31, 32, 33, 34] (by decide +kernel) (by decide +kernel)
set_option maxRecDepth 20000 in
theorem gX0_hasRoom_X0_countOf : GoodIn wsX0_hasRoom (wsV RX0 210 RX0 yX0_countOf wsX0_countOf) := goodIn_app (goodIn_of _ (by decide +kernel)) ggX0_hasRoom_X0_countOf
set_option maxRecDepth 20000 in
theorem ggX0_hasRoom_X0_roomOf : GoodIn wsX0_hasRoom wsX0_roomOf := goodIn_r _ [21, 22, 7, 8, 4, 9, 23, 24, 25, 26, 27, 28, 29, 30, 31, 32, 33, 34] (by decide +kernel) (by decide +kernel)
set_option maxRecDepth 20000 in
theorem gX0_hasRoom_X0_roomOf : GoodIn wsX0_hasRoom (wsV RX0 99 RX0 yX0_roomOf wsX0_roomOf) := goodIn_app (goodIn_of _ (by decide +kernel)) ggX0_hasRoom_X0_roomOf
theorem dX0_hasRoom_0 : decode cX0_hasRoom 0 = .ok (.aload_n 0, 1) := by decide +kernel
theorem dX0_hasRoom_1 : decode cX0_hasRoom 1 = .ok (.iload_n 1, 1) := by decide +kernel
theorem dX0_hasRoom_2 : decode cX0_hasRoom 2 = .ok (.iload_n 2, 1) := by decide +kernel
theorem dX0_hasRoom_3 : decode cX0_hasRoom 3 = .ok (.invokevirtual 96, 3) := by decide +kernel
theorem dX0_hasRoom_6 : decode cX0_hasRoom 6 = .ok (.istore 4, 2) := by decide +kernel
theorem dX0_hasRoom_8 : decode cX0_hasRoom 8 = .ok (.iload_n 3, 1) := by decide +kernel
theorem dX0_hasRoom_9 : decode cX0_hasRoom 9 = .ok (.iload_n 2, 1) := by decide +kernel
theorem dX0_hasRoom_10 : decode cX0_hasRoom 10 = .ok (.invokestatic 83, 3) := by decide +kernel
theorem dX0_hasRoom_13 : decode cX0_hasRoom 13 = .ok (.ifCond .ne 25, 3) := by decide +kernel
theorem dX0_hasRoom_16 : decode cX0_hasRoom 16 = .ok (.aload_n 0, 1) := by decide +kernel
theorem dX0_hasRoom_17 : decode cX0_hasRoom 17 = .ok (.iload_n 1, 1) := by decide +kernel
theorem dX0_hasRoom_18 : decode cX0_hasRoom 18 = .ok (.iload 4, 2) := by decide +kernel
theorem dX0_hasRoom_20 : decode cX0_hasRoom 20 = .ok (.iload_n 3, 1) := by decide +kernel
theorem dX0_hasRoom_21 : decode cX0_hasRoom 21 = .ok (.invokevirtual 210, 3) := by decide +kernel
theorem dX0_hasRoom_24 : decode cX0_hasRoom 24 = .ok (.aload_n 0, 1) := by decide +kernel
theorem dX0_hasRoom_25 : decode cX0_hasRoom 25 = .ok (.iload_n 1, 1) := by decide +kernel
theorem dX0_hasRoom_26 : decode cX0_hasRoom 26 = .ok (.iload 4, 2) := by decide +kernel
theorem dX0_hasRoom_28 : decode cX0_hasRoom 28 = .ok (.invokevirtual 99, 3) := by decide +kernel
theorem dX0_hasRoom_31 : decode cX0_hasRoom 31 = .ok (.if_icmp .ge 7, 3) := by decide +kernel
theorem dX0_hasRoom_34 : decode cX0_hasRoom 34 = .ok (.iconst 1, 1) := by decide +kernel
theorem dX0_hasRoom_35 : decode cX0_hasRoom 35 = .ok (.goto 4, 3) := by decide +kernel
theorem dX0_hasRoom_38 : decode cX0_hasRoom 38 = .ok (.iconst 0, 1) := by decide +kernel
theorem dX0_hasRoom_39 : decode cX0_hasRoom 39 = .ok (.ireturn, 1) := by decide +kernel
set_option maxRecDepth 20000 in
theorem ggX0_endOfPath_X0_reachFirst : GoodIn wsX0_endOfPath wsX0_reachFirst := goodIn_r _ [6, 7, 8, 1, 9, 10, 11, 12, 13, 14, 15, 5, 16, 17, 18, 19, 20, 21, 22, 23, 24, 25, 26, 27, 28, 29, 30, 31, 32, 33, 34, 35, 36, 37, 38, 39, 48, 49, 50, 51, 52, 53, 54, 55, 56, 57, 58, 59] (by decide +kernel) (by decide +kernel)
set_option maxRecDepth 20000 in
theorem gX0_endOfPath_X0_reachFirst : GoodIn wsX0_endOfPath (wsV RX0 226 RX0 yX0_reachFirst wsX0_reachFirst) := goodIn_app (goodIn_of _ (by decide +kernel)) ggX0_endOfPath_X0_reachFirst
set_option maxRecDepth 20000 in
theorem ggX0_endOfPath_X0_at : GoodIn wsX0_endOfPath wsX0_at := goodIn_r _ [24] (by decide +kernel) (by decide +kernel)
set_option maxRecDepth 20000 in
theorem gX0_endOfPath_X0_at : GoodIn wsX0_endOfPath (va_wsS RX0 68 yX0_at wsX0_at) := goodIn_app (goodIn_of _ (by decide +kernel)) ggX0_endOfPath_X0_at
set_option maxRecDepth 20000 in
theorem ggX0_endOfPath_X0_hasRoom : GoodIn wsX0_endOfPath wsX0_hasRoom := goodIn_r _ [16, 17, 18, 19, 5, 20, 21, 22, 23, 24, 25, 26, 27, 28, 29, 30, 31, 8, 32, 33, 34, 35, 36, 48, 49, 50, 51, 52, 53, 54, 55, 56, 57, 58, 59] (by decide +kernel) (by decide +kernel)
set_option maxRecDepth 20000 in
theorem gX0_endOfPath_X0_hasRoom : GoodIn wsX0_endOfPath (wsV RX0 229 RX0 yX0_hasRoom wsX0_hasRoom) := goodIn_app (goodIn_of _ (by decide +kernel)) ggX0_endOfPath_X0_hasRoom
set_option maxRecDepth 20000 in
theorem ggX0_endOfPath_X0_reachFrom : GoodIn wsX0_endOfPath wsX0_reachFrom := goodIn_r _ [43, 8, 7, 1, 22, 23, 5, 24, 44, 45, 46, 47, 25, 26, 27, 17, 18, 19, 20, 21, 37, 38, 39, 48, 49, 50, 51, 52, 53, 54, 55, 56, 57, 58, 59] (by decide +kernel) (by decide +kernel)
set_option maxRecDepth 20000 in
theorem gX0_endOfPath_X0_reachFrom : GoodIn wsX0_endOfPath (wsV RX0 232 RX0 yX0_reachFrom wsX0_reachFrom) := goodIn_app (goodIn_of _ (by decide +kernel)) ggX0_endOfPath_X0_reachFrom
theorem dX0_endOfPath_0 : decode cX0_endOfPath 0 = .ok (.aload_n 0, 1) := by decide +kernel
theorem dX0_endOfPath_1 : decode cX0_endOfPath 1 = .ok (.iload_n 1, 1) := by decide +kernel
theorem dX0_endOfPath_2 : decode cX0_endOfPath 2 = .ok (.invokevirtual 226, 3) := by decide +kernel
theorem dX0_endOfPath_5 : decode cX0_endOfPath 5 = .ok (.istore_n 2, 1) := by decide +kernel
theorem dX0_endOfPath_6 : decode cX0_endOfPath 6 = .ok (.iconst 0, 1) := by decide +kernel
theorem dX0_endOfPath_7 : decode cX0_endOfPath 7 = .ok (.istore_n 3, 1) := by decide +kernel
theorem dX0_endOfPath_8 : decode cX0_endOfPath 8 = .ok (.iload_n 3, 1) := by decide +kernel
theorem dX0_endOfPath_9 : decode cX0_endOfPath 9 = .ok (.iload_n 2, 1) := by decide +kernel
theorem dX0_endOfPath_10 : decode cX0_endOfPath 10 = .ok (.if_icmp .ge 48, 3) := by decide +kernel
theorem dX0_endOfPath_13 : decode cX0_endOfPath 13 = .ok (.iload_n 3, 1) := by decide +kernel
theorem dX0_endOfPath_14 : decode cX0_endOfPath 14 = .ok (.bipush 6, 2) := by decide +kernel
theorem dX0_endOfPath_16 : decode cX0_endOfPath 16 = .ok (.if_icmp .ge 42, 3) := by decide +kernel
theorem dX0_endOfPath_19 : decode cX0_endOfPath 19 = .ok (.aload_n 0, 1) := by decide +kernel
theorem dX0_endOfPath_20 : decode cX0_endOfPath 20 = .ok (.getfield 44, 3) := by decide +kernel
theorem dX0_endOfPath_23 : decode cX0_endOfPath 23 = .ok (.iload_n 3, 1) := by decide +kernel
theorem dX0_endOfPath_24 : decode cX0_endOfPath 24 = .ok (.invokestatic 68, 3) := by decide +kernel
theorem dX0_endOfPath_27 : decode cX0_endOfPath 27 = .ok (.istore 4, 2) := by decide +kernel
theorem dX0_endOfPath_29 : decode cX0_endOfPath 29 = .ok (.aload_n 0, 1) := by decide +kernel
theorem dX0_endOfPath_30 : decode cX0_endOfPath 30 = .ok (.iconst 1, 1) := by decide +kernel
theorem dX0_endOfPath_31 : decode cX0_endOfPath 31 = .ok (.iload 4, 2) := by decide +kernel
theorem dX0_endOfPath_33 : decode cX0_endOfPath 33 = .ok (.iload_n 1, 1) := by decide +kernel
theorem dX0_endOfPath_34 : decode cX0_endOfPath 34 = .ok (.invokevirtual 229, 3) := by decide +kernel
theorem dX0_endOfPath_37 : decode cX0_endOfPath 37 = .ok (.ifCond .eq 6, 3) := by decide +kernel
theorem dX0_endOfPath_40 : decode cX0_endOfPath 40 = .ok (.iload 4, 2) := by decide +kernel
theorem dX0_endOfPath_42 : decode cX0_endOfPath 42 = .ok (.ireturn, 1) := by decide +kernel
theorem dX0_endOfPath_43 : decode cX0_endOfPath 43 = .ok (.aload_n 0, 1) := by decide +kernel
theorem dX0_endOfPath_44 : decode cX0_endOfPath 44 = .ok (.iload 4, 2) := by decide +kernel
theorem dX0_endOfPath_46 : decode cX0_endOfPath 46 = .ok (.iload_n 1, 1) := by decide +kernel
theorem dX0_endOfPath_47 : decode cX0_endOfPath 47 = .ok (.iload_n 2, 1) := by decide +kernel
theorem dX0_endOfPath_48 : decode cX0_endOfPath 48 = .ok (.invokevirtual 232, 3) := by decide +kernel
theorem dX0_endOfPath_51 : decode cX0_endOfPath 51 = .ok (.istore_n 2, 1) := by decide +kernel
theorem dX0_endOfPath_52 : decode cX0_endOfPath 52 = .ok (.iinc 3 1, 3) := by decide +kernel
theorem dX0_endOfPath_55 : decode cX0_endOfPath 55 = .ok (.goto (-47), 3) := by decide +kernel
theorem dX0_endOfPath_58 : decode cX0_endOfPath 58 = .ok (.iconst (-1), 1) := by decide +kernel
theorem dX0_endOfPath_59 : decode cX0_endOfPath 59 = .ok (.ireturn, 1) := by decide +kernel
set_option maxRecDepth 20000 in
theorem ggX0_reachFirst_J7_fill_53178 : GoodIn wsX0_reachFirst wsJ7_fill_53178 := goodIn_r _ [7] (by decide +kernel) (by decide +kernel)
set_option maxRecDepth 20000 in
theorem gX0_reachFirst_J7_fill_53178 : GoodIn wsX0_reachFirst (va_wsS RX0 47 yJ7_fill_53178 wsJ7_fill_53178) := goodIn_app (goodIn_of _ (by decide +kernel)) ggX0_reachFirst_J7_fill_53178
set_option maxRecDepth 20000 in
theorem ggX0_reachFirst_X0_hasRoom : GoodIn wsX0_reachFirst wsX0_hasRoom := goodIn_r _ [12, 13, 14, 15, 11, 16, 17, 18, 19, 20, 21, 22, 23, 24, 25, 26, 27, 2, 28, 29, 30, 31, 32, 36, 37, 38, 39, 40, 41, 42, 43, 44, 45, 46, 47] (by decide +kernel) (by decide +kernel)
set_option maxRecDepth 20000 in
theorem gX0_reachFirst_X0_hasRoom : GoodIn wsX0_reachFirst (wsV RX0 229 RX0 yX0_hasRoom wsX0_hasRoom) := goodIn_app (goodIn_of _ (by decide +kernel)) ggX0_reachFirst_X0_hasRoom
set_option maxRecDepth 20000 in
theorem ggX0_reachFirst_X0_put : GoodIn wsX0_reachFirst wsX0_put := goodIn_r _ [35] (by decide +kernel) (by decide +kernel)
set_option maxRecDepth 20000 in
theorem gX0_reachFirst_X0_put : GoodIn wsX0_reachFirst (va_wsS RX0 79 yX0_put wsX0_put) := goodIn_app (goodIn_of _ (by decide +kernel)) ggX0_reachFirst_X0_put
theorem dX0_reachFirst_0 : decode cX0_reachFirst 0 = .ok (.iconst 0, 1) := by decide +kernel
theorem dX0_reachFirst_1 : decode cX0_reachFirst 1 = .ok (.istore_n 2, 1) := by decide +kernel
theorem dX0_reachFirst_2 : decode cX0_reachFirst 2 = .ok (.aload_n 0, 1) := by decide +kernel
theorem dX0_reachFirst_3 : decode cX0_reachFirst 3 = .ok (.getfield 41, 3) := by decide +kernel
theorem dX0_reachFirst_6 : decode cX0_reachFirst 6 = .ok (.bipush (-2), 2) := by decide +kernel
theorem dX0_reachFirst_8 : decode cX0_reachFirst 8 = .ok (.invokestatic 47, 3) := by decide +kernel
theorem dX0_reachFirst_11 : decode cX0_reachFirst 11 = .ok (.iconst 0, 1) := by decide +kernel
theorem dX0_reachFirst_12 : decode cX0_reachFirst 12 = .ok (.istore_n 3, 1) := by decide +kernel
theorem dX0_reachFirst_13 : decode cX0_reachFirst 13 = .ok (.iload_n 3, 1) := by decide +kernel
theorem dX0_reachFirst_14 : decode cX0_reachFirst 14 = .ok (.aload_n 0, 1) := by decide +kernel
theorem dX0_reachFirst_15 : decode cX0_reachFirst 15 = .ok (.getfield 9, 3) := by decide +kernel
theorem dX0_reachFirst_18 : decode cX0_reachFirst 18 = .ok (.if_icmp .ge 40, 3) := by decide +kernel
theorem dX0_reachFirst_21 : decode cX0_reachFirst 21 = .ok (.aload_n 0, 1) := by decide +kernel
theorem dX0_reachFirst_22 : decode cX0_reachFirst 22 = .ok (.iconst 0, 1) := by decide +kernel
theorem dX0_reachFirst_23 : decode cX0_reachFirst 23 = .ok (.iload_n 3, 1) := by decide +kernel
theorem dX0_reachFirst_24 : decode cX0_reachFirst 24 = .ok (.iload_n 1, 1) := by decide +kernel
theorem dX0_reachFirst_25 : decode cX0_reachFirst 25 = .ok (.invokevirtual 229, 3) := by decide +kernel
theorem dX0_reachFirst_28 : decode cX0_reachFirst 28 = .ok (.ifCond .eq 24, 3) := by decide +kernel
theorem dX0_reachFirst_31 : decode cX0_reachFirst 31 = .ok (.aload_n 0, 1) := by decide +kernel
theorem dX0_reachFirst_32 : decode cX0_reachFirst 32 = .ok (.getfield 41, 3) := by decide +kernel
theorem dX0_reachFirst_35 : decode cX0_reachFirst 35 = .ok (.iload_n 3, 1) := by decide +kernel
theorem dX0_reachFirst_36 : decode cX0_reachFirst 36 = .ok (.iconst (-1), 1) := by decide +kernel
theorem dX0_reachFirst_37 : decode cX0_reachFirst 37 = .ok (.invokestatic 79, 3) := by decide +kernel
theorem dX0_reachFirst_40 : decode cX0_reachFirst 40 = .ok (.aload_n 0, 1) := by decide +kernel
theorem dX0_reachFirst_41 : decode cX0_reachFirst 41 = .ok (.getfield 44, 3) := by decide +kernel
theorem dX0_reachFirst_44 : decode cX0_reachFirst 44 = .ok (.iload_n 2, 1) := by decide +kernel
theorem dX0_reachFirst_45 : decode cX0_reachFirst 45 = .ok (.iload_n 3, 1) := by decide +kernel
theorem dX0_reachFirst_46 : decode cX0_reachFirst 46 = .ok (.invokestatic 79, 3) := by decide +kernel
theorem dX0_reachFirst_49 : decode cX0_reachFirst 49 = .ok (.iinc 2 1, 3) := by decide +kernel
theorem dX0_reachFirst_52 : decode cX0_reachFirst 52 = .ok (.iinc 3 1, 3) := by decide +kernel
theorem dX0_reachFirst_55 : decode cX0_reachFirst 55 = .ok (.goto (-42), 3) := by decide +kernel
theorem dX0_reachFirst_58 : decode cX0_reachFirst 58 = .ok (.iload_n 2, 1) := by decide +kernel
theorem dX0_reachFirst_59 : decode cX0_reachFirst 59 = .ok (.ireturn, 1) := by decide +kernel
set_option maxRecDepth 20000 in
theorem ggX0_reachFrom_X0_at : GoodIn wsX0_reachFrom wsX0_at := goodIn_r _ [7] (by decide +kernel) (by decide +kernel)
set_option maxRecDepth 20000 in
theorem gX0_reachFrom_X0_at : GoodIn wsX0_reachFrom (va_wsS RX0 68 yX0_at wsX0_at) := goodIn_app (goodIn_of _ (by decide +kernel)) ggX0_reachFrom_X0_at
set_option maxRecDepth 20000 in
theorem ggX0_reachFrom_X0_isStep : GoodIn wsX0_reachFrom wsX0_isStep := goodIn_r _ [11, 12, 13, 6, 14, 15, 16, 17, 18, 19, 4, 5, 7, 23, 24, 25, 26, 27, 28, 29, 30, 31, 32, 33, 34] (by decide +kernel) (by decide +kernel)
set_option maxRecDepth 20000 in
theorem gX0_reachFrom_X0_isStep : GoodIn wsX0_reachFrom (wsV RX0 235 RX0 yX0_isStep wsX0_isStep) := goodIn_app (goodIn_of _ (by decide +kernel)) ggX0_reachFrom_X0_isStep
set_option maxRecDepth 20000 in
theorem ggX0_reachFrom_X0_put : GoodIn wsX0_reachFrom wsX0_put := goodIn_r _ [22] (by decide +kernel) (by decide +kernel)
set_option maxRecDepth 20000 in
theorem gX0_reachFrom_X0_put : GoodIn wsX0_reachFrom (va_wsS RX0 79 yX0_put wsX0_put) := goodIn_app (goodIn_of _ (by decide +kernel)) ggX0_reachFrom_X0_put
theorem dX0_reachFrom_0 : decode cX0_reachFrom 0 = .ok (.iload_n 3, 1) := by decide +kernel
theorem dX0_reachFrom_1 : decode cX0_reachFrom 1 = .ok (.istore 4, 2) := by decide +kernel
theorem dX0_reachFrom_3 : decode cX0_reachFrom 3 = .ok (.iconst 0, 1) := by decide +kernel
theorem dX0_reachFrom_4 : decode cX0_reachFrom 4 = .ok (.istore 5, 2) := by decide +kernel
theorem dX0_reachFrom_6 : decode cX0_reachFrom 6 = .ok (.iload 5, 2) := by decide +kernel
theorem dX0_reachFrom_8 : decode cX0_reachFrom 8 = .ok (.aload_n 0, 1) := by decide +kernel
theorem dX0_reachFrom_9 : decode cX0_reachFrom 9 = .ok (.getfield 9, 3) := by decide +kernel
theorem dX0_reachFrom_12 : decode cX0_reachFrom 12 = .ok (.if_icmp .ge 58, 3) := by decide +kernel
theorem dX0_reachFrom_15 : decode cX0_reachFrom 15 = .ok (.aload_n 0, 1) := by decide +kernel
theorem dX0_reachFrom_16 : decode cX0_reachFrom 16 = .ok (.getfield 41, 3) := by decide +kernel
theorem dX0_reachFrom_19 : decode cX0_reachFrom 19 = .ok (.iload 5, 2) := by decide +kernel
theorem dX0_reachFrom_21 : decode cX0_reachFrom 21 = .ok (.invokestatic 68, 3) := by decide +kernel
theorem dX0_reachFrom_24 : decode cX0_reachFrom 24 = .ok (.bipush (-2), 2) := by decide +kernel
theorem dX0_reachFrom_26 : decode cX0_reachFrom 26 = .ok (.if_icmp .ne 38, 3) := by decide +kernel
theorem dX0_reachFrom_29 : decode cX0_reachFrom 29 = .ok (.aload_n 0, 1) := by decide +kernel
theorem dX0_reachFrom_30 : decode cX0_reachFrom 30 = .ok (.iload_n 1, 1) := by decide +kernel
theorem dX0_reachFrom_31 : decode cX0_reachFrom 31 = .ok (.iload 5, 2) := by decide +kernel
theorem dX0_reachFrom_33 : decode cX0_reachFrom 33 = .ok (.iload_n 2, 1) := by decide +kernel
theorem dX0_reachFrom_34 : decode cX0_reachFrom 34 = .ok (.invokevirtual 235, 3) := by decide +kernel
theorem dX0_reachFrom_37 : decode cX0_reachFrom 37 = .ok (.ifCond .eq 27, 3) := by decide +kernel
theorem dX0_reachFrom_40 : decode cX0_reachFrom 40 = .ok (.aload_n 0, 1) := by decide +kernel
theorem dX0_reachFrom_41 : decode cX0_reachFrom 41 = .ok (.getfield 41, 3) := by decide +kernel
theorem dX0_reachFrom_44 : decode cX0_reachFrom 44 = .ok (.iload 5, 2) := by decide +kernel
theorem dX0_reachFrom_46 : decode cX0_reachFrom 46 = .ok (.iload_n 1, 1) := by decide +kernel
theorem dX0_reachFrom_47 : decode cX0_reachFrom 47 = .ok (.invokestatic 79, 3) := by decide +kernel
theorem dX0_reachFrom_50 : decode cX0_reachFrom 50 = .ok (.aload_n 0, 1) := by decide +kernel
theorem dX0_reachFrom_51 : decode cX0_reachFrom 51 = .ok (.getfield 44, 3) := by decide +kernel
theorem dX0_reachFrom_54 : decode cX0_reachFrom 54 = .ok (.iload 4, 2) := by decide +kernel
theorem dX0_reachFrom_56 : decode cX0_reachFrom 56 = .ok (.iload 5, 2) := by decide +kernel
theorem dX0_reachFrom_58 : decode cX0_reachFrom 58 = .ok (.invokestatic 79, 3) := by decide +kernel
theorem dX0_reachFrom_61 : decode cX0_reachFrom 61 = .ok (.iinc 4 1, 3) := by decide +kernel
theorem dX0_reachFrom_64 : decode cX0_reachFrom 64 = .ok (.iinc 5 1, 3) := by decide +kernel
theorem dX0_reachFrom_67 : decode cX0_reachFrom 67 = .ok (.goto (-61), 3) := by decide +kernel
theorem dX0_reachFrom_70 : decode cX0_reachFrom 70 = .ok (.iload 4, 2) := by decide +kernel
theorem dX0_reachFrom_72 : decode cX0_reachFrom 72 = .ok (.ireturn, 1) := by decide +kernel
set_option maxRecDepth 20000 in
theorem ggX0_isStep_X0_has : GoodIn wsX0_isStep wsX0_has := goodIn_r _ [4] (by decide +kernel) (by decide +kernel)
set_option maxRecDepth 20000 in
theorem gX0_isStep_X0_has : GoodIn wsX0_isStep (va_wsS RX0 83 yX0_has wsX0_has) := goodIn_app (goodIn_of _ (by decide +kernel)) ggX0_isStep_X0_has
set_option maxRecDepth 20000 in
theorem ggX0_isStep_X0_colourOf : GoodIn wsX0_isStep wsX0_colourOf := goodIn_r _ [8, 9, 10, 11, 3, 12, 13, 14, 15, 16, 17, 18, 19, 20, 21, 22, 23, 24] (by decide +kernel) (by decide +kernel)
set_option maxRecDepth 20000 in
theorem gX0_isStep_X0_colourOf : GoodIn wsX0_isStep (wsV RX0 96 RX0 yX0_colourOf wsX0_colourOf) := goodIn_app (goodIn_of _ (by decide +kernel)) ggX0_isStep_X0_colourOf
theorem dX0_isStep_0 : decode cX0_isStep 0 = .ok (.iload_n 3, 1) := by decide +kernel
theorem dX0_isStep_1 : decode cX0_isStep 1 = .ok (.iload_n 1, 1) := by decide +kernel
theorem dX0_isStep_2 : decode cX0_isStep 2 = .ok (.invokestatic 83, 3) := by decide +kernel
theorem dX0_isStep_5 : decode cX0_isStep 5 = .ok (.ifCond .eq 7, 3) := by decide +kernel
theorem dX0_isStep_8 : decode cX0_isStep 8 = .ok (.iconst 0, 1) := by decide +kernel
theorem dX0_isStep_9 : decode cX0_isStep 9 = .ok (.goto 4, 3) := by decide +kernel
theorem dX0_isStep_12 : decode cX0_isStep 12 = .ok (.iconst 1, 1) := by decide +kernel
theorem dX0_isStep_13 : decode cX0_isStep 13 = .ok (.istore 4, 2) := by decide +kernel
theorem dX0_isStep_15 : decode cX0_isStep 15 = .ok (.iload_n 3, 1) := by decide +kernel
theorem dX0_isStep_16 : decode cX0_isStep 16 = .ok (.iload_n 1, 1) := by decide +kernel
theorem dX0_isStep_17 : decode cX0_isStep 17 = .ok (.invokestatic 83, 3) := by decide +kernel
theorem dX0_isStep_20 : decode cX0_isStep 20 = .ok (.iload_n 3, 1) := by decide +kernel
theorem dX0_isStep_21 : decode cX0_isStep 21 = .ok (.iload_n 2, 1) := by decide +kernel
theorem dX0_isStep_22 : decode cX0_isStep 22 = .ok (.invokestatic 83, 3) := by decide +kernel
theorem dX0_isStep_25 : decode cX0_isStep 25 = .ok (.if_icmp .eq 24, 3) := by decide +kernel
theorem dX0_isStep_28 : decode cX0_isStep 28 = .ok (.aload_n 0, 1) := by decide +kernel
theorem dX0_isStep_29 : decode cX0_isStep 29 = .ok (.iload 4, 2) := by decide +kernel
theorem dX0_isStep_31 : decode cX0_isStep 31 = .ok (.iload_n 1, 1) := by decide +kernel
theorem dX0_isStep_32 : decode cX0_isStep 32 = .ok (.invokevirtual 96, 3) := by decide +kernel
theorem dX0_isStep_35 : decode cX0_isStep 35 = .ok (.aload_n 0, 1) := by decide +kernel
theorem dX0_isStep_36 : decode cX0_isStep 36 = .ok (.iload 4, 2) := by decide +kernel
theorem dX0_isStep_38 : decode cX0_isStep 38 = .ok (.iload_n 2, 1) := by decide +kernel
theorem dX0_isStep_39 : decode cX0_isStep 39 = .ok (.invokevirtual 96, 3) := by decide +kernel
theorem dX0_isStep_42 : decode cX0_isStep 42 = .ok (.if_icmp .ne 7, 3) := by decide +kernel
theorem dX0_isStep_45 : decode cX0_isStep 45 = .ok (.iconst 1, 1) := by decide +kernel
theorem dX0_isStep_46 : decode cX0_isStep 46 = .ok (.goto 4, 3) := by decide +kernel
theorem dX0_isStep_49 : decode cX0_isStep 49 = .ok (.iconst 0, 1) := by decide +kernel
theorem dX0_isStep_50 : decode cX0_isStep 50 = .ok (.ireturn, 1) := by decide +kernel
set_option maxRecDepth 20000 in
theorem ggX0_flippedAlong_X0_at : GoodIn wsX0_flippedAlong wsX0_at := goodIn_r _ [6] (by decide +kernel) (by decide +kernel)
set_option maxRecDepth 20000 in
theorem gX0_flippedAlong_X0_at : GoodIn wsX0_flippedAlong (va_wsS RX0 68 yX0_at wsX0_at) := goodIn_app (goodIn_of _ (by decide +kernel)) ggX0_flippedAlong_X0_at
theorem dX0_flippedAlong_0 : decode cX0_flippedAlong 0 = .ok (.iload_n 1, 1) := by decide +kernel
theorem dX0_flippedAlong_1 : decode cX0_flippedAlong 1 = .ok (.istore_n 3, 1) := by decide +kernel
theorem dX0_flippedAlong_2 : decode cX0_flippedAlong 2 = .ok (.iload_n 2, 1) := by decide +kernel
theorem dX0_flippedAlong_3 : decode cX0_flippedAlong 3 = .ok (.istore 4, 2) := by decide +kernel
theorem dX0_flippedAlong_5 : decode cX0_flippedAlong 5 = .ok (.iconst 0, 1) := by decide +kernel
theorem dX0_flippedAlong_6 : decode cX0_flippedAlong 6 = .ok (.istore 5, 2) := by decide +kernel
theorem dX0_flippedAlong_8 : decode cX0_flippedAlong 8 = .ok (.iload 5, 2) := by decide +kernel
theorem dX0_flippedAlong_10 : decode cX0_flippedAlong 10 = .ok (.aload_n 0, 1) := by decide +kernel
theorem dX0_flippedAlong_11 : decode cX0_flippedAlong 11 = .ok (.getfield 9, 3) := by decide +kernel
theorem dX0_flippedAlong_14 : decode cX0_flippedAlong 14 = .ok (.if_icmp .ge 33, 3) := by decide +kernel
theorem dX0_flippedAlong_17 : decode cX0_flippedAlong 17 = .ok (.iload 4, 2) := by decide +kernel
theorem dX0_flippedAlong_19 : decode cX0_flippedAlong 19 = .ok (.iconst (-1), 1) := by decide +kernel
theorem dX0_flippedAlong_20 : decode cX0_flippedAlong 20 = .ok (.if_icmp .eq 27, 3) := by decide +kernel
theorem dX0_flippedAlong_23 : decode cX0_flippedAlong 23 = .ok (.iload_n 3, 1) := by decide +kernel
theorem dX0_flippedAlong_24 : decode cX0_flippedAlong 24 = .ok (.iconst 1, 1) := by decide +kernel
theorem dX0_flippedAlong_25 : decode cX0_flippedAlong 25 = .ok (.iload 4, 2) := by decide +kernel
theorem dX0_flippedAlong_27 : decode cX0_flippedAlong 27 = .ok (.ishl, 1) := by decide +kernel
theorem dX0_flippedAlong_28 : decode cX0_flippedAlong 28 = .ok (.ixor, 1) := by decide +kernel
theorem dX0_flippedAlong_29 : decode cX0_flippedAlong 29 = .ok (.istore_n 3, 1) := by decide +kernel
theorem dX0_flippedAlong_30 : decode cX0_flippedAlong 30 = .ok (.aload_n 0, 1) := by decide +kernel
theorem dX0_flippedAlong_31 : decode cX0_flippedAlong 31 = .ok (.getfield 41, 3) := by decide +kernel
theorem dX0_flippedAlong_34 : decode cX0_flippedAlong 34 = .ok (.iload 4, 2) := by decide +kernel
theorem dX0_flippedAlong_36 : decode cX0_flippedAlong 36 = .ok (.invokestatic 68, 3) := by decide +kernel
theorem dX0_flippedAlong_39 : decode cX0_flippedAlong 39 = .ok (.istore 4, 2) := by decide +kernel
theorem dX0_flippedAlong_41 : decode cX0_flippedAlong 41 = .ok (.iinc 5 1, 3) := by decide +kernel
theorem dX0_flippedAlong_44 : decode cX0_flippedAlong 44 = .ok (.goto (-36), 3) := by decide +kernel
theorem dX0_flippedAlong_47 : decode cX0_flippedAlong 47 = .ok (.iload_n 3, 1) := by decide +kernel
theorem dX0_flippedAlong_48 : decode cX0_flippedAlong 48 = .ok (.ireturn, 1) := by decide +kernel
theorem dX0_ordersOf_0 : decode cX0_ordersOf 0 = .ok (.iconst 1, 1) := by decide +kernel
theorem dX0_ordersOf_1 : decode cX0_ordersOf 1 = .ok (.istore_n 1, 1) := by decide +kernel
theorem dX0_ordersOf_2 : decode cX0_ordersOf 2 = .ok (.iconst 2, 1) := by decide +kernel
theorem dX0_ordersOf_3 : decode cX0_ordersOf 3 = .ok (.istore_n 2, 1) := by decide +kernel
theorem dX0_ordersOf_4 : decode cX0_ordersOf 4 = .ok (.iload_n 2, 1) := by decide +kernel
theorem dX0_ordersOf_5 : decode cX0_ordersOf 5 = .ok (.iload_n 0, 1) := by decide +kernel
theorem dX0_ordersOf_6 : decode cX0_ordersOf 6 = .ok (.if_icmp .gt 13, 3) := by decide +kernel
theorem dX0_ordersOf_9 : decode cX0_ordersOf 9 = .ok (.iload_n 1, 1) := by decide +kernel
theorem dX0_ordersOf_10 : decode cX0_ordersOf 10 = .ok (.iload_n 2, 1) := by decide +kernel
theorem dX0_ordersOf_11 : decode cX0_ordersOf 11 = .ok (.imul, 1) := by decide +kernel
theorem dX0_ordersOf_12 : decode cX0_ordersOf 12 = .ok (.istore_n 1, 1) := by decide +kernel
theorem dX0_ordersOf_13 : decode cX0_ordersOf 13 = .ok (.iinc 2 1, 3) := by decide +kernel
theorem dX0_ordersOf_16 : decode cX0_ordersOf 16 = .ok (.goto (-12), 3) := by decide +kernel
theorem dX0_ordersOf_19 : decode cX0_ordersOf 19 = .ok (.iload_n 1, 1) := by decide +kernel
theorem dX0_ordersOf_20 : decode cX0_ordersOf 20 = .ok (.ireturn, 1) := by decide +kernel
set_option maxRecDepth 20000 in
theorem ggX0_gainsOverOrders_X0_has : GoodIn wsX0_gainsOverOrders wsX0_has := goodIn_r _ [5] (by decide +kernel) (by decide +kernel)
set_option maxRecDepth 20000 in
theorem gX0_gainsOverOrders_X0_has : GoodIn wsX0_gainsOverOrders (va_wsS RX0 83 yX0_has wsX0_has) := goodIn_app (goodIn_of _ (by decide +kernel)) ggX0_gainsOverOrders_X0_has
set_option maxRecDepth 20000 in
theorem ggX0_gainsOverOrders_X0_gain : GoodIn wsX0_gainsOverOrders wsX0_gain := goodIn_r _ [9, 10, 11, 4, 12, 13, 14, 15, 16, 17, 18, 19, 20, 24, 25, 26, 27, 28, 29, 30, 31, 32, 33, 34, 35] (by decide +kernel) (by decide +kernel)
set_option maxRecDepth 20000 in
theorem gX0_gainsOverOrders_X0_gain : GoodIn wsX0_gainsOverOrders (wsV RX0 136 RX0 yX0_gain wsX0_gain) := goodIn_app (goodIn_of _ (by decide +kernel)) ggX0_gainsOverOrders_X0_gain
set_option maxRecDepth 20000 in
theorem ggX0_gainsOverOrders_X0_with : GoodIn wsX0_gainsOverOrders wsX0_with := goodIn_r _ [12] (by decide +kernel) (by decide +kernel)
set_option maxRecDepth 20000 in
theorem gX0_gainsOverOrders_X0_with : GoodIn wsX0_gainsOverOrders (va_wsS RX0 72 yX0_with wsX0_with) := goodIn_app (goodIn_of _ (by decide +kernel)) ggX0_gainsOverOrders_X0_with
set_option maxRecDepth 20000 in
theorem ggX0_gainsOverOrders_X0_gainsOverOrders : GoodIn wsX0_gainsOverOrders wsX0_gainsOverOrders := goodIn_r _ [0, 1, 2, 3, 4, 5, 6, 7, 8, 9, 10, 11, 12, 13, 14, 15, 16, 17, 18, 19, 20, 21, 22, 23, 24, 25, 26, 27, 28, 29, 30, 31, 32, 33, 34, 35] (by decide +kernel) (by decide +kernel)
set_option maxRecDepth 20000 in
theorem gX0_gainsOverOrders_X0_gainsOverOrders : GoodIn wsX0_gainsOverOrders (wsV RX0 177 RX0 yX0_gainsOverOrders wsX0_gainsOverOrders) := goodIn_app (goodIn_of _ (by decide +kernel)) ggX0_gainsOverOrders_X0_gainsOverOrders
theorem dX0_gainsOverOrders_0 : decode cX0_gainsOverOrders 0 = .ok (.iload 4, 2) := by decide +kernel
theorem dX0_gainsOverOrders_2 : decode cX0_gainsOverOrders 2 = .ok (.aload_n 0, 1) := by decide +kernel
theorem dX0_gainsOverOrders_3 : decode cX0_gainsOverOrders 3 = .ok (.getfield 9, 3) := by decide +kernel
theorem dX0_gainsOverOrders_6 : decode cX0_gainsOverOrders 6 = .ok (.if_icmp .lt 6, 3) := by decide +kernel
theorem dX0_gainsOverOrders_9 : decode cX0_gainsOverOrders 9 = .ok (.iload 5, 2) := by decide +kernel
theorem dX0_gainsOverOrders_11 : decode cX0_gainsOverOrders 11 = .ok (.ireturn, 1) := by decide +kernel
theorem dX0_gainsOverOrders_12 : decode cX0_gainsOverOrders 12 = .ok (.iconst 0, 1) := by decide +kernel
theorem dX0_gainsOverOrders_13 : decode cX0_gainsOverOrders 13 = .ok (.istore 6, 2) := by decide +kernel
theorem dX0_gainsOverOrders_15 : decode cX0_gainsOverOrders 15 = .ok (.iconst 0, 1) := by decide +kernel
theorem dX0_gainsOverOrders_16 : decode cX0_gainsOverOrders 16 = .ok (.istore 7, 2) := by decide +kernel
theorem dX0_gainsOverOrders_18 : decode cX0_gainsOverOrders 18 = .ok (.iload 7, 2) := by decide +kernel
theorem dX0_gainsOverOrders_20 : decode cX0_gainsOverOrders 20 = .ok (.aload_n 0, 1) := by decide +kernel
theorem dX0_gainsOverOrders_21 : decode cX0_gainsOverOrders 21 = .ok (.getfield 9, 3) := by decide +kernel
theorem dX0_gainsOverOrders_24 : decode cX0_gainsOverOrders 24 = .ok (.if_icmp .ge 61, 3) := by decide +kernel
theorem dX0_gainsOverOrders_27 : decode cX0_gainsOverOrders 27 = .ok (.iload_n 3, 1) := by decide +kernel
theorem dX0_gainsOverOrders_28 : decode cX0_gainsOverOrders 28 = .ok (.iload 7, 2) := by decide +kernel
theorem dX0_gainsOverOrders_30 : decode cX0_gainsOverOrders 30 = .ok (.invokestatic 83, 3) := by decide +kernel
theorem dX0_gainsOverOrders_33 : decode cX0_gainsOverOrders 33 = .ok (.ifCond .ne 46, 3) := by decide +kernel
theorem dX0_gainsOverOrders_36 : decode cX0_gainsOverOrders 36 = .ok (.iload 7, 2) := by decide +kernel
theorem dX0_gainsOverOrders_38 : decode cX0_gainsOverOrders 38 = .ok (.iload_n 2, 1) := by decide +kernel
theorem dX0_gainsOverOrders_39 : decode cX0_gainsOverOrders 39 = .ok (.if_icmp .ne 13, 3) := by decide +kernel
theorem dX0_gainsOverOrders_42 : decode cX0_gainsOverOrders 42 = .ok (.aload_n 0, 1) := by decide +kernel
theorem dX0_gainsOverOrders_43 : decode cX0_gainsOverOrders 43 = .ok (.iload_n 1, 1) := by decide +kernel
theorem dX0_gainsOverOrders_44 : decode cX0_gainsOverOrders 44 = .ok (.iload_n 3, 1) := by decide +kernel
theorem dX0_gainsOverOrders_45 : decode cX0_gainsOverOrders 45 = .ok (.iload_n 2, 1) := by decide +kernel
theorem dX0_gainsOverOrders_46 : decode cX0_gainsOverOrders 46 = .ok (.invokevirtual 136, 3) := by decide +kernel
theorem dX0_gainsOverOrders_49 : decode cX0_gainsOverOrders 49 = .ok (.goto 5, 3) := by decide +kernel
theorem dX0_gainsOverOrders_52 : decode cX0_gainsOverOrders 52 = .ok (.iload 5, 2) := by decide +kernel
theorem dX0_gainsOverOrders_54 : decode cX0_gainsOverOrders 54 = .ok (.istore 8, 2) := by decide +kernel
theorem dX0_gainsOverOrders_56 : decode cX0_gainsOverOrders 56 = .ok (.iload 6, 2) := by decide +kernel
theorem dX0_gainsOverOrders_58 : decode cX0_gainsOverOrders 58 = .ok (.aload_n 0, 1) := by decide +kernel
theorem dX0_gainsOverOrders_59 : decode cX0_gainsOverOrders 59 = .ok (.iload_n 1, 1) := by decide +kernel
theorem dX0_gainsOverOrders_60 : decode cX0_gainsOverOrders 60 = .ok (.iload_n 2, 1) := by decide +kernel
theorem dX0_gainsOverOrders_61 : decode cX0_gainsOverOrders 61 = .ok (.iload_n 3, 1) := by decide +kernel
theorem dX0_gainsOverOrders_62 : decode cX0_gainsOverOrders 62 = .ok (.iload 7, 2) := by decide +kernel
theorem dX0_gainsOverOrders_64 : decode cX0_gainsOverOrders 64 = .ok (.invokestatic 72, 3) := by decide +kernel
theorem dX0_gainsOverOrders_67 : decode cX0_gainsOverOrders 67 = .ok (.iload 4, 2) := by decide +kernel
theorem dX0_gainsOverOrders_69 : decode cX0_gainsOverOrders 69 = .ok (.iconst 1, 1) := by decide +kernel
theorem dX0_gainsOverOrders_70 : decode cX0_gainsOverOrders 70 = .ok (.iadd, 1) := by decide +kernel
theorem dX0_gainsOverOrders_71 : decode cX0_gainsOverOrders 71 = .ok (.iload 8, 2) := by decide +kernel
theorem dX0_gainsOverOrders_73 : decode cX0_gainsOverOrders 73 = .ok (.invokevirtual 177, 3) := by decide +kernel
theorem dX0_gainsOverOrders_76 : decode cX0_gainsOverOrders 76 = .ok (.iadd, 1) := by decide +kernel
theorem dX0_gainsOverOrders_77 : decode cX0_gainsOverOrders 77 = .ok (.istore 6, 2) := by decide +kernel
theorem dX0_gainsOverOrders_79 : decode cX0_gainsOverOrders 79 = .ok (.iinc 7 1, 3) := by decide +kernel
theorem dX0_gainsOverOrders_82 : decode cX0_gainsOverOrders 82 = .ok (.goto (-64), 3) := by decide +kernel
theorem dX0_gainsOverOrders_85 : decode cX0_gainsOverOrders 85 = .ok (.iload 6, 2) := by decide +kernel
theorem dX0_gainsOverOrders_87 : decode cX0_gainsOverOrders 87 = .ok (.ireturn, 1) := by decide +kernel
end
section
theorem dJ6_bitCount_0f7a4_0 : decode cJ6_bitCount_0f7a4 0 = .ok (.iload_n 0, 1) := by decide +kernel
theorem dJ6_bitCount_0f7a4_1 : decode cJ6_bitCount_0f7a4 1 = .ok (.iload_n 0, 1) := by decide +kernel
theorem dJ6_bitCount_0f7a4_2 : decode cJ6_bitCount_0f7a4 2 = .ok (.iconst 1, 1) := by decide +kernel
theorem dJ6_bitCount_0f7a4_3 : decode cJ6_bitCount_0f7a4 3 = .ok (.iushr, 1) := by decide +kernel
theorem dJ6_bitCount_0f7a4_4 : decode cJ6_bitCount_0f7a4 4 = .ok (.ldc_w 265, 3) := by decide +kernel
theorem dJ6_bitCount_0f7a4_7 : decode cJ6_bitCount_0f7a4 7 = .ok (.iand, 1) := by decide +kernel
theorem dJ6_bitCount_0f7a4_8 : decode cJ6_bitCount_0f7a4 8 = .ok (.isub, 1) := by decide +kernel
theorem dJ6_bitCount_0f7a4_9 : decode cJ6_bitCount_0f7a4 9 = .ok (.istore_n 0, 1) := by decide +kernel
theorem dJ6_bitCount_0f7a4_10 : decode cJ6_bitCount_0f7a4 10 = .ok (.iload_n 0, 1) := by decide +kernel
theorem dJ6_bitCount_0f7a4_11 : decode cJ6_bitCount_0f7a4 11 = .ok (.ldc_w 266, 3) := by decide +kernel
theorem dJ6_bitCount_0f7a4_14 : decode cJ6_bitCount_0f7a4 14 = .ok (.iand, 1) := by decide +kernel
theorem dJ6_bitCount_0f7a4_15 : decode cJ6_bitCount_0f7a4 15 = .ok (.iload_n 0, 1) := by decide +kernel
theorem dJ6_bitCount_0f7a4_16 : decode cJ6_bitCount_0f7a4 16 = .ok (.iconst 2, 1) := by decide +kernel
theorem dJ6_bitCount_0f7a4_17 : decode cJ6_bitCount_0f7a4 17 = .ok (.iushr, 1) := by decide +kernel
theorem dJ6_bitCount_0f7a4_18 : decode cJ6_bitCount_0f7a4 18 = .ok (.ldc_w 266, 3) := by decide +kernel
theorem dJ6_bitCount_0f7a4_21 : decode cJ6_bitCount_0f7a4 21 = .ok (.iand, 1) := by decide +kernel
theorem dJ6_bitCount_0f7a4_22 : decode cJ6_bitCount_0f7a4 22 = .ok (.iadd, 1) := by decide +kernel
theorem dJ6_bitCount_0f7a4_23 : decode cJ6_bitCount_0f7a4 23 = .ok (.istore_n 0, 1) := by decide +kernel
theorem dJ6_bitCount_0f7a4_24 : decode cJ6_bitCount_0f7a4 24 = .ok (.iload_n 0, 1) := by decide +kernel
theorem dJ6_bitCount_0f7a4_25 : decode cJ6_bitCount_0f7a4 25 = .ok (.iload_n 0, 1) := by decide +kernel
theorem dJ6_bitCount_0f7a4_26 : decode cJ6_bitCount_0f7a4 26 = .ok (.iconst 4, 1) := by decide +kernel
theorem dJ6_bitCount_0f7a4_27 : decode cJ6_bitCount_0f7a4 27 = .ok (.iushr, 1) := by decide +kernel
theorem dJ6_bitCount_0f7a4_28 : decode cJ6_bitCount_0f7a4 28 = .ok (.iadd, 1) := by decide +kernel
theorem dJ6_bitCount_0f7a4_29 : decode cJ6_bitCount_0f7a4 29 = .ok (.ldc_w 267, 3) := by decide +kernel
theorem dJ6_bitCount_0f7a4_32 : decode cJ6_bitCount_0f7a4 32 = .ok (.iand, 1) := by decide +kernel
theorem dJ6_bitCount_0f7a4_33 : decode cJ6_bitCount_0f7a4 33 = .ok (.istore_n 0, 1) := by decide +kernel
theorem dJ6_bitCount_0f7a4_34 : decode cJ6_bitCount_0f7a4 34 = .ok (.iload_n 0, 1) := by decide +kernel
theorem dJ6_bitCount_0f7a4_35 : decode cJ6_bitCount_0f7a4 35 = .ok (.iload_n 0, 1) := by decide +kernel
theorem dJ6_bitCount_0f7a4_36 : decode cJ6_bitCount_0f7a4 36 = .ok (.bipush 8, 2) := by decide +kernel
theorem dJ6_bitCount_0f7a4_38 : decode cJ6_bitCount_0f7a4 38 = .ok (.iushr, 1) := by decide +kernel
theorem dJ6_bitCount_0f7a4_39 : decode cJ6_bitCount_0f7a4 39 = .ok (.iadd, 1) := by decide +kernel
theorem dJ6_bitCount_0f7a4_40 : decode cJ6_bitCount_0f7a4 40 = .ok (.istore_n 0, 1) := by decide +kernel
theorem dJ6_bitCount_0f7a4_41 : decode cJ6_bitCount_0f7a4 41 = .ok (.iload_n 0, 1) := by decide +kernel
theorem dJ6_bitCount_0f7a4_42 : decode cJ6_bitCount_0f7a4 42 = .ok (.iload_n 0, 1) := by decide +kernel
theorem dJ6_bitCount_0f7a4_43 : decode cJ6_bitCount_0f7a4 43 = .ok (.bipush 16, 2) := by decide +kernel
theorem dJ6_bitCount_0f7a4_45 : decode cJ6_bitCount_0f7a4 45 = .ok (.iushr, 1) := by decide +kernel
theorem dJ6_bitCount_0f7a4_46 : decode cJ6_bitCount_0f7a4 46 = .ok (.iadd, 1) := by decide +kernel
theorem dJ6_bitCount_0f7a4_47 : decode cJ6_bitCount_0f7a4 47 = .ok (.istore_n 0, 1) := by decide +kernel
theorem dJ6_bitCount_0f7a4_48 : decode cJ6_bitCount_0f7a4 48 = .ok (.iload_n 0, 1) := by decide +kernel
theorem dJ6_bitCount_0f7a4_49 : decode cJ6_bitCount_0f7a4 49 = .ok (.bipush 63, 2) := by decide +kernel
theorem dJ6_bitCount_0f7a4_51 : decode cJ6_bitCount_0f7a4 51 = .ok (.iand, 1) := by decide +kernel
theorem dJ6_bitCount_0f7a4_52 : decode cJ6_bitCount_0f7a4 52 = .ok (.ireturn, 1) := by decide +kernel
theorem dJ9_max_7cf53_0 : decode cJ9_max_7cf53 0 = .ok (.iload_n 0, 1) := by decide +kernel
theorem dJ9_max_7cf53_1 : decode cJ9_max_7cf53 1 = .ok (.iload_n 1, 1) := by decide +kernel
theorem dJ9_max_7cf53_2 : decode cJ9_max_7cf53 2 = .ok (.if_icmp .lt 7, 3) := by decide +kernel
theorem dJ9_max_7cf53_5 : decode cJ9_max_7cf53 5 = .ok (.iload_n 0, 1) := by decide +kernel
theorem dJ9_max_7cf53_6 : decode cJ9_max_7cf53 6 = .ok (.goto 4, 3) := by decide +kernel
theorem dJ9_max_7cf53_9 : decode cJ9_max_7cf53 9 = .ok (.iload_n 1, 1) := by decide +kernel
theorem dJ9_max_7cf53_10 : decode cJ9_max_7cf53 10 = .ok (.ireturn, 1) := by decide +kernel
theorem dJ9_min_7cf53_0 : decode cJ9_min_7cf53 0 = .ok (.iload_n 0, 1) := by decide +kernel
theorem dJ9_min_7cf53_1 : decode cJ9_min_7cf53 1 = .ok (.iload_n 1, 1) := by decide +kernel
theorem dJ9_min_7cf53_2 : decode cJ9_min_7cf53 2 = .ok (.if_icmp .gt 7, 3) := by decide +kernel
theorem dJ9_min_7cf53_5 : decode cJ9_min_7cf53 5 = .ok (.iload_n 0, 1) := by decide +kernel
theorem dJ9_min_7cf53_6 : decode cJ9_min_7cf53 6 = .ok (.goto 4, 3) := by decide +kernel
theorem dJ9_min_7cf53_9 : decode cJ9_min_7cf53 9 = .ok (.iload_n 1, 1) := by decide +kernel
theorem dJ9_min_7cf53_10 : decode cJ9_min_7cf53 10 = .ok (.ireturn, 1) := by decide +kernel
theorem dJ7_fill_53178_0 : decode cJ7_fill_53178 0 = .ok (.iconst 0, 1) := by decide +kernel
theorem dJ7_fill_53178_1 : decode cJ7_fill_53178 1 = .ok (.istore_n 2, 1) := by decide +kernel
theorem dJ7_fill_53178_2 : decode cJ7_fill_53178 2 = .ok (.aload_n 0, 1) := by decide +kernel
theorem dJ7_fill_53178_3 : decode cJ7_fill_53178 3 = .ok (.arraylength, 1) := by decide +kernel
theorem dJ7_fill_53178_4 : decode cJ7_fill_53178 4 = .ok (.istore_n 3, 1) := by decide +kernel
theorem dJ7_fill_53178_5 : decode cJ7_fill_53178 5 = .ok (.iload_n 2, 1) := by decide +kernel
theorem dJ7_fill_53178_6 : decode cJ7_fill_53178 6 = .ok (.iload_n 3, 1) := by decide +kernel
theorem dJ7_fill_53178_7 : decode cJ7_fill_53178 7 = .ok (.if_icmp .ge 13, 3) := by decide +kernel
theorem dJ7_fill_53178_10 : decode cJ7_fill_53178 10 = .ok (.aload_n 0, 1) := by decide +kernel
theorem dJ7_fill_53178_11 : decode cJ7_fill_53178 11 = .ok (.iload_n 2, 1) := by decide +kernel
theorem dJ7_fill_53178_12 : decode cJ7_fill_53178 12 = .ok (.iload_n 1, 1) := by decide +kernel
theorem dJ7_fill_53178_13 : decode cJ7_fill_53178 13 = .ok (.iastore, 1) := by decide +kernel
theorem dJ7_fill_53178_14 : decode cJ7_fill_53178 14 = .ok (.iinc 2 1, 3) := by decide +kernel
theorem dJ7_fill_53178_17 : decode cJ7_fill_53178 17 = .ok (.goto (-12), 3) := by decide +kernel
theorem dJ7_fill_53178_20 : decode cJ7_fill_53178 20 = .ok (.return_, 1) := by decide +kernel
set_option maxRecDepth 20000 in
theorem ggL_act_X0_elements : GoodIn wsL_act wsX0_elements := goodIn_ca (goodIn_r _ [11, 12, 13, 14, 15, 16, 17, 18, 19, 20, 21, 10, 22, 23, 24, 25, 26, 27, 28, 29, 30, 31, 278, 279, 280, 281, 282, 283, 284, 285, 286, 287, 288, 289] (by decide +kernel) (by decide +kernel)) (goodIn_sub (fun _ h => List.mem_cons_of_mem _ (List.mem_append_left _ (List.mem_append_left _ (List.mem_append_right _ h)))) (by decide +kernel))
set_option maxRecDepth 20000 in
theorem gL_act_X0_elements : GoodIn wsL_act (wsV RL 7 RX0 yX0_elements wsX0_elements) := goodIn_app (goodIn_of _ (by decide +kernel)) ggL_act_X0_elements
set_option maxRecDepth 20000 in
theorem ggL_act_X0_cover : GoodIn wsL_act wsX0_cover := goodIn_ca (goodIn_r _ [35, 15, 36, 37, 38, 10, 39, 12, 20, 21, 22, 40, 41, 42, 43, 44, 45, 46, 47, 48, 49, 50, 51, 52, 53, 54, 55, 56, 57, 58, 59, 278, 279, 280, 281, 282, 283, 284, 285, 286, 287, 288, 289] (by decide +kernel) (by decide +kernel)) (goodIn_sub (fun _ h => List.mem_cons_of_mem _ (List.mem_append_left _ (List.mem_append_right _ h))) (by decide +kernel))
set_option maxRecDepth 20000 in
theorem gL_act_X0_cover : GoodIn wsL_act (wsV RL 13 RX0 yX0_cover wsX0_cover) := goodIn_app (goodIn_of _ (by decide +kernel)) ggL_act_X0_cover
set_option maxRecDepth 20000 in
theorem ggL_act_X0_edge : GoodIn wsL_act wsX0_edge := goodIn_ca (goodIn_ca (goodIn_r _ [63, 16, 36, 37, 38, 10, 39, 12, 40, 41, 42, 43, 44, 20, 21, 22, 23, 24, 25, 26, 27, 64, 65, 66, 67, 45, 46, 47, 54, 55, 56, 278, 279, 280, 281, 282, 283, 284, 285, 286, 287, 288, 289] (by decide +kernel) (by decide +kernel)) (goodIn_sub (fun _ h => List.mem_cons_of_mem _ (List.mem_append_left _ (List.mem_append_right _ h))) (by decide +kernel))) (goodIn_sub (fun _ h => List.mem_cons_of_mem _ (List.mem_append_left _ (List.mem_append_left _ (List.mem_append_right _ h)))) (by decide +kernel))
set_option maxRecDepth 20000 in
theorem gL_act_X0_edge : GoodIn wsL_act (wsV RL 17 RX0 yX0_edge wsX0_edge) := goodIn_app (goodIn_of _ (by decide +kernel)) ggL_act_X0_edge
set_option maxRecDepth 20000 in
theorem ggL_act_X0_colour : GoodIn wsL_act wsX0_colour := goodIn_ca (goodIn_r _ [71, 17, 72, 73, 10, 74, 36, 37, 38, 39, 12, 75, 76, 77, 40, 41, 42, 43, 44, 78, 79, 80, 81, 45, 46, 47, 54, 55, 56, 278, 279, 280, 281, 282, 283, 284, 285, 286, 287, 288, 289] (by decide +kernel) (by decide +kernel)) (goodIn_sub (fun _ h => List.mem_cons_of_mem _ (List.mem_append_left _ (List.mem_append_right _ h))) (by decide +kernel))
set_option maxRecDepth 20000 in
theorem gL_act_X0_colour : GoodIn wsL_act (wsV RL 21 RX0 yX0_colour wsX0_colour) := goodIn_app (goodIn_of _ (by decide +kernel)) ggL_act_X0_colour
set_option maxRecDepth 20000 in
theorem ggL_act_X0_room : GoodIn wsL_act wsX0_room := goodIn_ca (goodIn_ca (goodIn_r _ [85, 18, 72, 73, 10, 74, 75, 76, 77, 40, 41, 42, 43, 44, 20, 21, 22, 23, 24, 25, 26, 27, 86, 87, 88, 89, 45, 46, 47, 54, 55, 56, 278, 279, 280, 281, 282, 283, 284, 285, 286, 287, 288, 289] (by decide +kernel) (by decide +kernel)) (goodIn_sub (fun _ h => List.mem_cons_of_mem _ (List.mem_append_left _ (List.mem_append_right _ h))) (by decide +kernel))) (goodIn_sub (fun _ h => List.mem_cons_of_mem _ (List.mem_append_left _ (List.mem_append_left _ (List.mem_append_right _ h)))) (by decide +kernel))
set_option maxRecDepth 20000 in
theorem gL_act_X0_room : GoodIn wsL_act (wsV RL 24 RX0 yX0_room wsX0_room) := goodIn_app (goodIn_of _ (by decide +kernel)) ggL_act_X0_room
set_option maxRecDepth 20000 in
theorem ggL_act_X0_weigh : GoodIn wsL_act wsX0_weigh := goodIn_ca (goodIn_ca (goodIn_r _ [93, 19, 36, 37, 38, 10, 39, 12, 40, 41, 42, 43, 44, 20, 21, 22, 23, 24, 25, 26, 27, 45, 46, 47, 54, 55, 56, 278, 279, 280, 281, 282, 283, 284, 285, 286, 287, 288, 289] (by decide +kernel) (by decide +kernel)) (goodIn_sub (fun _ h => List.mem_cons_of_mem _ (List.mem_append_left _ (List.mem_append_right _ h))) (by decide +kernel))) (goodIn_sub (fun _ h => List.mem_cons_of_mem _ (List.mem_append_left _ (List.mem_append_left _ (List.mem_append_right _ h)))) (by decide +kernel))
set_option maxRecDepth 20000 in
theorem gL_act_X0_weigh : GoodIn wsL_act (wsV RL 27 RX0 yX0_weigh wsX0_weigh) := goodIn_app (goodIn_of _ (by decide +kernel)) ggL_act_X0_weigh
set_option maxRecDepth 20000 in
theorem ggL_act_X0_make : GoodIn wsL_act wsX0_make := goodIn_ca (goodIn_ca (goodIn_r _ [97, 20, 21, 10, 22, 23, 24, 25, 26, 27, 98, 99, 100, 101, 13, 102, 103, 104, 105, 106, 107, 108, 109, 110, 12, 111, 112, 113, 114, 115, 116, 117, 118, 15, 57, 58, 59, 45, 46, 47, 119, 120, 121, 122, 123, 124, 125, 126, 127, 128, 129, 64, 65, 66, 67, 16, 130, 131, 132, 133, 134, 135, 136, 137, 138, 139, 140, 141, 78, 79, 80, 81, 17, 86, 87, 88, 89, 18, 142, 143, 144, 145, 19, 146, 147, 148, 149, 150, 54, 55, 56, 151, 152, 153, 154, 278, 279, 280, 281, 282, 283, 284, 285, 286, 287, 288, 289] (by decide +kernel) (by decide +kernel)) (goodIn_sub (fun _ h => List.mem_cons_of_mem _ (List.mem_append_left _ (List.mem_append_left _ (List.mem_append_right _ h)))) (by decide +kernel))) (goodIn_sub (fun _ h => List.mem_cons_of_mem _ (List.mem_append_right _ h)) (by decide +kernel))
set_option maxRecDepth 20000 in
theorem gL_act_X0_make : GoodIn wsL_act (wsV RL 31 RX0 yX0_make wsX0_make) := goodIn_app (goodIn_of _ (by decide +kernel)) ggL_act_X0_make
set_option maxRecDepth 20000 in
theorem ggL_act_X0_sum : GoodIn wsL_act wsX0_sum := goodIn_ca (goodIn_ca (goodIn_r _ [158, 159, 160, 161, 10, 162, 13, 40, 41, 42, 43, 44, 98, 99, 100, 101, 102, 103, 104, 105, 106, 107, 108, 109, 110, 12, 163, 164, 165, 166, 150, 45, 46, 47, 146, 147, 148, 149, 54, 55, 56, 151, 152, 153, 154, 278, 279, 280, 281, 282, 283, 284, 285, 286, 287, 288, 289] (by decide +kernel) (by decide +kernel)) (goodIn_sub (fun _ h => List.mem_cons_of_mem _ (List.mem_append_left _ (List.mem_append_right _ h))) (by decide +kernel))) (goodIn_sub (fun _ h => List.mem_cons_of_mem _ (List.mem_append_right _ h)) (by decide +kernel))
set_option maxRecDepth 20000 in
theorem gL_act_X0_sum : GoodIn wsL_act (wsV RL 34 RX0 yX0_sum wsX0_sum) := goodIn_app (goodIn_of _ (by decide +kernel)) ggL_act_X0_sum
set_option maxRecDepth 20000 in
theorem ggL_act_X0_contract : GoodIn wsL_act wsX0_contract := goodIn_ca (goodIn_ca (goodIn_ca (goodIn_r _ [170, 159, 160, 161, 10, 162, 13, 40, 41, 42, 43, 44, 171, 172, 173, 174, 107, 108, 109, 110, 12, 23, 24, 25, 26, 27, 98, 99, 100, 101, 102, 103, 104, 105, 106, 163, 164, 165, 166, 150, 45, 46, 47, 146, 147, 148, 149, 54, 55, 56, 151, 152, 153, 154, 278, 279, 280, 281, 282, 283, 284, 285, 286, 287, 288, 289] (by decide +kernel) (by decide +kernel)) (goodIn_sub (fun _ h => List.mem_cons_of_mem _ (List.mem_append_left _ (List.mem_append_right _ h))) (by decide +kernel))) (goodIn_sub (fun _ h => List.mem_cons_of_mem _ (List.mem_append_left _ (List.mem_append_left _ (List.mem_append_right _ h)))) (by decide +kernel))) (goodIn_sub (fun _ h => List.mem_cons_of_mem _ (List.mem_append_right _ h)) (by decide +kernel))
set_option maxRecDepth 20000 in
theorem gL_act_X0_contract : GoodIn wsL_act (wsV RL 37 RX0 yX0_contract wsX0_contract) := goodIn_app (goodIn_of _ (by decide +kernel)) ggL_act_X0_contract
set_option maxRecDepth 20000 in
theorem ggL_act_X0_cap : GoodIn wsL_act wsX0_cap := goodIn_ca (goodIn_ca (goodIn_ca (goodIn_r _ [178, 134, 135, 136, 137, 159, 160, 161, 10, 162, 13, 40, 41, 42, 43, 44, 20, 21, 22, 23, 24, 25, 26, 27, 98, 99, 100, 101, 102, 103, 104, 105, 106, 107, 108, 109, 110, 12, 163, 164, 165, 166, 150, 45, 46, 47, 146, 147, 148, 149, 54, 55, 56, 151, 152, 153, 154, 278, 279, 280, 281, 282, 283, 284, 285, 286, 287, 288, 289] (by decide +kernel) (by decide +kernel)) (goodIn_sub (fun _ h => List.mem_cons_of_mem _ (List.mem_append_left _ (List.mem_append_right _ h))) (by decide +kernel))) (goodIn_sub (fun _ h => List.mem_cons_of_mem _ (List.mem_append_left _ (List.mem_append_left _ (List.mem_append_right _ h)))) (by decide +kernel))) (goodIn_sub (fun _ h => List.mem_cons_of_mem _ (List.mem_append_right _ h)) (by decide +kernel))
set_option maxRecDepth 20000 in
theorem gL_act_X0_cap : GoodIn wsL_act (wsV RL 40 RX0 yX0_cap wsX0_cap) := goodIn_app (goodIn_of _ (by decide +kernel)) ggL_act_X0_cap
set_option maxRecDepth 20000 in
theorem ggL_act_X0_value : GoodIn wsL_act wsX0_value := goodIn_ca (goodIn_ca (goodIn_r _ [182, 159, 160, 161, 10, 162, 13, 40, 41, 42, 43, 44, 171, 172, 173, 174, 107, 108, 109, 110, 12, 23, 24, 25, 26, 27, 163, 164, 165, 166, 150, 45, 46, 47, 278, 279, 280, 281, 282, 283, 284, 285, 286, 287, 288, 289] (by decide +kernel) (by decide +kernel)) (goodIn_sub (fun _ h => List.mem_cons_of_mem _ (List.mem_append_left _ (List.mem_append_right _ h))) (by decide +kernel))) (goodIn_sub (fun _ h => List.mem_cons_of_mem _ (List.mem_append_left _ (List.mem_append_left _ (List.mem_append_right _ h)))) (by decide +kernel))
set_option maxRecDepth 20000 in
theorem gL_act_X0_value : GoodIn wsL_act (wsV RL 43 RX0 yX0_value wsX0_value) := goodIn_app (goodIn_of _ (by decide +kernel)) ggL_act_X0_value
set_option maxRecDepth 20000 in
theorem ggL_act_X0_isLawful : GoodIn wsL_act wsX0_isLawful := goodIn_ca (goodIn_r _ [186, 159, 160, 161, 10, 162, 13, 40, 41, 42, 43, 44, 187, 188, 189, 190, 107, 108, 109, 110, 12, 191, 192, 193, 194, 57, 58, 59, 195, 196, 197, 198, 48, 49, 50, 163, 164, 165, 166, 150, 45, 46, 47, 278, 279, 280, 281, 282, 283, 284, 285, 286, 287, 288, 289] (by decide +kernel) (by decide +kernel)) (goodIn_sub (fun _ h => List.mem_cons_of_mem _ (List.mem_append_left _ (List.mem_append_right _ h))) (by decide +kernel))
set_option maxRecDepth 20000 in
theorem gL_act_X0_isLawful : GoodIn wsL_act (wsV RL 46 RX0 yX0_isLawful wsX0_isLawful) := goodIn_app (goodIn_of _ (by decide +kernel)) ggL_act_X0_isLawful
set_option maxRecDepth 20000 in
theorem ggL_act_X0_rises : GoodIn wsL_act wsX0_rises := goodIn_ca (goodIn_r _ [202, 12, 159, 160, 161, 10, 162, 13, 40, 41, 42, 43, 44, 107, 108, 109, 110, 195, 196, 197, 198, 48, 49, 50, 163, 164, 165, 166, 150, 45, 46, 47, 278, 279, 280, 281, 282, 283, 284, 285, 286, 287, 288, 289] (by decide +kernel) (by decide +kernel)) (goodIn_sub (fun _ h => List.mem_cons_of_mem _ (List.mem_append_left _ (List.mem_append_right _ h))) (by decide +kernel))
set_option maxRecDepth 20000 in
theorem gL_act_X0_rises : GoodIn wsL_act (wsV RL 50 RX0 yX0_rises wsX0_rises) := goodIn_app (goodIn_of _ (by decide +kernel)) ggL_act_X0_rises
set_option maxRecDepth 20000 in
theorem ggL_act_X0_least : GoodIn wsL_act wsX0_least := goodIn_ca (goodIn_ca (goodIn_r _ [206, 159, 160, 161, 10, 162, 13, 40, 41, 42, 43, 44, 187, 188, 189, 190, 107, 108, 109, 110, 12, 191, 192, 193, 194, 57, 58, 59, 195, 196, 197, 198, 48, 49, 50, 163, 164, 165, 166, 150, 45, 46, 47, 102, 103, 104, 105, 106, 207, 208, 209, 210, 211, 212, 213, 214, 215, 216, 217, 218, 51, 52, 53, 219, 220, 221, 222, 278, 279, 280, 281, 282, 283, 284, 285, 286, 287, 288, 289] (by decide +kernel) (by decide +kernel)) (goodIn_sub (fun _ h => List.mem_cons_of_mem _ (List.mem_append_left _ (List.mem_append_right _ h))) (by decide +kernel))) (goodIn_sub (fun _ h => List.mem_cons_of_mem _ (List.mem_append_right _ h)) (by decide +kernel))
set_option maxRecDepth 20000 in
theorem gL_act_X0_least : GoodIn wsL_act (wsV RL 53 RX0 yX0_least wsX0_least) := goodIn_app (goodIn_of _ (by decide +kernel)) ggL_act_X0_least
set_option maxRecDepth 20000 in
theorem ggL_act_X0_leastSet : GoodIn wsL_act wsX0_leastSet := goodIn_ca (goodIn_ca (goodIn_r _ [226, 159, 160, 161, 10, 162, 13, 40, 41, 42, 43, 44, 187, 188, 189, 190, 107, 108, 109, 110, 12, 191, 192, 193, 194, 57, 58, 59, 195, 196, 197, 198, 48, 49, 50, 163, 164, 165, 166, 150, 45, 46, 47, 102, 103, 104, 105, 106, 207, 208, 209, 210, 211, 212, 213, 214, 215, 216, 217, 218, 51, 52, 53, 219, 220, 221, 222, 278, 279, 280, 281, 282, 283, 284, 285, 286, 287, 288, 289] (by decide +kernel) (by decide +kernel)) (goodIn_sub (fun _ h => List.mem_cons_of_mem _ (List.mem_append_left _ (List.mem_append_right _ h))) (by decide +kernel))) (goodIn_sub (fun _ h => List.mem_cons_of_mem _ (List.mem_append_right _ h)) (by decide +kernel))
set_option maxRecDepth 20000 in
theorem gL_act_X0_leastSet : GoodIn wsL_act (wsV RL 56 RX0 yX0_leastSet wsX0_leastSet) := goodIn_app (goodIn_of _ (by decide +kernel)) ggL_act_X0_leastSet
set_option maxRecDepth 20000 in
theorem ggL_act_X0_leastSetAnew : GoodIn wsL_act wsX0_leastSetAnew := goodIn_ca (goodIn_ca (goodIn_r _ [230, 134, 135, 136, 137, 159, 160, 161, 10, 162, 13, 40, 41, 42, 43, 44, 187, 188, 189, 190, 107, 108, 109, 110, 12, 191, 192, 193, 194, 57, 58, 59, 195, 196, 197, 198, 48, 49, 50, 163, 164, 165, 166, 150, 45, 46, 47, 102, 103, 104, 105, 106, 278, 279, 280, 281, 282, 283, 284, 285, 286, 287, 288, 289] (by decide +kernel) (by decide +kernel)) (goodIn_sub (fun _ h => List.mem_cons_of_mem _ (List.mem_append_left _ (List.mem_append_right _ h))) (by decide +kernel))) (goodIn_sub (fun _ h => List.mem_cons_of_mem _ (List.mem_append_right _ h)) (by decide +kernel))
set_option maxRecDepth 20000 in
theorem gL_act_X0_leastSetAnew : GoodIn wsL_act (wsV RL 60 RX0 yX0_leastSetAnew wsX0_leastSetAnew) := goodIn_app (goodIn_of _ (by decide +kernel)) ggL_act_X0_leastSetAnew
set_option maxRecDepth 20000 in
theorem ggL_act_X0_order : GoodIn wsL_act wsX0_order := goodIn_ca (goodIn_ca (goodIn_r _ [234, 14, 12, 235, 36, 37, 38, 10, 39, 40, 41, 42, 43, 44, 236, 237, 238, 239, 45, 46, 47, 102, 103, 104, 105, 106, 54, 55, 56, 278, 279, 280, 281, 282, 283, 284, 285, 286, 287, 288, 289] (by decide +kernel) (by decide +kernel)) (goodIn_sub (fun _ h => List.mem_cons_of_mem _ (List.mem_append_left _ (List.mem_append_right _ h))) (by decide +kernel))) (goodIn_sub (fun _ h => List.mem_cons_of_mem _ (List.mem_append_right _ h)) (by decide +kernel))
set_option maxRecDepth 20000 in
theorem gL_act_X0_order : GoodIn wsL_act (wsV RL 63 RX0 yX0_order wsX0_order) := goodIn_app (goodIn_of _ (by decide +kernel)) ggL_act_X0_order
set_option maxRecDepth 20000 in
theorem ggL_act_X0_corner : GoodIn wsL_act wsX0_corner := goodIn_ca (goodIn_ca (goodIn_r _ [243, 159, 160, 161, 10, 162, 13, 36, 37, 38, 39, 12, 40, 41, 42, 43, 44, 236, 237, 238, 239, 14, 235, 45, 46, 47, 102, 103, 104, 105, 106, 244, 245, 246, 247, 48, 49, 50, 195, 196, 197, 198, 163, 164, 165, 166, 150, 278, 279, 280, 281, 282, 283, 284, 285, 286, 287, 288, 289] (by decide +kernel) (by decide +kernel)) (goodIn_sub (fun _ h => List.mem_cons_of_mem _ (List.mem_append_left _ (List.mem_append_right _ h))) (by decide +kernel))) (goodIn_sub (fun _ h => List.mem_cons_of_mem _ (List.mem_append_right _ h)) (by decide +kernel))
set_option maxRecDepth 20000 in
theorem gL_act_X0_corner : GoodIn wsL_act (wsV RL 66 RX0 yX0_corner wsX0_corner) := goodIn_app (goodIn_of _ (by decide +kernel)) ggL_act_X0_corner
set_option maxRecDepth 20000 in
theorem ggL_act_X0_greedy : GoodIn wsL_act wsX0_greedy := goodIn_ca (goodIn_ca (goodIn_r _ [251, 159, 160, 161, 10, 162, 13, 40, 41, 42, 43, 44, 20, 21, 22, 23, 24, 25, 26, 27, 252, 253, 254, 255, 12, 195, 196, 197, 198, 48, 49, 50, 163, 164, 165, 166, 150, 45, 46, 47, 278, 279, 280, 281, 282, 283, 284, 285, 286, 287, 288, 289] (by decide +kernel) (by decide +kernel)) (goodIn_sub (fun _ h => List.mem_cons_of_mem _ (List.mem_append_left _ (List.mem_append_right _ h))) (by decide +kernel))) (goodIn_sub (fun _ h => List.mem_cons_of_mem _ (List.mem_append_left _ (List.mem_append_left _ (List.mem_append_right _ h)))) (by decide +kernel))
set_option maxRecDepth 20000 in
theorem gL_act_X0_greedy : GoodIn wsL_act (wsV RL 69 RX0 yX0_greedy wsX0_greedy) := goodIn_app (goodIn_of _ (by decide +kernel)) ggL_act_X0_greedy
set_option maxRecDepth 20000 in
theorem ggL_act_X0_best : GoodIn wsL_act wsX0_best := goodIn_ca (goodIn_ca (goodIn_r _ [259, 260, 261, 136, 262, 159, 160, 161, 10, 162, 13, 40, 41, 42, 43, 44, 20, 21, 22, 23, 24, 25, 26, 27, 107, 108, 109, 110, 12, 119, 120, 121, 122, 123, 124, 125, 163, 164, 165, 166, 150, 45, 46, 47, 278, 279, 280, 281, 282, 283, 284, 285, 286, 287, 288, 289] (by decide +kernel) (by decide +kernel)) (goodIn_sub (fun _ h => List.mem_cons_of_mem _ (List.mem_append_left _ (List.mem_append_right _ h))) (by decide +kernel))) (goodIn_sub (fun _ h => List.mem_cons_of_mem _ (List.mem_append_left _ (List.mem_append_left _ (List.mem_append_right _ h)))) (by decide +kernel))
set_option maxRecDepth 20000 in
theorem gL_act_X0_best : GoodIn wsL_act (wsV RL 72 RX0 yX0_best wsX0_best) := goodIn_app (goodIn_of _ (by decide +kernel)) ggL_act_X0_best
set_option maxRecDepth 20000 in
theorem ggL_act_X0_share : GoodIn wsL_act wsX0_share := goodIn_ca (goodIn_r _ [266, 12, 159, 160, 161, 10, 162, 13, 36, 37, 38, 39, 40, 41, 42, 43, 44, 107, 108, 109, 110, 57, 58, 59, 119, 120, 121, 122, 123, 124, 125, 267, 268, 269, 195, 196, 197, 198, 48, 49, 50, 163, 164, 165, 166, 150, 45, 46, 47, 278, 279, 280, 281, 282, 283, 284, 285, 286, 287, 288, 289] (by decide +kernel) (by decide +kernel)) (goodIn_sub (fun _ h => List.mem_cons_of_mem _ (List.mem_append_left _ (List.mem_append_right _ h))) (by decide +kernel))
set_option maxRecDepth 20000 in
theorem gL_act_X0_share : GoodIn wsL_act (wsV RL 75 RX0 yX0_share wsX0_share) := goodIn_app (goodIn_of _ (by decide +kernel)) ggL_act_X0_share
set_option maxRecDepth 20000 in
theorem ggL_act_X0_shareAnew : GoodIn wsL_act wsX0_shareAnew := goodIn_ca (goodIn_r _ [273, 159, 160, 161, 10, 162, 13, 36, 37, 38, 39, 12, 40, 41, 42, 43, 44, 274, 275, 276, 277, 57, 58, 59, 195, 196, 197, 198, 48, 49, 50, 163, 164, 165, 166, 150, 45, 46, 47, 278, 279, 280, 281, 282, 283, 284, 285, 286, 287, 288, 289] (by decide +kernel) (by decide +kernel)) (goodIn_sub (fun _ h => List.mem_cons_of_mem _ (List.mem_append_left _ (List.mem_append_right _ h))) (by decide +kernel))
set_option maxRecDepth 20000 in
theorem gL_act_X0_shareAnew : GoodIn wsL_act (wsV RL 78 RX0 yX0_shareAnew wsX0_shareAnew) := goodIn_app (goodIn_of _ (by decide +kernel)) ggL_act_X0_shareAnew
theorem dL_act_0 : decode cL_act 0 = .ok (.iload_n 1, 1) := by decide +kernel
theorem dL_act_1 : decode cL_act 1 = .ok (.ifCond .ne 11, 3) := by decide +kernel
theorem dL_act_4 : decode cL_act 4 = .ok (.aload_n 0, 1) := by decide +kernel
theorem dL_act_5 : decode cL_act 5 = .ok (.iload_n 2, 1) := by decide +kernel
theorem dL_act_6 : decode cL_act 6 = .ok (.invokevirtual 7, 3) := by decide +kernel
theorem dL_act_9 : decode cL_act 9 = .ok (.goto 358, 3) := by decide +kernel
theorem dL_act_12 : decode cL_act 12 = .ok (.iload_n 1, 1) := by decide +kernel
theorem dL_act_13 : decode cL_act 13 = .ok (.iconst 1, 1) := by decide +kernel
theorem dL_act_14 : decode cL_act 14 = .ok (.if_icmp .ne 31, 3) := by decide +kernel
theorem dL_act_17 : decode cL_act 17 = .ok (.aload_n 0, 1) := by decide +kernel
theorem dL_act_18 : decode cL_act 18 = .ok (.iload_n 2, 1) := by decide +kernel
theorem dL_act_19 : decode cL_act 19 = .ok (.iload_n 3, 1) := by decide +kernel
theorem dL_act_20 : decode cL_act 20 = .ok (.iload 4, 2) := by decide +kernel
theorem dL_act_22 : decode cL_act 22 = .ok (.iconst 1, 1) := by decide +kernel
theorem dL_act_23 : decode cL_act 23 = .ok (.if_icmp .ne 7, 3) := by decide +kernel
theorem dL_act_26 : decode cL_act 26 = .ok (.iconst 1, 1) := by decide +kernel
theorem dL_act_27 : decode cL_act 27 = .ok (.goto 4, 3) := by decide +kernel
theorem dL_act_30 : decode cL_act 30 = .ok (.iconst 0, 1) := by decide +kernel
theorem dL_act_31 : decode cL_act 31 = .ok (.invokevirtual 13, 3) := by decide +kernel
theorem dL_act_34 : decode cL_act 34 = .ok (.ifCond .eq 7, 3) := by decide +kernel
theorem dL_act_37 : decode cL_act 37 = .ok (.iconst 1, 1) := by decide +kernel
theorem dL_act_38 : decode cL_act 38 = .ok (.goto 329, 3) := by decide +kernel
theorem dL_act_41 : decode cL_act 41 = .ok (.iconst 0, 1) := by decide +kernel
theorem dL_act_42 : decode cL_act 42 = .ok (.goto 325, 3) := by decide +kernel
theorem dL_act_45 : decode cL_act 45 = .ok (.iload_n 1, 1) := by decide +kernel
theorem dL_act_46 : decode cL_act 46 = .ok (.iconst 2, 1) := by decide +kernel
theorem dL_act_47 : decode cL_act 47 = .ok (.if_icmp .ne 14, 3) := by decide +kernel
theorem dL_act_50 : decode cL_act 50 = .ok (.aload_n 0, 1) := by decide +kernel
theorem dL_act_51 : decode cL_act 51 = .ok (.iload_n 2, 1) := by decide +kernel
theorem dL_act_52 : decode cL_act 52 = .ok (.iload_n 3, 1) := by decide +kernel
theorem dL_act_53 : decode cL_act 53 = .ok (.iload 4, 2) := by decide +kernel
theorem dL_act_55 : decode cL_act 55 = .ok (.invokevirtual 17, 3) := by decide +kernel
theorem dL_act_58 : decode cL_act 58 = .ok (.goto 309, 3) := by decide +kernel
theorem dL_act_61 : decode cL_act 61 = .ok (.iload_n 1, 1) := by decide +kernel
theorem dL_act_62 : decode cL_act 62 = .ok (.iconst 3, 1) := by decide +kernel
theorem dL_act_63 : decode cL_act 63 = .ok (.if_icmp .ne 14, 3) := by decide +kernel
theorem dL_act_66 : decode cL_act 66 = .ok (.aload_n 0, 1) := by decide +kernel
theorem dL_act_67 : decode cL_act 67 = .ok (.iload_n 2, 1) := by decide +kernel
theorem dL_act_68 : decode cL_act 68 = .ok (.iload_n 3, 1) := by decide +kernel
theorem dL_act_69 : decode cL_act 69 = .ok (.iload 4, 2) := by decide +kernel
theorem dL_act_71 : decode cL_act 71 = .ok (.invokevirtual 21, 3) := by decide +kernel
theorem dL_act_74 : decode cL_act 74 = .ok (.goto 293, 3) := by decide +kernel
theorem dL_act_77 : decode cL_act 77 = .ok (.iload_n 1, 1) := by decide +kernel
theorem dL_act_78 : decode cL_act 78 = .ok (.iconst 4, 1) := by decide +kernel
theorem dL_act_79 : decode cL_act 79 = .ok (.if_icmp .ne 14, 3) := by decide +kernel
theorem dL_act_82 : decode cL_act 82 = .ok (.aload_n 0, 1) := by decide +kernel
theorem dL_act_83 : decode cL_act 83 = .ok (.iload_n 2, 1) := by decide +kernel
theorem dL_act_84 : decode cL_act 84 = .ok (.iload_n 3, 1) := by decide +kernel
theorem dL_act_85 : decode cL_act 85 = .ok (.iload 4, 2) := by decide +kernel
theorem dL_act_87 : decode cL_act 87 = .ok (.invokevirtual 24, 3) := by decide +kernel
theorem dL_act_90 : decode cL_act 90 = .ok (.goto 277, 3) := by decide +kernel
theorem dL_act_93 : decode cL_act 93 = .ok (.iload_n 1, 1) := by decide +kernel
theorem dL_act_94 : decode cL_act 94 = .ok (.iconst 5, 1) := by decide +kernel
theorem dL_act_95 : decode cL_act 95 = .ok (.if_icmp .ne 12, 3) := by decide +kernel
theorem dL_act_98 : decode cL_act 98 = .ok (.aload_n 0, 1) := by decide +kernel
theorem dL_act_99 : decode cL_act 99 = .ok (.iload_n 2, 1) := by decide +kernel
theorem dL_act_100 : decode cL_act 100 = .ok (.iload_n 3, 1) := by decide +kernel
theorem dL_act_101 : decode cL_act 101 = .ok (.invokevirtual 27, 3) := by decide +kernel
theorem dL_act_104 : decode cL_act 104 = .ok (.goto 263, 3) := by decide +kernel
theorem dL_act_107 : decode cL_act 107 = .ok (.iload_n 1, 1) := by decide +kernel
theorem dL_act_108 : decode cL_act 108 = .ok (.bipush 6, 2) := by decide +kernel
theorem dL_act_110 : decode cL_act 110 = .ok (.if_icmp .ne 11, 3) := by decide +kernel
theorem dL_act_113 : decode cL_act 113 = .ok (.aload_n 0, 1) := by decide +kernel
theorem dL_act_114 : decode cL_act 114 = .ok (.iload_n 2, 1) := by decide +kernel
theorem dL_act_115 : decode cL_act 115 = .ok (.invokevirtual 31, 3) := by decide +kernel
theorem dL_act_118 : decode cL_act 118 = .ok (.goto 249, 3) := by decide +kernel
theorem dL_act_121 : decode cL_act 121 = .ok (.iload_n 1, 1) := by decide +kernel
theorem dL_act_122 : decode cL_act 122 = .ok (.bipush 7, 2) := by decide +kernel
theorem dL_act_124 : decode cL_act 124 = .ok (.if_icmp .ne 12, 3) := by decide +kernel
theorem dL_act_127 : decode cL_act 127 = .ok (.aload_n 0, 1) := by decide +kernel
theorem dL_act_128 : decode cL_act 128 = .ok (.iload_n 2, 1) := by decide +kernel
theorem dL_act_129 : decode cL_act 129 = .ok (.iload_n 3, 1) := by decide +kernel
theorem dL_act_130 : decode cL_act 130 = .ok (.invokevirtual 34, 3) := by decide +kernel
theorem dL_act_133 : decode cL_act 133 = .ok (.goto 234, 3) := by decide +kernel
theorem dL_act_136 : decode cL_act 136 = .ok (.iload_n 1, 1) := by decide +kernel
theorem dL_act_137 : decode cL_act 137 = .ok (.bipush 8, 2) := by decide +kernel
theorem dL_act_139 : decode cL_act 139 = .ok (.if_icmp .ne 12, 3) := by decide +kernel
theorem dL_act_142 : decode cL_act 142 = .ok (.aload_n 0, 1) := by decide +kernel
theorem dL_act_143 : decode cL_act 143 = .ok (.iload_n 2, 1) := by decide +kernel
theorem dL_act_144 : decode cL_act 144 = .ok (.iload_n 3, 1) := by decide +kernel
theorem dL_act_145 : decode cL_act 145 = .ok (.invokevirtual 37, 3) := by decide +kernel
theorem dL_act_148 : decode cL_act 148 = .ok (.goto 219, 3) := by decide +kernel
theorem dL_act_151 : decode cL_act 151 = .ok (.iload_n 1, 1) := by decide +kernel
theorem dL_act_152 : decode cL_act 152 = .ok (.bipush 9, 2) := by decide +kernel
theorem dL_act_154 : decode cL_act 154 = .ok (.if_icmp .ne 12, 3) := by decide +kernel
theorem dL_act_157 : decode cL_act 157 = .ok (.aload_n 0, 1) := by decide +kernel
theorem dL_act_158 : decode cL_act 158 = .ok (.iload_n 2, 1) := by decide +kernel
theorem dL_act_159 : decode cL_act 159 = .ok (.iload_n 3, 1) := by decide +kernel
theorem dL_act_160 : decode cL_act 160 = .ok (.invokevirtual 40, 3) := by decide +kernel
theorem dL_act_163 : decode cL_act 163 = .ok (.goto 204, 3) := by decide +kernel
theorem dL_act_166 : decode cL_act 166 = .ok (.iload_n 1, 1) := by decide +kernel
theorem dL_act_167 : decode cL_act 167 = .ok (.bipush 10, 2) := by decide +kernel
theorem dL_act_169 : decode cL_act 169 = .ok (.if_icmp .ne 12, 3) := by decide +kernel
theorem dL_act_172 : decode cL_act 172 = .ok (.aload_n 0, 1) := by decide +kernel
theorem dL_act_173 : decode cL_act 173 = .ok (.iload_n 2, 1) := by decide +kernel
theorem dL_act_174 : decode cL_act 174 = .ok (.iload_n 3, 1) := by decide +kernel
theorem dL_act_175 : decode cL_act 175 = .ok (.invokevirtual 43, 3) := by decide +kernel
theorem dL_act_178 : decode cL_act 178 = .ok (.goto 189, 3) := by decide +kernel
theorem dL_act_181 : decode cL_act 181 = .ok (.iload_n 1, 1) := by decide +kernel
theorem dL_act_182 : decode cL_act 182 = .ok (.bipush 11, 2) := by decide +kernel
theorem dL_act_184 : decode cL_act 184 = .ok (.if_icmp .ne 19, 3) := by decide +kernel
theorem dL_act_187 : decode cL_act 187 = .ok (.aload_n 0, 1) := by decide +kernel
theorem dL_act_188 : decode cL_act 188 = .ok (.iload_n 2, 1) := by decide +kernel
theorem dL_act_189 : decode cL_act 189 = .ok (.invokevirtual 46, 3) := by decide +kernel
theorem dL_act_192 : decode cL_act 192 = .ok (.ifCond .eq 7, 3) := by decide +kernel
theorem dL_act_195 : decode cL_act 195 = .ok (.iconst 1, 1) := by decide +kernel
theorem dL_act_196 : decode cL_act 196 = .ok (.goto 171, 3) := by decide +kernel
theorem dL_act_199 : decode cL_act 199 = .ok (.iconst 0, 1) := by decide +kernel
theorem dL_act_200 : decode cL_act 200 = .ok (.goto 167, 3) := by decide +kernel
theorem dL_act_203 : decode cL_act 203 = .ok (.iload_n 1, 1) := by decide +kernel
theorem dL_act_204 : decode cL_act 204 = .ok (.bipush 12, 2) := by decide +kernel
theorem dL_act_206 : decode cL_act 206 = .ok (.if_icmp .ne 19, 3) := by decide +kernel
theorem dL_act_209 : decode cL_act 209 = .ok (.aload_n 0, 1) := by decide +kernel
theorem dL_act_210 : decode cL_act 210 = .ok (.iload_n 2, 1) := by decide +kernel
theorem dL_act_211 : decode cL_act 211 = .ok (.invokevirtual 50, 3) := by decide +kernel
theorem dL_act_214 : decode cL_act 214 = .ok (.ifCond .eq 7, 3) := by decide +kernel
theorem dL_act_217 : decode cL_act 217 = .ok (.iconst 1, 1) := by decide +kernel
theorem dL_act_218 : decode cL_act 218 = .ok (.goto 149, 3) := by decide +kernel
theorem dL_act_221 : decode cL_act 221 = .ok (.iconst 0, 1) := by decide +kernel
theorem dL_act_222 : decode cL_act 222 = .ok (.goto 145, 3) := by decide +kernel
theorem dL_act_225 : decode cL_act 225 = .ok (.iload_n 1, 1) := by decide +kernel
theorem dL_act_226 : decode cL_act 226 = .ok (.bipush 13, 2) := by decide +kernel
theorem dL_act_228 : decode cL_act 228 = .ok (.if_icmp .ne 11, 3) := by decide +kernel
theorem dL_act_231 : decode cL_act 231 = .ok (.aload_n 0, 1) := by decide +kernel
theorem dL_act_232 : decode cL_act 232 = .ok (.iload_n 2, 1) := by decide +kernel
theorem dL_act_233 : decode cL_act 233 = .ok (.invokevirtual 53, 3) := by decide +kernel
theorem dL_act_236 : decode cL_act 236 = .ok (.goto 131, 3) := by decide +kernel
theorem dL_act_239 : decode cL_act 239 = .ok (.iload_n 1, 1) := by decide +kernel
theorem dL_act_240 : decode cL_act 240 = .ok (.bipush 14, 2) := by decide +kernel
theorem dL_act_242 : decode cL_act 242 = .ok (.if_icmp .ne 21, 3) := by decide +kernel
theorem dL_act_245 : decode cL_act 245 = .ok (.aload_n 0, 1) := by decide +kernel
theorem dL_act_246 : decode cL_act 246 = .ok (.iload_n 2, 1) := by decide +kernel
theorem dL_act_247 : decode cL_act 247 = .ok (.iload_n 3, 1) := by decide +kernel
theorem dL_act_248 : decode cL_act 248 = .ok (.iconst 1, 1) := by decide +kernel
theorem dL_act_249 : decode cL_act 249 = .ok (.if_icmp .ne 7, 3) := by decide +kernel
theorem dL_act_252 : decode cL_act 252 = .ok (.iconst 1, 1) := by decide +kernel
theorem dL_act_253 : decode cL_act 253 = .ok (.goto 4, 3) := by decide +kernel
theorem dL_act_256 : decode cL_act 256 = .ok (.iconst 0, 1) := by decide +kernel
theorem dL_act_257 : decode cL_act 257 = .ok (.invokevirtual 56, 3) := by decide +kernel
theorem dL_act_260 : decode cL_act 260 = .ok (.goto 107, 3) := by decide +kernel
theorem dL_act_263 : decode cL_act 263 = .ok (.iload_n 1, 1) := by decide +kernel
theorem dL_act_264 : decode cL_act 264 = .ok (.bipush 15, 2) := by decide +kernel
theorem dL_act_266 : decode cL_act 266 = .ok (.if_icmp .ne 21, 3) := by decide +kernel
theorem dL_act_269 : decode cL_act 269 = .ok (.aload_n 0, 1) := by decide +kernel
theorem dL_act_270 : decode cL_act 270 = .ok (.iload_n 2, 1) := by decide +kernel
theorem dL_act_271 : decode cL_act 271 = .ok (.iload_n 3, 1) := by decide +kernel
theorem dL_act_272 : decode cL_act 272 = .ok (.iconst 1, 1) := by decide +kernel
theorem dL_act_273 : decode cL_act 273 = .ok (.if_icmp .ne 7, 3) := by decide +kernel
theorem dL_act_276 : decode cL_act 276 = .ok (.iconst 1, 1) := by decide +kernel
theorem dL_act_277 : decode cL_act 277 = .ok (.goto 4, 3) := by decide +kernel
theorem dL_act_280 : decode cL_act 280 = .ok (.iconst 0, 1) := by decide +kernel
theorem dL_act_281 : decode cL_act 281 = .ok (.invokevirtual 60, 3) := by decide +kernel
theorem dL_act_284 : decode cL_act 284 = .ok (.goto 83, 3) := by decide +kernel
theorem dL_act_287 : decode cL_act 287 = .ok (.iload_n 1, 1) := by decide +kernel
theorem dL_act_288 : decode cL_act 288 = .ok (.bipush 16, 2) := by decide +kernel
theorem dL_act_290 : decode cL_act 290 = .ok (.if_icmp .ne 11, 3) := by decide +kernel
theorem dL_act_293 : decode cL_act 293 = .ok (.aload_n 0, 1) := by decide +kernel
theorem dL_act_294 : decode cL_act 294 = .ok (.iload_n 2, 1) := by decide +kernel
theorem dL_act_295 : decode cL_act 295 = .ok (.invokevirtual 63, 3) := by decide +kernel
theorem dL_act_298 : decode cL_act 298 = .ok (.goto 69, 3) := by decide +kernel
theorem dL_act_301 : decode cL_act 301 = .ok (.iload_n 1, 1) := by decide +kernel
theorem dL_act_302 : decode cL_act 302 = .ok (.bipush 17, 2) := by decide +kernel
theorem dL_act_304 : decode cL_act 304 = .ok (.if_icmp .ne 12, 3) := by decide +kernel
theorem dL_act_307 : decode cL_act 307 = .ok (.aload_n 0, 1) := by decide +kernel
theorem dL_act_308 : decode cL_act 308 = .ok (.iload_n 2, 1) := by decide +kernel
theorem dL_act_309 : decode cL_act 309 = .ok (.iload_n 3, 1) := by decide +kernel
theorem dL_act_310 : decode cL_act 310 = .ok (.invokevirtual 66, 3) := by decide +kernel
theorem dL_act_313 : decode cL_act 313 = .ok (.goto 54, 3) := by decide +kernel
theorem dL_act_316 : decode cL_act 316 = .ok (.iload_n 1, 1) := by decide +kernel
theorem dL_act_317 : decode cL_act 317 = .ok (.bipush 18, 2) := by decide +kernel
theorem dL_act_319 : decode cL_act 319 = .ok (.if_icmp .ne 12, 3) := by decide +kernel
theorem dL_act_322 : decode cL_act 322 = .ok (.aload_n 0, 1) := by decide +kernel
theorem dL_act_323 : decode cL_act 323 = .ok (.iload_n 2, 1) := by decide +kernel
theorem dL_act_324 : decode cL_act 324 = .ok (.iload_n 3, 1) := by decide +kernel
theorem dL_act_325 : decode cL_act 325 = .ok (.invokevirtual 69, 3) := by decide +kernel
theorem dL_act_328 : decode cL_act 328 = .ok (.goto 39, 3) := by decide +kernel
theorem dL_act_331 : decode cL_act 331 = .ok (.iload_n 1, 1) := by decide +kernel
theorem dL_act_332 : decode cL_act 332 = .ok (.bipush 19, 2) := by decide +kernel
theorem dL_act_334 : decode cL_act 334 = .ok (.if_icmp .ne 12, 3) := by decide +kernel
theorem dL_act_337 : decode cL_act 337 = .ok (.aload_n 0, 1) := by decide +kernel
theorem dL_act_338 : decode cL_act 338 = .ok (.iload_n 2, 1) := by decide +kernel
theorem dL_act_339 : decode cL_act 339 = .ok (.iload_n 3, 1) := by decide +kernel
theorem dL_act_340 : decode cL_act 340 = .ok (.invokevirtual 72, 3) := by decide +kernel
theorem dL_act_343 : decode cL_act 343 = .ok (.goto 24, 3) := by decide +kernel
theorem dL_act_346 : decode cL_act 346 = .ok (.iload_n 1, 1) := by decide +kernel
theorem dL_act_347 : decode cL_act 347 = .ok (.bipush 20, 2) := by decide +kernel
theorem dL_act_349 : decode cL_act 349 = .ok (.if_icmp .ne 12, 3) := by decide +kernel
theorem dL_act_352 : decode cL_act 352 = .ok (.aload_n 0, 1) := by decide +kernel
theorem dL_act_353 : decode cL_act 353 = .ok (.iload_n 2, 1) := by decide +kernel
theorem dL_act_354 : decode cL_act 354 = .ok (.iload_n 3, 1) := by decide +kernel
theorem dL_act_355 : decode cL_act 355 = .ok (.invokevirtual 75, 3) := by decide +kernel
theorem dL_act_358 : decode cL_act 358 = .ok (.goto 9, 3) := by decide +kernel
theorem dL_act_361 : decode cL_act 361 = .ok (.aload_n 0, 1) := by decide +kernel
theorem dL_act_362 : decode cL_act 362 = .ok (.iload_n 2, 1) := by decide +kernel
theorem dL_act_363 : decode cL_act 363 = .ok (.iload_n 3, 1) := by decide +kernel
theorem dL_act_364 : decode cL_act 364 = .ok (.invokevirtual 78, 3) := by decide +kernel
theorem dL_act_367 : decode cL_act 367 = .ok (.ireturn, 1) := by decide +kernel
theorem dL_act_368 : decode cL_act 368 = .ok (.astore 5, 2) := by decide +kernel
theorem dL_act_370 : decode cL_act 370 = .ok (.ldc 83, 2) := by decide +kernel
theorem dL_act_372 : decode cL_act 372 = .ok (.ireturn, 1) := by decide +kernel
theorem dL_act_373 : decode cL_act 373 = .ok (.astore 5, 2) := by decide +kernel
theorem dL_act_375 : decode cL_act 375 = .ok (.ldc 86, 2) := by decide +kernel
theorem dL_act_377 : decode cL_act 377 = .ok (.ireturn, 1) := by decide +kernel
theorem dL_act_378 : decode cL_act 378 = .ok (.astore 5, 2) := by decide +kernel
theorem dL_act_380 : decode cL_act 380 = .ok (.ldc 89, 2) := by decide +kernel
theorem dL_act_382 : decode cL_act 382 = .ok (.ireturn, 1) := by decide +kernel
end
section
set_option maxRecDepth 20000 in
theorem ggL_refuses_X0_common : GoodIn wsL_refuses wsX0_common := goodIn_r _ [8, 9, 10, 11, 12, 7, 13, 14, 15, 16, 17, 18, 19, 20, 21, 22, 23, 24, 25, 26, 27, 28, 29, 30, 31, 32, 33, 34, 35, 36, 37, 38, 39, 40, 41, 42, 43, 44, 45, 46, 47, 48, 49, 50, 51, 52, 53, 54, 55, 56, 57, 58, 59, 60, 61, 62, 63, 64, 65, 66, 67, 68, 69, 321, 322, 323, 324, 325, 326, 327, 328, 329, 330, 331, 332] (by decide +kernel) (by decide +kernel)
set_option maxRecDepth 20000 in
theorem gL_refuses_X0_common : GoodIn wsL_refuses (wsV RL 91 RX0 yX0_common wsX0_common) := goodIn_app (goodIn_of _ (by decide +kernel)) ggL_refuses_X0_common
set_option maxRecDepth 20000 in
theorem ggL_refuses_L_act : GoodIn wsL_refuses wsL_act := goodIn_ca (goodIn_ca (goodIn_ca (goodIn_r _ [73, 74, 75, 76, 3, 2, 77, 78, 79, 80, 7, 81, 9, 82, 83, 84, 85, 32, 47, 86, 87, 88, 89, 90, 91, 92, 93, 94, 20, 21, 22, 23, 95, 96, 97, 98, 99, 100, 101, 102, 103, 104, 105, 106, 107, 33, 34, 35, 108, 109, 110, 111, 112, 113, 48, 49, 50, 36, 37, 38, 114, 115, 116, 117, 118, 119, 120, 121, 122, 123, 124, 125, 126, 127, 128, 129, 130, 131, 28, 29, 30, 31, 132, 133, 134, 135, 43, 44, 45, 46, 136, 137, 138, 139, 140, 141, 142, 143, 144, 145, 146, 147, 148, 149, 150, 151, 152, 153, 154, 155, 156, 157, 158, 159, 160, 161, 162, 163, 164, 59, 60, 61, 62, 63, 64, 65, 165, 166, 167, 168, 169, 170, 171, 172, 173, 174, 175, 176, 39, 40, 41, 42, 177, 178, 179, 180, 181, 182, 183, 184, 185, 186, 187, 188, 189, 190, 191, 192, 193, 194, 195, 196, 197, 198, 199, 200, 201, 202, 203, 204, 205, 206, 207, 208, 209, 210, 211, 212, 213, 214, 215, 216, 217, 218, 219, 220, 221, 222, 223, 224, 225, 226, 227, 228, 229, 230, 231, 232, 233, 234, 235, 236, 237, 238, 239, 240, 241, 242, 243, 244, 245, 246, 247, 248, 249, 250, 251, 252, 253, 254, 255, 256, 257, 258, 259, 260, 261, 262, 263, 264, 265, 266, 267, 268, 269, 270, 271, 272, 273, 274, 275, 276, 277, 278, 279, 280, 281, 282, 283, 284, 285, 286, 287, 288, 289, 290, 291, 292, 293, 294, 295, 296, 297, 298, 299, 300, 301, 302, 303, 304, 305, 306, 307, 308, 309, 310, 311, 312, 321, 322, 323, 324, 325, 326, 327, 328, 329, 330, 331, 332] rfl (by decide +kernel)) (goodIn_sub (fun _ h => List.mem_cons_of_mem _ (List.mem_append_left _ (List.mem_append_left _ (List.mem_append_right _ h)))) (by decide +kernel))) (goodIn_sub (fun _ h => List.mem_cons_of_mem _ (List.mem_append_left _ (List.mem_append_right _ h))) (by decide +kernel))) (goodIn_sub (fun _ h => List.mem_cons_of_mem _ (List.mem_append_right _ h)) (by decide +kernel))
set_option maxRecDepth 20000 in
theorem gL_refuses_L_act : GoodIn wsL_refuses (va_wsS RL 95 yL_act wsL_act) := goodIn_app (goodIn_of _ (by decide +kernel)) ggL_refuses_L_act
set_option maxRecDepth 20000 in
theorem ggL_refuses_X0_commonAnew : GoodIn wsL_refuses wsX0_commonAnew := goodIn_r _ [316, 295, 296, 175, 297, 153, 154, 155, 7, 156, 9, 317, 318, 319, 320, 39, 40, 41, 42, 36, 37, 38, 28, 29, 30, 31, 32, 33, 34, 35, 43, 44, 45, 46, 47, 59, 60, 61, 62, 63, 64, 65, 321, 322, 323, 324, 325, 326, 327, 328, 329, 330, 331, 332] (by decide +kernel) (by decide +kernel)
set_option maxRecDepth 20000 in
theorem gL_refuses_X0_commonAnew : GoodIn wsL_refuses (wsV RL 101 RX0 yX0_commonAnew wsX0_commonAnew) := goodIn_app (goodIn_of _ (by decide +kernel)) ggL_refuses_X0_commonAnew
theorem dL_refuses_0 : decode cL_refuses 0 = .ok (.ldc 90, 2) := by decide +kernel
theorem dL_refuses_2 : decode cL_refuses 2 = .ok (.istore_n 3, 1) := by decide +kernel
theorem dL_refuses_3 : decode cL_refuses 3 = .ok (.aload_n 0, 1) := by decide +kernel
theorem dL_refuses_4 : decode cL_refuses 4 = .ok (.invokevirtual 91, 3) := by decide +kernel
theorem dL_refuses_7 : decode cL_refuses 7 = .ok (.istore 4, 2) := by decide +kernel
theorem dL_refuses_9 : decode cL_refuses 9 = .ok (.iconst 0, 1) := by decide +kernel
theorem dL_refuses_10 : decode cL_refuses 10 = .ok (.istore 5, 2) := by decide +kernel
theorem dL_refuses_12 : decode cL_refuses 12 = .ok (.iload 5, 2) := by decide +kernel
theorem dL_refuses_14 : decode cL_refuses 14 = .ok (.iconst 4, 1) := by decide +kernel
theorem dL_refuses_15 : decode cL_refuses 15 = .ok (.if_icmp .ge 678, 3) := by decide +kernel
theorem dL_refuses_18 : decode cL_refuses 18 = .ok (.iload 5, 2) := by decide +kernel
theorem dL_refuses_20 : decode cL_refuses 20 = .ok (.ifCond .ne 7, 3) := by decide +kernel
theorem dL_refuses_23 : decode cL_refuses 23 = .ok (.iconst (-1), 1) := by decide +kernel
theorem dL_refuses_24 : decode cL_refuses 24 = .ok (.goto 17, 3) := by decide +kernel
theorem dL_refuses_27 : decode cL_refuses 27 = .ok (.iload 5, 2) := by decide +kernel
theorem dL_refuses_29 : decode cL_refuses 29 = .ok (.iconst 2, 1) := by decide +kernel
theorem dL_refuses_30 : decode cL_refuses 30 = .ok (.if_icmp .ne 7, 3) := by decide +kernel
theorem dL_refuses_33 : decode cL_refuses 33 = .ok (.iload_n 3, 1) := by decide +kernel
theorem dL_refuses_34 : decode cL_refuses 34 = .ok (.goto 7, 3) := by decide +kernel
theorem dL_refuses_37 : decode cL_refuses 37 = .ok (.iload_n 3, 1) := by decide +kernel
theorem dL_refuses_38 : decode cL_refuses 38 = .ok (.ineg, 1) := by decide +kernel
theorem dL_refuses_39 : decode cL_refuses 39 = .ok (.iconst 1, 1) := by decide +kernel
theorem dL_refuses_40 : decode cL_refuses 40 = .ok (.isub, 1) := by decide +kernel
theorem dL_refuses_41 : decode cL_refuses 41 = .ok (.istore 6, 2) := by decide +kernel
theorem dL_refuses_43 : decode cL_refuses 43 = .ok (.iload 5, 2) := by decide +kernel
theorem dL_refuses_45 : decode cL_refuses 45 = .ok (.iconst 1, 1) := by decide +kernel
theorem dL_refuses_46 : decode cL_refuses 46 = .ok (.if_icmp .ne 7, 3) := by decide +kernel
theorem dL_refuses_49 : decode cL_refuses 49 = .ok (.iload_n 1, 1) := by decide +kernel
theorem dL_refuses_50 : decode cL_refuses 50 = .ok (.goto 5, 3) := by decide +kernel
theorem dL_refuses_53 : decode cL_refuses 53 = .ok (.iload 6, 2) := by decide +kernel
theorem dL_refuses_55 : decode cL_refuses 55 = .ok (.istore 7, 2) := by decide +kernel
theorem dL_refuses_57 : decode cL_refuses 57 = .ok (.iload 5, 2) := by decide +kernel
theorem dL_refuses_59 : decode cL_refuses 59 = .ok (.iconst 1, 1) := by decide +kernel
theorem dL_refuses_60 : decode cL_refuses 60 = .ok (.if_icmp .ne 7, 3) := by decide +kernel
theorem dL_refuses_63 : decode cL_refuses 63 = .ok (.iload_n 2, 1) := by decide +kernel
theorem dL_refuses_64 : decode cL_refuses 64 = .ok (.goto 5, 3) := by decide +kernel
theorem dL_refuses_67 : decode cL_refuses 67 = .ok (.iload 6, 2) := by decide +kernel
theorem dL_refuses_69 : decode cL_refuses 69 = .ok (.istore 8, 2) := by decide +kernel
theorem dL_refuses_71 : decode cL_refuses 71 = .ok (.iload 5, 2) := by decide +kernel
theorem dL_refuses_73 : decode cL_refuses 73 = .ok (.iconst 1, 1) := by decide +kernel
theorem dL_refuses_74 : decode cL_refuses 74 = .ok (.if_icmp .ne 8, 3) := by decide +kernel
theorem dL_refuses_77 : decode cL_refuses 77 = .ok (.bipush 6, 2) := by decide +kernel
theorem dL_refuses_79 : decode cL_refuses 79 = .ok (.goto 5, 3) := by decide +kernel
theorem dL_refuses_82 : decode cL_refuses 82 = .ok (.iload 6, 2) := by decide +kernel
theorem dL_refuses_84 : decode cL_refuses 84 = .ok (.istore 9, 2) := by decide +kernel
theorem dL_refuses_86 : decode cL_refuses 86 = .ok (.iload 5, 2) := by decide +kernel
theorem dL_refuses_88 : decode cL_refuses 88 = .ok (.iconst 1, 1) := by decide +kernel
theorem dL_refuses_89 : decode cL_refuses 89 = .ok (.if_icmp .ne 9, 3) := by decide +kernel
theorem dL_refuses_92 : decode cL_refuses 92 = .ok (.iconst 1, 1) := by decide +kernel
theorem dL_refuses_93 : decode cL_refuses 93 = .ok (.iload_n 1, 1) := by decide +kernel
theorem dL_refuses_94 : decode cL_refuses 94 = .ok (.ishl, 1) := by decide +kernel
theorem dL_refuses_95 : decode cL_refuses 95 = .ok (.goto 5, 3) := by decide +kernel
theorem dL_refuses_98 : decode cL_refuses 98 = .ok (.iload 6, 2) := by decide +kernel
theorem dL_refuses_100 : decode cL_refuses 100 = .ok (.istore 10, 2) := by decide +kernel
theorem dL_refuses_102 : decode cL_refuses 102 = .ok (.iload 5, 2) := by decide +kernel
theorem dL_refuses_104 : decode cL_refuses 104 = .ok (.iconst 1, 1) := by decide +kernel
theorem dL_refuses_105 : decode cL_refuses 105 = .ok (.if_icmp .ne 8, 3) := by decide +kernel
theorem dL_refuses_108 : decode cL_refuses 108 = .ok (.bipush 7, 2) := by decide +kernel
theorem dL_refuses_110 : decode cL_refuses 110 = .ok (.goto 5, 3) := by decide +kernel
theorem dL_refuses_113 : decode cL_refuses 113 = .ok (.iload 6, 2) := by decide +kernel
theorem dL_refuses_115 : decode cL_refuses 115 = .ok (.istore 11, 2) := by decide +kernel
theorem dL_refuses_117 : decode cL_refuses 117 = .ok (.aload_n 0, 1) := by decide +kernel
theorem dL_refuses_118 : decode cL_refuses 118 = .ok (.iconst 0, 1) := by decide +kernel
theorem dL_refuses_119 : decode cL_refuses 119 = .ok (.iload 5, 2) := by decide +kernel
theorem dL_refuses_121 : decode cL_refuses 121 = .ok (.ifCond .ne 7, 3) := by decide +kernel
theorem dL_refuses_124 : decode cL_refuses 124 = .ok (.iconst 0, 1) := by decide +kernel
theorem dL_refuses_125 : decode cL_refuses 125 = .ok (.goto 5, 3) := by decide +kernel
theorem dL_refuses_128 : decode cL_refuses 128 = .ok (.iload 11, 2) := by decide +kernel
theorem dL_refuses_130 : decode cL_refuses 130 = .ok (.iconst 0, 1) := by decide +kernel
theorem dL_refuses_131 : decode cL_refuses 131 = .ok (.iconst 0, 1) := by decide +kernel
theorem dL_refuses_132 : decode cL_refuses 132 = .ok (.invokestatic 95, 3) := by decide +kernel
theorem dL_refuses_135 : decode cL_refuses 135 = .ok (.ldc 86, 2) := by decide +kernel
theorem dL_refuses_137 : decode cL_refuses 137 = .ok (.if_icmp .ne 300, 3) := by decide +kernel
theorem dL_refuses_140 : decode cL_refuses 140 = .ok (.aload_n 0, 1) := by decide +kernel
theorem dL_refuses_141 : decode cL_refuses 141 = .ok (.iconst 1, 1) := by decide +kernel
theorem dL_refuses_142 : decode cL_refuses 142 = .ok (.iload 7, 2) := by decide +kernel
theorem dL_refuses_144 : decode cL_refuses 144 = .ok (.iconst 0, 1) := by decide +kernel
theorem dL_refuses_145 : decode cL_refuses 145 = .ok (.iconst 1, 1) := by decide +kernel
theorem dL_refuses_146 : decode cL_refuses 146 = .ok (.invokestatic 95, 3) := by decide +kernel
theorem dL_refuses_149 : decode cL_refuses 149 = .ok (.ldc 83, 2) := by decide +kernel
theorem dL_refuses_151 : decode cL_refuses 151 = .ok (.if_icmp .ne 286, 3) := by decide +kernel
theorem dL_refuses_154 : decode cL_refuses 154 = .ok (.aload_n 0, 1) := by decide +kernel
theorem dL_refuses_155 : decode cL_refuses 155 = .ok (.iconst 1, 1) := by decide +kernel
theorem dL_refuses_156 : decode cL_refuses 156 = .ok (.iconst 0, 1) := by decide +kernel
theorem dL_refuses_157 : decode cL_refuses 157 = .ok (.iload 5, 2) := by decide +kernel
theorem dL_refuses_159 : decode cL_refuses 159 = .ok (.iconst 1, 1) := by decide +kernel
theorem dL_refuses_160 : decode cL_refuses 160 = .ok (.if_icmp .ne 8, 3) := by decide +kernel
theorem dL_refuses_163 : decode cL_refuses 163 = .ok (.bipush 10, 2) := by decide +kernel
theorem dL_refuses_165 : decode cL_refuses 165 = .ok (.goto 5, 3) := by decide +kernel
theorem dL_refuses_168 : decode cL_refuses 168 = .ok (.iload 6, 2) := by decide +kernel
theorem dL_refuses_170 : decode cL_refuses 170 = .ok (.iconst 1, 1) := by decide +kernel
theorem dL_refuses_171 : decode cL_refuses 171 = .ok (.invokestatic 95, 3) := by decide +kernel
theorem dL_refuses_174 : decode cL_refuses 174 = .ok (.ldc 83, 2) := by decide +kernel
theorem dL_refuses_176 : decode cL_refuses 176 = .ok (.if_icmp .ne 261, 3) := by decide +kernel
theorem dL_refuses_179 : decode cL_refuses 179 = .ok (.aload_n 0, 1) := by decide +kernel
theorem dL_refuses_180 : decode cL_refuses 180 = .ok (.iconst 2, 1) := by decide +kernel
theorem dL_refuses_181 : decode cL_refuses 181 = .ok (.iload 7, 2) := by decide +kernel
theorem dL_refuses_183 : decode cL_refuses 183 = .ok (.iconst 0, 1) := by decide +kernel
theorem dL_refuses_184 : decode cL_refuses 184 = .ok (.bipush 99, 2) := by decide +kernel
theorem dL_refuses_186 : decode cL_refuses 186 = .ok (.invokestatic 95, 3) := by decide +kernel
theorem dL_refuses_189 : decode cL_refuses 189 = .ok (.ldc 83, 2) := by decide +kernel
theorem dL_refuses_191 : decode cL_refuses 191 = .ok (.if_icmp .ne 246, 3) := by decide +kernel
theorem dL_refuses_194 : decode cL_refuses 194 = .ok (.aload_n 0, 1) := by decide +kernel
theorem dL_refuses_195 : decode cL_refuses 195 = .ok (.iconst 2, 1) := by decide +kernel
theorem dL_refuses_196 : decode cL_refuses 196 = .ok (.iconst 0, 1) := by decide +kernel
theorem dL_refuses_197 : decode cL_refuses 197 = .ok (.iload 7, 2) := by decide +kernel
theorem dL_refuses_199 : decode cL_refuses 199 = .ok (.bipush 99, 2) := by decide +kernel
theorem dL_refuses_201 : decode cL_refuses 201 = .ok (.invokestatic 95, 3) := by decide +kernel
theorem dL_refuses_204 : decode cL_refuses 204 = .ok (.ldc 83, 2) := by decide +kernel
theorem dL_refuses_206 : decode cL_refuses 206 = .ok (.if_icmp .ne 231, 3) := by decide +kernel
theorem dL_refuses_209 : decode cL_refuses 209 = .ok (.aload_n 0, 1) := by decide +kernel
theorem dL_refuses_210 : decode cL_refuses 210 = .ok (.iconst 2, 1) := by decide +kernel
theorem dL_refuses_211 : decode cL_refuses 211 = .ok (.iconst 0, 1) := by decide +kernel
theorem dL_refuses_212 : decode cL_refuses 212 = .ok (.iconst 0, 1) := by decide +kernel
theorem dL_refuses_213 : decode cL_refuses 213 = .ok (.iconst 5, 1) := by decide +kernel
theorem dL_refuses_214 : decode cL_refuses 214 = .ok (.invokestatic 95, 3) := by decide +kernel
theorem dL_refuses_217 : decode cL_refuses 217 = .ok (.ldc 86, 2) := by decide +kernel
theorem dL_refuses_219 : decode cL_refuses 219 = .ok (.if_icmp .ne 218, 3) := by decide +kernel
theorem dL_refuses_222 : decode cL_refuses 222 = .ok (.iload_n 1, 1) := by decide +kernel
theorem dL_refuses_223 : decode cL_refuses 223 = .ok (.iconst 2, 1) := by decide +kernel
theorem dL_refuses_224 : decode cL_refuses 224 = .ok (.if_icmp .lt 28, 3) := by decide +kernel
theorem dL_refuses_227 : decode cL_refuses 227 = .ok (.aload_n 0, 1) := by decide +kernel
theorem dL_refuses_228 : decode cL_refuses 228 = .ok (.iconst 2, 1) := by decide +kernel
theorem dL_refuses_229 : decode cL_refuses 229 = .ok (.iconst 0, 1) := by decide +kernel
theorem dL_refuses_230 : decode cL_refuses 230 = .ok (.iconst 1, 1) := by decide +kernel
theorem dL_refuses_231 : decode cL_refuses 231 = .ok (.iload 5, 2) := by decide +kernel
theorem dL_refuses_233 : decode cL_refuses 233 = .ok (.iconst 1, 1) := by decide +kernel
theorem dL_refuses_234 : decode cL_refuses 234 = .ok (.if_icmp .ne 8, 3) := by decide +kernel
theorem dL_refuses_237 : decode cL_refuses 237 = .ok (.bipush 21, 2) := by decide +kernel
theorem dL_refuses_239 : decode cL_refuses 239 = .ok (.goto 5, 3) := by decide +kernel
theorem dL_refuses_242 : decode cL_refuses 242 = .ok (.iload 6, 2) := by decide +kernel
theorem dL_refuses_244 : decode cL_refuses 244 = .ok (.invokestatic 95, 3) := by decide +kernel
theorem dL_refuses_247 : decode cL_refuses 247 = .ok (.ldc 86, 2) := by decide +kernel
theorem dL_refuses_249 : decode cL_refuses 249 = .ok (.if_icmp .ne 188, 3) := by decide +kernel
theorem dL_refuses_252 : decode cL_refuses 252 = .ok (.aload_n 0, 1) := by decide +kernel
theorem dL_refuses_253 : decode cL_refuses 253 = .ok (.iconst 3, 1) := by decide +kernel
theorem dL_refuses_254 : decode cL_refuses 254 = .ok (.iload 5, 2) := by decide +kernel
theorem dL_refuses_256 : decode cL_refuses 256 = .ok (.iconst 1, 1) := by decide +kernel
theorem dL_refuses_257 : decode cL_refuses 257 = .ok (.if_icmp .ne 7, 3) := by decide +kernel
theorem dL_refuses_260 : decode cL_refuses 260 = .ok (.iconst 2, 1) := by decide +kernel
theorem dL_refuses_261 : decode cL_refuses 261 = .ok (.goto 5, 3) := by decide +kernel
theorem dL_refuses_264 : decode cL_refuses 264 = .ok (.iload 6, 2) := by decide +kernel
theorem dL_refuses_266 : decode cL_refuses 266 = .ok (.iconst 0, 1) := by decide +kernel
theorem dL_refuses_267 : decode cL_refuses 267 = .ok (.iconst 0, 1) := by decide +kernel
theorem dL_refuses_268 : decode cL_refuses 268 = .ok (.invokestatic 95, 3) := by decide +kernel
theorem dL_refuses_271 : decode cL_refuses 271 = .ok (.ldc 83, 2) := by decide +kernel
theorem dL_refuses_273 : decode cL_refuses 273 = .ok (.if_icmp .ne 164, 3) := by decide +kernel
theorem dL_refuses_276 : decode cL_refuses 276 = .ok (.aload_n 0, 1) := by decide +kernel
theorem dL_refuses_277 : decode cL_refuses 277 = .ok (.iconst 3, 1) := by decide +kernel
theorem dL_refuses_278 : decode cL_refuses 278 = .ok (.iconst 0, 1) := by decide +kernel
theorem dL_refuses_279 : decode cL_refuses 279 = .ok (.iload 7, 2) := by decide +kernel
theorem dL_refuses_281 : decode cL_refuses 281 = .ok (.iconst 0, 1) := by decide +kernel
theorem dL_refuses_282 : decode cL_refuses 282 = .ok (.invokestatic 95, 3) := by decide +kernel
theorem dL_refuses_285 : decode cL_refuses 285 = .ok (.ldc 83, 2) := by decide +kernel
theorem dL_refuses_287 : decode cL_refuses 287 = .ok (.if_icmp .ne 150, 3) := by decide +kernel
theorem dL_refuses_290 : decode cL_refuses 290 = .ok (.aload_n 0, 1) := by decide +kernel
theorem dL_refuses_291 : decode cL_refuses 291 = .ok (.iconst 3, 1) := by decide +kernel
theorem dL_refuses_292 : decode cL_refuses 292 = .ok (.iconst 0, 1) := by decide +kernel
theorem dL_refuses_293 : decode cL_refuses 293 = .ok (.iconst 0, 1) := by decide +kernel
theorem dL_refuses_294 : decode cL_refuses 294 = .ok (.iload 9, 2) := by decide +kernel
theorem dL_refuses_296 : decode cL_refuses 296 = .ok (.invokestatic 95, 3) := by decide +kernel
theorem dL_refuses_299 : decode cL_refuses 299 = .ok (.ldc 83, 2) := by decide +kernel
theorem dL_refuses_301 : decode cL_refuses 301 = .ok (.if_icmp .ne 136, 3) := by decide +kernel
theorem dL_refuses_304 : decode cL_refuses 304 = .ok (.aload_n 0, 1) := by decide +kernel
theorem dL_refuses_305 : decode cL_refuses 305 = .ok (.iconst 4, 1) := by decide +kernel
theorem dL_refuses_306 : decode cL_refuses 306 = .ok (.iload 5, 2) := by decide +kernel
theorem dL_refuses_308 : decode cL_refuses 308 = .ok (.iconst 1, 1) := by decide +kernel
theorem dL_refuses_309 : decode cL_refuses 309 = .ok (.if_icmp .ne 7, 3) := by decide +kernel
theorem dL_refuses_312 : decode cL_refuses 312 = .ok (.iconst 2, 1) := by decide +kernel
theorem dL_refuses_313 : decode cL_refuses 313 = .ok (.goto 5, 3) := by decide +kernel
theorem dL_refuses_316 : decode cL_refuses 316 = .ok (.iload 6, 2) := by decide +kernel
theorem dL_refuses_318 : decode cL_refuses 318 = .ok (.iconst 0, 1) := by decide +kernel
theorem dL_refuses_319 : decode cL_refuses 319 = .ok (.bipush 99, 2) := by decide +kernel
theorem dL_refuses_321 : decode cL_refuses 321 = .ok (.invokestatic 95, 3) := by decide +kernel
theorem dL_refuses_324 : decode cL_refuses 324 = .ok (.ldc 83, 2) := by decide +kernel
theorem dL_refuses_326 : decode cL_refuses 326 = .ok (.if_icmp .ne 111, 3) := by decide +kernel
theorem dL_refuses_329 : decode cL_refuses 329 = .ok (.aload_n 0, 1) := by decide +kernel
theorem dL_refuses_330 : decode cL_refuses 330 = .ok (.iconst 4, 1) := by decide +kernel
theorem dL_refuses_331 : decode cL_refuses 331 = .ok (.iconst 0, 1) := by decide +kernel
theorem dL_refuses_332 : decode cL_refuses 332 = .ok (.iload 9, 2) := by decide +kernel
theorem dL_refuses_334 : decode cL_refuses 334 = .ok (.bipush 99, 2) := by decide +kernel
theorem dL_refuses_336 : decode cL_refuses 336 = .ok (.invokestatic 95, 3) := by decide +kernel
theorem dL_refuses_339 : decode cL_refuses 339 = .ok (.ldc 83, 2) := by decide +kernel
theorem dL_refuses_341 : decode cL_refuses 341 = .ok (.if_icmp .ne 96, 3) := by decide +kernel
theorem dL_refuses_344 : decode cL_refuses 344 = .ok (.aload_n 0, 1) := by decide +kernel
theorem dL_refuses_345 : decode cL_refuses 345 = .ok (.iconst 4, 1) := by decide +kernel
theorem dL_refuses_346 : decode cL_refuses 346 = .ok (.iconst 0, 1) := by decide +kernel
theorem dL_refuses_347 : decode cL_refuses 347 = .ok (.iconst 0, 1) := by decide +kernel
theorem dL_refuses_348 : decode cL_refuses 348 = .ok (.iload 11, 2) := by decide +kernel
theorem dL_refuses_350 : decode cL_refuses 350 = .ok (.invokestatic 95, 3) := by decide +kernel
theorem dL_refuses_353 : decode cL_refuses 353 = .ok (.ldc 86, 2) := by decide +kernel
theorem dL_refuses_355 : decode cL_refuses 355 = .ok (.if_icmp .ne 82, 3) := by decide +kernel
theorem dL_refuses_358 : decode cL_refuses 358 = .ok (.aload_n 0, 1) := by decide +kernel
theorem dL_refuses_359 : decode cL_refuses 359 = .ok (.iconst 5, 1) := by decide +kernel
theorem dL_refuses_360 : decode cL_refuses 360 = .ok (.iload 7, 2) := by decide +kernel
theorem dL_refuses_362 : decode cL_refuses 362 = .ok (.bipush 99, 2) := by decide +kernel
theorem dL_refuses_364 : decode cL_refuses 364 = .ok (.iconst 0, 1) := by decide +kernel
theorem dL_refuses_365 : decode cL_refuses 365 = .ok (.invokestatic 95, 3) := by decide +kernel
theorem dL_refuses_368 : decode cL_refuses 368 = .ok (.ldc 83, 2) := by decide +kernel
theorem dL_refuses_370 : decode cL_refuses 370 = .ok (.if_icmp .ne 67, 3) := by decide +kernel
theorem dL_refuses_373 : decode cL_refuses 373 = .ok (.aload_n 0, 1) := by decide +kernel
theorem dL_refuses_374 : decode cL_refuses 374 = .ok (.iconst 5, 1) := by decide +kernel
theorem dL_refuses_375 : decode cL_refuses 375 = .ok (.iconst 0, 1) := by decide +kernel
theorem dL_refuses_376 : decode cL_refuses 376 = .ok (.iload 5, 2) := by decide +kernel
theorem dL_refuses_378 : decode cL_refuses 378 = .ok (.ifCond .ne 8, 3) := by decide +kernel
theorem dL_refuses_381 : decode cL_refuses 381 = .ok (.bipush (-21), 2) := by decide +kernel
theorem dL_refuses_383 : decode cL_refuses 383 = .ok (.goto 16, 3) := by decide +kernel
theorem dL_refuses_386 : decode cL_refuses 386 = .ok (.iload 5, 2) := by decide +kernel
theorem dL_refuses_388 : decode cL_refuses 388 = .ok (.iconst 1, 1) := by decide +kernel
theorem dL_refuses_389 : decode cL_refuses 389 = .ok (.if_icmp .ne 8, 3) := by decide +kernel
theorem dL_refuses_392 : decode cL_refuses 392 = .ok (.bipush 21, 2) := by decide +kernel
theorem dL_refuses_394 : decode cL_refuses 394 = .ok (.goto 5, 3) := by decide +kernel
theorem dL_refuses_397 : decode cL_refuses 397 = .ok (.iload 6, 2) := by decide +kernel
theorem dL_refuses_399 : decode cL_refuses 399 = .ok (.iconst 0, 1) := by decide +kernel
theorem dL_refuses_400 : decode cL_refuses 400 = .ok (.invokestatic 95, 3) := by decide +kernel
theorem dL_refuses_403 : decode cL_refuses 403 = .ok (.ldc 86, 2) := by decide +kernel
theorem dL_refuses_405 : decode cL_refuses 405 = .ok (.if_icmp .ne 32, 3) := by decide +kernel
theorem dL_refuses_408 : decode cL_refuses 408 = .ok (.aload_n 0, 1) := by decide +kernel
theorem dL_refuses_409 : decode cL_refuses 409 = .ok (.bipush 6, 2) := by decide +kernel
theorem dL_refuses_411 : decode cL_refuses 411 = .ok (.iload 5, 2) := by decide +kernel
theorem dL_refuses_413 : decode cL_refuses 413 = .ok (.iconst 1, 1) := by decide +kernel
theorem dL_refuses_414 : decode cL_refuses 414 = .ok (.if_icmp .ne 7, 3) := by decide +kernel
theorem dL_refuses_417 : decode cL_refuses 417 = .ok (.iconst 5, 1) := by decide +kernel
theorem dL_refuses_418 : decode cL_refuses 418 = .ok (.goto 5, 3) := by decide +kernel
theorem dL_refuses_421 : decode cL_refuses 421 = .ok (.iload 6, 2) := by decide +kernel
theorem dL_refuses_423 : decode cL_refuses 423 = .ok (.iconst 0, 1) := by decide +kernel
theorem dL_refuses_424 : decode cL_refuses 424 = .ok (.iconst 0, 1) := by decide +kernel
theorem dL_refuses_425 : decode cL_refuses 425 = .ok (.invokestatic 95, 3) := by decide +kernel
theorem dL_refuses_428 : decode cL_refuses 428 = .ok (.ldc 86, 2) := by decide +kernel
theorem dL_refuses_430 : decode cL_refuses 430 = .ok (.if_icmp .ne 7, 3) := by decide +kernel
theorem dL_refuses_433 : decode cL_refuses 433 = .ok (.iconst 1, 1) := by decide +kernel
theorem dL_refuses_434 : decode cL_refuses 434 = .ok (.goto 4, 3) := by decide +kernel
theorem dL_refuses_437 : decode cL_refuses 437 = .ok (.iconst 0, 1) := by decide +kernel
theorem dL_refuses_438 : decode cL_refuses 438 = .ok (.istore 12, 2) := by decide +kernel
theorem dL_refuses_440 : decode cL_refuses 440 = .ok (.bipush 7, 2) := by decide +kernel
theorem dL_refuses_442 : decode cL_refuses 442 = .ok (.istore 13, 2) := by decide +kernel
theorem dL_refuses_444 : decode cL_refuses 444 = .ok (.iload 13, 2) := by decide +kernel
theorem dL_refuses_446 : decode cL_refuses 446 = .ok (.bipush 22, 2) := by decide +kernel
theorem dL_refuses_448 : decode cL_refuses 448 = .ok (.if_icmp .ge 43, 3) := by decide +kernel
theorem dL_refuses_451 : decode cL_refuses 451 = .ok (.iload 12, 2) := by decide +kernel
theorem dL_refuses_453 : decode cL_refuses 453 = .ok (.ifCond .eq 38, 3) := by decide +kernel
theorem dL_refuses_456 : decode cL_refuses 456 = .ok (.iload 13, 2) := by decide +kernel
theorem dL_refuses_458 : decode cL_refuses 458 = .ok (.bipush 16, 2) := by decide +kernel
theorem dL_refuses_460 : decode cL_refuses 460 = .ok (.if_icmp .eq 18, 3) := by decide +kernel
theorem dL_refuses_463 : decode cL_refuses 463 = .ok (.aload_n 0, 1) := by decide +kernel
theorem dL_refuses_464 : decode cL_refuses 464 = .ok (.iload 13, 2) := by decide +kernel
theorem dL_refuses_466 : decode cL_refuses 466 = .ok (.iload 8, 2) := by decide +kernel
theorem dL_refuses_468 : decode cL_refuses 468 = .ok (.iconst 0, 1) := by decide +kernel
theorem dL_refuses_469 : decode cL_refuses 469 = .ok (.iconst 0, 1) := by decide +kernel
theorem dL_refuses_470 : decode cL_refuses 470 = .ok (.invokestatic 95, 3) := by decide +kernel
theorem dL_refuses_473 : decode cL_refuses 473 = .ok (.ldc 83, 2) := by decide +kernel
theorem dL_refuses_475 : decode cL_refuses 475 = .ok (.if_icmp .ne 7, 3) := by decide +kernel
theorem dL_refuses_478 : decode cL_refuses 478 = .ok (.iconst 1, 1) := by decide +kernel
theorem dL_refuses_479 : decode cL_refuses 479 = .ok (.goto 4, 3) := by decide +kernel
theorem dL_refuses_482 : decode cL_refuses 482 = .ok (.iconst 0, 1) := by decide +kernel
theorem dL_refuses_483 : decode cL_refuses 483 = .ok (.istore 12, 2) := by decide +kernel
theorem dL_refuses_485 : decode cL_refuses 485 = .ok (.iinc 13 1, 3) := by decide +kernel
theorem dL_refuses_488 : decode cL_refuses 488 = .ok (.goto (-44), 3) := by decide +kernel
theorem dL_refuses_491 : decode cL_refuses 491 = .ok (.iload 12, 2) := by decide +kernel
theorem dL_refuses_493 : decode cL_refuses 493 = .ok (.ifCond .eq 82, 3) := by decide +kernel
theorem dL_refuses_496 : decode cL_refuses 496 = .ok (.aload_n 0, 1) := by decide +kernel
theorem dL_refuses_497 : decode cL_refuses 497 = .ok (.bipush 7, 2) := by decide +kernel
theorem dL_refuses_499 : decode cL_refuses 499 = .ok (.iconst 0, 1) := by decide +kernel
theorem dL_refuses_500 : decode cL_refuses 500 = .ok (.iload 8, 2) := by decide +kernel
theorem dL_refuses_502 : decode cL_refuses 502 = .ok (.iconst 0, 1) := by decide +kernel
theorem dL_refuses_503 : decode cL_refuses 503 = .ok (.invokestatic 95, 3) := by decide +kernel
theorem dL_refuses_506 : decode cL_refuses 506 = .ok (.ldc 83, 2) := by decide +kernel
theorem dL_refuses_508 : decode cL_refuses 508 = .ok (.if_icmp .ne 67, 3) := by decide +kernel
theorem dL_refuses_511 : decode cL_refuses 511 = .ok (.aload_n 0, 1) := by decide +kernel
theorem dL_refuses_512 : decode cL_refuses 512 = .ok (.bipush 16, 2) := by decide +kernel
theorem dL_refuses_514 : decode cL_refuses 514 = .ok (.iload 7, 2) := by decide +kernel
theorem dL_refuses_516 : decode cL_refuses 516 = .ok (.iconst 0, 1) := by decide +kernel
theorem dL_refuses_517 : decode cL_refuses 517 = .ok (.iconst 0, 1) := by decide +kernel
theorem dL_refuses_518 : decode cL_refuses 518 = .ok (.invokestatic 95, 3) := by decide +kernel
theorem dL_refuses_521 : decode cL_refuses 521 = .ok (.ldc 83, 2) := by decide +kernel
theorem dL_refuses_523 : decode cL_refuses 523 = .ok (.if_icmp .ne 52, 3) := by decide +kernel
theorem dL_refuses_526 : decode cL_refuses 526 = .ok (.aload_n 0, 1) := by decide +kernel
theorem dL_refuses_527 : decode cL_refuses 527 = .ok (.bipush 17, 2) := by decide +kernel
theorem dL_refuses_529 : decode cL_refuses 529 = .ok (.iconst 0, 1) := by decide +kernel
theorem dL_refuses_530 : decode cL_refuses 530 = .ok (.iload 7, 2) := by decide +kernel
theorem dL_refuses_532 : decode cL_refuses 532 = .ok (.iconst 0, 1) := by decide +kernel
theorem dL_refuses_533 : decode cL_refuses 533 = .ok (.invokestatic 95, 3) := by decide +kernel
theorem dL_refuses_536 : decode cL_refuses 536 = .ok (.ldc 83, 2) := by decide +kernel
theorem dL_refuses_538 : decode cL_refuses 538 = .ok (.if_icmp .ne 37, 3) := by decide +kernel
theorem dL_refuses_541 : decode cL_refuses 541 = .ok (.aload_n 0, 1) := by decide +kernel
theorem dL_refuses_542 : decode cL_refuses 542 = .ok (.bipush 20, 2) := by decide +kernel
theorem dL_refuses_544 : decode cL_refuses 544 = .ok (.iconst 0, 1) := by decide +kernel
theorem dL_refuses_545 : decode cL_refuses 545 = .ok (.iload 7, 2) := by decide +kernel
theorem dL_refuses_547 : decode cL_refuses 547 = .ok (.iconst 0, 1) := by decide +kernel
theorem dL_refuses_548 : decode cL_refuses 548 = .ok (.invokestatic 95, 3) := by decide +kernel
theorem dL_refuses_551 : decode cL_refuses 551 = .ok (.ldc 83, 2) := by decide +kernel
theorem dL_refuses_553 : decode cL_refuses 553 = .ok (.if_icmp .ne 22, 3) := by decide +kernel
theorem dL_refuses_556 : decode cL_refuses 556 = .ok (.aload_n 0, 1) := by decide +kernel
theorem dL_refuses_557 : decode cL_refuses 557 = .ok (.bipush 21, 2) := by decide +kernel
theorem dL_refuses_559 : decode cL_refuses 559 = .ok (.iconst 0, 1) := by decide +kernel
theorem dL_refuses_560 : decode cL_refuses 560 = .ok (.iload 7, 2) := by decide +kernel
theorem dL_refuses_562 : decode cL_refuses 562 = .ok (.iconst 0, 1) := by decide +kernel
theorem dL_refuses_563 : decode cL_refuses 563 = .ok (.invokestatic 95, 3) := by decide +kernel
theorem dL_refuses_566 : decode cL_refuses 566 = .ok (.ldc 83, 2) := by decide +kernel
theorem dL_refuses_568 : decode cL_refuses 568 = .ok (.if_icmp .ne 7, 3) := by decide +kernel
theorem dL_refuses_571 : decode cL_refuses 571 = .ok (.iconst 1, 1) := by decide +kernel
theorem dL_refuses_572 : decode cL_refuses 572 = .ok (.goto 4, 3) := by decide +kernel
theorem dL_refuses_575 : decode cL_refuses 575 = .ok (.iconst 0, 1) := by decide +kernel
theorem dL_refuses_576 : decode cL_refuses 576 = .ok (.istore 12, 2) := by decide +kernel
theorem dL_refuses_578 : decode cL_refuses 578 = .ok (.iload 12, 2) := by decide +kernel
theorem dL_refuses_580 : decode cL_refuses 580 = .ok (.ifCond .eq 97, 3) := by decide +kernel
theorem dL_refuses_583 : decode cL_refuses 583 = .ok (.iload_n 2, 1) := by decide +kernel
theorem dL_refuses_584 : decode cL_refuses 584 = .ok (.ifCond .eq 89, 3) := by decide +kernel
theorem dL_refuses_587 : decode cL_refuses 587 = .ok (.aload_n 0, 1) := by decide +kernel
theorem dL_refuses_588 : decode cL_refuses 588 = .ok (.bipush 8, 2) := by decide +kernel
theorem dL_refuses_590 : decode cL_refuses 590 = .ok (.iconst 0, 1) := by decide +kernel
theorem dL_refuses_591 : decode cL_refuses 591 = .ok (.iload 10, 2) := by decide +kernel
theorem dL_refuses_593 : decode cL_refuses 593 = .ok (.iconst 0, 1) := by decide +kernel
theorem dL_refuses_594 : decode cL_refuses 594 = .ok (.invokestatic 95, 3) := by decide +kernel
theorem dL_refuses_597 : decode cL_refuses 597 = .ok (.ldc 86, 2) := by decide +kernel
theorem dL_refuses_599 : decode cL_refuses 599 = .ok (.if_icmp .ne 78, 3) := by decide +kernel
theorem dL_refuses_602 : decode cL_refuses 602 = .ok (.aload_n 0, 1) := by decide +kernel
theorem dL_refuses_603 : decode cL_refuses 603 = .ok (.bipush 9, 2) := by decide +kernel
theorem dL_refuses_605 : decode cL_refuses 605 = .ok (.iconst 0, 1) := by decide +kernel
theorem dL_refuses_606 : decode cL_refuses 606 = .ok (.iload 5, 2) := by decide +kernel
theorem dL_refuses_608 : decode cL_refuses 608 = .ok (.iconst 1, 1) := by decide +kernel
theorem dL_refuses_609 : decode cL_refuses 609 = .ok (.if_icmp .ne 8, 3) := by decide +kernel
theorem dL_refuses_612 : decode cL_refuses 612 = .ok (.bipush 101, 2) := by decide +kernel
theorem dL_refuses_614 : decode cL_refuses 614 = .ok (.goto 5, 3) := by decide +kernel
theorem dL_refuses_617 : decode cL_refuses 617 = .ok (.iload 6, 2) := by decide +kernel
theorem dL_refuses_619 : decode cL_refuses 619 = .ok (.iconst 0, 1) := by decide +kernel
theorem dL_refuses_620 : decode cL_refuses 620 = .ok (.invokestatic 95, 3) := by decide +kernel
theorem dL_refuses_623 : decode cL_refuses 623 = .ok (.ldc 86, 2) := by decide +kernel
theorem dL_refuses_625 : decode cL_refuses 625 = .ok (.if_icmp .ne 52, 3) := by decide +kernel
theorem dL_refuses_628 : decode cL_refuses 628 = .ok (.aload_n 0, 1) := by decide +kernel
theorem dL_refuses_629 : decode cL_refuses 629 = .ok (.bipush 10, 2) := by decide +kernel
theorem dL_refuses_631 : decode cL_refuses 631 = .ok (.iconst 0, 1) := by decide +kernel
theorem dL_refuses_632 : decode cL_refuses 632 = .ok (.iload 10, 2) := by decide +kernel
theorem dL_refuses_634 : decode cL_refuses 634 = .ok (.iconst 0, 1) := by decide +kernel
theorem dL_refuses_635 : decode cL_refuses 635 = .ok (.invokestatic 95, 3) := by decide +kernel
theorem dL_refuses_638 : decode cL_refuses 638 = .ok (.ldc 86, 2) := by decide +kernel
theorem dL_refuses_640 : decode cL_refuses 640 = .ok (.if_icmp .ne 37, 3) := by decide +kernel
theorem dL_refuses_643 : decode cL_refuses 643 = .ok (.aload_n 0, 1) := by decide +kernel
theorem dL_refuses_644 : decode cL_refuses 644 = .ok (.bipush 18, 2) := by decide +kernel
theorem dL_refuses_646 : decode cL_refuses 646 = .ok (.iconst 0, 1) := by decide +kernel
theorem dL_refuses_647 : decode cL_refuses 647 = .ok (.iload 11, 2) := by decide +kernel
theorem dL_refuses_649 : decode cL_refuses 649 = .ok (.iconst 0, 1) := by decide +kernel
theorem dL_refuses_650 : decode cL_refuses 650 = .ok (.invokestatic 95, 3) := by decide +kernel
theorem dL_refuses_653 : decode cL_refuses 653 = .ok (.ldc 86, 2) := by decide +kernel
theorem dL_refuses_655 : decode cL_refuses 655 = .ok (.if_icmp .ne 22, 3) := by decide +kernel
theorem dL_refuses_658 : decode cL_refuses 658 = .ok (.aload_n 0, 1) := by decide +kernel
theorem dL_refuses_659 : decode cL_refuses 659 = .ok (.bipush 19, 2) := by decide +kernel
theorem dL_refuses_661 : decode cL_refuses 661 = .ok (.iconst 0, 1) := by decide +kernel
theorem dL_refuses_662 : decode cL_refuses 662 = .ok (.iload 11, 2) := by decide +kernel
theorem dL_refuses_664 : decode cL_refuses 664 = .ok (.iconst 0, 1) := by decide +kernel
theorem dL_refuses_665 : decode cL_refuses 665 = .ok (.invokestatic 95, 3) := by decide +kernel
theorem dL_refuses_668 : decode cL_refuses 668 = .ok (.ldc 86, 2) := by decide +kernel
theorem dL_refuses_670 : decode cL_refuses 670 = .ok (.if_icmp .ne 7, 3) := by decide +kernel
theorem dL_refuses_673 : decode cL_refuses 673 = .ok (.iconst 1, 1) := by decide +kernel
theorem dL_refuses_674 : decode cL_refuses 674 = .ok (.goto 4, 3) := by decide +kernel
theorem dL_refuses_677 : decode cL_refuses 677 = .ok (.iconst 0, 1) := by decide +kernel
theorem dL_refuses_678 : decode cL_refuses 678 = .ok (.istore 12, 2) := by decide +kernel
theorem dL_refuses_680 : decode cL_refuses 680 = .ok (.iload 12, 2) := by decide +kernel
theorem dL_refuses_682 : decode cL_refuses 682 = .ok (.ifCond .ne 5, 3) := by decide +kernel
theorem dL_refuses_685 : decode cL_refuses 685 = .ok (.iconst 0, 1) := by decide +kernel
theorem dL_refuses_686 : decode cL_refuses 686 = .ok (.ireturn, 1) := by decide +kernel
theorem dL_refuses_687 : decode cL_refuses 687 = .ok (.iinc 5 1, 3) := by decide +kernel
theorem dL_refuses_690 : decode cL_refuses 690 = .ok (.goto (-678), 3) := by decide +kernel
theorem dL_refuses_693 : decode cL_refuses 693 = .ok (.aload_n 0, 1) := by decide +kernel
theorem dL_refuses_694 : decode cL_refuses 694 = .ok (.invokevirtual 91, 3) := by decide +kernel
theorem dL_refuses_697 : decode cL_refuses 697 = .ok (.iload 4, 2) := by decide +kernel
theorem dL_refuses_699 : decode cL_refuses 699 = .ok (.if_icmp .ne 30, 3) := by decide +kernel
theorem dL_refuses_702 : decode cL_refuses 702 = .ok (.aload_n 0, 1) := by decide +kernel
theorem dL_refuses_703 : decode cL_refuses 703 = .ok (.invokevirtual 101, 3) := by decide +kernel
theorem dL_refuses_706 : decode cL_refuses 706 = .ok (.iload 4, 2) := by decide +kernel
theorem dL_refuses_708 : decode cL_refuses 708 = .ok (.if_icmp .ne 21, 3) := by decide +kernel
theorem dL_refuses_711 : decode cL_refuses 711 = .ok (.aload_n 0, 1) := by decide +kernel
theorem dL_refuses_712 : decode cL_refuses 712 = .ok (.bipush 10, 2) := by decide +kernel
theorem dL_refuses_714 : decode cL_refuses 714 = .ok (.iload_n 2, 1) := by decide +kernel
theorem dL_refuses_715 : decode cL_refuses 715 = .ok (.iconst 0, 1) := by decide +kernel
theorem dL_refuses_716 : decode cL_refuses 716 = .ok (.iconst 0, 1) := by decide +kernel
theorem dL_refuses_717 : decode cL_refuses 717 = .ok (.invokestatic 95, 3) := by decide +kernel
theorem dL_refuses_720 : decode cL_refuses 720 = .ok (.ldc 83, 2) := by decide +kernel
theorem dL_refuses_722 : decode cL_refuses 722 = .ok (.if_icmp .ne 7, 3) := by decide +kernel
theorem dL_refuses_725 : decode cL_refuses 725 = .ok (.iconst 1, 1) := by decide +kernel
theorem dL_refuses_726 : decode cL_refuses 726 = .ok (.goto 4, 3) := by decide +kernel
theorem dL_refuses_729 : decode cL_refuses 729 = .ok (.iconst 0, 1) := by decide +kernel
theorem dL_refuses_730 : decode cL_refuses 730 = .ok (.ireturn, 1) := by decide +kernel
set_option maxRecDepth 20000 in
theorem ggL_least_X0_least : GoodIn wsL_least wsX0_least := goodIn_ca (goodIn_ca (goodIn_r _ [5, 6, 7, 8, 4, 9, 10, 11, 12, 13, 14, 15, 16, 17, 18, 19, 20, 21, 22, 23, 24, 25, 26, 27, 28, 29, 30, 31, 32, 33, 34, 35, 36, 37, 38, 39, 40, 41, 42, 43, 44, 45, 46, 47, 48, 49, 50, 51, 52, 53, 54, 55, 56, 57, 58, 59, 60, 61, 62, 63, 64, 65, 66, 67, 68, 69, 70, 83, 84, 85, 86, 87, 88, 89, 90, 91, 92, 93, 94] (by decide +kernel) (by decide +kernel)) (goodIn_sub (fun _ h => List.mem_cons_of_mem _ (List.mem_append_left _ (List.mem_append_right _ h))) (by decide +kernel))) (goodIn_sub (fun _ h => List.mem_cons_of_mem _ (List.mem_append_right _ h)) (by decide +kernel))
set_option maxRecDepth 20000 in
theorem gL_least_X0_least : GoodIn wsL_least (wsV RL 53 RX0 yX0_least wsX0_least) := goodIn_app (goodIn_of _ (by decide +kernel)) ggL_least_X0_least
set_option maxRecDepth 20000 in
theorem ggL_least_X0_leastSet : GoodIn wsL_least wsX0_leastSet := goodIn_ca (goodIn_ca (goodIn_r _ [74, 6, 7, 8, 4, 9, 10, 11, 12, 13, 14, 15, 16, 17, 18, 19, 20, 21, 22, 23, 24, 25, 26, 27, 28, 29, 30, 31, 32, 33, 34, 35, 36, 37, 38, 39, 40, 41, 42, 43, 44, 45, 46, 47, 48, 49, 50, 51, 52, 53, 54, 55, 56, 57, 58, 59, 60, 61, 62, 63, 64, 65, 66, 67, 68, 69, 70, 83, 84, 85, 86, 87, 88, 89, 90, 91, 92, 93, 94] (by decide +kernel) (by decide +kernel)) (goodIn_sub (fun _ h => List.mem_cons_of_mem _ (List.mem_append_left _ (List.mem_append_right _ h))) (by decide +kernel))) (goodIn_sub (fun _ h => List.mem_cons_of_mem _ (List.mem_append_right _ h)) (by decide +kernel))
set_option maxRecDepth 20000 in
theorem gL_least_X0_leastSet : GoodIn wsL_least (wsV RL 56 RX0 yX0_leastSet wsX0_leastSet) := goodIn_app (goodIn_of _ (by decide +kernel)) ggL_least_X0_leastSet
set_option maxRecDepth 20000 in
theorem ggL_least_X0_leastSetAnew : GoodIn wsL_least wsX0_leastSetAnew := goodIn_ca (goodIn_ca (goodIn_r _ [78, 79, 80, 81, 82, 6, 7, 8, 4, 9, 10, 11, 12, 13, 14, 15, 16, 17, 18, 19, 20, 21, 22, 23, 24, 25, 26, 27, 28, 29, 30, 31, 32, 33, 34, 35, 36, 37, 38, 39, 40, 41, 42, 43, 44, 45, 46, 47, 48, 49, 50, 51, 83, 84, 85, 86, 87, 88, 89, 90, 91, 92, 93, 94] (by decide +kernel) (by decide +kernel)) (goodIn_sub (fun _ h => List.mem_cons_of_mem _ (List.mem_append_left _ (List.mem_append_right _ h))) (by decide +kernel))) (goodIn_sub (fun _ h => List.mem_cons_of_mem _ (List.mem_append_right _ h)) (by decide +kernel))
set_option maxRecDepth 20000 in
theorem gL_least_X0_leastSetAnew : GoodIn wsL_least (wsV RL 60 RX0 yX0_leastSetAnew wsX0_leastSetAnew) := goodIn_app (goodIn_of _ (by decide +kernel)) ggL_least_X0_leastSetAnew
theorem dL_least_0 : decode cL_least 0 = .ok (.aload_n 0, 1) := by decide +kernel
theorem dL_least_1 : decode cL_least 1 = .ok (.iload_n 1, 1) := by decide +kernel
theorem dL_least_2 : decode cL_least 2 = .ok (.invokevirtual 53, 3) := by decide +kernel
theorem dL_least_5 : decode cL_least 5 = .ok (.iload_n 2, 1) := by decide +kernel
theorem dL_least_6 : decode cL_least 6 = .ok (.if_icmp .ne 49, 3) := by decide +kernel
theorem dL_least_9 : decode cL_least 9 = .ok (.aload_n 0, 1) := by decide +kernel
theorem dL_least_10 : decode cL_least 10 = .ok (.iload_n 1, 1) := by decide +kernel
theorem dL_least_11 : decode cL_least 11 = .ok (.iconst 0, 1) := by decide +kernel
theorem dL_least_12 : decode cL_least 12 = .ok (.invokevirtual 56, 3) := by decide +kernel
theorem dL_least_15 : decode cL_least 15 = .ok (.iload_n 3, 1) := by decide +kernel
theorem dL_least_16 : decode cL_least 16 = .ok (.if_icmp .ne 39, 3) := by decide +kernel
theorem dL_least_19 : decode cL_least 19 = .ok (.aload_n 0, 1) := by decide +kernel
theorem dL_least_20 : decode cL_least 20 = .ok (.iload_n 1, 1) := by decide +kernel
theorem dL_least_21 : decode cL_least 21 = .ok (.iconst 1, 1) := by decide +kernel
theorem dL_least_22 : decode cL_least 22 = .ok (.invokevirtual 56, 3) := by decide +kernel
theorem dL_least_25 : decode cL_least 25 = .ok (.iload 4, 2) := by decide +kernel
theorem dL_least_27 : decode cL_least 27 = .ok (.if_icmp .ne 28, 3) := by decide +kernel
theorem dL_least_30 : decode cL_least 30 = .ok (.aload_n 0, 1) := by decide +kernel
theorem dL_least_31 : decode cL_least 31 = .ok (.iload_n 1, 1) := by decide +kernel
theorem dL_least_32 : decode cL_least 32 = .ok (.iconst 0, 1) := by decide +kernel
theorem dL_least_33 : decode cL_least 33 = .ok (.invokevirtual 60, 3) := by decide +kernel
theorem dL_least_36 : decode cL_least 36 = .ok (.iload_n 3, 1) := by decide +kernel
theorem dL_least_37 : decode cL_least 37 = .ok (.if_icmp .ne 18, 3) := by decide +kernel
theorem dL_least_40 : decode cL_least 40 = .ok (.aload_n 0, 1) := by decide +kernel
theorem dL_least_41 : decode cL_least 41 = .ok (.iload_n 1, 1) := by decide +kernel
theorem dL_least_42 : decode cL_least 42 = .ok (.iconst 1, 1) := by decide +kernel
theorem dL_least_43 : decode cL_least 43 = .ok (.invokevirtual 60, 3) := by decide +kernel
theorem dL_least_46 : decode cL_least 46 = .ok (.iload 4, 2) := by decide +kernel
theorem dL_least_48 : decode cL_least 48 = .ok (.if_icmp .ne 7, 3) := by decide +kernel
theorem dL_least_51 : decode cL_least 51 = .ok (.iconst 1, 1) := by decide +kernel
theorem dL_least_52 : decode cL_least 52 = .ok (.goto 4, 3) := by decide +kernel
theorem dL_least_55 : decode cL_least 55 = .ok (.iconst 0, 1) := by decide +kernel
theorem dL_least_56 : decode cL_least 56 = .ok (.ireturn, 1) := by decide +kernel
set_option maxRecDepth 20000 in
theorem ggL_share_X0_share : GoodIn wsL_share wsX0_share := goodIn_ca (goodIn_r _ [5, 6, 7, 8, 9, 4, 10, 11, 12, 13, 14, 15, 16, 17, 18, 19, 20, 21, 22, 23, 24, 25, 26, 27, 28, 29, 30, 31, 32, 33, 34, 35, 36, 37, 38, 39, 40, 41, 42, 43, 44, 45, 46, 47, 48, 49, 50, 51, 52, 61, 62, 63, 64, 65, 66, 67, 68, 69, 70, 71, 72] (by decide +kernel) (by decide +kernel)) (goodIn_sub (fun _ h => List.mem_cons_of_mem _ (List.mem_append_right _ h)) (by decide +kernel))
set_option maxRecDepth 20000 in
theorem gL_share_X0_share : GoodIn wsL_share (wsV RL 75 RX0 yX0_share wsX0_share) := goodIn_app (goodIn_of _ (by decide +kernel)) ggL_share_X0_share
set_option maxRecDepth 20000 in
theorem ggL_share_X0_shareAnew : GoodIn wsL_share wsX0_shareAnew := goodIn_ca (goodIn_r _ [56, 7, 8, 9, 4, 10, 11, 12, 13, 14, 15, 6, 16, 17, 18, 19, 20, 57, 58, 59, 60, 25, 26, 27, 38, 39, 40, 41, 42, 43, 44, 45, 46, 47, 48, 49, 50, 51, 52, 61, 62, 63, 64, 65, 66, 67, 68, 69, 70, 71, 72] (by decide +kernel) (by decide +kernel)) (goodIn_sub (fun _ h => List.mem_cons_of_mem _ (List.mem_append_right _ h)) (by decide +kernel))
set_option maxRecDepth 20000 in
theorem gL_share_X0_shareAnew : GoodIn wsL_share (wsV RL 78 RX0 yX0_shareAnew wsX0_shareAnew) := goodIn_app (goodIn_of _ (by decide +kernel)) ggL_share_X0_shareAnew
theorem dL_share_0 : decode cL_share 0 = .ok (.aload_n 0, 1) := by decide +kernel
theorem dL_share_1 : decode cL_share 1 = .ok (.iload_n 1, 1) := by decide +kernel
theorem dL_share_2 : decode cL_share 2 = .ok (.iload_n 2, 1) := by decide +kernel
theorem dL_share_3 : decode cL_share 3 = .ok (.invokevirtual 75, 3) := by decide +kernel
theorem dL_share_6 : decode cL_share 6 = .ok (.iload_n 3, 1) := by decide +kernel
theorem dL_share_7 : decode cL_share 7 = .ok (.if_icmp .ne 17, 3) := by decide +kernel
theorem dL_share_10 : decode cL_share 10 = .ok (.aload_n 0, 1) := by decide +kernel
theorem dL_share_11 : decode cL_share 11 = .ok (.iload_n 1, 1) := by decide +kernel
theorem dL_share_12 : decode cL_share 12 = .ok (.iload_n 2, 1) := by decide +kernel
theorem dL_share_13 : decode cL_share 13 = .ok (.invokevirtual 78, 3) := by decide +kernel
theorem dL_share_16 : decode cL_share 16 = .ok (.iload_n 3, 1) := by decide +kernel
theorem dL_share_17 : decode cL_share 17 = .ok (.if_icmp .ne 7, 3) := by decide +kernel
theorem dL_share_20 : decode cL_share 20 = .ok (.iconst 1, 1) := by decide +kernel
theorem dL_share_21 : decode cL_share 21 = .ok (.goto 4, 3) := by decide +kernel
theorem dL_share_24 : decode cL_share 24 = .ok (.iconst 0, 1) := by decide +kernel
theorem dL_share_25 : decode cL_share 25 = .ok (.ireturn, 1) := by decide +kernel
end
section
set_option maxRecDepth 20000 in
theorem ggL_guild_X0_init : GoodIn wsL_guild wsX0_init := goodIn_r _ [7, 8, 9, 10, 11, 12, 13, 14, 15, 16, 17, 18, 19, 20, 21, 22, 23, 24, 25, 26, 27, 348, 349, 350, 351, 352, 353, 354, 355, 356, 357, 358, 359] (by decide +kernel) (by decide +kernel)
set_option maxRecDepth 20000 in
theorem gL_guild_X0_init : GoodIn wsL_guild (wsX0_init) := ggL_guild_X0_init
set_option maxRecDepth 20000 in
theorem ggL_guild_L_refuses : GoodIn wsL_guild wsL_refuses := goodIn_ca (goodIn_ca (goodIn_ca (goodIn_r _ [31, 32, 33, 34, 35, 36, 37, 3, 38, 11, 39, 40, 41, 42, 23, 43, 44, 45, 46, 22, 24, 25, 26, 27, 47, 48, 49, 50, 51, 52, 53, 54, 17, 55, 56, 57, 58, 59, 60, 61, 62, 63, 64, 65, 66, 67, 68, 18, 69, 70, 71, 72, 73, 74, 75, 76, 77, 78, 79, 80, 81, 82, 83, 84, 85, 86, 87, 88, 89, 90, 91, 92, 30, 93, 94, 95, 96, 4, 97, 98, 99, 100, 12, 13, 15, 16, 19, 101, 102, 103, 104, 105, 106, 107, 108, 109, 110, 111, 112, 113, 114, 115, 116, 117, 118, 119, 120, 121, 122, 123, 124, 125, 126, 127, 128, 129, 130, 131, 132, 133, 134, 135, 136, 137, 138, 139, 140, 141, 142, 143, 144, 145, 146, 147, 148, 149, 150, 151, 152, 153, 154, 155, 156, 157, 158, 159, 160, 161, 162, 163, 164, 165, 166, 167, 168, 169, 170, 171, 172, 173, 174, 175, 176, 177, 178, 179, 180, 181, 182, 183, 184, 185, 186, 187, 188, 189, 190, 191, 192, 193, 194, 195, 196, 197, 198, 20, 199, 200, 201, 202, 203, 204, 205, 206, 207, 208, 209, 210, 211, 212, 213, 214, 215, 216, 217, 218, 219, 220, 221, 222, 223, 224, 225, 226, 227, 228, 229, 230, 231, 232, 233, 234, 235, 236, 237, 238, 239, 240, 241, 242, 243, 244, 245, 246, 247, 248, 249, 250, 251, 252, 253, 254, 255, 256, 257, 258, 259, 260, 261, 262, 263, 264, 265, 266, 267, 268, 269, 270, 271, 272, 273, 274, 275, 276, 277, 278, 279, 280, 281, 282, 21, 283, 284, 285, 286, 287, 288, 289, 290, 291, 292, 293, 294, 295, 296, 297, 298, 299, 300, 301, 302, 303, 304, 305, 306, 307, 308, 309, 310, 311, 312, 313, 314, 315, 316, 317, 318, 319, 320, 321, 322, 323, 324, 325, 326, 327, 328, 329, 330, 331, 332, 348, 349, 350, 351, 352, 353, 354, 355, 356, 357, 358, 359] rfl (by decide +kernel)) (goodIn_sub (fun _ h => List.mem_cons_of_mem _ (List.mem_append_left _ (List.mem_append_left _ (List.mem_append_right _ h)))) (by decide +kernel))) (goodIn_sub (fun _ h => List.mem_cons_of_mem _ (List.mem_append_left _ (List.mem_append_right _ h))) (by decide +kernel))) (goodIn_sub (fun _ h => List.mem_cons_of_mem _ (List.mem_append_right _ h)) (by decide +kernel))
set_option maxRecDepth 20000 in
theorem gL_guild_L_refuses : GoodIn wsL_guild (va_wsS RL 105 yL_refuses wsL_refuses) := goodIn_app (goodIn_of _ (by decide +kernel)) ggL_guild_L_refuses
set_option maxRecDepth 20000 in
theorem ggL_guild_X0_common : GoodIn wsL_guild wsX0_common := goodIn_r _ [38, 11, 39, 40, 41, 3, 42, 23, 43, 44, 45, 46, 22, 24, 25, 26, 27, 47, 48, 49, 50, 51, 52, 53, 54, 17, 55, 56, 57, 58, 59, 60, 61, 62, 63, 64, 65, 66, 67, 68, 18, 69, 70, 71, 72, 73, 74, 75, 76, 77, 78, 79, 80, 81, 82, 83, 84, 85, 86, 87, 88, 89, 90, 348, 349, 350, 351, 352, 353, 354, 355, 356, 357, 358, 359] (by decide +kernel) (by decide +kernel)
set_option maxRecDepth 20000 in
theorem gL_guild_X0_common : GoodIn wsL_guild (wsV RL 91 RX0 yX0_common wsX0_common) := goodIn_app (goodIn_of _ (by decide +kernel)) ggL_guild_X0_common
set_option maxRecDepth 20000 in
theorem ggL_guild_X0_cover : GoodIn wsL_guild wsX0_cover := goodIn_ca (goodIn_r _ [112, 15, 113, 114, 115, 3, 116, 11, 101, 102, 103, 117, 118, 119, 120, 121, 55, 56, 57, 122, 123, 124, 125, 126, 127, 69, 70, 71, 58, 59, 60, 348, 349, 350, 351, 352, 353, 354, 355, 356, 357, 358, 359] (by decide +kernel) (by decide +kernel)) (goodIn_sub (fun _ h => List.mem_cons_of_mem _ (List.mem_append_left _ (List.mem_append_right _ h))) (by decide +kernel))
set_option maxRecDepth 20000 in
theorem gL_guild_X0_cover : GoodIn wsL_guild (wsV RL 13 RX0 yX0_cover wsX0_cover) := goodIn_app (goodIn_of _ (by decide +kernel)) ggL_guild_X0_cover
set_option maxRecDepth 20000 in
theorem ggL_guild_X0_make : GoodIn wsL_guild wsX0_make := goodIn_ca (goodIn_ca (goodIn_r _ [157, 101, 102, 3, 103, 104, 105, 106, 107, 108, 158, 159, 160, 161, 12, 162, 163, 164, 165, 166, 167, 168, 169, 170, 11, 171, 172, 173, 174, 175, 176, 177, 178, 15, 58, 59, 60, 55, 56, 57, 80, 81, 82, 83, 84, 85, 86, 179, 180, 181, 182, 132, 133, 134, 135, 16, 183, 184, 185, 186, 187, 188, 189, 190, 61, 62, 63, 64, 51, 52, 53, 54, 17, 65, 66, 67, 68, 18, 191, 192, 193, 194, 19, 195, 196, 197, 198, 20, 69, 70, 71, 199, 200, 201, 202, 348, 349, 350, 351, 352, 353, 354, 355, 356, 357, 358, 359] (by decide +kernel) (by decide +kernel)) (goodIn_sub (fun _ h => List.mem_cons_of_mem _ (List.mem_append_left _ (List.mem_append_left _ (List.mem_append_right _ h)))) (by decide +kernel))) (goodIn_sub (fun _ h => List.mem_cons_of_mem _ (List.mem_append_right _ h)) (by decide +kernel))
set_option maxRecDepth 20000 in
theorem gL_guild_X0_make : GoodIn wsL_guild (wsV RL 31 RX0 yX0_make wsX0_make) := goodIn_app (goodIn_of _ (by decide +kernel)) ggL_guild_X0_make
set_option maxRecDepth 20000 in
theorem ggL_guild_X0_value : GoodIn wsL_guild wsX0_value := goodIn_ca (goodIn_ca (goodIn_r _ [230, 207, 208, 209, 3, 210, 12, 117, 118, 119, 120, 121, 219, 220, 221, 222, 167, 168, 169, 170, 11, 104, 105, 106, 107, 108, 211, 212, 213, 214, 20, 55, 56, 57, 348, 349, 350, 351, 352, 353, 354, 355, 356, 357, 358, 359] (by decide +kernel) (by decide +kernel)) (goodIn_sub (fun _ h => List.mem_cons_of_mem _ (List.mem_append_left _ (List.mem_append_right _ h))) (by decide +kernel))) (goodIn_sub (fun _ h => List.mem_cons_of_mem _ (List.mem_append_left _ (List.mem_append_left _ (List.mem_append_right _ h)))) (by decide +kernel))
set_option maxRecDepth 20000 in
theorem gL_guild_X0_value : GoodIn wsL_guild (wsV RL 43 RX0 yX0_value wsX0_value) := goodIn_app (goodIn_of _ (by decide +kernel)) ggL_guild_X0_value
set_option maxRecDepth 20000 in
theorem ggL_guild_X0_isLawful : GoodIn wsL_guild wsX0_isLawful := goodIn_ca (goodIn_r _ [234, 207, 208, 209, 3, 210, 12, 117, 118, 119, 120, 121, 235, 236, 237, 238, 167, 168, 169, 170, 11, 239, 240, 241, 242, 58, 59, 60, 243, 244, 245, 246, 122, 123, 124, 211, 212, 213, 214, 20, 55, 56, 57, 348, 349, 350, 351, 352, 353, 354, 355, 356, 357, 358, 359] (by decide +kernel) (by decide +kernel)) (goodIn_sub (fun _ h => List.mem_cons_of_mem _ (List.mem_append_left _ (List.mem_append_right _ h))) (by decide +kernel))
set_option maxRecDepth 20000 in
theorem gL_guild_X0_isLawful : GoodIn wsL_guild (wsV RL 46 RX0 yX0_isLawful wsX0_isLawful) := goodIn_app (goodIn_of _ (by decide +kernel)) ggL_guild_X0_isLawful
set_option maxRecDepth 20000 in
theorem ggL_guild_X0_rises : GoodIn wsL_guild wsX0_rises := goodIn_ca (goodIn_r _ [250, 11, 207, 208, 209, 3, 210, 12, 117, 118, 119, 120, 121, 167, 168, 169, 170, 243, 244, 245, 246, 122, 123, 124, 211, 212, 213, 214, 20, 55, 56, 57, 348, 349, 350, 351, 352, 353, 354, 355, 356, 357, 358, 359] (by decide +kernel) (by decide +kernel)) (goodIn_sub (fun _ h => List.mem_cons_of_mem _ (List.mem_append_left _ (List.mem_append_right _ h))) (by decide +kernel))
set_option maxRecDepth 20000 in
theorem gL_guild_X0_rises : GoodIn wsL_guild (wsV RL 50 RX0 yX0_rises wsX0_rises) := goodIn_app (goodIn_of _ (by decide +kernel)) ggL_guild_X0_rises
set_option maxRecDepth 20000 in
theorem ggL_guild_L_least : GoodIn wsL_guild wsL_least := goodIn_ca (goodIn_ca (goodIn_r _ [335, 251, 252, 253, 3, 254, 207, 208, 209, 210, 12, 117, 118, 119, 120, 121, 235, 236, 237, 238, 167, 168, 169, 170, 11, 239, 240, 241, 242, 58, 59, 60, 243, 244, 245, 246, 122, 123, 124, 211, 212, 213, 214, 20, 55, 56, 57, 162, 163, 164, 165, 166, 255, 256, 257, 258, 259, 260, 261, 262, 263, 264, 265, 266, 125, 126, 127, 267, 268, 269, 270, 271, 272, 273, 274, 275, 276, 277, 278, 187, 188, 189, 190, 348, 349, 350, 351, 352, 353, 354, 355, 356, 357, 358, 359] rfl (by decide +kernel)) (goodIn_sub (fun _ h => List.mem_cons_of_mem _ (List.mem_append_left _ (List.mem_append_right _ h))) (by decide +kernel))) (goodIn_sub (fun _ h => List.mem_cons_of_mem _ (List.mem_append_right _ h)) (by decide +kernel))
set_option maxRecDepth 20000 in
theorem gL_guild_L_least : GoodIn wsL_guild (va_wsS RL 109 yL_least wsL_least) := goodIn_app (goodIn_of _ (by decide +kernel)) ggL_guild_L_least
set_option maxRecDepth 20000 in
theorem ggL_guild_X0_edge : GoodIn wsL_guild wsX0_edge := goodIn_ca (goodIn_ca (goodIn_r _ [131, 16, 113, 114, 115, 3, 116, 11, 117, 118, 119, 120, 121, 101, 102, 103, 104, 105, 106, 107, 108, 132, 133, 134, 135, 55, 56, 57, 69, 70, 71, 348, 349, 350, 351, 352, 353, 354, 355, 356, 357, 358, 359] (by decide +kernel) (by decide +kernel)) (goodIn_sub (fun _ h => List.mem_cons_of_mem _ (List.mem_append_left _ (List.mem_append_right _ h))) (by decide +kernel))) (goodIn_sub (fun _ h => List.mem_cons_of_mem _ (List.mem_append_left _ (List.mem_append_left _ (List.mem_append_right _ h)))) (by decide +kernel))
set_option maxRecDepth 20000 in
theorem gL_guild_X0_edge : GoodIn wsL_guild (wsV RL 17 RX0 yX0_edge wsX0_edge) := goodIn_app (goodIn_of _ (by decide +kernel)) ggL_guild_X0_edge
set_option maxRecDepth 20000 in
theorem ggL_guild_X0_weigh : GoodIn wsL_guild wsX0_weigh := goodIn_ca (goodIn_ca (goodIn_r _ [153, 19, 113, 114, 115, 3, 116, 11, 117, 118, 119, 120, 121, 101, 102, 103, 104, 105, 106, 107, 108, 55, 56, 57, 69, 70, 71, 348, 349, 350, 351, 352, 353, 354, 355, 356, 357, 358, 359] (by decide +kernel) (by decide +kernel)) (goodIn_sub (fun _ h => List.mem_cons_of_mem _ (List.mem_append_left _ (List.mem_append_right _ h))) (by decide +kernel))) (goodIn_sub (fun _ h => List.mem_cons_of_mem _ (List.mem_append_left _ (List.mem_append_left _ (List.mem_append_right _ h)))) (by decide +kernel))
set_option maxRecDepth 20000 in
theorem gL_guild_X0_weigh : GoodIn wsL_guild (wsV RL 27 RX0 yX0_weigh wsX0_weigh) := goodIn_app (goodIn_of _ (by decide +kernel)) ggL_guild_X0_weigh
set_option maxRecDepth 20000 in
theorem ggL_guild_X0_sum : GoodIn wsL_guild wsX0_sum := goodIn_ca (goodIn_ca (goodIn_r _ [206, 207, 208, 209, 3, 210, 12, 117, 118, 119, 120, 121, 158, 159, 160, 161, 162, 163, 164, 165, 166, 167, 168, 169, 170, 11, 211, 212, 213, 214, 20, 55, 56, 57, 195, 196, 197, 198, 69, 70, 71, 199, 200, 201, 202, 348, 349, 350, 351, 352, 353, 354, 355, 356, 357, 358, 359] (by decide +kernel) (by decide +kernel)) (goodIn_sub (fun _ h => List.mem_cons_of_mem _ (List.mem_append_left _ (List.mem_append_right _ h))) (by decide +kernel))) (goodIn_sub (fun _ h => List.mem_cons_of_mem _ (List.mem_append_right _ h)) (by decide +kernel))
set_option maxRecDepth 20000 in
theorem gL_guild_X0_sum : GoodIn wsL_guild (wsV RL 34 RX0 yX0_sum wsX0_sum) := goodIn_app (goodIn_of _ (by decide +kernel)) ggL_guild_X0_sum
set_option maxRecDepth 20000 in
theorem ggL_guild_X0_contract : GoodIn wsL_guild wsX0_contract := goodIn_ca (goodIn_ca (goodIn_ca (goodIn_r _ [218, 207, 208, 209, 3, 210, 12, 117, 118, 119, 120, 121, 219, 220, 221, 222, 167, 168, 169, 170, 11, 104, 105, 106, 107, 108, 158, 159, 160, 161, 162, 163, 164, 165, 166, 211, 212, 213, 214, 20, 55, 56, 57, 195, 196, 197, 198, 69, 70, 71, 199, 200, 201, 202, 348, 349, 350, 351, 352, 353, 354, 355, 356, 357, 358, 359] (by decide +kernel) (by decide +kernel)) (goodIn_sub (fun _ h => List.mem_cons_of_mem _ (List.mem_append_left _ (List.mem_append_right _ h))) (by decide +kernel))) (goodIn_sub (fun _ h => List.mem_cons_of_mem _ (List.mem_append_left _ (List.mem_append_left _ (List.mem_append_right _ h)))) (by decide +kernel))) (goodIn_sub (fun _ h => List.mem_cons_of_mem _ (List.mem_append_right _ h)) (by decide +kernel))
set_option maxRecDepth 20000 in
theorem gL_guild_X0_contract : GoodIn wsL_guild (wsV RL 37 RX0 yX0_contract wsX0_contract) := goodIn_app (goodIn_of _ (by decide +kernel)) ggL_guild_X0_contract
set_option maxRecDepth 20000 in
theorem ggL_guild_X0_cap : GoodIn wsL_guild wsX0_cap := goodIn_ca (goodIn_ca (goodIn_ca (goodIn_r _ [226, 187, 188, 189, 190, 207, 208, 209, 3, 210, 12, 117, 118, 119, 120, 121, 101, 102, 103, 104, 105, 106, 107, 108, 158, 159, 160, 161, 162, 163, 164, 165, 166, 167, 168, 169, 170, 11, 211, 212, 213, 214, 20, 55, 56, 57, 195, 196, 197, 198, 69, 70, 71, 199, 200, 201, 202, 348, 349, 350, 351, 352, 353, 354, 355, 356, 357, 358, 359] (by decide +kernel) (by decide +kernel)) (goodIn_sub (fun _ h => List.mem_cons_of_mem _ (List.mem_append_left _ (List.mem_append_right _ h))) (by decide +kernel))) (goodIn_sub (fun _ h => List.mem_cons_of_mem _ (List.mem_append_left _ (List.mem_append_left _ (List.mem_append_right _ h)))) (by decide +kernel))) (goodIn_sub (fun _ h => List.mem_cons_of_mem _ (List.mem_append_right _ h)) (by decide +kernel))
set_option maxRecDepth 20000 in
theorem gL_guild_X0_cap : GoodIn wsL_guild (wsV RL 40 RX0 yX0_cap wsX0_cap) := goodIn_app (goodIn_of _ (by decide +kernel)) ggL_guild_X0_cap
set_option maxRecDepth 20000 in
theorem ggL_guild_L_act : GoodIn wsL_guild wsL_act := goodIn_ca (goodIn_ca (goodIn_ca (goodIn_r _ [93, 94, 95, 96, 34, 33, 4, 97, 98, 99, 3, 100, 11, 12, 13, 15, 16, 17, 18, 19, 101, 102, 103, 104, 105, 106, 107, 108, 24, 25, 26, 27, 109, 110, 111, 112, 113, 114, 115, 116, 117, 118, 119, 120, 121, 55, 56, 57, 122, 123, 124, 125, 126, 127, 69, 70, 71, 58, 59, 60, 128, 129, 130, 131, 132, 133, 134, 135, 136, 137, 138, 139, 140, 141, 142, 143, 144, 145, 51, 52, 53, 54, 146, 147, 148, 149, 65, 66, 67, 68, 150, 151, 152, 153, 154, 155, 156, 157, 158, 159, 160, 161, 162, 163, 164, 165, 166, 167, 168, 169, 170, 171, 172, 173, 174, 175, 176, 177, 178, 80, 81, 82, 83, 84, 85, 86, 179, 180, 181, 182, 183, 184, 185, 186, 187, 188, 189, 190, 61, 62, 63, 64, 191, 192, 193, 194, 195, 196, 197, 198, 20, 199, 200, 201, 202, 203, 204, 205, 206, 207, 208, 209, 210, 211, 212, 213, 214, 215, 216, 217, 218, 219, 220, 221, 222, 223, 224, 225, 226, 227, 228, 229, 230, 231, 232, 233, 234, 235, 236, 237, 238, 239, 240, 241, 242, 243, 244, 245, 246, 247, 248, 249, 250, 251, 252, 253, 254, 255, 256, 257, 258, 259, 260, 261, 262, 263, 264, 265, 266, 267, 268, 269, 270, 271, 272, 273, 274, 275, 276, 277, 278, 279, 280, 281, 282, 21, 283, 284, 285, 286, 287, 288, 289, 290, 291, 292, 293, 294, 295, 296, 297, 298, 299, 300, 301, 302, 303, 304, 305, 306, 307, 308, 309, 310, 311, 312, 313, 314, 315, 316, 317, 318, 319, 320, 321, 322, 323, 324, 348, 349, 350, 351, 352, 353, 354, 355, 356, 357, 358, 359] rfl (by decide +kernel)) (goodIn_sub (fun _ h => List.mem_cons_of_mem _ (List.mem_append_left _ (List.mem_append_left _ (List.mem_append_right _ h)))) (by decide +kernel))) (goodIn_sub (fun _ h => List.mem_cons_of_mem _ (List.mem_append_left _ (List.mem_append_right _ h))) (by decide +kernel))) (goodIn_sub (fun _ h => List.mem_cons_of_mem _ (List.mem_append_right _ h)) (by decide +kernel))
set_option maxRecDepth 20000 in
theorem gL_guild_L_act : GoodIn wsL_guild (va_wsS RL 95 yL_act wsL_act) := goodIn_app (goodIn_of _ (by decide +kernel)) ggL_guild_L_act
set_option maxRecDepth 20000 in
theorem ggL_guild_X0_colour : GoodIn wsL_guild wsX0_colour := goodIn_ca (goodIn_r _ [139, 17, 140, 141, 3, 142, 113, 114, 115, 116, 11, 143, 144, 145, 117, 118, 119, 120, 121, 51, 52, 53, 54, 55, 56, 57, 69, 70, 71, 348, 349, 350, 351, 352, 353, 354, 355, 356, 357, 358, 359] (by decide +kernel) (by decide +kernel)) (goodIn_sub (fun _ h => List.mem_cons_of_mem _ (List.mem_append_left _ (List.mem_append_right _ h))) (by decide +kernel))
set_option maxRecDepth 20000 in
theorem gL_guild_X0_colour : GoodIn wsL_guild (wsV RL 21 RX0 yX0_colour wsX0_colour) := goodIn_app (goodIn_of _ (by decide +kernel)) ggL_guild_X0_colour
set_option maxRecDepth 20000 in
theorem ggL_guild_X0_room : GoodIn wsL_guild wsX0_room := goodIn_ca (goodIn_ca (goodIn_r _ [149, 18, 140, 141, 3, 142, 143, 144, 145, 117, 118, 119, 120, 121, 101, 102, 103, 104, 105, 106, 107, 108, 65, 66, 67, 68, 55, 56, 57, 69, 70, 71, 348, 349, 350, 351, 352, 353, 354, 355, 356, 357, 358, 359] (by decide +kernel) (by decide +kernel)) (goodIn_sub (fun _ h => List.mem_cons_of_mem _ (List.mem_append_left _ (List.mem_append_right _ h))) (by decide +kernel))) (goodIn_sub (fun _ h => List.mem_cons_of_mem _ (List.mem_append_left _ (List.mem_append_left _ (List.mem_append_right _ h)))) (by decide +kernel))
set_option maxRecDepth 20000 in
theorem gL_guild_X0_room : GoodIn wsL_guild (wsV RL 24 RX0 yX0_room wsX0_room) := goodIn_app (goodIn_of _ (by decide +kernel)) ggL_guild_X0_room
set_option maxRecDepth 20000 in
theorem ggL_guild_L_greed : GoodIn wsL_guild wsL_greed := goodIn_ca (goodIn_ca (goodIn_r _ [338, 295, 296, 297, 3, 298, 207, 208, 209, 210, 12, 117, 118, 119, 120, 121, 101, 102, 103, 104, 105, 106, 107, 108, 299, 300, 301, 302, 11, 243, 244, 245, 246, 122, 123, 124, 211, 212, 213, 214, 20, 55, 56, 57, 303, 304, 305, 306, 307, 308, 189, 309, 167, 168, 169, 170, 80, 81, 82, 83, 84, 85, 86, 35, 36, 37, 38, 39, 40, 41, 42, 23, 43, 44, 45, 46, 22, 24, 25, 26, 27, 47, 48, 49, 50, 51, 52, 53, 54, 17, 58, 59, 60, 61, 62, 63, 64, 65, 66, 67, 68, 18, 69, 70, 71, 72, 73, 74, 75, 76, 77, 78, 79, 87, 88, 89, 90, 136, 137, 138, 139, 140, 141, 142, 113, 114, 115, 116, 143, 144, 145, 325, 326, 327, 328, 329, 330, 331, 332, 146, 147, 148, 149, 339, 340, 30, 341, 310, 311, 312, 313, 314, 315, 316, 317, 318, 319, 320, 321, 322, 323, 324, 348, 349, 350, 351, 352, 353, 354, 355, 356, 357, 358, 359] rfl (by decide +kernel)) (goodIn_sub (fun _ h => List.mem_cons_of_mem _ (List.mem_append_left _ (List.mem_append_right _ h))) (by decide +kernel))) (goodIn_sub (fun _ h => List.mem_cons_of_mem _ (List.mem_append_left _ (List.mem_append_left _ (List.mem_append_right _ h)))) (by decide +kernel))
set_option maxRecDepth 20000 in
theorem gL_guild_L_greed : GoodIn wsL_guild (va_wsS RL 112 yL_greed wsL_greed) := goodIn_app (goodIn_of _ (by decide +kernel)) ggL_guild_L_greed
set_option maxRecDepth 20000 in
theorem ggL_guild_L_orders : GoodIn wsL_guild wsL_orders := goodIn_ca (goodIn_ca (goodIn_ca (goodIn_r _ [344, 4, 34, 91, 92, 30, 93, 94, 95, 96, 33, 97, 98, 99, 3, 100, 11, 12, 13, 15, 16, 17, 18, 19, 101, 102, 103, 104, 105, 106, 107, 108, 24, 25, 26, 27, 109, 110, 111, 112, 113, 114, 115, 116, 117, 118, 119, 120, 121, 55, 56, 57, 122, 123, 124, 125, 126, 127, 69, 70, 71, 58, 59, 60, 128, 129, 130, 131, 132, 133, 134, 135, 136, 137, 138, 139, 140, 141, 142, 143, 144, 145, 51, 52, 53, 54, 146, 147, 148, 149, 65, 66, 67, 68, 150, 151, 152, 153, 154, 155, 156, 157, 158, 159, 160, 161, 162, 163, 164, 165, 166, 167, 168, 169, 170, 171, 172, 173, 174, 175, 176, 177, 178, 80, 81, 82, 83, 84, 85, 86, 179, 180, 181, 182, 183, 184, 185, 186, 187, 188, 189, 190, 61, 62, 63, 64, 191, 192, 193, 194, 195, 196, 197, 198, 20, 199, 200, 201, 202, 203, 204, 205, 206, 207, 208, 209, 210, 211, 212, 213, 214, 215, 216, 217, 218, 219, 220, 221, 222, 223, 224, 225, 226, 227, 228, 229, 230, 231, 232, 233, 234, 235, 236, 237, 238, 239, 240, 241, 242, 243, 244, 245, 246, 247, 248, 249, 250, 251, 252, 253, 254, 255, 256, 257, 258, 259, 260, 261, 262, 263, 264, 265, 266, 267, 268, 269, 270, 271, 272, 273, 274, 275, 276, 277, 278, 279, 280, 281, 282, 21, 283, 284, 285, 286, 287, 288, 289, 290, 291, 292, 293, 294, 295, 296, 297, 298, 299, 300, 301, 302, 303, 304, 305, 306, 307, 308, 309, 310, 311, 312, 313, 314, 315, 316, 317, 318, 319, 320, 321, 322, 323, 324, 28, 29, 31, 32, 35, 36, 37, 38, 39, 40, 41, 42, 23, 43, 44, 45, 46, 22, 47, 48, 49, 50, 72, 73, 74, 75, 76, 77, 78, 79, 87, 88, 89, 90, 325, 326, 327, 328, 329, 330, 331, 332, 348, 349, 350, 351, 352, 353, 354, 355, 356, 357, 358, 359] rfl (by decide +kernel)) (goodIn_sub (fun _ h => List.mem_cons_of_mem _ (List.mem_append_left _ (List.mem_append_left _ (List.mem_append_right _ h)))) (by decide +kernel))) (goodIn_sub (fun _ h => List.mem_cons_of_mem _ (List.mem_append_left _ (List.mem_append_right _ h))) (by decide +kernel))) (goodIn_sub (fun _ h => List.mem_cons_of_mem _ (List.mem_append_right _ h)) (by decide +kernel))
set_option maxRecDepth 20000 in
theorem gL_guild_L_orders : GoodIn wsL_guild (va_wsS RL 116 yL_orders wsL_orders) := goodIn_app (goodIn_of _ (by decide +kernel)) ggL_guild_L_orders
set_option maxRecDepth 20000 in
theorem ggL_guild_L_six : GoodIn wsL_guild wsL_six := goodIn_ca (goodIn_ca (goodIn_ca (goodIn_r _ [347, 1, 2, 3, 5, 6, 7, 8, 9, 10, 11, 12, 13, 14, 15, 16, 17, 18, 19, 20, 21, 22, 23, 24, 25, 26, 27, 97, 98, 99, 100, 101, 102, 103, 104, 105, 106, 107, 108, 150, 151, 152, 153, 113, 114, 115, 116, 117, 118, 119, 120, 121, 55, 56, 57, 69, 70, 71, 154, 155, 156, 157, 158, 159, 160, 161, 162, 163, 164, 165, 166, 167, 168, 169, 170, 171, 172, 173, 174, 175, 176, 177, 178, 58, 59, 60, 80, 81, 82, 83, 84, 85, 86, 179, 180, 181, 182, 132, 133, 134, 135, 183, 184, 185, 186, 187, 188, 189, 190, 61, 62, 63, 64, 51, 52, 53, 54, 65, 66, 67, 68, 191, 192, 193, 194, 195, 196, 197, 198, 199, 200, 201, 202, 231, 232, 233, 234, 207, 208, 209, 210, 235, 236, 237, 238, 239, 240, 241, 242, 243, 244, 245, 246, 122, 123, 124, 211, 212, 213, 214, 333, 334, 30, 335, 251, 252, 253, 254, 255, 256, 257, 258, 259, 260, 261, 262, 263, 264, 265, 266, 125, 126, 127, 267, 268, 269, 270, 271, 272, 273, 274, 275, 276, 277, 278, 339, 340, 341, 310, 311, 312, 313, 314, 315, 316, 317, 318, 319, 320, 321, 322, 323, 324, 295, 296, 297, 298, 299, 300, 301, 302, 279, 280, 281, 282, 283, 284, 285, 286, 287, 288, 289, 290, 291, 292, 293, 294, 28, 29, 31, 32, 33, 34, 35, 36, 37, 38, 39, 40, 41, 42, 43, 44, 45, 46, 47, 48, 49, 50, 72, 73, 74, 75, 76, 77, 78, 79, 87, 88, 89, 90, 91, 92, 93, 94, 95, 96, 4, 109, 110, 111, 112, 128, 129, 130, 131, 136, 137, 138, 139, 140, 141, 142, 143, 144, 145, 146, 147, 148, 149, 203, 204, 205, 206, 215, 216, 217, 218, 219, 220, 221, 222, 223, 224, 225, 226, 227, 228, 229, 230, 247, 248, 249, 250, 303, 304, 305, 306, 307, 308, 309, 325, 326, 327, 328, 329, 330, 331, 332, 348, 349, 350, 351, 352, 353, 354, 355, 356, 357, 358, 359] rfl (by decide +kernel)) (goodIn_sub (fun _ h => List.mem_cons_of_mem _ (List.mem_append_left _ (List.mem_append_left _ (List.mem_append_right _ h)))) (by decide +kernel))) (goodIn_sub (fun _ h => List.mem_cons_of_mem _ (List.mem_append_left _ (List.mem_append_right _ h))) (by decide +kernel))) (goodIn_sub (fun _ h => List.mem_cons_of_mem _ (List.mem_append_right _ h)) (by decide +kernel))
set_option maxRecDepth 20000 in
theorem gL_guild_L_six : GoodIn wsL_guild (va_wsS RL 119 yL_six wsL_six) := goodIn_app (goodIn_of _ (by decide +kernel)) ggL_guild_L_six
theorem dL_guild_0 : decode cL_guild 0 = .ok (.new 8, 3) := by decide +kernel
theorem dL_guild_3 : decode cL_guild 3 = .ok (.dup, 1) := by decide +kernel
theorem dL_guild_4 : decode cL_guild 4 = .ok (.invokespecial 104, 3) := by decide +kernel
theorem dL_guild_7 : decode cL_guild 7 = .ok (.astore_n 0, 1) := by decide +kernel
theorem dL_guild_8 : decode cL_guild 8 = .ok (.aload_n 0, 1) := by decide +kernel
theorem dL_guild_9 : decode cL_guild 9 = .ok (.iconst 4, 1) := by decide +kernel
theorem dL_guild_10 : decode cL_guild 10 = .ok (.iconst 0, 1) := by decide +kernel
theorem dL_guild_11 : decode cL_guild 11 = .ok (.invokestatic 105, 3) := by decide +kernel
theorem dL_guild_14 : decode cL_guild 14 = .ok (.ifCond .eq 201, 3) := by decide +kernel
theorem dL_guild_17 : decode cL_guild 17 = .ok (.aload_n 0, 1) := by decide +kernel
theorem dL_guild_18 : decode cL_guild 18 = .ok (.invokevirtual 91, 3) := by decide +kernel
theorem dL_guild_21 : decode cL_guild 21 = .ok (.iconst 1, 1) := by decide +kernel
theorem dL_guild_22 : decode cL_guild 22 = .ok (.if_icmp .ne 193, 3) := by decide +kernel
theorem dL_guild_25 : decode cL_guild 25 = .ok (.aload_n 0, 1) := by decide +kernel
theorem dL_guild_26 : decode cL_guild 26 = .ok (.iconst 0, 1) := by decide +kernel
theorem dL_guild_27 : decode cL_guild 27 = .ok (.iconst 0, 1) := by decide +kernel
theorem dL_guild_28 : decode cL_guild 28 = .ok (.iconst 1, 1) := by decide +kernel
theorem dL_guild_29 : decode cL_guild 29 = .ok (.invokevirtual 13, 3) := by decide +kernel
theorem dL_guild_32 : decode cL_guild 32 = .ok (.ifCond .ne 183, 3) := by decide +kernel
theorem dL_guild_35 : decode cL_guild 35 = .ok (.aload_n 0, 1) := by decide +kernel
theorem dL_guild_36 : decode cL_guild 36 = .ok (.iconst 0, 1) := by decide +kernel
theorem dL_guild_37 : decode cL_guild 37 = .ok (.iconst 1, 1) := by decide +kernel
theorem dL_guild_38 : decode cL_guild 38 = .ok (.iconst 1, 1) := by decide +kernel
theorem dL_guild_39 : decode cL_guild 39 = .ok (.invokevirtual 13, 3) := by decide +kernel
theorem dL_guild_42 : decode cL_guild 42 = .ok (.ifCond .ne 173, 3) := by decide +kernel
theorem dL_guild_45 : decode cL_guild 45 = .ok (.aload_n 0, 1) := by decide +kernel
theorem dL_guild_46 : decode cL_guild 46 = .ok (.iconst 1, 1) := by decide +kernel
theorem dL_guild_47 : decode cL_guild 47 = .ok (.iconst 1, 1) := by decide +kernel
theorem dL_guild_48 : decode cL_guild 48 = .ok (.iconst 1, 1) := by decide +kernel
theorem dL_guild_49 : decode cL_guild 49 = .ok (.invokevirtual 13, 3) := by decide +kernel
theorem dL_guild_52 : decode cL_guild 52 = .ok (.ifCond .ne 163, 3) := by decide +kernel
theorem dL_guild_55 : decode cL_guild 55 = .ok (.aload_n 0, 1) := by decide +kernel
theorem dL_guild_56 : decode cL_guild 56 = .ok (.iconst 1, 1) := by decide +kernel
theorem dL_guild_57 : decode cL_guild 57 = .ok (.iconst 2, 1) := by decide +kernel
theorem dL_guild_58 : decode cL_guild 58 = .ok (.iconst 1, 1) := by decide +kernel
theorem dL_guild_59 : decode cL_guild 59 = .ok (.invokevirtual 13, 3) := by decide +kernel
theorem dL_guild_62 : decode cL_guild 62 = .ok (.ifCond .ne 153, 3) := by decide +kernel
theorem dL_guild_65 : decode cL_guild 65 = .ok (.aload_n 0, 1) := by decide +kernel
theorem dL_guild_66 : decode cL_guild 66 = .ok (.iconst 2, 1) := by decide +kernel
theorem dL_guild_67 : decode cL_guild 67 = .ok (.iconst 2, 1) := by decide +kernel
theorem dL_guild_68 : decode cL_guild 68 = .ok (.iconst 1, 1) := by decide +kernel
theorem dL_guild_69 : decode cL_guild 69 = .ok (.invokevirtual 13, 3) := by decide +kernel
theorem dL_guild_72 : decode cL_guild 72 = .ok (.ifCond .ne 143, 3) := by decide +kernel
theorem dL_guild_75 : decode cL_guild 75 = .ok (.aload_n 0, 1) := by decide +kernel
theorem dL_guild_76 : decode cL_guild 76 = .ok (.iconst 3, 1) := by decide +kernel
theorem dL_guild_77 : decode cL_guild 77 = .ok (.bipush 9, 2) := by decide +kernel
theorem dL_guild_79 : decode cL_guild 79 = .ok (.iconst 1, 1) := by decide +kernel
theorem dL_guild_80 : decode cL_guild 80 = .ok (.invokevirtual 13, 3) := by decide +kernel
theorem dL_guild_83 : decode cL_guild 83 = .ok (.ifCond .ne 132, 3) := by decide +kernel
theorem dL_guild_86 : decode cL_guild 86 = .ok (.aload_n 0, 1) := by decide +kernel
theorem dL_guild_87 : decode cL_guild 87 = .ok (.iconst 3, 1) := by decide +kernel
theorem dL_guild_88 : decode cL_guild 88 = .ok (.bipush 8, 2) := by decide +kernel
theorem dL_guild_90 : decode cL_guild 90 = .ok (.iconst 1, 1) := by decide +kernel
theorem dL_guild_91 : decode cL_guild 91 = .ok (.invokevirtual 13, 3) := by decide +kernel
theorem dL_guild_94 : decode cL_guild 94 = .ok (.ifCond .ne 121, 3) := by decide +kernel
theorem dL_guild_97 : decode cL_guild 97 = .ok (.aload_n 0, 1) := by decide +kernel
theorem dL_guild_98 : decode cL_guild 98 = .ok (.iconst 3, 1) := by decide +kernel
theorem dL_guild_99 : decode cL_guild 99 = .ok (.bipush 8, 2) := by decide +kernel
theorem dL_guild_101 : decode cL_guild 101 = .ok (.iconst 0, 1) := by decide +kernel
theorem dL_guild_102 : decode cL_guild 102 = .ok (.invokevirtual 13, 3) := by decide +kernel
theorem dL_guild_105 : decode cL_guild 105 = .ok (.ifCond .eq 110, 3) := by decide +kernel
theorem dL_guild_108 : decode cL_guild 108 = .ok (.aload_n 0, 1) := by decide +kernel
theorem dL_guild_109 : decode cL_guild 109 = .ok (.iconst 3, 1) := by decide +kernel
theorem dL_guild_110 : decode cL_guild 110 = .ok (.bipush 9, 2) := by decide +kernel
theorem dL_guild_112 : decode cL_guild 112 = .ok (.iconst 1, 1) := by decide +kernel
theorem dL_guild_113 : decode cL_guild 113 = .ok (.invokevirtual 13, 3) := by decide +kernel
theorem dL_guild_116 : decode cL_guild 116 = .ok (.ifCond .eq 99, 3) := by decide +kernel
theorem dL_guild_119 : decode cL_guild 119 = .ok (.aload_n 0, 1) := by decide +kernel
theorem dL_guild_120 : decode cL_guild 120 = .ok (.iconst 0, 1) := by decide +kernel
theorem dL_guild_121 : decode cL_guild 121 = .ok (.invokevirtual 31, 3) := by decide +kernel
theorem dL_guild_124 : decode cL_guild 124 = .ok (.ifCond .ne 91, 3) := by decide +kernel
theorem dL_guild_127 : decode cL_guild 127 = .ok (.aload_n 0, 1) := by decide +kernel
theorem dL_guild_128 : decode cL_guild 128 = .ok (.iconst 0, 1) := by decide +kernel
theorem dL_guild_129 : decode cL_guild 129 = .ok (.iconst 0, 1) := by decide +kernel
theorem dL_guild_130 : decode cL_guild 130 = .ok (.invokevirtual 43, 3) := by decide +kernel
theorem dL_guild_133 : decode cL_guild 133 = .ok (.ifCond .ne 82, 3) := by decide +kernel
theorem dL_guild_136 : decode cL_guild 136 = .ok (.aload_n 0, 1) := by decide +kernel
theorem dL_guild_137 : decode cL_guild 137 = .ok (.iconst 0, 1) := by decide +kernel
theorem dL_guild_138 : decode cL_guild 138 = .ok (.iconst 3, 1) := by decide +kernel
theorem dL_guild_139 : decode cL_guild 139 = .ok (.invokevirtual 43, 3) := by decide +kernel
theorem dL_guild_142 : decode cL_guild 142 = .ok (.iconst 3, 1) := by decide +kernel
theorem dL_guild_143 : decode cL_guild 143 = .ok (.if_icmp .ne 72, 3) := by decide +kernel
theorem dL_guild_146 : decode cL_guild 146 = .ok (.aload_n 0, 1) := by decide +kernel
theorem dL_guild_147 : decode cL_guild 147 = .ok (.iconst 0, 1) := by decide +kernel
theorem dL_guild_148 : decode cL_guild 148 = .ok (.bipush 6, 2) := by decide +kernel
theorem dL_guild_150 : decode cL_guild 150 = .ok (.invokevirtual 43, 3) := by decide +kernel
theorem dL_guild_153 : decode cL_guild 153 = .ok (.iconst 2, 1) := by decide +kernel
theorem dL_guild_154 : decode cL_guild 154 = .ok (.if_icmp .ne 61, 3) := by decide +kernel
theorem dL_guild_157 : decode cL_guild 157 = .ok (.aload_n 0, 1) := by decide +kernel
theorem dL_guild_158 : decode cL_guild 158 = .ok (.iconst 0, 1) := by decide +kernel
theorem dL_guild_159 : decode cL_guild 159 = .ok (.bipush 15, 2) := by decide +kernel
theorem dL_guild_161 : decode cL_guild 161 = .ok (.invokevirtual 43, 3) := by decide +kernel
theorem dL_guild_164 : decode cL_guild 164 = .ok (.iconst 4, 1) := by decide +kernel
theorem dL_guild_165 : decode cL_guild 165 = .ok (.if_icmp .ne 50, 3) := by decide +kernel
theorem dL_guild_168 : decode cL_guild 168 = .ok (.aload_n 0, 1) := by decide +kernel
theorem dL_guild_169 : decode cL_guild 169 = .ok (.iconst 0, 1) := by decide +kernel
theorem dL_guild_170 : decode cL_guild 170 = .ok (.invokevirtual 46, 3) := by decide +kernel
theorem dL_guild_173 : decode cL_guild 173 = .ok (.ifCond .eq 42, 3) := by decide +kernel
theorem dL_guild_176 : decode cL_guild 176 = .ok (.aload_n 0, 1) := by decide +kernel
theorem dL_guild_177 : decode cL_guild 177 = .ok (.iconst 0, 1) := by decide +kernel
theorem dL_guild_178 : decode cL_guild 178 = .ok (.invokevirtual 50, 3) := by decide +kernel
theorem dL_guild_181 : decode cL_guild 181 = .ok (.ifCond .eq 34, 3) := by decide +kernel
theorem dL_guild_184 : decode cL_guild 184 = .ok (.aload_n 0, 1) := by decide +kernel
theorem dL_guild_185 : decode cL_guild 185 = .ok (.iconst 0, 1) := by decide +kernel
theorem dL_guild_186 : decode cL_guild 186 = .ok (.iconst 0, 1) := by decide +kernel
theorem dL_guild_187 : decode cL_guild 187 = .ok (.iconst 0, 1) := by decide +kernel
theorem dL_guild_188 : decode cL_guild 188 = .ok (.iconst 0, 1) := by decide +kernel
theorem dL_guild_189 : decode cL_guild 189 = .ok (.invokestatic 109, 3) := by decide +kernel
theorem dL_guild_192 : decode cL_guild 192 = .ok (.ifCond .eq 23, 3) := by decide +kernel
theorem dL_guild_195 : decode cL_guild 195 = .ok (.aload_n 0, 1) := by decide +kernel
theorem dL_guild_196 : decode cL_guild 196 = .ok (.iconst 0, 1) := by decide +kernel
theorem dL_guild_197 : decode cL_guild 197 = .ok (.iconst 0, 1) := by decide +kernel
theorem dL_guild_198 : decode cL_guild 198 = .ok (.iconst 0, 1) := by decide +kernel
theorem dL_guild_199 : decode cL_guild 199 = .ok (.invokevirtual 13, 3) := by decide +kernel
theorem dL_guild_202 : decode cL_guild 202 = .ok (.ifCond .eq 13, 3) := by decide +kernel
theorem dL_guild_205 : decode cL_guild 205 = .ok (.aload_n 0, 1) := by decide +kernel
theorem dL_guild_206 : decode cL_guild 206 = .ok (.iconst 0, 1) := by decide +kernel
theorem dL_guild_207 : decode cL_guild 207 = .ok (.iconst 1, 1) := by decide +kernel
theorem dL_guild_208 : decode cL_guild 208 = .ok (.invokevirtual 43, 3) := by decide +kernel
theorem dL_guild_211 : decode cL_guild 211 = .ok (.iconst 2, 1) := by decide +kernel
theorem dL_guild_212 : decode cL_guild 212 = .ok (.if_icmp .eq 5, 3) := by decide +kernel
theorem dL_guild_215 : decode cL_guild 215 = .ok (.iconst 0, 1) := by decide +kernel
theorem dL_guild_216 : decode cL_guild 216 = .ok (.ireturn, 1) := by decide +kernel
theorem dL_guild_217 : decode cL_guild 217 = .ok (.aload_n 0, 1) := by decide +kernel
theorem dL_guild_218 : decode cL_guild 218 = .ok (.iconst 0, 1) := by decide +kernel
theorem dL_guild_219 : decode cL_guild 219 = .ok (.iconst 1, 1) := by decide +kernel
theorem dL_guild_220 : decode cL_guild 220 = .ok (.iconst 4, 1) := by decide +kernel
theorem dL_guild_221 : decode cL_guild 221 = .ok (.invokevirtual 17, 3) := by decide +kernel
theorem dL_guild_224 : decode cL_guild 224 = .ok (.ifCond .ne 226, 3) := by decide +kernel
theorem dL_guild_227 : decode cL_guild 227 = .ok (.aload_n 0, 1) := by decide +kernel
theorem dL_guild_228 : decode cL_guild 228 = .ok (.iconst 1, 1) := by decide +kernel
theorem dL_guild_229 : decode cL_guild 229 = .ok (.iconst 0, 1) := by decide +kernel
theorem dL_guild_230 : decode cL_guild 230 = .ok (.iconst 5, 1) := by decide +kernel
theorem dL_guild_231 : decode cL_guild 231 = .ok (.invokevirtual 17, 3) := by decide +kernel
theorem dL_guild_234 : decode cL_guild 234 = .ok (.iconst 4, 1) := by decide +kernel
theorem dL_guild_235 : decode cL_guild 235 = .ok (.if_icmp .ne 215, 3) := by decide +kernel
theorem dL_guild_238 : decode cL_guild 238 = .ok (.aload_n 0, 1) := by decide +kernel
theorem dL_guild_239 : decode cL_guild 239 = .ok (.iconst 1, 1) := by decide +kernel
theorem dL_guild_240 : decode cL_guild 240 = .ok (.iconst 2, 1) := by decide +kernel
theorem dL_guild_241 : decode cL_guild 241 = .ok (.iconst 3, 1) := by decide +kernel
theorem dL_guild_242 : decode cL_guild 242 = .ok (.invokevirtual 17, 3) := by decide +kernel
theorem dL_guild_245 : decode cL_guild 245 = .ok (.ifCond .ne 205, 3) := by decide +kernel
theorem dL_guild_248 : decode cL_guild 248 = .ok (.aload_n 0, 1) := by decide +kernel
theorem dL_guild_249 : decode cL_guild 249 = .ok (.iconst 0, 1) := by decide +kernel
theorem dL_guild_250 : decode cL_guild 250 = .ok (.iconst 3, 1) := by decide +kernel
theorem dL_guild_251 : decode cL_guild 251 = .ok (.iconst 2, 1) := by decide +kernel
theorem dL_guild_252 : decode cL_guild 252 = .ok (.invokevirtual 17, 3) := by decide +kernel
theorem dL_guild_255 : decode cL_guild 255 = .ok (.ifCond .ne 195, 3) := by decide +kernel
theorem dL_guild_258 : decode cL_guild 258 = .ok (.aload_n 0, 1) := by decide +kernel
theorem dL_guild_259 : decode cL_guild 259 = .ok (.iconst 1, 1) := by decide +kernel
theorem dL_guild_260 : decode cL_guild 260 = .ok (.invokevirtual 31, 3) := by decide +kernel
theorem dL_guild_263 : decode cL_guild 263 = .ok (.iconst 1, 1) := by decide +kernel
theorem dL_guild_264 : decode cL_guild 264 = .ok (.if_icmp .ne 186, 3) := by decide +kernel
theorem dL_guild_267 : decode cL_guild 267 = .ok (.aload_n 0, 1) := by decide +kernel
theorem dL_guild_268 : decode cL_guild 268 = .ok (.iconst 1, 1) := by decide +kernel
theorem dL_guild_269 : decode cL_guild 269 = .ok (.iconst 1, 1) := by decide +kernel
theorem dL_guild_270 : decode cL_guild 270 = .ok (.invokevirtual 43, 3) := by decide +kernel
theorem dL_guild_273 : decode cL_guild 273 = .ok (.bipush 7, 2) := by decide +kernel
theorem dL_guild_275 : decode cL_guild 275 = .ok (.if_icmp .ne 175, 3) := by decide +kernel
theorem dL_guild_278 : decode cL_guild 278 = .ok (.aload_n 0, 1) := by decide +kernel
theorem dL_guild_279 : decode cL_guild 279 = .ok (.iconst 1, 1) := by decide +kernel
theorem dL_guild_280 : decode cL_guild 280 = .ok (.iconst 2, 1) := by decide +kernel
theorem dL_guild_281 : decode cL_guild 281 = .ok (.invokevirtual 43, 3) := by decide +kernel
theorem dL_guild_284 : decode cL_guild 284 = .ok (.bipush 8, 2) := by decide +kernel
theorem dL_guild_286 : decode cL_guild 286 = .ok (.if_icmp .ne 164, 3) := by decide +kernel
theorem dL_guild_289 : decode cL_guild 289 = .ok (.aload_n 0, 1) := by decide +kernel
theorem dL_guild_290 : decode cL_guild 290 = .ok (.iconst 1, 1) := by decide +kernel
theorem dL_guild_291 : decode cL_guild 291 = .ok (.iconst 3, 1) := by decide +kernel
theorem dL_guild_292 : decode cL_guild 292 = .ok (.invokevirtual 43, 3) := by decide +kernel
theorem dL_guild_295 : decode cL_guild 295 = .ok (.iconst 5, 1) := by decide +kernel
theorem dL_guild_296 : decode cL_guild 296 = .ok (.if_icmp .ne 154, 3) := by decide +kernel
theorem dL_guild_299 : decode cL_guild 299 = .ok (.aload_n 0, 1) := by decide +kernel
theorem dL_guild_300 : decode cL_guild 300 = .ok (.iconst 1, 1) := by decide +kernel
theorem dL_guild_301 : decode cL_guild 301 = .ok (.bipush 10, 2) := by decide +kernel
theorem dL_guild_303 : decode cL_guild 303 = .ok (.invokevirtual 43, 3) := by decide +kernel
theorem dL_guild_306 : decode cL_guild 306 = .ok (.bipush 10, 2) := by decide +kernel
theorem dL_guild_308 : decode cL_guild 308 = .ok (.if_icmp .ne 142, 3) := by decide +kernel
theorem dL_guild_311 : decode cL_guild 311 = .ok (.aload_n 0, 1) := by decide +kernel
theorem dL_guild_312 : decode cL_guild 312 = .ok (.iconst 1, 1) := by decide +kernel
theorem dL_guild_313 : decode cL_guild 313 = .ok (.bipush 15, 2) := by decide +kernel
theorem dL_guild_315 : decode cL_guild 315 = .ok (.invokevirtual 43, 3) := by decide +kernel
theorem dL_guild_318 : decode cL_guild 318 = .ok (.ifCond .ne 132, 3) := by decide +kernel
theorem dL_guild_321 : decode cL_guild 321 = .ok (.aload_n 0, 1) := by decide +kernel
theorem dL_guild_322 : decode cL_guild 322 = .ok (.iconst 1, 1) := by decide +kernel
theorem dL_guild_323 : decode cL_guild 323 = .ok (.invokevirtual 46, 3) := by decide +kernel
theorem dL_guild_326 : decode cL_guild 326 = .ok (.ifCond .eq 124, 3) := by decide +kernel
theorem dL_guild_329 : decode cL_guild 329 = .ok (.aload_n 0, 1) := by decide +kernel
theorem dL_guild_330 : decode cL_guild 330 = .ok (.iconst 1, 1) := by decide +kernel
theorem dL_guild_331 : decode cL_guild 331 = .ok (.invokevirtual 50, 3) := by decide +kernel
theorem dL_guild_334 : decode cL_guild 334 = .ok (.ifCond .ne 116, 3) := by decide +kernel
theorem dL_guild_337 : decode cL_guild 337 = .ok (.aload_n 0, 1) := by decide +kernel
theorem dL_guild_338 : decode cL_guild 338 = .ok (.iconst 1, 1) := by decide +kernel
theorem dL_guild_339 : decode cL_guild 339 = .ok (.iconst 0, 1) := by decide +kernel
theorem dL_guild_340 : decode cL_guild 340 = .ok (.iconst 0, 1) := by decide +kernel
theorem dL_guild_341 : decode cL_guild 341 = .ok (.bipush 15, 2) := by decide +kernel
theorem dL_guild_343 : decode cL_guild 343 = .ok (.invokestatic 109, 3) := by decide +kernel
theorem dL_guild_346 : decode cL_guild 346 = .ok (.ifCond .eq 104, 3) := by decide +kernel
theorem dL_guild_349 : decode cL_guild 349 = .ok (.aload_n 0, 1) := by decide +kernel
theorem dL_guild_350 : decode cL_guild 350 = .ok (.iconst 0, 1) := by decide +kernel
theorem dL_guild_351 : decode cL_guild 351 = .ok (.bipush (-4), 2) := by decide +kernel
theorem dL_guild_353 : decode cL_guild 353 = .ok (.invokevirtual 27, 3) := by decide +kernel
theorem dL_guild_356 : decode cL_guild 356 = .ok (.ifCond .ne 94, 3) := by decide +kernel
theorem dL_guild_359 : decode cL_guild 359 = .ok (.aload_n 0, 1) := by decide +kernel
theorem dL_guild_360 : decode cL_guild 360 = .ok (.iconst 1, 1) := by decide +kernel
theorem dL_guild_361 : decode cL_guild 361 = .ok (.iconst 3, 1) := by decide +kernel
theorem dL_guild_362 : decode cL_guild 362 = .ok (.invokevirtual 27, 3) := by decide +kernel
theorem dL_guild_365 : decode cL_guild 365 = .ok (.ifCond .ne 85, 3) := by decide +kernel
theorem dL_guild_368 : decode cL_guild 368 = .ok (.aload_n 0, 1) := by decide +kernel
theorem dL_guild_369 : decode cL_guild 369 = .ok (.iconst 2, 1) := by decide +kernel
theorem dL_guild_370 : decode cL_guild 370 = .ok (.bipush 9, 2) := by decide +kernel
theorem dL_guild_372 : decode cL_guild 372 = .ok (.invokevirtual 27, 3) := by decide +kernel
theorem dL_guild_375 : decode cL_guild 375 = .ok (.ifCond .ne 75, 3) := by decide +kernel
theorem dL_guild_378 : decode cL_guild 378 = .ok (.aload_n 0, 1) := by decide +kernel
theorem dL_guild_379 : decode cL_guild 379 = .ok (.iconst 2, 1) := by decide +kernel
theorem dL_guild_380 : decode cL_guild 380 = .ok (.iconst (-1), 1) := by decide +kernel
theorem dL_guild_381 : decode cL_guild 381 = .ok (.invokevirtual 27, 3) := by decide +kernel
theorem dL_guild_384 : decode cL_guild 384 = .ok (.bipush 9, 2) := by decide +kernel
theorem dL_guild_386 : decode cL_guild 386 = .ok (.if_icmp .ne 64, 3) := by decide +kernel
theorem dL_guild_389 : decode cL_guild 389 = .ok (.aload_n 0, 1) := by decide +kernel
theorem dL_guild_390 : decode cL_guild 390 = .ok (.iconst 4, 1) := by decide +kernel
theorem dL_guild_391 : decode cL_guild 391 = .ok (.invokevirtual 31, 3) := by decide +kernel
theorem dL_guild_394 : decode cL_guild 394 = .ok (.iconst 2, 1) := by decide +kernel
theorem dL_guild_395 : decode cL_guild 395 = .ok (.if_icmp .ne 55, 3) := by decide +kernel
theorem dL_guild_398 : decode cL_guild 398 = .ok (.aload_n 0, 1) := by decide +kernel
theorem dL_guild_399 : decode cL_guild 399 = .ok (.iconst 2, 1) := by decide +kernel
theorem dL_guild_400 : decode cL_guild 400 = .ok (.bipush 15, 2) := by decide +kernel
theorem dL_guild_402 : decode cL_guild 402 = .ok (.invokevirtual 43, 3) := by decide +kernel
theorem dL_guild_405 : decode cL_guild 405 = .ok (.bipush (-2), 2) := by decide +kernel
theorem dL_guild_407 : decode cL_guild 407 = .ok (.if_icmp .ne 43, 3) := by decide +kernel
theorem dL_guild_410 : decode cL_guild 410 = .ok (.aload_n 0, 1) := by decide +kernel
theorem dL_guild_411 : decode cL_guild 411 = .ok (.iconst 2, 1) := by decide +kernel
theorem dL_guild_412 : decode cL_guild 412 = .ok (.bipush 10, 2) := by decide +kernel
theorem dL_guild_414 : decode cL_guild 414 = .ok (.invokevirtual 43, 3) := by decide +kernel
theorem dL_guild_417 : decode cL_guild 417 = .ok (.iconst 3, 1) := by decide +kernel
theorem dL_guild_418 : decode cL_guild 418 = .ok (.if_icmp .ne 32, 3) := by decide +kernel
theorem dL_guild_421 : decode cL_guild 421 = .ok (.aload_n 0, 1) := by decide +kernel
theorem dL_guild_422 : decode cL_guild 422 = .ok (.iconst 2, 1) := by decide +kernel
theorem dL_guild_423 : decode cL_guild 423 = .ok (.invokevirtual 46, 3) := by decide +kernel
theorem dL_guild_426 : decode cL_guild 426 = .ok (.ifCond .eq 24, 3) := by decide +kernel
theorem dL_guild_429 : decode cL_guild 429 = .ok (.aload_n 0, 1) := by decide +kernel
theorem dL_guild_430 : decode cL_guild 430 = .ok (.iconst 2, 1) := by decide +kernel
theorem dL_guild_431 : decode cL_guild 431 = .ok (.invokevirtual 50, 3) := by decide +kernel
theorem dL_guild_434 : decode cL_guild 434 = .ok (.ifCond .ne 16, 3) := by decide +kernel
theorem dL_guild_437 : decode cL_guild 437 = .ok (.aload_n 0, 1) := by decide +kernel
theorem dL_guild_438 : decode cL_guild 438 = .ok (.iconst 2, 1) := by decide +kernel
theorem dL_guild_439 : decode cL_guild 439 = .ok (.bipush (-5), 2) := by decide +kernel
theorem dL_guild_441 : decode cL_guild 441 = .ok (.iconst 5, 1) := by decide +kernel
theorem dL_guild_442 : decode cL_guild 442 = .ok (.bipush 13, 2) := by decide +kernel
theorem dL_guild_444 : decode cL_guild 444 = .ok (.invokestatic 109, 3) := by decide +kernel
theorem dL_guild_447 : decode cL_guild 447 = .ok (.ifCond .ne 5, 3) := by decide +kernel
theorem dL_guild_450 : decode cL_guild 450 = .ok (.iconst 0, 1) := by decide +kernel
theorem dL_guild_451 : decode cL_guild 451 = .ok (.ireturn, 1) := by decide +kernel
theorem dL_guild_452 : decode cL_guild 452 = .ok (.aload_n 0, 1) := by decide +kernel
theorem dL_guild_453 : decode cL_guild 453 = .ok (.iconst 1, 1) := by decide +kernel
theorem dL_guild_454 : decode cL_guild 454 = .ok (.iconst 2, 1) := by decide +kernel
theorem dL_guild_455 : decode cL_guild 455 = .ok (.invokevirtual 34, 3) := by decide +kernel
theorem dL_guild_458 : decode cL_guild 458 = .ok (.iconst 3, 1) := by decide +kernel
theorem dL_guild_459 : decode cL_guild 459 = .ok (.if_icmp .ne 477, 3) := by decide +kernel
theorem dL_guild_462 : decode cL_guild 462 = .ok (.aload_n 0, 1) := by decide +kernel
theorem dL_guild_463 : decode cL_guild 463 = .ok (.iconst 3, 1) := by decide +kernel
theorem dL_guild_464 : decode cL_guild 464 = .ok (.iconst 1, 1) := by decide +kernel
theorem dL_guild_465 : decode cL_guild 465 = .ok (.invokevirtual 43, 3) := by decide +kernel
theorem dL_guild_468 : decode cL_guild 468 = .ok (.iconst 3, 1) := by decide +kernel
theorem dL_guild_469 : decode cL_guild 469 = .ok (.if_icmp .ne 467, 3) := by decide +kernel
theorem dL_guild_472 : decode cL_guild 472 = .ok (.aload_n 0, 1) := by decide +kernel
theorem dL_guild_473 : decode cL_guild 473 = .ok (.iconst 3, 1) := by decide +kernel
theorem dL_guild_474 : decode cL_guild 474 = .ok (.bipush 7, 2) := by decide +kernel
theorem dL_guild_476 : decode cL_guild 476 = .ok (.invokevirtual 43, 3) := by decide +kernel
theorem dL_guild_479 : decode cL_guild 479 = .ok (.ifCond .ne 457, 3) := by decide +kernel
theorem dL_guild_482 : decode cL_guild 482 = .ok (.aload_n 0, 1) := by decide +kernel
theorem dL_guild_483 : decode cL_guild 483 = .ok (.iconst 3, 1) := by decide +kernel
theorem dL_guild_484 : decode cL_guild 484 = .ok (.bipush 9, 2) := by decide +kernel
theorem dL_guild_486 : decode cL_guild 486 = .ok (.invokevirtual 43, 3) := by decide +kernel
theorem dL_guild_489 : decode cL_guild 489 = .ok (.iconst 1, 1) := by decide +kernel
theorem dL_guild_490 : decode cL_guild 490 = .ok (.if_icmp .ne 446, 3) := by decide +kernel
theorem dL_guild_493 : decode cL_guild 493 = .ok (.aload_n 0, 1) := by decide +kernel
theorem dL_guild_494 : decode cL_guild 494 = .ok (.iconst 3, 1) := by decide +kernel
theorem dL_guild_495 : decode cL_guild 495 = .ok (.bipush 15, 2) := by decide +kernel
theorem dL_guild_497 : decode cL_guild 497 = .ok (.invokevirtual 43, 3) := by decide +kernel
theorem dL_guild_500 : decode cL_guild 500 = .ok (.bipush (-2), 2) := by decide +kernel
theorem dL_guild_502 : decode cL_guild 502 = .ok (.if_icmp .ne 434, 3) := by decide +kernel
theorem dL_guild_505 : decode cL_guild 505 = .ok (.aload_n 0, 1) := by decide +kernel
theorem dL_guild_506 : decode cL_guild 506 = .ok (.iconst 3, 1) := by decide +kernel
theorem dL_guild_507 : decode cL_guild 507 = .ok (.invokevirtual 46, 3) := by decide +kernel
theorem dL_guild_510 : decode cL_guild 510 = .ok (.ifCond .eq 426, 3) := by decide +kernel
theorem dL_guild_513 : decode cL_guild 513 = .ok (.aload_n 0, 1) := by decide +kernel
theorem dL_guild_514 : decode cL_guild 514 = .ok (.iconst 3, 1) := by decide +kernel
theorem dL_guild_515 : decode cL_guild 515 = .ok (.bipush (-2), 2) := by decide +kernel
theorem dL_guild_517 : decode cL_guild 517 = .ok (.bipush 15, 2) := by decide +kernel
theorem dL_guild_519 : decode cL_guild 519 = .ok (.bipush 15, 2) := by decide +kernel
theorem dL_guild_521 : decode cL_guild 521 = .ok (.invokestatic 109, 3) := by decide +kernel
theorem dL_guild_524 : decode cL_guild 524 = .ok (.ifCond .eq 412, 3) := by decide +kernel
theorem dL_guild_527 : decode cL_guild 527 = .ok (.aload_n 0, 1) := by decide +kernel
theorem dL_guild_528 : decode cL_guild 528 = .ok (.iconst 1, 1) := by decide +kernel
theorem dL_guild_529 : decode cL_guild 529 = .ok (.iconst 1, 1) := by decide +kernel
theorem dL_guild_530 : decode cL_guild 530 = .ok (.invokevirtual 37, 3) := by decide +kernel
theorem dL_guild_533 : decode cL_guild 533 = .ok (.iconst 4, 1) := by decide +kernel
theorem dL_guild_534 : decode cL_guild 534 = .ok (.if_icmp .ne 402, 3) := by decide +kernel
theorem dL_guild_537 : decode cL_guild 537 = .ok (.aload_n 0, 1) := by decide +kernel
theorem dL_guild_538 : decode cL_guild 538 = .ok (.iconst 4, 1) := by decide +kernel
theorem dL_guild_539 : decode cL_guild 539 = .ok (.iconst 0, 1) := by decide +kernel
theorem dL_guild_540 : decode cL_guild 540 = .ok (.invokevirtual 43, 3) := by decide +kernel
theorem dL_guild_543 : decode cL_guild 543 = .ok (.ifCond .ne 393, 3) := by decide +kernel
theorem dL_guild_546 : decode cL_guild 546 = .ok (.aload_n 0, 1) := by decide +kernel
theorem dL_guild_547 : decode cL_guild 547 = .ok (.iconst 4, 1) := by decide +kernel
theorem dL_guild_548 : decode cL_guild 548 = .ok (.iconst 1, 1) := by decide +kernel
theorem dL_guild_549 : decode cL_guild 549 = .ok (.invokevirtual 43, 3) := by decide +kernel
theorem dL_guild_552 : decode cL_guild 552 = .ok (.ifCond .ne 384, 3) := by decide +kernel
theorem dL_guild_555 : decode cL_guild 555 = .ok (.aload_n 0, 1) := by decide +kernel
theorem dL_guild_556 : decode cL_guild 556 = .ok (.iconst 4, 1) := by decide +kernel
theorem dL_guild_557 : decode cL_guild 557 = .ok (.iconst 2, 1) := by decide +kernel
theorem dL_guild_558 : decode cL_guild 558 = .ok (.invokevirtual 43, 3) := by decide +kernel
theorem dL_guild_561 : decode cL_guild 561 = .ok (.bipush (-2), 2) := by decide +kernel
theorem dL_guild_563 : decode cL_guild 563 = .ok (.if_icmp .ne 373, 3) := by decide +kernel
theorem dL_guild_566 : decode cL_guild 566 = .ok (.aload_n 0, 1) := by decide +kernel
theorem dL_guild_567 : decode cL_guild 567 = .ok (.iconst 4, 1) := by decide +kernel
theorem dL_guild_568 : decode cL_guild 568 = .ok (.iconst 3, 1) := by decide +kernel
theorem dL_guild_569 : decode cL_guild 569 = .ok (.invokevirtual 43, 3) := by decide +kernel
theorem dL_guild_572 : decode cL_guild 572 = .ok (.bipush (-2), 2) := by decide +kernel
theorem dL_guild_574 : decode cL_guild 574 = .ok (.if_icmp .ne 362, 3) := by decide +kernel
theorem dL_guild_577 : decode cL_guild 577 = .ok (.aload_n 0, 1) := by decide +kernel
theorem dL_guild_578 : decode cL_guild 578 = .ok (.iconst 4, 1) := by decide +kernel
theorem dL_guild_579 : decode cL_guild 579 = .ok (.bipush 14, 2) := by decide +kernel
theorem dL_guild_581 : decode cL_guild 581 = .ok (.invokevirtual 43, 3) := by decide +kernel
theorem dL_guild_584 : decode cL_guild 584 = .ok (.bipush (-7), 2) := by decide +kernel
theorem dL_guild_586 : decode cL_guild 586 = .ok (.if_icmp .ne 350, 3) := by decide +kernel
theorem dL_guild_589 : decode cL_guild 589 = .ok (.aload_n 0, 1) := by decide +kernel
theorem dL_guild_590 : decode cL_guild 590 = .ok (.iconst 4, 1) := by decide +kernel
theorem dL_guild_591 : decode cL_guild 591 = .ok (.invokevirtual 46, 3) := by decide +kernel
theorem dL_guild_594 : decode cL_guild 594 = .ok (.ifCond .eq 342, 3) := by decide +kernel
theorem dL_guild_597 : decode cL_guild 597 = .ok (.aload_n 0, 1) := by decide +kernel
theorem dL_guild_598 : decode cL_guild 598 = .ok (.iconst 4, 1) := by decide +kernel
theorem dL_guild_599 : decode cL_guild 599 = .ok (.bipush (-7), 2) := by decide +kernel
theorem dL_guild_601 : decode cL_guild 601 = .ok (.bipush 14, 2) := by decide +kernel
theorem dL_guild_603 : decode cL_guild 603 = .ok (.bipush 15, 2) := by decide +kernel
theorem dL_guild_605 : decode cL_guild 605 = .ok (.invokestatic 109, 3) := by decide +kernel
theorem dL_guild_608 : decode cL_guild 608 = .ok (.ifCond .eq 328, 3) := by decide +kernel
theorem dL_guild_611 : decode cL_guild 611 = .ok (.aload_n 0, 1) := by decide +kernel
theorem dL_guild_612 : decode cL_guild 612 = .ok (.iconst 0, 1) := by decide +kernel
theorem dL_guild_613 : decode cL_guild 613 = .ok (.iconst 2, 1) := by decide +kernel
theorem dL_guild_614 : decode cL_guild 614 = .ok (.invokevirtual 40, 3) := by decide +kernel
theorem dL_guild_617 : decode cL_guild 617 = .ok (.iconst 5, 1) := by decide +kernel
theorem dL_guild_618 : decode cL_guild 618 = .ok (.if_icmp .ne 318, 3) := by decide +kernel
theorem dL_guild_621 : decode cL_guild 621 = .ok (.aload_n 0, 1) := by decide +kernel
theorem dL_guild_622 : decode cL_guild 622 = .ok (.iconst 5, 1) := by decide +kernel
theorem dL_guild_623 : decode cL_guild 623 = .ok (.bipush 15, 2) := by decide +kernel
theorem dL_guild_625 : decode cL_guild 625 = .ok (.invokevirtual 43, 3) := by decide +kernel
theorem dL_guild_628 : decode cL_guild 628 = .ok (.iconst 2, 1) := by decide +kernel
theorem dL_guild_629 : decode cL_guild 629 = .ok (.if_icmp .ne 307, 3) := by decide +kernel
theorem dL_guild_632 : decode cL_guild 632 = .ok (.aload_n 0, 1) := by decide +kernel
theorem dL_guild_633 : decode cL_guild 633 = .ok (.iconst 5, 1) := by decide +kernel
theorem dL_guild_634 : decode cL_guild 634 = .ok (.iconst 4, 1) := by decide +kernel
theorem dL_guild_635 : decode cL_guild 635 = .ok (.invokevirtual 43, 3) := by decide +kernel
theorem dL_guild_638 : decode cL_guild 638 = .ok (.iconst 1, 1) := by decide +kernel
theorem dL_guild_639 : decode cL_guild 639 = .ok (.if_icmp .ne 297, 3) := by decide +kernel
theorem dL_guild_642 : decode cL_guild 642 = .ok (.aload_n 0, 1) := by decide +kernel
theorem dL_guild_643 : decode cL_guild 643 = .ok (.iconst 5, 1) := by decide +kernel
theorem dL_guild_644 : decode cL_guild 644 = .ok (.invokevirtual 46, 3) := by decide +kernel
theorem dL_guild_647 : decode cL_guild 647 = .ok (.ifCond .eq 289, 3) := by decide +kernel
theorem dL_guild_650 : decode cL_guild 650 = .ok (.aload_n 0, 1) := by decide +kernel
theorem dL_guild_651 : decode cL_guild 651 = .ok (.iconst 5, 1) := by decide +kernel
theorem dL_guild_652 : decode cL_guild 652 = .ok (.invokevirtual 50, 3) := by decide +kernel
theorem dL_guild_655 : decode cL_guild 655 = .ok (.ifCond .eq 281, 3) := by decide +kernel
theorem dL_guild_658 : decode cL_guild 658 = .ok (.aload_n 0, 1) := by decide +kernel
theorem dL_guild_659 : decode cL_guild 659 = .ok (.iconst 2, 1) := by decide +kernel
theorem dL_guild_660 : decode cL_guild 660 = .ok (.iconst 0, 1) := by decide +kernel
theorem dL_guild_661 : decode cL_guild 661 = .ok (.invokevirtual 40, 3) := by decide +kernel
theorem dL_guild_664 : decode cL_guild 664 = .ok (.bipush 6, 2) := by decide +kernel
theorem dL_guild_666 : decode cL_guild 666 = .ok (.if_icmp .ne 270, 3) := by decide +kernel
theorem dL_guild_669 : decode cL_guild 669 = .ok (.aload_n 0, 1) := by decide +kernel
theorem dL_guild_670 : decode cL_guild 670 = .ok (.bipush 6, 2) := by decide +kernel
theorem dL_guild_672 : decode cL_guild 672 = .ok (.iconst 2, 1) := by decide +kernel
theorem dL_guild_673 : decode cL_guild 673 = .ok (.invokevirtual 43, 3) := by decide +kernel
theorem dL_guild_676 : decode cL_guild 676 = .ok (.ifCond .ne 260, 3) := by decide +kernel
theorem dL_guild_679 : decode cL_guild 679 = .ok (.aload_n 0, 1) := by decide +kernel
theorem dL_guild_680 : decode cL_guild 680 = .ok (.bipush 6, 2) := by decide +kernel
theorem dL_guild_682 : decode cL_guild 682 = .ok (.iconst 3, 1) := by decide +kernel
theorem dL_guild_683 : decode cL_guild 683 = .ok (.invokevirtual 43, 3) := by decide +kernel
theorem dL_guild_686 : decode cL_guild 686 = .ok (.iconst (-1), 1) := by decide +kernel
theorem dL_guild_687 : decode cL_guild 687 = .ok (.if_icmp .ne 249, 3) := by decide +kernel
theorem dL_guild_690 : decode cL_guild 690 = .ok (.aload_n 0, 1) := by decide +kernel
theorem dL_guild_691 : decode cL_guild 691 = .ok (.bipush 6, 2) := by decide +kernel
theorem dL_guild_693 : decode cL_guild 693 = .ok (.iconst 1, 1) := by decide +kernel
theorem dL_guild_694 : decode cL_guild 694 = .ok (.invokevirtual 43, 3) := by decide +kernel
theorem dL_guild_697 : decode cL_guild 697 = .ok (.bipush (-4), 2) := by decide +kernel
theorem dL_guild_699 : decode cL_guild 699 = .ok (.if_icmp .ne 237, 3) := by decide +kernel
theorem dL_guild_702 : decode cL_guild 702 = .ok (.aload_n 0, 1) := by decide +kernel
theorem dL_guild_703 : decode cL_guild 703 = .ok (.bipush 6, 2) := by decide +kernel
theorem dL_guild_705 : decode cL_guild 705 = .ok (.invokevirtual 46, 3) := by decide +kernel
theorem dL_guild_708 : decode cL_guild 708 = .ok (.ifCond .ne 228, 3) := by decide +kernel
theorem dL_guild_711 : decode cL_guild 711 = .ok (.aload_n 0, 1) := by decide +kernel
theorem dL_guild_712 : decode cL_guild 712 = .ok (.bipush 13, 2) := by decide +kernel
theorem dL_guild_714 : decode cL_guild 714 = .ok (.bipush 6, 2) := by decide +kernel
theorem dL_guild_716 : decode cL_guild 716 = .ok (.iconst 0, 1) := by decide +kernel
theorem dL_guild_717 : decode cL_guild 717 = .ok (.iconst 0, 1) := by decide +kernel
theorem dL_guild_718 : decode cL_guild 718 = .ok (.invokestatic 95, 3) := by decide +kernel
theorem dL_guild_721 : decode cL_guild 721 = .ok (.ldc 89, 2) := by decide +kernel
theorem dL_guild_723 : decode cL_guild 723 = .ok (.if_icmp .ne 213, 3) := by decide +kernel
theorem dL_guild_726 : decode cL_guild 726 = .ok (.aload_n 0, 1) := by decide +kernel
theorem dL_guild_727 : decode cL_guild 727 = .ok (.bipush 14, 2) := by decide +kernel
theorem dL_guild_729 : decode cL_guild 729 = .ok (.bipush 6, 2) := by decide +kernel
theorem dL_guild_731 : decode cL_guild 731 = .ok (.iconst 1, 1) := by decide +kernel
theorem dL_guild_732 : decode cL_guild 732 = .ok (.iconst 0, 1) := by decide +kernel
theorem dL_guild_733 : decode cL_guild 733 = .ok (.invokestatic 95, 3) := by decide +kernel
theorem dL_guild_736 : decode cL_guild 736 = .ok (.ldc 89, 2) := by decide +kernel
theorem dL_guild_738 : decode cL_guild 738 = .ok (.if_icmp .ne 198, 3) := by decide +kernel
theorem dL_guild_741 : decode cL_guild 741 = .ok (.aload_n 0, 1) := by decide +kernel
theorem dL_guild_742 : decode cL_guild 742 = .ok (.bipush 15, 2) := by decide +kernel
theorem dL_guild_744 : decode cL_guild 744 = .ok (.bipush 6, 2) := by decide +kernel
theorem dL_guild_746 : decode cL_guild 746 = .ok (.iconst 0, 1) := by decide +kernel
theorem dL_guild_747 : decode cL_guild 747 = .ok (.iconst 0, 1) := by decide +kernel
theorem dL_guild_748 : decode cL_guild 748 = .ok (.invokestatic 95, 3) := by decide +kernel
theorem dL_guild_751 : decode cL_guild 751 = .ok (.ldc 89, 2) := by decide +kernel
theorem dL_guild_753 : decode cL_guild 753 = .ok (.if_icmp .ne 183, 3) := by decide +kernel
theorem dL_guild_756 : decode cL_guild 756 = .ok (.aload_n 0, 1) := by decide +kernel
theorem dL_guild_757 : decode cL_guild 757 = .ok (.iconst 0, 1) := by decide +kernel
theorem dL_guild_758 : decode cL_guild 758 = .ok (.iconst 0, 1) := by decide +kernel
theorem dL_guild_759 : decode cL_guild 759 = .ok (.iconst 1, 1) := by decide +kernel
theorem dL_guild_760 : decode cL_guild 760 = .ok (.invokevirtual 21, 3) := by decide +kernel
theorem dL_guild_763 : decode cL_guild 763 = .ok (.ifCond .ne 173, 3) := by decide +kernel
theorem dL_guild_766 : decode cL_guild 766 = .ok (.aload_n 0, 1) := by decide +kernel
theorem dL_guild_767 : decode cL_guild 767 = .ok (.iconst 0, 1) := by decide +kernel
theorem dL_guild_768 : decode cL_guild 768 = .ok (.iconst 1, 1) := by decide +kernel
theorem dL_guild_769 : decode cL_guild 769 = .ok (.iconst 1, 1) := by decide +kernel
theorem dL_guild_770 : decode cL_guild 770 = .ok (.invokevirtual 21, 3) := by decide +kernel
theorem dL_guild_773 : decode cL_guild 773 = .ok (.ifCond .ne 163, 3) := by decide +kernel
theorem dL_guild_776 : decode cL_guild 776 = .ok (.aload_n 0, 1) := by decide +kernel
theorem dL_guild_777 : decode cL_guild 777 = .ok (.iconst 0, 1) := by decide +kernel
theorem dL_guild_778 : decode cL_guild 778 = .ok (.iconst 2, 1) := by decide +kernel
theorem dL_guild_779 : decode cL_guild 779 = .ok (.iconst 2, 1) := by decide +kernel
theorem dL_guild_780 : decode cL_guild 780 = .ok (.invokevirtual 21, 3) := by decide +kernel
theorem dL_guild_783 : decode cL_guild 783 = .ok (.ifCond .ne 153, 3) := by decide +kernel
theorem dL_guild_786 : decode cL_guild 786 = .ok (.aload_n 0, 1) := by decide +kernel
theorem dL_guild_787 : decode cL_guild 787 = .ok (.iconst 0, 1) := by decide +kernel
theorem dL_guild_788 : decode cL_guild 788 = .ok (.iconst 3, 1) := by decide +kernel
theorem dL_guild_789 : decode cL_guild 789 = .ok (.iconst 2, 1) := by decide +kernel
theorem dL_guild_790 : decode cL_guild 790 = .ok (.invokevirtual 21, 3) := by decide +kernel
theorem dL_guild_793 : decode cL_guild 793 = .ok (.ifCond .ne 143, 3) := by decide +kernel
theorem dL_guild_796 : decode cL_guild 796 = .ok (.aload_n 0, 1) := by decide +kernel
theorem dL_guild_797 : decode cL_guild 797 = .ok (.iconst 0, 1) := by decide +kernel
theorem dL_guild_798 : decode cL_guild 798 = .ok (.iconst 1, 1) := by decide +kernel
theorem dL_guild_799 : decode cL_guild 799 = .ok (.iconst 2, 1) := by decide +kernel
theorem dL_guild_800 : decode cL_guild 800 = .ok (.invokevirtual 24, 3) := by decide +kernel
theorem dL_guild_803 : decode cL_guild 803 = .ok (.iconst 1, 1) := by decide +kernel
theorem dL_guild_804 : decode cL_guild 804 = .ok (.if_icmp .ne 132, 3) := by decide +kernel
theorem dL_guild_807 : decode cL_guild 807 = .ok (.aload_n 0, 1) := by decide +kernel
theorem dL_guild_808 : decode cL_guild 808 = .ok (.iconst 2, 1) := by decide +kernel
theorem dL_guild_809 : decode cL_guild 809 = .ok (.invokevirtual 31, 3) := by decide +kernel
theorem dL_guild_812 : decode cL_guild 812 = .ok (.bipush 7, 2) := by decide +kernel
theorem dL_guild_814 : decode cL_guild 814 = .ok (.if_icmp .ne 122, 3) := by decide +kernel
theorem dL_guild_817 : decode cL_guild 817 = .ok (.aload_n 0, 1) := by decide +kernel
theorem dL_guild_818 : decode cL_guild 818 = .ok (.bipush 7, 2) := by decide +kernel
theorem dL_guild_820 : decode cL_guild 820 = .ok (.bipush 15, 2) := by decide +kernel
theorem dL_guild_822 : decode cL_guild 822 = .ok (.invokevirtual 43, 3) := by decide +kernel
theorem dL_guild_825 : decode cL_guild 825 = .ok (.iconst 3, 1) := by decide +kernel
theorem dL_guild_826 : decode cL_guild 826 = .ok (.if_icmp .ne 110, 3) := by decide +kernel
theorem dL_guild_829 : decode cL_guild 829 = .ok (.aload_n 0, 1) := by decide +kernel
theorem dL_guild_830 : decode cL_guild 830 = .ok (.bipush 7, 2) := by decide +kernel
theorem dL_guild_832 : decode cL_guild 832 = .ok (.bipush 12, 2) := by decide +kernel
theorem dL_guild_834 : decode cL_guild 834 = .ok (.invokevirtual 43, 3) := by decide +kernel
theorem dL_guild_837 : decode cL_guild 837 = .ok (.iconst 1, 1) := by decide +kernel
theorem dL_guild_838 : decode cL_guild 838 = .ok (.if_icmp .ne 98, 3) := by decide +kernel
theorem dL_guild_841 : decode cL_guild 841 = .ok (.aload_n 0, 1) := by decide +kernel
theorem dL_guild_842 : decode cL_guild 842 = .ok (.bipush 7, 2) := by decide +kernel
theorem dL_guild_844 : decode cL_guild 844 = .ok (.iconst 3, 1) := by decide +kernel
theorem dL_guild_845 : decode cL_guild 845 = .ok (.invokevirtual 43, 3) := by decide +kernel
theorem dL_guild_848 : decode cL_guild 848 = .ok (.iconst 2, 1) := by decide +kernel
theorem dL_guild_849 : decode cL_guild 849 = .ok (.if_icmp .ne 87, 3) := by decide +kernel
theorem dL_guild_852 : decode cL_guild 852 = .ok (.aload_n 0, 1) := by decide +kernel
theorem dL_guild_853 : decode cL_guild 853 = .ok (.bipush 7, 2) := by decide +kernel
theorem dL_guild_855 : decode cL_guild 855 = .ok (.invokevirtual 46, 3) := by decide +kernel
theorem dL_guild_858 : decode cL_guild 858 = .ok (.ifCond .eq 78, 3) := by decide +kernel
theorem dL_guild_861 : decode cL_guild 861 = .ok (.aload_n 0, 1) := by decide +kernel
theorem dL_guild_862 : decode cL_guild 862 = .ok (.bipush 7, 2) := by decide +kernel
theorem dL_guild_864 : decode cL_guild 864 = .ok (.invokevirtual 50, 3) := by decide +kernel
theorem dL_guild_867 : decode cL_guild 867 = .ok (.ifCond .eq 69, 3) := by decide +kernel
theorem dL_guild_870 : decode cL_guild 870 = .ok (.aload_n 0, 1) := by decide +kernel
theorem dL_guild_871 : decode cL_guild 871 = .ok (.bipush 6, 2) := by decide +kernel
theorem dL_guild_873 : decode cL_guild 873 = .ok (.iconst 3, 1) := by decide +kernel
theorem dL_guild_874 : decode cL_guild 874 = .ok (.iconst 0, 1) := by decide +kernel
theorem dL_guild_875 : decode cL_guild 875 = .ok (.iconst 0, 1) := by decide +kernel
theorem dL_guild_876 : decode cL_guild 876 = .ok (.invokestatic 95, 3) := by decide +kernel
theorem dL_guild_879 : decode cL_guild 879 = .ok (.ldc 89, 2) := by decide +kernel
theorem dL_guild_881 : decode cL_guild 881 = .ok (.if_icmp .ne 55, 3) := by decide +kernel
theorem dL_guild_884 : decode cL_guild 884 = .ok (.aload_n 0, 1) := by decide +kernel
theorem dL_guild_885 : decode cL_guild 885 = .ok (.bipush 7, 2) := by decide +kernel
theorem dL_guild_887 : decode cL_guild 887 = .ok (.iconst 0, 1) := by decide +kernel
theorem dL_guild_888 : decode cL_guild 888 = .ok (.iconst 0, 1) := by decide +kernel
theorem dL_guild_889 : decode cL_guild 889 = .ok (.iconst 0, 1) := by decide +kernel
theorem dL_guild_890 : decode cL_guild 890 = .ok (.invokestatic 95, 3) := by decide +kernel
theorem dL_guild_893 : decode cL_guild 893 = .ok (.ldc 89, 2) := by decide +kernel
theorem dL_guild_895 : decode cL_guild 895 = .ok (.if_icmp .ne 41, 3) := by decide +kernel
theorem dL_guild_898 : decode cL_guild 898 = .ok (.aload_n 0, 1) := by decide +kernel
theorem dL_guild_899 : decode cL_guild 899 = .ok (.bipush 8, 2) := by decide +kernel
theorem dL_guild_901 : decode cL_guild 901 = .ok (.iconst 0, 1) := by decide +kernel
theorem dL_guild_902 : decode cL_guild 902 = .ok (.iconst 0, 1) := by decide +kernel
theorem dL_guild_903 : decode cL_guild 903 = .ok (.iconst 0, 1) := by decide +kernel
theorem dL_guild_904 : decode cL_guild 904 = .ok (.invokestatic 95, 3) := by decide +kernel
theorem dL_guild_907 : decode cL_guild 907 = .ok (.ldc 89, 2) := by decide +kernel
theorem dL_guild_909 : decode cL_guild 909 = .ok (.if_icmp .ne 27, 3) := by decide +kernel
theorem dL_guild_912 : decode cL_guild 912 = .ok (.aload_n 0, 1) := by decide +kernel
theorem dL_guild_913 : decode cL_guild 913 = .ok (.bipush 9, 2) := by decide +kernel
theorem dL_guild_915 : decode cL_guild 915 = .ok (.iconst 0, 1) := by decide +kernel
theorem dL_guild_916 : decode cL_guild 916 = .ok (.iconst 0, 1) := by decide +kernel
theorem dL_guild_917 : decode cL_guild 917 = .ok (.iconst 0, 1) := by decide +kernel
theorem dL_guild_918 : decode cL_guild 918 = .ok (.invokestatic 95, 3) := by decide +kernel
theorem dL_guild_921 : decode cL_guild 921 = .ok (.ldc 89, 2) := by decide +kernel
theorem dL_guild_923 : decode cL_guild 923 = .ok (.if_icmp .ne 13, 3) := by decide +kernel
theorem dL_guild_926 : decode cL_guild 926 = .ok (.aload_n 0, 1) := by decide +kernel
theorem dL_guild_927 : decode cL_guild 927 = .ok (.iconst 4, 1) := by decide +kernel
theorem dL_guild_928 : decode cL_guild 928 = .ok (.bipush 8, 2) := by decide +kernel
theorem dL_guild_930 : decode cL_guild 930 = .ok (.invokestatic 105, 3) := by decide +kernel
theorem dL_guild_933 : decode cL_guild 933 = .ok (.ifCond .ne 5, 3) := by decide +kernel
theorem dL_guild_936 : decode cL_guild 936 = .ok (.iconst 0, 1) := by decide +kernel
theorem dL_guild_937 : decode cL_guild 937 = .ok (.ireturn, 1) := by decide +kernel
theorem dL_guild_938 : decode cL_guild 938 = .ok (.aload_n 0, 1) := by decide +kernel
theorem dL_guild_939 : decode cL_guild 939 = .ok (.invokestatic 112, 3) := by decide +kernel
theorem dL_guild_942 : decode cL_guild 942 = .ok (.ifCond .eq 20, 3) := by decide +kernel
theorem dL_guild_945 : decode cL_guild 945 = .ok (.aload_n 0, 1) := by decide +kernel
theorem dL_guild_946 : decode cL_guild 946 = .ok (.invokestatic 116, 3) := by decide +kernel
theorem dL_guild_949 : decode cL_guild 949 = .ok (.ifCond .eq 13, 3) := by decide +kernel
theorem dL_guild_952 : decode cL_guild 952 = .ok (.invokestatic 119, 3) := by decide +kernel
theorem dL_guild_955 : decode cL_guild 955 = .ok (.ifCond .eq 7, 3) := by decide +kernel
theorem dL_guild_958 : decode cL_guild 958 = .ok (.iconst 1, 1) := by decide +kernel
theorem dL_guild_959 : decode cL_guild 959 = .ok (.goto 4, 3) := by decide +kernel
theorem dL_guild_962 : decode cL_guild 962 = .ok (.iconst 0, 1) := by decide +kernel
theorem dL_guild_963 : decode cL_guild 963 = .ok (.ireturn, 1) := by decide +kernel
end
section
set_option maxRecDepth 20000 in
theorem ggL_greed_X0_greedy : GoodIn wsL_greed wsX0_greedy := goodIn_ca (goodIn_ca (goodIn_r _ [5, 6, 7, 8, 4, 9, 10, 11, 12, 13, 14, 15, 16, 17, 18, 19, 20, 21, 22, 23, 24, 25, 26, 27, 28, 29, 30, 31, 32, 33, 34, 35, 36, 37, 38, 39, 40, 41, 42, 43, 162, 163, 164, 165, 166, 167, 168, 169, 170, 171, 172, 173] (by decide +kernel) (by decide +kernel)) (goodIn_sub (fun _ h => List.mem_cons_of_mem _ (List.mem_append_left _ (List.mem_append_right _ h))) (by decide +kernel))) (goodIn_sub (fun _ h => List.mem_cons_of_mem _ (List.mem_append_right _ h)) (by decide +kernel))
set_option maxRecDepth 20000 in
theorem gL_greed_X0_greedy : GoodIn wsL_greed (wsV RL 69 RX0 yX0_greedy wsX0_greedy) := goodIn_app (goodIn_of _ (by decide +kernel)) ggL_greed_X0_greedy
set_option maxRecDepth 20000 in
theorem ggL_greed_X0_best : GoodIn wsL_greed wsX0_best := goodIn_ca (goodIn_ca (goodIn_r _ [47, 48, 49, 50, 51, 6, 7, 8, 4, 9, 10, 11, 12, 13, 14, 15, 16, 17, 18, 19, 20, 21, 22, 23, 52, 53, 54, 55, 28, 56, 57, 58, 59, 60, 61, 62, 36, 37, 38, 39, 40, 41, 42, 43, 162, 163, 164, 165, 166, 167, 168, 169, 170, 171, 172, 173] (by decide +kernel) (by decide +kernel)) (goodIn_sub (fun _ h => List.mem_cons_of_mem _ (List.mem_append_left _ (List.mem_append_right _ h))) (by decide +kernel))) (goodIn_sub (fun _ h => List.mem_cons_of_mem _ (List.mem_append_right _ h)) (by decide +kernel))
set_option maxRecDepth 20000 in
theorem gL_greed_X0_best : GoodIn wsL_greed (wsV RL 72 RX0 yX0_best wsX0_best) := goodIn_app (goodIn_of _ (by decide +kernel)) ggL_greed_X0_best
set_option maxRecDepth 20000 in
theorem ggL_greed_X0_common : GoodIn wsL_greed wsX0_common := goodIn_r _ [66, 28, 67, 68, 69, 4, 70, 71, 72, 73, 74, 75, 76, 77, 78, 79, 80, 81, 82, 83, 84, 85, 86, 87, 88, 89, 41, 42, 43, 90, 91, 92, 93, 94, 95, 96, 97, 98, 99, 100, 101, 102, 103, 104, 105, 106, 107, 108, 109, 110, 111, 112, 56, 57, 58, 59, 60, 61, 62, 113, 114, 115, 116, 162, 163, 164, 165, 166, 167, 168, 169, 170, 171, 172, 173] (by decide +kernel) (by decide +kernel)
set_option maxRecDepth 20000 in
theorem gL_greed_X0_common : GoodIn wsL_greed (wsV RL 91 RX0 yX0_common wsX0_common) := goodIn_app (goodIn_of _ (by decide +kernel)) ggL_greed_X0_common
set_option maxRecDepth 20000 in
theorem ggL_greed_X0_colour : GoodIn wsL_greed wsX0_colour := goodIn_ca (goodIn_r _ [120, 89, 121, 122, 4, 123, 124, 125, 126, 127, 28, 128, 129, 130, 11, 12, 13, 14, 15, 85, 86, 87, 88, 41, 42, 43, 102, 103, 104, 162, 163, 164, 165, 166, 167, 168, 169, 170, 171, 172, 173] (by decide +kernel) (by decide +kernel)) (goodIn_sub (fun _ h => List.mem_cons_of_mem _ (List.mem_append_left _ (List.mem_append_right _ h))) (by decide +kernel))
set_option maxRecDepth 20000 in
theorem gL_greed_X0_colour : GoodIn wsL_greed (wsV RL 21 RX0 yX0_colour wsX0_colour) := goodIn_app (goodIn_of _ (by decide +kernel)) ggL_greed_X0_colour
set_option maxRecDepth 20000 in
theorem ggL_greed_X0_commonAnew : GoodIn wsL_greed wsX0_commonAnew := goodIn_r _ [134, 48, 49, 50, 51, 52, 53, 54, 4, 55, 28, 135, 136, 137, 138, 93, 94, 95, 96, 90, 91, 92, 85, 86, 87, 88, 89, 41, 42, 43, 97, 98, 99, 100, 101, 56, 57, 58, 59, 60, 61, 62, 162, 163, 164, 165, 166, 167, 168, 169, 170, 171, 172, 173] (by decide +kernel) (by decide +kernel)
set_option maxRecDepth 20000 in
theorem gL_greed_X0_commonAnew : GoodIn wsL_greed (wsV RL 101 RX0 yX0_commonAnew wsX0_commonAnew) := goodIn_app (goodIn_of _ (by decide +kernel)) ggL_greed_X0_commonAnew
set_option maxRecDepth 20000 in
theorem ggL_greed_X0_room : GoodIn wsL_greed wsX0_room := goodIn_ca (goodIn_ca (goodIn_r _ [142, 101, 121, 122, 4, 123, 128, 129, 130, 11, 12, 13, 14, 15, 16, 17, 18, 19, 20, 21, 22, 23, 97, 98, 99, 100, 41, 42, 43, 102, 103, 104, 162, 163, 164, 165, 166, 167, 168, 169, 170, 171, 172, 173] (by decide +kernel) (by decide +kernel)) (goodIn_sub (fun _ h => List.mem_cons_of_mem _ (List.mem_append_left _ (List.mem_append_right _ h))) (by decide +kernel))) (goodIn_sub (fun _ h => List.mem_cons_of_mem _ (List.mem_append_right _ h)) (by decide +kernel))
set_option maxRecDepth 20000 in
theorem gL_greed_X0_room : GoodIn wsL_greed (wsV RL 24 RX0 yX0_room wsX0_room) := goodIn_app (goodIn_of _ (by decide +kernel)) ggL_greed_X0_room
set_option maxRecDepth 20000 in
theorem ggL_greed_L_share : GoodIn wsL_greed wsL_share := goodIn_ca (goodIn_r _ [146, 147, 148, 149, 4, 150, 28, 6, 7, 8, 9, 10, 124, 125, 126, 127, 11, 12, 13, 14, 15, 52, 53, 54, 55, 90, 91, 92, 56, 57, 58, 59, 60, 61, 62, 151, 152, 153, 29, 30, 31, 32, 33, 34, 35, 36, 37, 38, 39, 40, 41, 42, 43, 154, 155, 156, 157, 158, 159, 160, 161, 162, 163, 164, 165, 166, 167, 168, 169, 170, 171, 172, 173] rfl (by decide +kernel)) (goodIn_sub (fun _ h => List.mem_cons_of_mem _ (List.mem_append_left _ (List.mem_append_right _ h))) (by decide +kernel))
set_option maxRecDepth 20000 in
theorem gL_greed_L_share : GoodIn wsL_greed (va_wsS RL 123 yL_share wsL_share) := goodIn_app (goodIn_of _ (by decide +kernel)) ggL_greed_L_share
theorem dL_greed_0 : decode cL_greed 0 = .ok (.aload_n 0, 1) := by decide +kernel
theorem dL_greed_1 : decode cL_greed 1 = .ok (.iconst 0, 1) := by decide +kernel
theorem dL_greed_2 : decode cL_greed 2 = .ok (.iconst 0, 1) := by decide +kernel
theorem dL_greed_3 : decode cL_greed 3 = .ok (.invokevirtual 69, 3) := by decide +kernel
theorem dL_greed_6 : decode cL_greed 6 = .ok (.ifCond .ne 171, 3) := by decide +kernel
theorem dL_greed_9 : decode cL_greed 9 = .ok (.aload_n 0, 1) := by decide +kernel
theorem dL_greed_10 : decode cL_greed 10 = .ok (.iconst 0, 1) := by decide +kernel
theorem dL_greed_11 : decode cL_greed 11 = .ok (.iconst 1, 1) := by decide +kernel
theorem dL_greed_12 : decode cL_greed 12 = .ok (.invokevirtual 69, 3) := by decide +kernel
theorem dL_greed_15 : decode cL_greed 15 = .ok (.iconst 1, 1) := by decide +kernel
theorem dL_greed_16 : decode cL_greed 16 = .ok (.if_icmp .ne 161, 3) := by decide +kernel
theorem dL_greed_19 : decode cL_greed 19 = .ok (.aload_n 0, 1) := by decide +kernel
theorem dL_greed_20 : decode cL_greed 20 = .ok (.iconst 0, 1) := by decide +kernel
theorem dL_greed_21 : decode cL_greed 21 = .ok (.iconst 2, 1) := by decide +kernel
theorem dL_greed_22 : decode cL_greed 22 = .ok (.invokevirtual 69, 3) := by decide +kernel
theorem dL_greed_25 : decode cL_greed 25 = .ok (.iconst 3, 1) := by decide +kernel
theorem dL_greed_26 : decode cL_greed 26 = .ok (.if_icmp .ne 151, 3) := by decide +kernel
theorem dL_greed_29 : decode cL_greed 29 = .ok (.aload_n 0, 1) := by decide +kernel
theorem dL_greed_30 : decode cL_greed 30 = .ok (.iconst 0, 1) := by decide +kernel
theorem dL_greed_31 : decode cL_greed 31 = .ok (.bipush 6, 2) := by decide +kernel
theorem dL_greed_33 : decode cL_greed 33 = .ok (.invokevirtual 69, 3) := by decide +kernel
theorem dL_greed_36 : decode cL_greed 36 = .ok (.bipush 11, 2) := by decide +kernel
theorem dL_greed_38 : decode cL_greed 38 = .ok (.if_icmp .ne 139, 3) := by decide +kernel
theorem dL_greed_41 : decode cL_greed 41 = .ok (.aload_n 0, 1) := by decide +kernel
theorem dL_greed_42 : decode cL_greed 42 = .ok (.iconst 0, 1) := by decide +kernel
theorem dL_greed_43 : decode cL_greed 43 = .ok (.iconst 0, 1) := by decide +kernel
theorem dL_greed_44 : decode cL_greed 44 = .ok (.invokevirtual 72, 3) := by decide +kernel
theorem dL_greed_47 : decode cL_greed 47 = .ok (.ifCond .ne 130, 3) := by decide +kernel
theorem dL_greed_50 : decode cL_greed 50 = .ok (.aload_n 0, 1) := by decide +kernel
theorem dL_greed_51 : decode cL_greed 51 = .ok (.iconst 0, 1) := by decide +kernel
theorem dL_greed_52 : decode cL_greed 52 = .ok (.iconst 1, 1) := by decide +kernel
theorem dL_greed_53 : decode cL_greed 53 = .ok (.invokevirtual 72, 3) := by decide +kernel
theorem dL_greed_56 : decode cL_greed 56 = .ok (.iconst 2, 1) := by decide +kernel
theorem dL_greed_57 : decode cL_greed 57 = .ok (.if_icmp .ne 120, 3) := by decide +kernel
theorem dL_greed_60 : decode cL_greed 60 = .ok (.aload_n 0, 1) := by decide +kernel
theorem dL_greed_61 : decode cL_greed 61 = .ok (.iconst 0, 1) := by decide +kernel
theorem dL_greed_62 : decode cL_greed 62 = .ok (.iconst 2, 1) := by decide +kernel
theorem dL_greed_63 : decode cL_greed 63 = .ok (.invokevirtual 72, 3) := by decide +kernel
theorem dL_greed_66 : decode cL_greed 66 = .ok (.iconst 3, 1) := by decide +kernel
theorem dL_greed_67 : decode cL_greed 67 = .ok (.if_icmp .ne 110, 3) := by decide +kernel
theorem dL_greed_70 : decode cL_greed 70 = .ok (.aload_n 0, 1) := by decide +kernel
theorem dL_greed_71 : decode cL_greed 71 = .ok (.iconst 0, 1) := by decide +kernel
theorem dL_greed_72 : decode cL_greed 72 = .ok (.iconst 3, 1) := by decide +kernel
theorem dL_greed_73 : decode cL_greed 73 = .ok (.invokevirtual 72, 3) := by decide +kernel
theorem dL_greed_76 : decode cL_greed 76 = .ok (.iconst 4, 1) := by decide +kernel
theorem dL_greed_77 : decode cL_greed 77 = .ok (.if_icmp .ne 100, 3) := by decide +kernel
theorem dL_greed_80 : decode cL_greed 80 = .ok (.aload_n 0, 1) := by decide +kernel
theorem dL_greed_81 : decode cL_greed 81 = .ok (.iconst 1, 1) := by decide +kernel
theorem dL_greed_82 : decode cL_greed 82 = .ok (.bipush 6, 2) := by decide +kernel
theorem dL_greed_84 : decode cL_greed 84 = .ok (.invokevirtual 69, 3) := by decide +kernel
theorem dL_greed_87 : decode cL_greed 87 = .ok (.bipush 10, 2) := by decide +kernel
theorem dL_greed_89 : decode cL_greed 89 = .ok (.if_icmp .ne 88, 3) := by decide +kernel
theorem dL_greed_92 : decode cL_greed 92 = .ok (.aload_n 0, 1) := by decide +kernel
theorem dL_greed_93 : decode cL_greed 93 = .ok (.iconst 1, 1) := by decide +kernel
theorem dL_greed_94 : decode cL_greed 94 = .ok (.iconst 1, 1) := by decide +kernel
theorem dL_greed_95 : decode cL_greed 95 = .ok (.invokevirtual 72, 3) := by decide +kernel
theorem dL_greed_98 : decode cL_greed 98 = .ok (.bipush 8, 2) := by decide +kernel
theorem dL_greed_100 : decode cL_greed 100 = .ok (.if_icmp .ne 77, 3) := by decide +kernel
theorem dL_greed_103 : decode cL_greed 103 = .ok (.aload_n 0, 1) := by decide +kernel
theorem dL_greed_104 : decode cL_greed 104 = .ok (.iconst 1, 1) := by decide +kernel
theorem dL_greed_105 : decode cL_greed 105 = .ok (.bipush 6, 2) := by decide +kernel
theorem dL_greed_107 : decode cL_greed 107 = .ok (.invokevirtual 72, 3) := by decide +kernel
theorem dL_greed_110 : decode cL_greed 110 = .ok (.bipush 10, 2) := by decide +kernel
theorem dL_greed_112 : decode cL_greed 112 = .ok (.if_icmp .ne 65, 3) := by decide +kernel
theorem dL_greed_115 : decode cL_greed 115 = .ok (.aload_n 0, 1) := by decide +kernel
theorem dL_greed_116 : decode cL_greed 116 = .ok (.iconst 2, 1) := by decide +kernel
theorem dL_greed_117 : decode cL_greed 117 = .ok (.iconst 4, 1) := by decide +kernel
theorem dL_greed_118 : decode cL_greed 118 = .ok (.invokevirtual 69, 3) := by decide +kernel
theorem dL_greed_121 : decode cL_greed 121 = .ok (.iconst 2, 1) := by decide +kernel
theorem dL_greed_122 : decode cL_greed 122 = .ok (.if_icmp .ne 55, 3) := by decide +kernel
theorem dL_greed_125 : decode cL_greed 125 = .ok (.aload_n 0, 1) := by decide +kernel
theorem dL_greed_126 : decode cL_greed 126 = .ok (.iconst 2, 1) := by decide +kernel
theorem dL_greed_127 : decode cL_greed 127 = .ok (.iconst 5, 1) := by decide +kernel
theorem dL_greed_128 : decode cL_greed 128 = .ok (.invokevirtual 72, 3) := by decide +kernel
theorem dL_greed_131 : decode cL_greed 131 = .ok (.iconst 3, 1) := by decide +kernel
theorem dL_greed_132 : decode cL_greed 132 = .ok (.if_icmp .ne 45, 3) := by decide +kernel
theorem dL_greed_135 : decode cL_greed 135 = .ok (.aload_n 0, 1) := by decide +kernel
theorem dL_greed_136 : decode cL_greed 136 = .ok (.bipush 6, 2) := by decide +kernel
theorem dL_greed_138 : decode cL_greed 138 = .ok (.iconst 3, 1) := by decide +kernel
theorem dL_greed_139 : decode cL_greed 139 = .ok (.invokevirtual 69, 3) := by decide +kernel
theorem dL_greed_142 : decode cL_greed 142 = .ok (.ifCond .ne 35, 3) := by decide +kernel
theorem dL_greed_145 : decode cL_greed 145 = .ok (.aload_n 0, 1) := by decide +kernel
theorem dL_greed_146 : decode cL_greed 146 = .ok (.bipush 6, 2) := by decide +kernel
theorem dL_greed_148 : decode cL_greed 148 = .ok (.iconst 3, 1) := by decide +kernel
theorem dL_greed_149 : decode cL_greed 149 = .ok (.invokevirtual 72, 3) := by decide +kernel
theorem dL_greed_152 : decode cL_greed 152 = .ok (.ifCond .ne 25, 3) := by decide +kernel
theorem dL_greed_155 : decode cL_greed 155 = .ok (.aload_n 0, 1) := by decide +kernel
theorem dL_greed_156 : decode cL_greed 156 = .ok (.iconst 4, 1) := by decide +kernel
theorem dL_greed_157 : decode cL_greed 157 = .ok (.bipush 6, 2) := by decide +kernel
theorem dL_greed_159 : decode cL_greed 159 = .ok (.invokevirtual 69, 3) := by decide +kernel
theorem dL_greed_162 : decode cL_greed 162 = .ok (.iconst 4, 1) := by decide +kernel
theorem dL_greed_163 : decode cL_greed 163 = .ok (.if_icmp .ne 14, 3) := by decide +kernel
theorem dL_greed_166 : decode cL_greed 166 = .ok (.aload_n 0, 1) := by decide +kernel
theorem dL_greed_167 : decode cL_greed 167 = .ok (.iconst 4, 1) := by decide +kernel
theorem dL_greed_168 : decode cL_greed 168 = .ok (.bipush 6, 2) := by decide +kernel
theorem dL_greed_170 : decode cL_greed 170 = .ok (.invokevirtual 72, 3) := by decide +kernel
theorem dL_greed_173 : decode cL_greed 173 = .ok (.iconst 3, 1) := by decide +kernel
theorem dL_greed_174 : decode cL_greed 174 = .ok (.if_icmp .eq 5, 3) := by decide +kernel
theorem dL_greed_177 : decode cL_greed 177 = .ok (.iconst 0, 1) := by decide +kernel
theorem dL_greed_178 : decode cL_greed 178 = .ok (.ireturn, 1) := by decide +kernel
theorem dL_greed_179 : decode cL_greed 179 = .ok (.aload_n 0, 1) := by decide +kernel
theorem dL_greed_180 : decode cL_greed 180 = .ok (.invokevirtual 91, 3) := by decide +kernel
theorem dL_greed_183 : decode cL_greed 183 = .ok (.iconst 1, 1) := by decide +kernel
theorem dL_greed_184 : decode cL_greed 184 = .ok (.if_icmp .ne 204, 3) := by decide +kernel
theorem dL_greed_187 : decode cL_greed 187 = .ok (.aload_n 0, 1) := by decide +kernel
theorem dL_greed_188 : decode cL_greed 188 = .ok (.iconst 1, 1) := by decide +kernel
theorem dL_greed_189 : decode cL_greed 189 = .ok (.iconst 0, 1) := by decide +kernel
theorem dL_greed_190 : decode cL_greed 190 = .ok (.iconst 3, 1) := by decide +kernel
theorem dL_greed_191 : decode cL_greed 191 = .ok (.invokevirtual 21, 3) := by decide +kernel
theorem dL_greed_194 : decode cL_greed 194 = .ok (.ifCond .ne 194, 3) := by decide +kernel
theorem dL_greed_197 : decode cL_greed 197 = .ok (.aload_n 0, 1) := by decide +kernel
theorem dL_greed_198 : decode cL_greed 198 = .ok (.iconst 1, 1) := by decide +kernel
theorem dL_greed_199 : decode cL_greed 199 = .ok (.iconst 2, 1) := by decide +kernel
theorem dL_greed_200 : decode cL_greed 200 = .ok (.iconst 4, 1) := by decide +kernel
theorem dL_greed_201 : decode cL_greed 201 = .ok (.invokevirtual 21, 3) := by decide +kernel
theorem dL_greed_204 : decode cL_greed 204 = .ok (.ifCond .ne 184, 3) := by decide +kernel
theorem dL_greed_207 : decode cL_greed 207 = .ok (.aload_n 0, 1) := by decide +kernel
theorem dL_greed_208 : decode cL_greed 208 = .ok (.invokevirtual 91, 3) := by decide +kernel
theorem dL_greed_211 : decode cL_greed 211 = .ok (.iconst 3, 1) := by decide +kernel
theorem dL_greed_212 : decode cL_greed 212 = .ok (.if_icmp .ne 176, 3) := by decide +kernel
theorem dL_greed_215 : decode cL_greed 215 = .ok (.aload_n 0, 1) := by decide +kernel
theorem dL_greed_216 : decode cL_greed 216 = .ok (.invokevirtual 101, 3) := by decide +kernel
theorem dL_greed_219 : decode cL_greed 219 = .ok (.iconst 3, 1) := by decide +kernel
theorem dL_greed_220 : decode cL_greed 220 = .ok (.if_icmp .ne 168, 3) := by decide +kernel
theorem dL_greed_223 : decode cL_greed 223 = .ok (.aload_n 0, 1) := by decide +kernel
theorem dL_greed_224 : decode cL_greed 224 = .ok (.iconst 1, 1) := by decide +kernel
theorem dL_greed_225 : decode cL_greed 225 = .ok (.iconst 0, 1) := by decide +kernel
theorem dL_greed_226 : decode cL_greed 226 = .ok (.iconst 2, 1) := by decide +kernel
theorem dL_greed_227 : decode cL_greed 227 = .ok (.invokevirtual 24, 3) := by decide +kernel
theorem dL_greed_230 : decode cL_greed 230 = .ok (.iconst 1, 1) := by decide +kernel
theorem dL_greed_231 : decode cL_greed 231 = .ok (.if_icmp .ne 157, 3) := by decide +kernel
theorem dL_greed_234 : decode cL_greed 234 = .ok (.aload_n 0, 1) := by decide +kernel
theorem dL_greed_235 : decode cL_greed 235 = .ok (.invokevirtual 91, 3) := by decide +kernel
theorem dL_greed_238 : decode cL_greed 238 = .ok (.iconst 3, 1) := by decide +kernel
theorem dL_greed_239 : decode cL_greed 239 = .ok (.if_icmp .ne 149, 3) := by decide +kernel
theorem dL_greed_242 : decode cL_greed 242 = .ok (.aload_n 0, 1) := by decide +kernel
theorem dL_greed_243 : decode cL_greed 243 = .ok (.iconst 0, 1) := by decide +kernel
theorem dL_greed_244 : decode cL_greed 244 = .ok (.iconst 2, 1) := by decide +kernel
theorem dL_greed_245 : decode cL_greed 245 = .ok (.iconst 2, 1) := by decide +kernel
theorem dL_greed_246 : decode cL_greed 246 = .ok (.invokevirtual 24, 3) := by decide +kernel
theorem dL_greed_249 : decode cL_greed 249 = .ok (.iconst 1, 1) := by decide +kernel
theorem dL_greed_250 : decode cL_greed 250 = .ok (.if_icmp .ne 138, 3) := by decide +kernel
theorem dL_greed_253 : decode cL_greed 253 = .ok (.aload_n 0, 1) := by decide +kernel
theorem dL_greed_254 : decode cL_greed 254 = .ok (.invokevirtual 91, 3) := by decide +kernel
theorem dL_greed_257 : decode cL_greed 257 = .ok (.iconst 4, 1) := by decide +kernel
theorem dL_greed_258 : decode cL_greed 258 = .ok (.if_icmp .ne 130, 3) := by decide +kernel
theorem dL_greed_261 : decode cL_greed 261 = .ok (.aload_n 0, 1) := by decide +kernel
theorem dL_greed_262 : decode cL_greed 262 = .ok (.invokevirtual 101, 3) := by decide +kernel
theorem dL_greed_265 : decode cL_greed 265 = .ok (.iconst 4, 1) := by decide +kernel
theorem dL_greed_266 : decode cL_greed 266 = .ok (.if_icmp .ne 122, 3) := by decide +kernel
theorem dL_greed_269 : decode cL_greed 269 = .ok (.aload_n 0, 1) := by decide +kernel
theorem dL_greed_270 : decode cL_greed 270 = .ok (.iconst 1, 1) := by decide +kernel
theorem dL_greed_271 : decode cL_greed 271 = .ok (.iconst 3, 1) := by decide +kernel
theorem dL_greed_272 : decode cL_greed 272 = .ok (.iconst 0, 1) := by decide +kernel
theorem dL_greed_273 : decode cL_greed 273 = .ok (.invokevirtual 24, 3) := by decide +kernel
theorem dL_greed_276 : decode cL_greed 276 = .ok (.iconst 1, 1) := by decide +kernel
theorem dL_greed_277 : decode cL_greed 277 = .ok (.if_icmp .ne 111, 3) := by decide +kernel
theorem dL_greed_280 : decode cL_greed 280 = .ok (.aload_n 0, 1) := by decide +kernel
theorem dL_greed_281 : decode cL_greed 281 = .ok (.invokevirtual 91, 3) := by decide +kernel
theorem dL_greed_284 : decode cL_greed 284 = .ok (.iconst 3, 1) := by decide +kernel
theorem dL_greed_285 : decode cL_greed 285 = .ok (.if_icmp .ne 103, 3) := by decide +kernel
theorem dL_greed_288 : decode cL_greed 288 = .ok (.aload_n 0, 1) := by decide +kernel
theorem dL_greed_289 : decode cL_greed 289 = .ok (.iconst 0, 1) := by decide +kernel
theorem dL_greed_290 : decode cL_greed 290 = .ok (.iconst 0, 1) := by decide +kernel
theorem dL_greed_291 : decode cL_greed 291 = .ok (.bipush 36, 2) := by decide +kernel
theorem dL_greed_293 : decode cL_greed 293 = .ok (.invokestatic 123, 3) := by decide +kernel
theorem dL_greed_296 : decode cL_greed 296 = .ok (.ifCond .eq 92, 3) := by decide +kernel
theorem dL_greed_299 : decode cL_greed 299 = .ok (.aload_n 0, 1) := by decide +kernel
theorem dL_greed_300 : decode cL_greed 300 = .ok (.iconst 0, 1) := by decide +kernel
theorem dL_greed_301 : decode cL_greed 301 = .ok (.iconst 1, 1) := by decide +kernel
theorem dL_greed_302 : decode cL_greed 302 = .ok (.bipush 24, 2) := by decide +kernel
theorem dL_greed_304 : decode cL_greed 304 = .ok (.invokestatic 123, 3) := by decide +kernel
theorem dL_greed_307 : decode cL_greed 307 = .ok (.ifCond .eq 81, 3) := by decide +kernel
theorem dL_greed_310 : decode cL_greed 310 = .ok (.aload_n 0, 1) := by decide +kernel
theorem dL_greed_311 : decode cL_greed 311 = .ok (.iconst 0, 1) := by decide +kernel
theorem dL_greed_312 : decode cL_greed 312 = .ok (.iconst 2, 1) := by decide +kernel
theorem dL_greed_313 : decode cL_greed 313 = .ok (.bipush 12, 2) := by decide +kernel
theorem dL_greed_315 : decode cL_greed 315 = .ok (.invokestatic 123, 3) := by decide +kernel
theorem dL_greed_318 : decode cL_greed 318 = .ok (.ifCond .eq 70, 3) := by decide +kernel
theorem dL_greed_321 : decode cL_greed 321 = .ok (.aload_n 0, 1) := by decide +kernel
theorem dL_greed_322 : decode cL_greed 322 = .ok (.iconst 0, 1) := by decide +kernel
theorem dL_greed_323 : decode cL_greed 323 = .ok (.iconst 3, 1) := by decide +kernel
theorem dL_greed_324 : decode cL_greed 324 = .ok (.bipush 24, 2) := by decide +kernel
theorem dL_greed_326 : decode cL_greed 326 = .ok (.invokestatic 123, 3) := by decide +kernel
theorem dL_greed_329 : decode cL_greed 329 = .ok (.ifCond .eq 59, 3) := by decide +kernel
theorem dL_greed_332 : decode cL_greed 332 = .ok (.aload_n 0, 1) := by decide +kernel
theorem dL_greed_333 : decode cL_greed 333 = .ok (.iconst 2, 1) := by decide +kernel
theorem dL_greed_334 : decode cL_greed 334 = .ok (.iconst 0, 1) := by decide +kernel
theorem dL_greed_335 : decode cL_greed 335 = .ok (.bipush (-96), 2) := by decide +kernel
theorem dL_greed_337 : decode cL_greed 337 = .ok (.invokestatic 123, 3) := by decide +kernel
theorem dL_greed_340 : decode cL_greed 340 = .ok (.ifCond .eq 48, 3) := by decide +kernel
theorem dL_greed_343 : decode cL_greed 343 = .ok (.aload_n 0, 1) := by decide +kernel
theorem dL_greed_344 : decode cL_greed 344 = .ok (.iconst 2, 1) := by decide +kernel
theorem dL_greed_345 : decode cL_greed 345 = .ok (.iconst 3, 1) := by decide +kernel
theorem dL_greed_346 : decode cL_greed 346 = .ok (.iconst 0, 1) := by decide +kernel
theorem dL_greed_347 : decode cL_greed 347 = .ok (.invokestatic 123, 3) := by decide +kernel
theorem dL_greed_350 : decode cL_greed 350 = .ok (.ifCond .eq 38, 3) := by decide +kernel
theorem dL_greed_353 : decode cL_greed 353 = .ok (.aload_n 0, 1) := by decide +kernel
theorem dL_greed_354 : decode cL_greed 354 = .ok (.iconst 1, 1) := by decide +kernel
theorem dL_greed_355 : decode cL_greed 355 = .ok (.iconst 2, 1) := by decide +kernel
theorem dL_greed_356 : decode cL_greed 356 = .ok (.iconst 0, 1) := by decide +kernel
theorem dL_greed_357 : decode cL_greed 357 = .ok (.invokestatic 123, 3) := by decide +kernel
theorem dL_greed_360 : decode cL_greed 360 = .ok (.ifCond .eq 28, 3) := by decide +kernel
theorem dL_greed_363 : decode cL_greed 363 = .ok (.aload_n 0, 1) := by decide +kernel
theorem dL_greed_364 : decode cL_greed 364 = .ok (.iconst 1, 1) := by decide +kernel
theorem dL_greed_365 : decode cL_greed 365 = .ok (.iconst 0, 1) := by decide +kernel
theorem dL_greed_366 : decode cL_greed 366 = .ok (.iconst 0, 1) := by decide +kernel
theorem dL_greed_367 : decode cL_greed 367 = .ok (.invokestatic 123, 3) := by decide +kernel
theorem dL_greed_370 : decode cL_greed 370 = .ok (.ifCond .eq 18, 3) := by decide +kernel
theorem dL_greed_373 : decode cL_greed 373 = .ok (.aload_n 0, 1) := by decide +kernel
theorem dL_greed_374 : decode cL_greed 374 = .ok (.iconst 3, 1) := by decide +kernel
theorem dL_greed_375 : decode cL_greed 375 = .ok (.iconst 1, 1) := by decide +kernel
theorem dL_greed_376 : decode cL_greed 376 = .ok (.bipush 72, 2) := by decide +kernel
theorem dL_greed_378 : decode cL_greed 378 = .ok (.invokestatic 123, 3) := by decide +kernel
theorem dL_greed_381 : decode cL_greed 381 = .ok (.ifCond .eq 7, 3) := by decide +kernel
theorem dL_greed_384 : decode cL_greed 384 = .ok (.iconst 1, 1) := by decide +kernel
theorem dL_greed_385 : decode cL_greed 385 = .ok (.goto 4, 3) := by decide +kernel
theorem dL_greed_388 : decode cL_greed 388 = .ok (.iconst 0, 1) := by decide +kernel
theorem dL_greed_389 : decode cL_greed 389 = .ok (.ireturn, 1) := by decide +kernel
set_option maxRecDepth 20000 in
theorem ggL_orders_L_act : GoodIn wsL_orders wsL_act := goodIn_ca (goodIn_ca (goodIn_ca (goodIn_r _ [6, 7, 8, 9, 2, 10, 1, 11, 12, 13, 14, 15, 16, 17, 18, 19, 20, 21, 22, 23, 24, 25, 26, 27, 28, 29, 30, 31, 32, 33, 34, 35, 36, 37, 38, 39, 40, 41, 42, 43, 44, 45, 46, 47, 48, 49, 50, 51, 52, 53, 54, 55, 56, 57, 58, 59, 60, 61, 62, 63, 64, 65, 66, 67, 68, 69, 70, 71, 72, 73, 74, 75, 76, 77, 78, 79, 80, 81, 82, 83, 84, 85, 86, 87, 88, 89, 90, 91, 92, 93, 94, 95, 96, 97, 98, 99, 100, 101, 102, 103, 104, 105, 106, 107, 108, 109, 110, 111, 112, 113, 114, 115, 116, 117, 118, 119, 120, 121, 122, 123, 124, 125, 126, 127, 128, 129, 130, 131, 132, 133, 134, 135, 136, 137, 138, 139, 140, 141, 142, 143, 144, 145, 146, 147, 148, 149, 150, 151, 152, 153, 154, 155, 156, 157, 158, 159, 160, 161, 162, 163, 164, 165, 166, 167, 168, 169, 170, 171, 172, 173, 174, 175, 176, 177, 178, 179, 180, 181, 182, 183, 184, 185, 186, 187, 188, 189, 190, 191, 192, 193, 194, 195, 196, 197, 198, 199, 200, 201, 202, 203, 204, 205, 206, 207, 208, 209, 210, 211, 212, 213, 214, 215, 216, 217, 218, 219, 220, 221, 222, 223, 224, 225, 226, 227, 228, 229, 230, 231, 232, 233, 234, 235, 236, 237, 238, 239, 240, 241, 242, 243, 244, 245, 246, 247, 248, 249, 250, 251, 252, 253, 254, 255, 256, 257, 258, 259, 260, 261, 262, 263, 264, 265, 266, 267, 268, 269, 270, 271, 272, 273, 274, 275, 276, 277, 278, 279, 280, 281, 324, 325, 326, 327, 328, 329, 330, 331, 332, 333, 334, 335] rfl (by decide +kernel)) (goodIn_sub (fun _ h => List.mem_cons_of_mem _ (List.mem_append_left _ (List.mem_append_left _ (List.mem_append_right _ h)))) (by decide +kernel))) (goodIn_sub (fun _ h => List.mem_cons_of_mem _ (List.mem_append_left _ (List.mem_append_right _ h))) (by decide +kernel))) (goodIn_sub (fun _ h => List.mem_cons_of_mem _ (List.mem_append_right _ h)) (by decide +kernel))
set_option maxRecDepth 20000 in
theorem gL_orders_L_act : GoodIn wsL_orders (va_wsS RL 95 yL_act wsL_act) := goodIn_app (goodIn_of _ (by decide +kernel)) ggL_orders_L_act
set_option maxRecDepth 20000 in
theorem ggL_orders_X0_order : GoodIn wsL_orders wsX0_order := goodIn_ca (goodIn_ca (goodIn_r _ [238, 18, 16, 239, 40, 41, 42, 14, 43, 44, 45, 46, 47, 48, 240, 241, 242, 243, 49, 50, 51, 106, 107, 108, 109, 110, 58, 59, 60, 324, 325, 326, 327, 328, 329, 330, 331, 332, 333, 334, 335] (by decide +kernel) (by decide +kernel)) (goodIn_sub (fun _ h => List.mem_cons_of_mem _ (List.mem_append_left _ (List.mem_append_right _ h))) (by decide +kernel))) (goodIn_sub (fun _ h => List.mem_cons_of_mem _ (List.mem_append_right _ h)) (by decide +kernel))
set_option maxRecDepth 20000 in
theorem gL_orders_X0_order : GoodIn wsL_orders (wsV RL 63 RX0 yX0_order wsX0_order) := goodIn_app (goodIn_of _ (by decide +kernel)) ggL_orders_X0_order
set_option maxRecDepth 20000 in
theorem ggL_orders_X0_corner : GoodIn wsL_orders wsX0_corner := goodIn_ca (goodIn_ca (goodIn_r _ [247, 163, 164, 165, 14, 166, 17, 40, 41, 42, 43, 16, 44, 45, 46, 47, 48, 240, 241, 242, 243, 18, 239, 49, 50, 51, 106, 107, 108, 109, 110, 248, 249, 250, 251, 52, 53, 54, 199, 200, 201, 202, 167, 168, 169, 170, 154, 324, 325, 326, 327, 328, 329, 330, 331, 332, 333, 334, 335] (by decide +kernel) (by decide +kernel)) (goodIn_sub (fun _ h => List.mem_cons_of_mem _ (List.mem_append_left _ (List.mem_append_right _ h))) (by decide +kernel))) (goodIn_sub (fun _ h => List.mem_cons_of_mem _ (List.mem_append_right _ h)) (by decide +kernel))
set_option maxRecDepth 20000 in
theorem gL_orders_X0_corner : GoodIn wsL_orders (wsV RL 66 RX0 yX0_corner wsX0_corner) := goodIn_app (goodIn_of _ (by decide +kernel)) ggL_orders_X0_corner
set_option maxRecDepth 20000 in
theorem ggL_orders_L_refuses : GoodIn wsL_orders wsL_refuses := goodIn_ca (goodIn_ca (goodIn_ca (goodIn_r _ [284, 285, 10, 2, 286, 287, 288, 14, 289, 16, 290, 291, 292, 293, 294, 295, 296, 297, 298, 299, 32, 33, 34, 35, 300, 301, 302, 303, 82, 83, 84, 85, 21, 49, 50, 51, 61, 62, 63, 142, 143, 144, 145, 90, 91, 92, 93, 22, 58, 59, 60, 304, 305, 306, 307, 308, 309, 310, 311, 123, 124, 125, 126, 127, 128, 129, 312, 313, 314, 315, 3, 4, 5, 6, 7, 8, 9, 1, 11, 12, 13, 15, 17, 18, 19, 20, 23, 24, 25, 26, 27, 28, 29, 30, 31, 36, 37, 38, 39, 40, 41, 42, 43, 44, 45, 46, 47, 48, 52, 53, 54, 55, 56, 57, 64, 65, 66, 67, 68, 69, 70, 71, 72, 73, 74, 75, 76, 77, 78, 79, 80, 81, 86, 87, 88, 89, 94, 95, 96, 97, 98, 99, 100, 101, 102, 103, 104, 105, 106, 107, 108, 109, 110, 111, 112, 113, 114, 115, 116, 117, 118, 119, 120, 121, 122, 130, 131, 132, 133, 134, 135, 136, 137, 138, 139, 140, 141, 146, 147, 148, 149, 150, 151, 152, 153, 154, 155, 156, 157, 158, 159, 160, 161, 162, 163, 164, 165, 166, 167, 168, 169, 170, 171, 172, 173, 174, 175, 176, 177, 178, 179, 180, 181, 182, 183, 184, 185, 186, 187, 188, 189, 190, 191, 192, 193, 194, 195, 196, 197, 198, 199, 200, 201, 202, 203, 204, 205, 206, 207, 208, 209, 210, 211, 212, 213, 214, 215, 216, 217, 218, 219, 220, 221, 222, 223, 224, 225, 226, 227, 228, 229, 230, 231, 232, 233, 234, 235, 236, 237, 238, 239, 240, 241, 242, 243, 244, 245, 246, 247, 248, 249, 250, 251, 252, 253, 254, 255, 256, 257, 258, 259, 260, 261, 262, 263, 264, 265, 266, 267, 268, 269, 270, 271, 272, 273, 274, 275, 276, 277, 278, 279, 280, 281, 316, 317, 318, 319, 320, 321, 322, 323, 324, 325, 326, 327, 328, 329, 330, 331, 332, 333, 334, 335] rfl (by decide +kernel)) (goodIn_sub (fun _ h => List.mem_cons_of_mem _ (List.mem_append_left _ (List.mem_append_left _ (List.mem_append_right _ h)))) (by decide +kernel))) (goodIn_sub (fun _ h => List.mem_cons_of_mem _ (List.mem_append_left _ (List.mem_append_right _ h))) (by decide +kernel))) (goodIn_sub (fun _ h => List.mem_cons_of_mem _ (List.mem_append_right _ h)) (by decide +kernel))
set_option maxRecDepth 20000 in
theorem gL_orders_L_refuses : GoodIn wsL_orders (va_wsS RL 105 yL_refuses wsL_refuses) := goodIn_app (goodIn_of _ (by decide +kernel)) ggL_orders_L_refuses
set_option maxRecDepth 20000 in
theorem ggL_orders_X0_elements : GoodIn wsL_orders wsX0_elements := goodIn_ca (goodIn_r _ [15, 16, 17, 18, 19, 20, 21, 22, 23, 24, 25, 14, 26, 27, 28, 29, 30, 31, 32, 33, 34, 35, 324, 325, 326, 327, 328, 329, 330, 331, 332, 333, 334, 335] (by decide +kernel) (by decide +kernel)) (goodIn_sub (fun _ h => List.mem_cons_of_mem _ (List.mem_append_left _ (List.mem_append_left _ (List.mem_append_right _ h)))) (by decide +kernel))
set_option maxRecDepth 20000 in
theorem gL_orders_X0_elements : GoodIn wsL_orders (wsV RL 7 RX0 yX0_elements wsX0_elements) := goodIn_app (goodIn_of _ (by decide +kernel)) ggL_orders_X0_elements
set_option maxRecDepth 20000 in
theorem ggL_orders_X0_make : GoodIn wsL_orders wsX0_make := goodIn_ca (goodIn_ca (goodIn_r _ [101, 24, 25, 14, 26, 27, 28, 29, 30, 31, 102, 103, 104, 105, 17, 106, 107, 108, 109, 110, 111, 112, 113, 114, 16, 115, 116, 117, 118, 119, 120, 121, 122, 19, 61, 62, 63, 49, 50, 51, 123, 124, 125, 126, 127, 128, 129, 130, 131, 132, 133, 68, 69, 70, 71, 20, 134, 135, 136, 137, 138, 139, 140, 141, 142, 143, 144, 145, 82, 83, 84, 85, 21, 90, 91, 92, 93, 22, 146, 147, 148, 149, 23, 150, 151, 152, 153, 154, 58, 59, 60, 155, 156, 157, 158, 324, 325, 326, 327, 328, 329, 330, 331, 332, 333, 334, 335] (by decide +kernel) (by decide +kernel)) (goodIn_sub (fun _ h => List.mem_cons_of_mem _ (List.mem_append_left _ (List.mem_append_left _ (List.mem_append_right _ h)))) (by decide +kernel))) (goodIn_sub (fun _ h => List.mem_cons_of_mem _ (List.mem_append_right _ h)) (by decide +kernel))
set_option maxRecDepth 20000 in
theorem gL_orders_X0_make : GoodIn wsL_orders (wsV RL 31 RX0 yX0_make wsX0_make) := goodIn_app (goodIn_of _ (by decide +kernel)) ggL_orders_X0_make
set_option maxRecDepth 20000 in
theorem ggL_orders_X0_value : GoodIn wsL_orders wsX0_value := goodIn_ca (goodIn_ca (goodIn_r _ [186, 163, 164, 165, 14, 166, 17, 44, 45, 46, 47, 48, 175, 176, 177, 178, 111, 112, 113, 114, 16, 27, 28, 29, 30, 31, 167, 168, 169, 170, 154, 49, 50, 51, 324, 325, 326, 327, 328, 329, 330, 331, 332, 333, 334, 335] (by decide +kernel) (by decide +kernel)) (goodIn_sub (fun _ h => List.mem_cons_of_mem _ (List.mem_append_left _ (List.mem_append_right _ h))) (by decide +kernel))) (goodIn_sub (fun _ h => List.mem_cons_of_mem _ (List.mem_append_left _ (List.mem_append_left _ (List.mem_append_right _ h)))) (by decide +kernel))
set_option maxRecDepth 20000 in
theorem gL_orders_X0_value : GoodIn wsL_orders (wsV RL 43 RX0 yX0_value wsX0_value) := goodIn_app (goodIn_of _ (by decide +kernel)) ggL_orders_X0_value
theorem dL_orders_0 : decode cL_orders 0 = .ok (.aload_n 0, 1) := by decide +kernel
theorem dL_orders_1 : decode cL_orders 1 = .ok (.bipush 17, 2) := by decide +kernel
theorem dL_orders_3 : decode cL_orders 3 = .ok (.iconst 0, 1) := by decide +kernel
theorem dL_orders_4 : decode cL_orders 4 = .ok (.iconst 0, 1) := by decide +kernel
theorem dL_orders_5 : decode cL_orders 5 = .ok (.iconst 0, 1) := by decide +kernel
theorem dL_orders_6 : decode cL_orders 6 = .ok (.invokestatic 95, 3) := by decide +kernel
theorem dL_orders_9 : decode cL_orders 9 = .ok (.ldc 89, 2) := by decide +kernel
theorem dL_orders_11 : decode cL_orders 11 = .ok (.if_icmp .ne 384, 3) := by decide +kernel
theorem dL_orders_14 : decode cL_orders 14 = .ok (.aload_n 0, 1) := by decide +kernel
theorem dL_orders_15 : decode cL_orders 15 = .ok (.iconst 2, 1) := by decide +kernel
theorem dL_orders_16 : decode cL_orders 16 = .ok (.invokevirtual 63, 3) := by decide +kernel
theorem dL_orders_19 : decode cL_orders 19 = .ok (.iconst 1, 1) := by decide +kernel
theorem dL_orders_20 : decode cL_orders 20 = .ok (.if_icmp .ne 375, 3) := by decide +kernel
theorem dL_orders_23 : decode cL_orders 23 = .ok (.aload_n 0, 1) := by decide +kernel
theorem dL_orders_24 : decode cL_orders 24 = .ok (.iconst 0, 1) := by decide +kernel
theorem dL_orders_25 : decode cL_orders 25 = .ok (.invokevirtual 63, 3) := by decide +kernel
theorem dL_orders_28 : decode cL_orders 28 = .ok (.iconst 2, 1) := by decide +kernel
theorem dL_orders_29 : decode cL_orders 29 = .ok (.if_icmp .ne 366, 3) := by decide +kernel
theorem dL_orders_32 : decode cL_orders 32 = .ok (.aload_n 0, 1) := by decide +kernel
theorem dL_orders_33 : decode cL_orders 33 = .ok (.bipush 16, 2) := by decide +kernel
theorem dL_orders_35 : decode cL_orders 35 = .ok (.iconst 2, 1) := by decide +kernel
theorem dL_orders_36 : decode cL_orders 36 = .ok (.iconst 0, 1) := by decide +kernel
theorem dL_orders_37 : decode cL_orders 37 = .ok (.iconst 0, 1) := by decide +kernel
theorem dL_orders_38 : decode cL_orders 38 = .ok (.invokestatic 95, 3) := by decide +kernel
theorem dL_orders_41 : decode cL_orders 41 = .ok (.ldc 89, 2) := by decide +kernel
theorem dL_orders_43 : decode cL_orders 43 = .ok (.if_icmp .ne 352, 3) := by decide +kernel
theorem dL_orders_46 : decode cL_orders 46 = .ok (.aload_n 0, 1) := by decide +kernel
theorem dL_orders_47 : decode cL_orders 47 = .ok (.bipush 16, 2) := by decide +kernel
theorem dL_orders_49 : decode cL_orders 49 = .ok (.iconst 0, 1) := by decide +kernel
theorem dL_orders_50 : decode cL_orders 50 = .ok (.iconst 0, 1) := by decide +kernel
theorem dL_orders_51 : decode cL_orders 51 = .ok (.iconst 0, 1) := by decide +kernel
theorem dL_orders_52 : decode cL_orders 52 = .ok (.invokestatic 95, 3) := by decide +kernel
theorem dL_orders_55 : decode cL_orders 55 = .ok (.ldc 89, 2) := by decide +kernel
theorem dL_orders_57 : decode cL_orders 57 = .ok (.if_icmp .ne 338, 3) := by decide +kernel
theorem dL_orders_60 : decode cL_orders 60 = .ok (.aload_n 0, 1) := by decide +kernel
theorem dL_orders_61 : decode cL_orders 61 = .ok (.iconst 0, 1) := by decide +kernel
theorem dL_orders_62 : decode cL_orders 62 = .ok (.iconst 2, 1) := by decide +kernel
theorem dL_orders_63 : decode cL_orders 63 = .ok (.invokevirtual 66, 3) := by decide +kernel
theorem dL_orders_66 : decode cL_orders 66 = .ok (.iconst 1, 1) := by decide +kernel
theorem dL_orders_67 : decode cL_orders 67 = .ok (.if_icmp .ne 328, 3) := by decide +kernel
theorem dL_orders_70 : decode cL_orders 70 = .ok (.aload_n 0, 1) := by decide +kernel
theorem dL_orders_71 : decode cL_orders 71 = .ok (.iconst 0, 1) := by decide +kernel
theorem dL_orders_72 : decode cL_orders 72 = .ok (.iconst 0, 1) := by decide +kernel
theorem dL_orders_73 : decode cL_orders 73 = .ok (.invokevirtual 66, 3) := by decide +kernel
theorem dL_orders_76 : decode cL_orders 76 = .ok (.iconst 2, 1) := by decide +kernel
theorem dL_orders_77 : decode cL_orders 77 = .ok (.if_icmp .ne 318, 3) := by decide +kernel
theorem dL_orders_80 : decode cL_orders 80 = .ok (.aload_n 0, 1) := by decide +kernel
theorem dL_orders_81 : decode cL_orders 81 = .ok (.bipush 17, 2) := by decide +kernel
theorem dL_orders_83 : decode cL_orders 83 = .ok (.iconst 0, 1) := by decide +kernel
theorem dL_orders_84 : decode cL_orders 84 = .ok (.iconst 1, 1) := by decide +kernel
theorem dL_orders_85 : decode cL_orders 85 = .ok (.iconst 0, 1) := by decide +kernel
theorem dL_orders_86 : decode cL_orders 86 = .ok (.invokestatic 95, 3) := by decide +kernel
theorem dL_orders_89 : decode cL_orders 89 = .ok (.ldc 89, 2) := by decide +kernel
theorem dL_orders_91 : decode cL_orders 91 = .ok (.if_icmp .ne 304, 3) := by decide +kernel
theorem dL_orders_94 : decode cL_orders 94 = .ok (.aload_n 0, 1) := by decide +kernel
theorem dL_orders_95 : decode cL_orders 95 = .ok (.iconst 1, 1) := by decide +kernel
theorem dL_orders_96 : decode cL_orders 96 = .ok (.invokevirtual 63, 3) := by decide +kernel
theorem dL_orders_99 : decode cL_orders 99 = .ok (.iconst 3, 1) := by decide +kernel
theorem dL_orders_100 : decode cL_orders 100 = .ok (.if_icmp .ne 295, 3) := by decide +kernel
theorem dL_orders_103 : decode cL_orders 103 = .ok (.aload_n 0, 1) := by decide +kernel
theorem dL_orders_104 : decode cL_orders 104 = .ok (.iconst 3, 1) := by decide +kernel
theorem dL_orders_105 : decode cL_orders 105 = .ok (.invokevirtual 63, 3) := by decide +kernel
theorem dL_orders_108 : decode cL_orders 108 = .ok (.iconst 4, 1) := by decide +kernel
theorem dL_orders_109 : decode cL_orders 109 = .ok (.if_icmp .ne 286, 3) := by decide +kernel
theorem dL_orders_112 : decode cL_orders 112 = .ok (.aload_n 0, 1) := by decide +kernel
theorem dL_orders_113 : decode cL_orders 113 = .ok (.iconst 0, 1) := by decide +kernel
theorem dL_orders_114 : decode cL_orders 114 = .ok (.iconst 1, 1) := by decide +kernel
theorem dL_orders_115 : decode cL_orders 115 = .ok (.invokevirtual 66, 3) := by decide +kernel
theorem dL_orders_118 : decode cL_orders 118 = .ok (.ifCond .ne 277, 3) := by decide +kernel
theorem dL_orders_121 : decode cL_orders 121 = .ok (.aload_n 0, 1) := by decide +kernel
theorem dL_orders_122 : decode cL_orders 122 = .ok (.iconst 0, 1) := by decide +kernel
theorem dL_orders_123 : decode cL_orders 123 = .ok (.iconst 3, 1) := by decide +kernel
theorem dL_orders_124 : decode cL_orders 124 = .ok (.invokevirtual 66, 3) := by decide +kernel
theorem dL_orders_127 : decode cL_orders 127 = .ok (.iconst 1, 1) := by decide +kernel
theorem dL_orders_128 : decode cL_orders 128 = .ok (.if_icmp .ne 267, 3) := by decide +kernel
theorem dL_orders_131 : decode cL_orders 131 = .ok (.aload_n 0, 1) := by decide +kernel
theorem dL_orders_132 : decode cL_orders 132 = .ok (.iconst 1, 1) := by decide +kernel
theorem dL_orders_133 : decode cL_orders 133 = .ok (.iconst 2, 1) := by decide +kernel
theorem dL_orders_134 : decode cL_orders 134 = .ok (.invokevirtual 66, 3) := by decide +kernel
theorem dL_orders_137 : decode cL_orders 137 = .ok (.iconst 3, 1) := by decide +kernel
theorem dL_orders_138 : decode cL_orders 138 = .ok (.if_icmp .ne 257, 3) := by decide +kernel
theorem dL_orders_141 : decode cL_orders 141 = .ok (.aload_n 0, 1) := by decide +kernel
theorem dL_orders_142 : decode cL_orders 142 = .ok (.iconst 1, 1) := by decide +kernel
theorem dL_orders_143 : decode cL_orders 143 = .ok (.iconst 0, 1) := by decide +kernel
theorem dL_orders_144 : decode cL_orders 144 = .ok (.invokevirtual 66, 3) := by decide +kernel
theorem dL_orders_147 : decode cL_orders 147 = .ok (.bipush 7, 2) := by decide +kernel
theorem dL_orders_149 : decode cL_orders 149 = .ok (.if_icmp .ne 246, 3) := by decide +kernel
theorem dL_orders_152 : decode cL_orders 152 = .ok (.aload_n 0, 1) := by decide +kernel
theorem dL_orders_153 : decode cL_orders 153 = .ok (.iconst 1, 1) := by decide +kernel
theorem dL_orders_154 : decode cL_orders 154 = .ok (.iconst 1, 1) := by decide +kernel
theorem dL_orders_155 : decode cL_orders 155 = .ok (.invokevirtual 66, 3) := by decide +kernel
theorem dL_orders_158 : decode cL_orders 158 = .ok (.bipush (-8), 2) := by decide +kernel
theorem dL_orders_160 : decode cL_orders 160 = .ok (.if_icmp .ne 235, 3) := by decide +kernel
theorem dL_orders_163 : decode cL_orders 163 = .ok (.aload_n 0, 1) := by decide +kernel
theorem dL_orders_164 : decode cL_orders 164 = .ok (.iconst 1, 1) := by decide +kernel
theorem dL_orders_165 : decode cL_orders 165 = .ok (.iconst 3, 1) := by decide +kernel
theorem dL_orders_166 : decode cL_orders 166 = .ok (.invokevirtual 66, 3) := by decide +kernel
theorem dL_orders_169 : decode cL_orders 169 = .ok (.bipush (-2), 2) := by decide +kernel
theorem dL_orders_171 : decode cL_orders 171 = .ok (.if_icmp .ne 224, 3) := by decide +kernel
theorem dL_orders_174 : decode cL_orders 174 = .ok (.aload_n 0, 1) := by decide +kernel
theorem dL_orders_175 : decode cL_orders 175 = .ok (.iconst 3, 1) := by decide +kernel
theorem dL_orders_176 : decode cL_orders 176 = .ok (.invokevirtual 63, 3) := by decide +kernel
theorem dL_orders_179 : decode cL_orders 179 = .ok (.iconst 1, 1) := by decide +kernel
theorem dL_orders_180 : decode cL_orders 180 = .ok (.if_icmp .ne 215, 3) := by decide +kernel
theorem dL_orders_183 : decode cL_orders 183 = .ok (.aload_n 0, 1) := by decide +kernel
theorem dL_orders_184 : decode cL_orders 184 = .ok (.iconst 0, 1) := by decide +kernel
theorem dL_orders_185 : decode cL_orders 185 = .ok (.iconst 3, 1) := by decide +kernel
theorem dL_orders_186 : decode cL_orders 186 = .ok (.invokevirtual 66, 3) := by decide +kernel
theorem dL_orders_189 : decode cL_orders 189 = .ok (.iconst 1, 1) := by decide +kernel
theorem dL_orders_190 : decode cL_orders 190 = .ok (.if_icmp .ne 205, 3) := by decide +kernel
theorem dL_orders_193 : decode cL_orders 193 = .ok (.aload_n 0, 1) := by decide +kernel
theorem dL_orders_194 : decode cL_orders 194 = .ok (.iconst 1, 1) := by decide +kernel
theorem dL_orders_195 : decode cL_orders 195 = .ok (.iconst 3, 1) := by decide +kernel
theorem dL_orders_196 : decode cL_orders 196 = .ok (.invokevirtual 66, 3) := by decide +kernel
theorem dL_orders_199 : decode cL_orders 199 = .ok (.iconst 2, 1) := by decide +kernel
theorem dL_orders_200 : decode cL_orders 200 = .ok (.if_icmp .ne 195, 3) := by decide +kernel
theorem dL_orders_203 : decode cL_orders 203 = .ok (.aload_n 0, 1) := by decide +kernel
theorem dL_orders_204 : decode cL_orders 204 = .ok (.bipush 17, 2) := by decide +kernel
theorem dL_orders_206 : decode cL_orders 206 = .ok (.iconst 0, 1) := by decide +kernel
theorem dL_orders_207 : decode cL_orders 207 = .ok (.iconst 0, 1) := by decide +kernel
theorem dL_orders_208 : decode cL_orders 208 = .ok (.iconst 0, 1) := by decide +kernel
theorem dL_orders_209 : decode cL_orders 209 = .ok (.invokestatic 95, 3) := by decide +kernel
theorem dL_orders_212 : decode cL_orders 212 = .ok (.ldc 89, 2) := by decide +kernel
theorem dL_orders_214 : decode cL_orders 214 = .ok (.if_icmp .ne 181, 3) := by decide +kernel
theorem dL_orders_217 : decode cL_orders 217 = .ok (.aload_n 0, 1) := by decide +kernel
theorem dL_orders_218 : decode cL_orders 218 = .ok (.iconst 0, 1) := by decide +kernel
theorem dL_orders_219 : decode cL_orders 219 = .ok (.invokevirtual 63, 3) := by decide +kernel
theorem dL_orders_222 : decode cL_orders 222 = .ok (.iconst 2, 1) := by decide +kernel
theorem dL_orders_223 : decode cL_orders 223 = .ok (.if_icmp .ne 172, 3) := by decide +kernel
theorem dL_orders_226 : decode cL_orders 226 = .ok (.aload_n 0, 1) := by decide +kernel
theorem dL_orders_227 : decode cL_orders 227 = .ok (.iconst 1, 1) := by decide +kernel
theorem dL_orders_228 : decode cL_orders 228 = .ok (.iconst 0, 1) := by decide +kernel
theorem dL_orders_229 : decode cL_orders 229 = .ok (.invokevirtual 66, 3) := by decide +kernel
theorem dL_orders_232 : decode cL_orders 232 = .ok (.iconst 3, 1) := by decide +kernel
theorem dL_orders_233 : decode cL_orders 233 = .ok (.if_icmp .ne 162, 3) := by decide +kernel
theorem dL_orders_236 : decode cL_orders 236 = .ok (.aload_n 0, 1) := by decide +kernel
theorem dL_orders_237 : decode cL_orders 237 = .ok (.iconst 4, 1) := by decide +kernel
theorem dL_orders_238 : decode cL_orders 238 = .ok (.bipush 8, 2) := by decide +kernel
theorem dL_orders_240 : decode cL_orders 240 = .ok (.invokestatic 105, 3) := by decide +kernel
theorem dL_orders_243 : decode cL_orders 243 = .ok (.ifCond .eq 152, 3) := by decide +kernel
theorem dL_orders_246 : decode cL_orders 246 = .ok (.aload_n 0, 1) := by decide +kernel
theorem dL_orders_247 : decode cL_orders 247 = .ok (.iconst 2, 1) := by decide +kernel
theorem dL_orders_248 : decode cL_orders 248 = .ok (.invokevirtual 7, 3) := by decide +kernel
theorem dL_orders_251 : decode cL_orders 251 = .ok (.iconst 4, 1) := by decide +kernel
theorem dL_orders_252 : decode cL_orders 252 = .ok (.if_icmp .ne 143, 3) := by decide +kernel
theorem dL_orders_255 : decode cL_orders 255 = .ok (.aload_n 0, 1) := by decide +kernel
theorem dL_orders_256 : decode cL_orders 256 = .ok (.iconst 2, 1) := by decide +kernel
theorem dL_orders_257 : decode cL_orders 257 = .ok (.iconst 0, 1) := by decide +kernel
theorem dL_orders_258 : decode cL_orders 258 = .ok (.invokestatic 105, 3) := by decide +kernel
theorem dL_orders_261 : decode cL_orders 261 = .ok (.ifCond .eq 134, 3) := by decide +kernel
theorem dL_orders_264 : decode cL_orders 264 = .ok (.aload_n 0, 1) := by decide +kernel
theorem dL_orders_265 : decode cL_orders 265 = .ok (.bipush 17, 2) := by decide +kernel
theorem dL_orders_267 : decode cL_orders 267 = .ok (.iconst 0, 1) := by decide +kernel
theorem dL_orders_268 : decode cL_orders 268 = .ok (.iconst 0, 1) := by decide +kernel
theorem dL_orders_269 : decode cL_orders 269 = .ok (.iconst 0, 1) := by decide +kernel
theorem dL_orders_270 : decode cL_orders 270 = .ok (.invokestatic 95, 3) := by decide +kernel
theorem dL_orders_273 : decode cL_orders 273 = .ok (.ldc 83, 2) := by decide +kernel
theorem dL_orders_275 : decode cL_orders 275 = .ok (.if_icmp .ne 120, 3) := by decide +kernel
theorem dL_orders_278 : decode cL_orders 278 = .ok (.aload_n 0, 1) := by decide +kernel
theorem dL_orders_279 : decode cL_orders 279 = .ok (.iconst 0, 1) := by decide +kernel
theorem dL_orders_280 : decode cL_orders 280 = .ok (.invokevirtual 31, 3) := by decide +kernel
theorem dL_orders_283 : decode cL_orders 283 = .ok (.ifCond .ne 112, 3) := by decide +kernel
theorem dL_orders_286 : decode cL_orders 286 = .ok (.aload_n 0, 1) := by decide +kernel
theorem dL_orders_287 : decode cL_orders 287 = .ok (.iconst 0, 1) := by decide +kernel
theorem dL_orders_288 : decode cL_orders 288 = .ok (.iconst 3, 1) := by decide +kernel
theorem dL_orders_289 : decode cL_orders 289 = .ok (.invokevirtual 43, 3) := by decide +kernel
theorem dL_orders_292 : decode cL_orders 292 = .ok (.ifCond .ne 103, 3) := by decide +kernel
theorem dL_orders_295 : decode cL_orders 295 = .ok (.aload_n 0, 1) := by decide +kernel
theorem dL_orders_296 : decode cL_orders 296 = .ok (.iconst 1, 1) := by decide +kernel
theorem dL_orders_297 : decode cL_orders 297 = .ok (.invokevirtual 31, 3) := by decide +kernel
theorem dL_orders_300 : decode cL_orders 300 = .ok (.iconst 1, 1) := by decide +kernel
theorem dL_orders_301 : decode cL_orders 301 = .ok (.if_icmp .ne 94, 3) := by decide +kernel
theorem dL_orders_304 : decode cL_orders 304 = .ok (.aload_n 0, 1) := by decide +kernel
theorem dL_orders_305 : decode cL_orders 305 = .ok (.iconst 1, 1) := by decide +kernel
theorem dL_orders_306 : decode cL_orders 306 = .ok (.iconst 1, 1) := by decide +kernel
theorem dL_orders_307 : decode cL_orders 307 = .ok (.invokevirtual 43, 3) := by decide +kernel
theorem dL_orders_310 : decode cL_orders 310 = .ok (.ifCond .ne 85, 3) := by decide +kernel
theorem dL_orders_313 : decode cL_orders 313 = .ok (.aload_n 0, 1) := by decide +kernel
theorem dL_orders_314 : decode cL_orders 314 = .ok (.iconst 2, 1) := by decide +kernel
theorem dL_orders_315 : decode cL_orders 315 = .ok (.invokevirtual 31, 3) := by decide +kernel
theorem dL_orders_318 : decode cL_orders 318 = .ok (.iconst 2, 1) := by decide +kernel
theorem dL_orders_319 : decode cL_orders 319 = .ok (.if_icmp .ne 76, 3) := by decide +kernel
theorem dL_orders_322 : decode cL_orders 322 = .ok (.aload_n 0, 1) := by decide +kernel
theorem dL_orders_323 : decode cL_orders 323 = .ok (.iconst 2, 1) := by decide +kernel
theorem dL_orders_324 : decode cL_orders 324 = .ok (.iconst 3, 1) := by decide +kernel
theorem dL_orders_325 : decode cL_orders 325 = .ok (.invokevirtual 43, 3) := by decide +kernel
theorem dL_orders_328 : decode cL_orders 328 = .ok (.iconst 1, 1) := by decide +kernel
theorem dL_orders_329 : decode cL_orders 329 = .ok (.if_icmp .ne 66, 3) := by decide +kernel
theorem dL_orders_332 : decode cL_orders 332 = .ok (.aload_n 0, 1) := by decide +kernel
theorem dL_orders_333 : decode cL_orders 333 = .ok (.iconst 4, 1) := by decide +kernel
theorem dL_orders_334 : decode cL_orders 334 = .ok (.invokevirtual 31, 3) := by decide +kernel
theorem dL_orders_337 : decode cL_orders 337 = .ok (.iconst 3, 1) := by decide +kernel
theorem dL_orders_338 : decode cL_orders 338 = .ok (.if_icmp .ne 57, 3) := by decide +kernel
theorem dL_orders_341 : decode cL_orders 341 = .ok (.aload_n 0, 1) := by decide +kernel
theorem dL_orders_342 : decode cL_orders 342 = .ok (.iconst 3, 1) := by decide +kernel
theorem dL_orders_343 : decode cL_orders 343 = .ok (.iconst 3, 1) := by decide +kernel
theorem dL_orders_344 : decode cL_orders 344 = .ok (.invokevirtual 43, 3) := by decide +kernel
theorem dL_orders_347 : decode cL_orders 347 = .ok (.ifCond .ne 48, 3) := by decide +kernel
theorem dL_orders_350 : decode cL_orders 350 = .ok (.aload_n 0, 1) := by decide +kernel
theorem dL_orders_351 : decode cL_orders 351 = .ok (.iconst 1, 1) := by decide +kernel
theorem dL_orders_352 : decode cL_orders 352 = .ok (.invokevirtual 63, 3) := by decide +kernel
theorem dL_orders_355 : decode cL_orders 355 = .ok (.iconst 1, 1) := by decide +kernel
theorem dL_orders_356 : decode cL_orders 356 = .ok (.if_icmp .ne 39, 3) := by decide +kernel
theorem dL_orders_359 : decode cL_orders 359 = .ok (.aload_n 0, 1) := by decide +kernel
theorem dL_orders_360 : decode cL_orders 360 = .ok (.iconst 2, 1) := by decide +kernel
theorem dL_orders_361 : decode cL_orders 361 = .ok (.invokevirtual 7, 3) := by decide +kernel
theorem dL_orders_364 : decode cL_orders 364 = .ok (.iconst 2, 1) := by decide +kernel
theorem dL_orders_365 : decode cL_orders 365 = .ok (.if_icmp .ne 30, 3) := by decide +kernel
theorem dL_orders_368 : decode cL_orders 368 = .ok (.aload_n 0, 1) := by decide +kernel
theorem dL_orders_369 : decode cL_orders 369 = .ok (.bipush 10, 2) := by decide +kernel
theorem dL_orders_371 : decode cL_orders 371 = .ok (.iconst 0, 1) := by decide +kernel
theorem dL_orders_372 : decode cL_orders 372 = .ok (.iconst 0, 1) := by decide +kernel
theorem dL_orders_373 : decode cL_orders 373 = .ok (.iconst 0, 1) := by decide +kernel
theorem dL_orders_374 : decode cL_orders 374 = .ok (.invokestatic 95, 3) := by decide +kernel
theorem dL_orders_377 : decode cL_orders 377 = .ok (.ldc 83, 2) := by decide +kernel
theorem dL_orders_379 : decode cL_orders 379 = .ok (.if_icmp .ne 16, 3) := by decide +kernel
theorem dL_orders_382 : decode cL_orders 382 = .ok (.aload_n 0, 1) := by decide +kernel
theorem dL_orders_383 : decode cL_orders 383 = .ok (.iconst 1, 1) := by decide +kernel
theorem dL_orders_384 : decode cL_orders 384 = .ok (.invokevirtual 63, 3) := by decide +kernel
theorem dL_orders_387 : decode cL_orders 387 = .ok (.iconst 1, 1) := by decide +kernel
theorem dL_orders_388 : decode cL_orders 388 = .ok (.if_icmp .ne 7, 3) := by decide +kernel
theorem dL_orders_391 : decode cL_orders 391 = .ok (.iconst 1, 1) := by decide +kernel
theorem dL_orders_392 : decode cL_orders 392 = .ok (.goto 4, 3) := by decide +kernel
theorem dL_orders_395 : decode cL_orders 395 = .ok (.iconst 0, 1) := by decide +kernel
theorem dL_orders_396 : decode cL_orders 396 = .ok (.ireturn, 1) := by decide +kernel
set_option maxRecDepth 20000 in
theorem ggL_six_X0_init : GoodIn wsL_six wsX0_init := goodIn_r _ [6, 7, 8, 9, 10, 11, 12, 13, 14, 15, 16, 17, 18, 19, 20, 21, 22, 23, 24, 25, 26, 339, 340, 341, 342, 343, 344, 345, 346, 347, 348, 349, 350] (by decide +kernel) (by decide +kernel)
set_option maxRecDepth 20000 in
theorem gL_six_X0_init : GoodIn wsL_six (wsX0_init) := ggL_six_X0_init
set_option maxRecDepth 20000 in
theorem ggL_six_X0_elements : GoodIn wsL_six wsX0_elements := goodIn_ca (goodIn_r _ [30, 10, 11, 12, 14, 15, 16, 17, 18, 31, 32, 3, 33, 34, 35, 36, 37, 38, 23, 24, 25, 26, 339, 340, 341, 342, 343, 344, 345, 346, 347, 348, 349, 350] (by decide +kernel) (by decide +kernel)) (goodIn_sub (fun _ h => List.mem_cons_of_mem _ (List.mem_append_left _ (List.mem_append_left _ (List.mem_append_right _ h)))) (by decide +kernel))
set_option maxRecDepth 20000 in
theorem gL_six_X0_elements : GoodIn wsL_six (wsV RL 7 RX0 yX0_elements wsX0_elements) := goodIn_app (goodIn_of _ (by decide +kernel)) ggL_six_X0_elements
set_option maxRecDepth 20000 in
theorem ggL_six_X0_weigh : GoodIn wsL_six wsX0_weigh := goodIn_ca (goodIn_ca (goodIn_r _ [42, 18, 43, 44, 45, 3, 46, 10, 47, 48, 49, 50, 51, 31, 32, 33, 34, 35, 36, 37, 38, 52, 53, 54, 55, 56, 57, 339, 340, 341, 342, 343, 344, 345, 346, 347, 348, 349, 350] (by decide +kernel) (by decide +kernel)) (goodIn_sub (fun _ h => List.mem_cons_of_mem _ (List.mem_append_left _ (List.mem_append_right _ h))) (by decide +kernel))) (goodIn_sub (fun _ h => List.mem_cons_of_mem _ (List.mem_append_left _ (List.mem_append_left _ (List.mem_append_right _ h)))) (by decide +kernel))
set_option maxRecDepth 20000 in
theorem gL_six_X0_weigh : GoodIn wsL_six (wsV RL 27 RX0 yX0_weigh wsX0_weigh) := goodIn_app (goodIn_of _ (by decide +kernel)) ggL_six_X0_weigh
set_option maxRecDepth 20000 in
theorem ggL_six_X0_make : GoodIn wsL_six wsX0_make := goodIn_ca (goodIn_ca (goodIn_r _ [61, 31, 32, 3, 33, 34, 35, 36, 37, 38, 62, 63, 64, 65, 11, 66, 67, 68, 69, 70, 71, 72, 73, 74, 10, 75, 76, 77, 78, 79, 80, 81, 82, 14, 83, 84, 85, 52, 53, 54, 86, 87, 88, 89, 90, 91, 92, 93, 94, 95, 96, 97, 98, 99, 100, 15, 101, 102, 103, 104, 105, 106, 107, 108, 109, 110, 111, 112, 113, 114, 115, 116, 16, 117, 118, 119, 120, 17, 121, 122, 123, 124, 18, 125, 126, 127, 128, 19, 55, 56, 57, 129, 130, 131, 132, 339, 340, 341, 342, 343, 344, 345, 346, 347, 348, 349, 350] (by decide +kernel) (by decide +kernel)) (goodIn_sub (fun _ h => List.mem_cons_of_mem _ (List.mem_append_left _ (List.mem_append_left _ (List.mem_append_right _ h)))) (by decide +kernel))) (goodIn_sub (fun _ h => List.mem_cons_of_mem _ (List.mem_append_right _ h)) (by decide +kernel))
set_option maxRecDepth 20000 in
theorem gL_six_X0_make : GoodIn wsL_six (wsV RL 31 RX0 yX0_make wsX0_make) := goodIn_app (goodIn_of _ (by decide +kernel)) ggL_six_X0_make
set_option maxRecDepth 20000 in
theorem ggL_six_X0_isLawful : GoodIn wsL_six wsX0_isLawful := goodIn_ca (goodIn_r _ [136, 137, 138, 139, 3, 140, 11, 47, 48, 49, 50, 51, 141, 142, 143, 144, 71, 72, 73, 74, 10, 145, 146, 147, 148, 83, 84, 85, 149, 150, 151, 152, 153, 154, 155, 156, 157, 158, 159, 19, 52, 53, 54, 339, 340, 341, 342, 343, 344, 345, 346, 347, 348, 349, 350] (by decide +kernel) (by decide +kernel)) (goodIn_sub (fun _ h => List.mem_cons_of_mem _ (List.mem_append_left _ (List.mem_append_right _ h))) (by decide +kernel))
set_option maxRecDepth 20000 in
theorem gL_six_X0_isLawful : GoodIn wsL_six (wsV RL 46 RX0 yX0_isLawful wsX0_isLawful) := goodIn_app (goodIn_of _ (by decide +kernel)) ggL_six_X0_isLawful
set_option maxRecDepth 20000 in
theorem ggL_six_L_least : GoodIn wsL_six wsL_least := goodIn_ca (goodIn_ca (goodIn_r _ [163, 164, 165, 166, 3, 167, 137, 138, 139, 140, 11, 47, 48, 49, 50, 51, 141, 142, 143, 144, 71, 72, 73, 74, 10, 145, 146, 147, 148, 83, 84, 85, 149, 150, 151, 152, 153, 154, 155, 156, 157, 158, 159, 19, 52, 53, 54, 66, 67, 68, 69, 70, 168, 169, 170, 171, 172, 173, 174, 175, 176, 177, 178, 179, 180, 181, 182, 183, 184, 185, 186, 187, 188, 189, 190, 191, 192, 193, 194, 105, 106, 107, 108, 339, 340, 341, 342, 343, 344, 345, 346, 347, 348, 349, 350] rfl (by decide +kernel)) (goodIn_sub (fun _ h => List.mem_cons_of_mem _ (List.mem_append_left _ (List.mem_append_right _ h))) (by decide +kernel))) (goodIn_sub (fun _ h => List.mem_cons_of_mem _ (List.mem_append_right _ h)) (by decide +kernel))
set_option maxRecDepth 20000 in
theorem gL_six_L_least : GoodIn wsL_six (va_wsS RL 109 yL_least wsL_least) := goodIn_app (goodIn_of _ (by decide +kernel)) ggL_six_L_least
set_option maxRecDepth 20000 in
theorem ggL_six_L_share : GoodIn wsL_six wsL_share := goodIn_ca (goodIn_r _ [197, 198, 199, 200, 3, 201, 10, 137, 138, 139, 140, 11, 43, 44, 45, 46, 47, 48, 49, 50, 51, 71, 72, 73, 74, 83, 84, 85, 86, 87, 88, 89, 90, 91, 92, 202, 203, 204, 149, 150, 151, 152, 153, 154, 155, 156, 157, 158, 159, 19, 52, 53, 54, 205, 206, 207, 208, 209, 210, 211, 212, 339, 340, 341, 342, 343, 344, 345, 346, 347, 348, 349, 350] rfl (by decide +kernel)) (goodIn_sub (fun _ h => List.mem_cons_of_mem _ (List.mem_append_left _ (List.mem_append_right _ h))) (by decide +kernel))
set_option maxRecDepth 20000 in
theorem gL_six_L_share : GoodIn wsL_six (va_wsS RL 123 yL_share wsL_share) := goodIn_app (goodIn_of _ (by decide +kernel)) ggL_six_L_share
set_option maxRecDepth 20000 in
theorem ggL_six_X0_greedy : GoodIn wsL_six wsX0_greedy := goodIn_ca (goodIn_ca (goodIn_r _ [216, 137, 138, 139, 3, 140, 11, 47, 48, 49, 50, 51, 31, 32, 33, 34, 35, 36, 37, 38, 217, 218, 219, 220, 10, 149, 150, 151, 152, 153, 154, 155, 156, 157, 158, 159, 19, 52, 53, 54, 339, 340, 341, 342, 343, 344, 345, 346, 347, 348, 349, 350] (by decide +kernel) (by decide +kernel)) (goodIn_sub (fun _ h => List.mem_cons_of_mem _ (List.mem_append_left _ (List.mem_append_right _ h))) (by decide +kernel))) (goodIn_sub (fun _ h => List.mem_cons_of_mem _ (List.mem_append_left _ (List.mem_append_left _ (List.mem_append_right _ h)))) (by decide +kernel))
set_option maxRecDepth 20000 in
theorem gL_six_X0_greedy : GoodIn wsL_six (wsV RL 69 RX0 yX0_greedy wsX0_greedy) := goodIn_app (goodIn_of _ (by decide +kernel)) ggL_six_X0_greedy
set_option maxRecDepth 20000 in
theorem ggL_six_X0_order : GoodIn wsL_six wsX0_order := goodIn_ca (goodIn_ca (goodIn_r _ [224, 12, 10, 20, 43, 44, 45, 3, 46, 47, 48, 49, 50, 51, 225, 226, 227, 228, 52, 53, 54, 66, 67, 68, 69, 70, 55, 56, 57, 339, 340, 341, 342, 343, 344, 345, 346, 347, 348, 349, 350] (by decide +kernel) (by decide +kernel)) (goodIn_sub (fun _ h => List.mem_cons_of_mem _ (List.mem_append_left _ (List.mem_append_right _ h))) (by decide +kernel))) (goodIn_sub (fun _ h => List.mem_cons_of_mem _ (List.mem_append_right _ h)) (by decide +kernel))
set_option maxRecDepth 20000 in
theorem gL_six_X0_order : GoodIn wsL_six (wsV RL 63 RX0 yX0_order wsX0_order) := goodIn_app (goodIn_of _ (by decide +kernel)) ggL_six_X0_order
set_option maxRecDepth 20000 in
theorem ggL_six_X0_corner : GoodIn wsL_six wsX0_corner := goodIn_ca (goodIn_ca (goodIn_r _ [232, 137, 138, 139, 3, 140, 11, 43, 44, 45, 46, 10, 47, 48, 49, 50, 51, 225, 226, 227, 228, 12, 20, 52, 53, 54, 66, 67, 68, 69, 70, 233, 234, 235, 236, 153, 154, 155, 149, 150, 151, 152, 156, 157, 158, 159, 19, 339, 340, 341, 342, 343, 344, 345, 346, 347, 348, 349, 350] (by decide +kernel) (by decide +kernel)) (goodIn_sub (fun _ h => List.mem_cons_of_mem _ (List.mem_append_left _ (List.mem_append_right _ h))) (by decide +kernel))) (goodIn_sub (fun _ h => List.mem_cons_of_mem _ (List.mem_append_right _ h)) (by decide +kernel))
set_option maxRecDepth 20000 in
theorem gL_six_X0_corner : GoodIn wsL_six (wsV RL 66 RX0 yX0_corner wsX0_corner) := goodIn_app (goodIn_of _ (by decide +kernel)) ggL_six_X0_corner
set_option maxRecDepth 20000 in
theorem ggL_six_L_refuses : GoodIn wsL_six wsL_refuses := goodIn_ca (goodIn_ca (goodIn_ca (goodIn_r _ [239, 240, 241, 242, 243, 244, 245, 3, 246, 10, 247, 248, 249, 250, 22, 251, 252, 253, 254, 21, 23, 24, 25, 26, 255, 256, 257, 258, 113, 114, 115, 116, 16, 52, 53, 54, 83, 84, 85, 109, 110, 111, 112, 117, 118, 119, 120, 17, 55, 56, 57, 259, 260, 261, 262, 263, 264, 265, 266, 86, 87, 88, 89, 90, 91, 92, 267, 268, 269, 270, 271, 272, 162, 273, 274, 275, 276, 277, 27, 28, 29, 30, 11, 12, 14, 15, 18, 31, 32, 33, 34, 35, 36, 37, 38, 278, 279, 280, 281, 43, 44, 45, 46, 47, 48, 49, 50, 51, 153, 154, 155, 180, 181, 182, 282, 283, 284, 285, 97, 98, 99, 100, 286, 287, 288, 289, 290, 291, 292, 293, 294, 295, 296, 297, 298, 299, 39, 40, 41, 42, 58, 59, 60, 61, 62, 63, 64, 65, 66, 67, 68, 69, 70, 71, 72, 73, 74, 75, 76, 77, 78, 79, 80, 81, 82, 93, 94, 95, 96, 101, 102, 103, 104, 105, 106, 107, 108, 121, 122, 123, 124, 125, 126, 127, 128, 19, 129, 130, 131, 132, 300, 301, 302, 303, 137, 138, 139, 140, 156, 157, 158, 159, 304, 305, 306, 307, 308, 309, 310, 311, 312, 313, 314, 315, 316, 317, 318, 319, 133, 134, 135, 136, 141, 142, 143, 144, 145, 146, 147, 148, 149, 150, 151, 152, 320, 321, 322, 323, 164, 165, 166, 167, 168, 169, 170, 171, 172, 173, 174, 175, 176, 177, 178, 179, 183, 184, 185, 186, 187, 188, 189, 190, 191, 192, 193, 194, 221, 222, 223, 224, 20, 225, 226, 227, 228, 229, 230, 231, 232, 233, 234, 235, 236, 213, 214, 215, 216, 217, 218, 219, 220, 324, 325, 326, 327, 328, 329, 330, 198, 199, 200, 201, 202, 203, 204, 205, 206, 207, 208, 209, 210, 211, 212, 331, 332, 333, 334, 335, 336, 337, 338, 339, 340, 341, 342, 343, 344, 345, 346, 347, 348, 349, 350] rfl (by decide +kernel)) (goodIn_sub (fun _ h => List.mem_cons_of_mem _ (List.mem_append_left _ (List.mem_append_left _ (List.mem_append_right _ h)))) (by decide +kernel))) (goodIn_sub (fun _ h => List.mem_cons_of_mem _ (List.mem_append_left _ (List.mem_append_right _ h))) (by decide +kernel))) (goodIn_sub (fun _ h => List.mem_cons_of_mem _ (List.mem_append_right _ h)) (by decide +kernel))
set_option maxRecDepth 20000 in
theorem gL_six_L_refuses : GoodIn wsL_six (va_wsS RL 105 yL_refuses wsL_refuses) := goodIn_app (goodIn_of _ (by decide +kernel)) ggL_six_L_refuses
set_option maxRecDepth 20000 in
theorem ggL_six_X0_cover : GoodIn wsL_six wsX0_cover := goodIn_ca (goodIn_r _ [281, 14, 43, 44, 45, 3, 46, 10, 31, 32, 33, 47, 48, 49, 50, 51, 52, 53, 54, 153, 154, 155, 180, 181, 182, 55, 56, 57, 83, 84, 85, 339, 340, 341, 342, 343, 344, 345, 346, 347, 348, 349, 350] (by decide +kernel) (by decide +kernel)) (goodIn_sub (fun _ h => List.mem_cons_of_mem _ (List.mem_append_left _ (List.mem_append_right _ h))) (by decide +kernel))
set_option maxRecDepth 20000 in
theorem gL_six_X0_cover : GoodIn wsL_six (wsV RL 13 RX0 yX0_cover wsX0_cover) := goodIn_app (goodIn_of _ (by decide +kernel)) ggL_six_X0_cover
set_option maxRecDepth 20000 in
theorem ggL_six_X0_edge : GoodIn wsL_six wsX0_edge := goodIn_ca (goodIn_ca (goodIn_r _ [285, 15, 43, 44, 45, 3, 46, 10, 47, 48, 49, 50, 51, 31, 32, 33, 34, 35, 36, 37, 38, 97, 98, 99, 100, 52, 53, 54, 55, 56, 57, 339, 340, 341, 342, 343, 344, 345, 346, 347, 348, 349, 350] (by decide +kernel) (by decide +kernel)) (goodIn_sub (fun _ h => List.mem_cons_of_mem _ (List.mem_append_left _ (List.mem_append_right _ h))) (by decide +kernel))) (goodIn_sub (fun _ h => List.mem_cons_of_mem _ (List.mem_append_left _ (List.mem_append_left _ (List.mem_append_right _ h)))) (by decide +kernel))
set_option maxRecDepth 20000 in
theorem gL_six_X0_edge : GoodIn wsL_six (wsV RL 17 RX0 yX0_edge wsX0_edge) := goodIn_app (goodIn_of _ (by decide +kernel)) ggL_six_X0_edge
set_option maxRecDepth 20000 in
theorem ggL_six_X0_value : GoodIn wsL_six wsX0_value := goodIn_ca (goodIn_ca (goodIn_r _ [319, 137, 138, 139, 3, 140, 11, 47, 48, 49, 50, 51, 308, 309, 310, 311, 71, 72, 73, 74, 10, 34, 35, 36, 37, 38, 156, 157, 158, 159, 19, 52, 53, 54, 339, 340, 341, 342, 343, 344, 345, 346, 347, 348, 349, 350] (by decide +kernel) (by decide +kernel)) (goodIn_sub (fun _ h => List.mem_cons_of_mem _ (List.mem_append_left _ (List.mem_append_right _ h))) (by decide +kernel))) (goodIn_sub (fun _ h => List.mem_cons_of_mem _ (List.mem_append_left _ (List.mem_append_left _ (List.mem_append_right _ h)))) (by decide +kernel))
set_option maxRecDepth 20000 in
theorem gL_six_X0_value : GoodIn wsL_six (wsV RL 43 RX0 yX0_value wsX0_value) := goodIn_app (goodIn_of _ (by decide +kernel)) ggL_six_X0_value
set_option maxRecDepth 20000 in
theorem ggL_six_X0_best : GoodIn wsL_six wsX0_best := goodIn_ca (goodIn_ca (goodIn_r _ [327, 328, 329, 107, 330, 137, 138, 139, 3, 140, 11, 47, 48, 49, 50, 51, 31, 32, 33, 34, 35, 36, 37, 38, 71, 72, 73, 74, 10, 86, 87, 88, 89, 90, 91, 92, 156, 157, 158, 159, 19, 52, 53, 54, 339, 340, 341, 342, 343, 344, 345, 346, 347, 348, 349, 350] (by decide +kernel) (by decide +kernel)) (goodIn_sub (fun _ h => List.mem_cons_of_mem _ (List.mem_append_left _ (List.mem_append_right _ h))) (by decide +kernel))) (goodIn_sub (fun _ h => List.mem_cons_of_mem _ (List.mem_append_left _ (List.mem_append_left _ (List.mem_append_right _ h)))) (by decide +kernel))
set_option maxRecDepth 20000 in
theorem gL_six_X0_best : GoodIn wsL_six (wsV RL 72 RX0 yX0_best wsX0_best) := goodIn_app (goodIn_of _ (by decide +kernel)) ggL_six_X0_best
set_option maxRecDepth 20000 in
theorem ggL_six_X0_sum : GoodIn wsL_six wsX0_sum := goodIn_ca (goodIn_ca (goodIn_r _ [303, 137, 138, 139, 3, 140, 11, 47, 48, 49, 50, 51, 62, 63, 64, 65, 66, 67, 68, 69, 70, 71, 72, 73, 74, 10, 156, 157, 158, 159, 19, 52, 53, 54, 125, 126, 127, 128, 55, 56, 57, 129, 130, 131, 132, 339, 340, 341, 342, 343, 344, 345, 346, 347, 348, 349, 350] (by decide +kernel) (by decide +kernel)) (goodIn_sub (fun _ h => List.mem_cons_of_mem _ (List.mem_append_left _ (List.mem_append_right _ h))) (by decide +kernel))) (goodIn_sub (fun _ h => List.mem_cons_of_mem _ (List.mem_append_right _ h)) (by decide +kernel))
set_option maxRecDepth 20000 in
theorem gL_six_X0_sum : GoodIn wsL_six (wsV RL 34 RX0 yX0_sum wsX0_sum) := goodIn_app (goodIn_of _ (by decide +kernel)) ggL_six_X0_sum
set_option maxRecDepth 20000 in
theorem ggL_six_X0_contract : GoodIn wsL_six wsX0_contract := goodIn_ca (goodIn_ca (goodIn_ca (goodIn_r _ [307, 137, 138, 139, 3, 140, 11, 47, 48, 49, 50, 51, 308, 309, 310, 311, 71, 72, 73, 74, 10, 34, 35, 36, 37, 38, 62, 63, 64, 65, 66, 67, 68, 69, 70, 156, 157, 158, 159, 19, 52, 53, 54, 125, 126, 127, 128, 55, 56, 57, 129, 130, 131, 132, 339, 340, 341, 342, 343, 344, 345, 346, 347, 348, 349, 350] (by decide +kernel) (by decide +kernel)) (goodIn_sub (fun _ h => List.mem_cons_of_mem _ (List.mem_append_left _ (List.mem_append_right _ h))) (by decide +kernel))) (goodIn_sub (fun _ h => List.mem_cons_of_mem _ (List.mem_append_left _ (List.mem_append_left _ (List.mem_append_right _ h)))) (by decide +kernel))) (goodIn_sub (fun _ h => List.mem_cons_of_mem _ (List.mem_append_right _ h)) (by decide +kernel))
set_option maxRecDepth 20000 in
theorem gL_six_X0_contract : GoodIn wsL_six (wsV RL 37 RX0 yX0_contract wsX0_contract) := goodIn_app (goodIn_of _ (by decide +kernel)) ggL_six_X0_contract
set_option maxRecDepth 20000 in
theorem ggL_six_X0_common : GoodIn wsL_six wsX0_common := goodIn_r _ [246, 10, 247, 248, 249, 3, 250, 22, 251, 252, 253, 254, 21, 23, 24, 25, 26, 255, 256, 257, 258, 113, 114, 115, 116, 16, 52, 53, 54, 83, 84, 85, 109, 110, 111, 112, 117, 118, 119, 120, 17, 55, 56, 57, 259, 260, 261, 262, 263, 264, 265, 266, 86, 87, 88, 89, 90, 91, 92, 267, 268, 269, 270, 339, 340, 341, 342, 343, 344, 345, 346, 347, 348, 349, 350] (by decide +kernel) (by decide +kernel)
set_option maxRecDepth 20000 in
theorem gL_six_X0_common : GoodIn wsL_six (wsV RL 91 RX0 yX0_common wsX0_common) := goodIn_app (goodIn_of _ (by decide +kernel)) ggL_six_X0_common
set_option maxRecDepth 20000 in
theorem ggL_six_X0_room : GoodIn wsL_six wsX0_room := goodIn_ca (goodIn_ca (goodIn_r _ [299, 17, 290, 291, 3, 292, 293, 294, 295, 47, 48, 49, 50, 51, 31, 32, 33, 34, 35, 36, 37, 38, 117, 118, 119, 120, 52, 53, 54, 55, 56, 57, 339, 340, 341, 342, 343, 344, 345, 346, 347, 348, 349, 350] (by decide +kernel) (by decide +kernel)) (goodIn_sub (fun _ h => List.mem_cons_of_mem _ (List.mem_append_left _ (List.mem_append_right _ h))) (by decide +kernel))) (goodIn_sub (fun _ h => List.mem_cons_of_mem _ (List.mem_append_left _ (List.mem_append_left _ (List.mem_append_right _ h)))) (by decide +kernel))
set_option maxRecDepth 20000 in
theorem gL_six_X0_room : GoodIn wsL_six (wsV RL 24 RX0 yX0_room wsX0_room) := goodIn_app (goodIn_of _ (by decide +kernel)) ggL_six_X0_room
theorem dL_six_0 : decode cL_six 0 = .ok (.new 8, 3) := by decide +kernel
theorem dL_six_3 : decode cL_six 3 = .ok (.dup, 1) := by decide +kernel
theorem dL_six_4 : decode cL_six 4 = .ok (.invokespecial 104, 3) := by decide +kernel
theorem dL_six_7 : decode cL_six 7 = .ok (.astore_n 0, 1) := by decide +kernel
theorem dL_six_8 : decode cL_six 8 = .ok (.aload_n 0, 1) := by decide +kernel
theorem dL_six_9 : decode cL_six 9 = .ok (.iconst 1, 1) := by decide +kernel
theorem dL_six_10 : decode cL_six 10 = .ok (.invokevirtual 7, 3) := by decide +kernel
theorem dL_six_13 : decode cL_six 13 = .ok (.iconst 4, 1) := by decide +kernel
theorem dL_six_14 : decode cL_six 14 = .ok (.if_icmp .ne 111, 3) := by decide +kernel
theorem dL_six_17 : decode cL_six 17 = .ok (.aload_n 0, 1) := by decide +kernel
theorem dL_six_18 : decode cL_six 18 = .ok (.iconst 0, 1) := by decide +kernel
theorem dL_six_19 : decode cL_six 19 = .ok (.bipush (-20), 2) := by decide +kernel
theorem dL_six_21 : decode cL_six 21 = .ok (.invokevirtual 27, 3) := by decide +kernel
theorem dL_six_24 : decode cL_six 24 = .ok (.ifCond .ne 101, 3) := by decide +kernel
theorem dL_six_27 : decode cL_six 27 = .ok (.aload_n 0, 1) := by decide +kernel
theorem dL_six_28 : decode cL_six 28 = .ok (.iconst 4, 1) := by decide +kernel
theorem dL_six_29 : decode cL_six 29 = .ok (.invokevirtual 31, 3) := by decide +kernel
theorem dL_six_32 : decode cL_six 32 = .ok (.ifCond .ne 93, 3) := by decide +kernel
theorem dL_six_35 : decode cL_six 35 = .ok (.aload_n 0, 1) := by decide +kernel
theorem dL_six_36 : decode cL_six 36 = .ok (.iconst 0, 1) := by decide +kernel
theorem dL_six_37 : decode cL_six 37 = .ok (.invokevirtual 46, 3) := by decide +kernel
theorem dL_six_40 : decode cL_six 40 = .ok (.ifCond .eq 85, 3) := by decide +kernel
theorem dL_six_43 : decode cL_six 43 = .ok (.aload_n 0, 1) := by decide +kernel
theorem dL_six_44 : decode cL_six 44 = .ok (.iconst 0, 1) := by decide +kernel
theorem dL_six_45 : decode cL_six 45 = .ok (.bipush (-20), 2) := by decide +kernel
theorem dL_six_47 : decode cL_six 47 = .ok (.iconst 1, 1) := by decide +kernel
theorem dL_six_48 : decode cL_six 48 = .ok (.iconst 1, 1) := by decide +kernel
theorem dL_six_49 : decode cL_six 49 = .ok (.invokestatic 109, 3) := by decide +kernel
theorem dL_six_52 : decode cL_six 52 = .ok (.ifCond .eq 73, 3) := by decide +kernel
theorem dL_six_55 : decode cL_six 55 = .ok (.aload_n 0, 1) := by decide +kernel
theorem dL_six_56 : decode cL_six 56 = .ok (.iconst 0, 1) := by decide +kernel
theorem dL_six_57 : decode cL_six 57 = .ok (.iconst 0, 1) := by decide +kernel
theorem dL_six_58 : decode cL_six 58 = .ok (.bipush (-20), 2) := by decide +kernel
theorem dL_six_60 : decode cL_six 60 = .ok (.invokestatic 123, 3) := by decide +kernel
theorem dL_six_63 : decode cL_six 63 = .ok (.ifCond .eq 62, 3) := by decide +kernel
theorem dL_six_66 : decode cL_six 66 = .ok (.aload_n 0, 1) := by decide +kernel
theorem dL_six_67 : decode cL_six 67 = .ok (.iconst 0, 1) := by decide +kernel
theorem dL_six_68 : decode cL_six 68 = .ok (.bipush 6, 2) := by decide +kernel
theorem dL_six_70 : decode cL_six 70 = .ok (.invokevirtual 69, 3) := by decide +kernel
theorem dL_six_73 : decode cL_six 73 = .ok (.ifCond .ne 52, 3) := by decide +kernel
theorem dL_six_76 : decode cL_six 76 = .ok (.aload_n 0, 1) := by decide +kernel
theorem dL_six_77 : decode cL_six 77 = .ok (.iconst 0, 1) := by decide +kernel
theorem dL_six_78 : decode cL_six 78 = .ok (.invokevirtual 63, 3) := by decide +kernel
theorem dL_six_81 : decode cL_six 81 = .ok (.iconst 1, 1) := by decide +kernel
theorem dL_six_82 : decode cL_six 82 = .ok (.if_icmp .ne 43, 3) := by decide +kernel
theorem dL_six_85 : decode cL_six 85 = .ok (.aload_n 0, 1) := by decide +kernel
theorem dL_six_86 : decode cL_six 86 = .ok (.iconst 0, 1) := by decide +kernel
theorem dL_six_87 : decode cL_six 87 = .ok (.iconst 0, 1) := by decide +kernel
theorem dL_six_88 : decode cL_six 88 = .ok (.invokevirtual 66, 3) := by decide +kernel
theorem dL_six_91 : decode cL_six 91 = .ok (.bipush (-20), 2) := by decide +kernel
theorem dL_six_93 : decode cL_six 93 = .ok (.if_icmp .ne 32, 3) := by decide +kernel
theorem dL_six_96 : decode cL_six 96 = .ok (.aload_n 0, 1) := by decide +kernel
theorem dL_six_97 : decode cL_six 97 = .ok (.iconst 0, 1) := by decide +kernel
theorem dL_six_98 : decode cL_six 98 = .ok (.invokevirtual 63, 3) := by decide +kernel
theorem dL_six_101 : decode cL_six 101 = .ok (.iconst 1, 1) := by decide +kernel
theorem dL_six_102 : decode cL_six 102 = .ok (.if_icmp .ne 23, 3) := by decide +kernel
theorem dL_six_105 : decode cL_six 105 = .ok (.aload_n 0, 1) := by decide +kernel
theorem dL_six_106 : decode cL_six 106 = .ok (.bipush 6, 2) := by decide +kernel
theorem dL_six_108 : decode cL_six 108 = .ok (.invokevirtual 7, 3) := by decide +kernel
theorem dL_six_111 : decode cL_six 111 = .ok (.iconst 1, 1) := by decide +kernel
theorem dL_six_112 : decode cL_six 112 = .ok (.if_icmp .ne 13, 3) := by decide +kernel
theorem dL_six_115 : decode cL_six 115 = .ok (.aload_n 0, 1) := by decide +kernel
theorem dL_six_116 : decode cL_six 116 = .ok (.bipush 6, 2) := by decide +kernel
theorem dL_six_118 : decode cL_six 118 = .ok (.iconst 0, 1) := by decide +kernel
theorem dL_six_119 : decode cL_six 119 = .ok (.invokestatic 105, 3) := by decide +kernel
theorem dL_six_122 : decode cL_six 122 = .ok (.ifCond .ne 5, 3) := by decide +kernel
theorem dL_six_125 : decode cL_six 125 = .ok (.iconst 0, 1) := by decide +kernel
theorem dL_six_126 : decode cL_six 126 = .ok (.ireturn, 1) := by decide +kernel
theorem dL_six_127 : decode cL_six 127 = .ok (.iconst 0, 1) := by decide +kernel
theorem dL_six_128 : decode cL_six 128 = .ok (.istore_n 1, 1) := by decide +kernel
theorem dL_six_129 : decode cL_six 129 = .ok (.iload_n 1, 1) := by decide +kernel
theorem dL_six_130 : decode cL_six 130 = .ok (.bipush 6, 2) := by decide +kernel
theorem dL_six_132 : decode cL_six 132 = .ok (.if_icmp .ge 68, 3) := by decide +kernel
theorem dL_six_135 : decode cL_six 135 = .ok (.aload_n 0, 1) := by decide +kernel
theorem dL_six_136 : decode cL_six 136 = .ok (.iload_n 1, 1) := by decide +kernel
theorem dL_six_137 : decode cL_six 137 = .ok (.bipush 20, 2) := by decide +kernel
theorem dL_six_139 : decode cL_six 139 = .ok (.invokevirtual 27, 3) := by decide +kernel
theorem dL_six_142 : decode cL_six 142 = .ok (.ifCond .ne 24, 3) := by decide +kernel
theorem dL_six_145 : decode cL_six 145 = .ok (.aload_n 0, 1) := by decide +kernel
theorem dL_six_146 : decode cL_six 146 = .ok (.iload_n 1, 1) := by decide +kernel
theorem dL_six_147 : decode cL_six 147 = .ok (.iload_n 1, 1) := by decide +kernel
theorem dL_six_148 : decode cL_six 148 = .ok (.iconst 1, 1) := by decide +kernel
theorem dL_six_149 : decode cL_six 149 = .ok (.invokevirtual 13, 3) := by decide +kernel
theorem dL_six_152 : decode cL_six 152 = .ok (.ifCond .ne 14, 3) := by decide +kernel
theorem dL_six_155 : decode cL_six 155 = .ok (.aload_n 0, 1) := by decide +kernel
theorem dL_six_156 : decode cL_six 156 = .ok (.iload_n 1, 1) := by decide +kernel
theorem dL_six_157 : decode cL_six 157 = .ok (.bipush 9, 2) := by decide +kernel
theorem dL_six_159 : decode cL_six 159 = .ok (.iconst 1, 1) := by decide +kernel
theorem dL_six_160 : decode cL_six 160 = .ok (.invokevirtual 13, 3) := by decide +kernel
theorem dL_six_163 : decode cL_six 163 = .ok (.ifCond .eq 5, 3) := by decide +kernel
theorem dL_six_166 : decode cL_six 166 = .ok (.iconst 0, 1) := by decide +kernel
theorem dL_six_167 : decode cL_six 167 = .ok (.ireturn, 1) := by decide +kernel
theorem dL_six_168 : decode cL_six 168 = .ok (.iconst 0, 1) := by decide +kernel
theorem dL_six_169 : decode cL_six 169 = .ok (.istore_n 2, 1) := by decide +kernel
theorem dL_six_170 : decode cL_six 170 = .ok (.iload_n 2, 1) := by decide +kernel
theorem dL_six_171 : decode cL_six 171 = .ok (.iload_n 1, 1) := by decide +kernel
theorem dL_six_172 : decode cL_six 172 = .ok (.if_icmp .ge 22, 3) := by decide +kernel
theorem dL_six_175 : decode cL_six 175 = .ok (.aload_n 0, 1) := by decide +kernel
theorem dL_six_176 : decode cL_six 176 = .ok (.iload_n 1, 1) := by decide +kernel
theorem dL_six_177 : decode cL_six 177 = .ok (.iload_n 2, 1) := by decide +kernel
theorem dL_six_178 : decode cL_six 178 = .ok (.bipush 20, 2) := by decide +kernel
theorem dL_six_180 : decode cL_six 180 = .ok (.invokevirtual 17, 3) := by decide +kernel
theorem dL_six_183 : decode cL_six 183 = .ok (.ifCond .eq 5, 3) := by decide +kernel
theorem dL_six_186 : decode cL_six 186 = .ok (.iconst 0, 1) := by decide +kernel
theorem dL_six_187 : decode cL_six 187 = .ok (.ireturn, 1) := by decide +kernel
theorem dL_six_188 : decode cL_six 188 = .ok (.iinc 2 1, 3) := by decide +kernel
theorem dL_six_191 : decode cL_six 191 = .ok (.goto (-21), 3) := by decide +kernel
theorem dL_six_194 : decode cL_six 194 = .ok (.iinc 1 1, 3) := by decide +kernel
theorem dL_six_197 : decode cL_six 197 = .ok (.goto (-68), 3) := by decide +kernel
theorem dL_six_200 : decode cL_six 200 = .ok (.aload_n 0, 1) := by decide +kernel
theorem dL_six_201 : decode cL_six 201 = .ok (.iconst 1, 1) := by decide +kernel
theorem dL_six_202 : decode cL_six 202 = .ok (.invokevirtual 31, 3) := by decide +kernel
theorem dL_six_205 : decode cL_six 205 = .ok (.ifCond .ne 224, 3) := by decide +kernel
theorem dL_six_208 : decode cL_six 208 = .ok (.aload_n 0, 1) := by decide +kernel
theorem dL_six_209 : decode cL_six 209 = .ok (.iconst 0, 1) := by decide +kernel
theorem dL_six_210 : decode cL_six 210 = .ok (.bipush 7, 2) := by decide +kernel
theorem dL_six_212 : decode cL_six 212 = .ok (.invokevirtual 43, 3) := by decide +kernel
theorem dL_six_215 : decode cL_six 215 = .ok (.sipush 180, 3) := by decide +kernel
theorem dL_six_218 : decode cL_six 218 = .ok (.if_icmp .ne 211, 3) := by decide +kernel
theorem dL_six_221 : decode cL_six 221 = .ok (.aload_n 0, 1) := by decide +kernel
theorem dL_six_222 : decode cL_six 222 = .ok (.iconst 0, 1) := by decide +kernel
theorem dL_six_223 : decode cL_six 223 = .ok (.iconst 1, 1) := by decide +kernel
theorem dL_six_224 : decode cL_six 224 = .ok (.invokevirtual 43, 3) := by decide +kernel
theorem dL_six_227 : decode cL_six 227 = .ok (.bipush 100, 2) := by decide +kernel
theorem dL_six_229 : decode cL_six 229 = .ok (.if_icmp .ne 200, 3) := by decide +kernel
theorem dL_six_232 : decode cL_six 232 = .ok (.aload_n 0, 1) := by decide +kernel
theorem dL_six_233 : decode cL_six 233 = .ok (.iconst 0, 1) := by decide +kernel
theorem dL_six_234 : decode cL_six 234 = .ok (.bipush 6, 2) := by decide +kernel
theorem dL_six_236 : decode cL_six 236 = .ok (.invokevirtual 72, 3) := by decide +kernel
theorem dL_six_239 : decode cL_six 239 = .ok (.sipush 180, 3) := by decide +kernel
theorem dL_six_242 : decode cL_six 242 = .ok (.if_icmp .ne 187, 3) := by decide +kernel
theorem dL_six_245 : decode cL_six 245 = .ok (.aload_n 0, 1) := by decide +kernel
theorem dL_six_246 : decode cL_six 246 = .ok (.iconst 0, 1) := by decide +kernel
theorem dL_six_247 : decode cL_six 247 = .ok (.bipush 6, 2) := by decide +kernel
theorem dL_six_249 : decode cL_six 249 = .ok (.invokevirtual 69, 3) := by decide +kernel
theorem dL_six_252 : decode cL_six 252 = .ok (.bipush 7, 2) := by decide +kernel
theorem dL_six_254 : decode cL_six 254 = .ok (.if_icmp .ne 175, 3) := by decide +kernel
theorem dL_six_257 : decode cL_six 257 = .ok (.aload_n 0, 1) := by decide +kernel
theorem dL_six_258 : decode cL_six 258 = .ok (.iconst 0, 1) := by decide +kernel
theorem dL_six_259 : decode cL_six 259 = .ok (.iconst 2, 1) := by decide +kernel
theorem dL_six_260 : decode cL_six 260 = .ok (.invokevirtual 69, 3) := by decide +kernel
theorem dL_six_263 : decode cL_six 263 = .ok (.iconst 3, 1) := by decide +kernel
theorem dL_six_264 : decode cL_six 264 = .ok (.if_icmp .ne 165, 3) := by decide +kernel
theorem dL_six_267 : decode cL_six 267 = .ok (.aload_n 0, 1) := by decide +kernel
theorem dL_six_268 : decode cL_six 268 = .ok (.iconst 0, 1) := by decide +kernel
theorem dL_six_269 : decode cL_six 269 = .ok (.iconst 0, 1) := by decide +kernel
theorem dL_six_270 : decode cL_six 270 = .ok (.iconst 0, 1) := by decide +kernel
theorem dL_six_271 : decode cL_six 271 = .ok (.bipush 63, 2) := by decide +kernel
theorem dL_six_273 : decode cL_six 273 = .ok (.invokestatic 109, 3) := by decide +kernel
theorem dL_six_276 : decode cL_six 276 = .ok (.ifCond .eq 153, 3) := by decide +kernel
theorem dL_six_279 : decode cL_six 279 = .ok (.aload_n 0, 1) := by decide +kernel
theorem dL_six_280 : decode cL_six 280 = .ok (.iconst 0, 1) := by decide +kernel
theorem dL_six_281 : decode cL_six 281 = .ok (.invokevirtual 31, 3) := by decide +kernel
theorem dL_six_284 : decode cL_six 284 = .ok (.iconst 1, 1) := by decide +kernel
theorem dL_six_285 : decode cL_six 285 = .ok (.if_icmp .ne 144, 3) := by decide +kernel
theorem dL_six_288 : decode cL_six 288 = .ok (.aload_n 0, 1) := by decide +kernel
theorem dL_six_289 : decode cL_six 289 = .ok (.iconst 1, 1) := by decide +kernel
theorem dL_six_290 : decode cL_six 290 = .ok (.bipush 63, 2) := by decide +kernel
theorem dL_six_292 : decode cL_six 292 = .ok (.invokevirtual 43, 3) := by decide +kernel
theorem dL_six_295 : decode cL_six 295 = .ok (.bipush 7, 2) := by decide +kernel
theorem dL_six_297 : decode cL_six 297 = .ok (.if_icmp .ne 132, 3) := by decide +kernel
theorem dL_six_300 : decode cL_six 300 = .ok (.aload_n 0, 1) := by decide +kernel
theorem dL_six_301 : decode cL_six 301 = .ok (.iconst 1, 1) := by decide +kernel
theorem dL_six_302 : decode cL_six 302 = .ok (.iconst 5, 1) := by decide +kernel
theorem dL_six_303 : decode cL_six 303 = .ok (.sipush 840, 3) := by decide +kernel
theorem dL_six_306 : decode cL_six 306 = .ok (.invokestatic 123, 3) := by decide +kernel
theorem dL_six_309 : decode cL_six 309 = .ok (.ifCond .eq 120, 3) := by decide +kernel
theorem dL_six_312 : decode cL_six 312 = .ok (.aload_n 0, 1) := by decide +kernel
theorem dL_six_313 : decode cL_six 313 = .ok (.iconst 0, 1) := by decide +kernel
theorem dL_six_314 : decode cL_six 314 = .ok (.iconst 3, 1) := by decide +kernel
theorem dL_six_315 : decode cL_six 315 = .ok (.iconst 0, 1) := by decide +kernel
theorem dL_six_316 : decode cL_six 316 = .ok (.invokestatic 123, 3) := by decide +kernel
theorem dL_six_319 : decode cL_six 319 = .ok (.ifCond .eq 110, 3) := by decide +kernel
theorem dL_six_322 : decode cL_six 322 = .ok (.aload_n 0, 1) := by decide +kernel
theorem dL_six_323 : decode cL_six 323 = .ok (.iconst 0, 1) := by decide +kernel
theorem dL_six_324 : decode cL_six 324 = .ok (.iconst 0, 1) := by decide +kernel
theorem dL_six_325 : decode cL_six 325 = .ok (.invokevirtual 34, 3) := by decide +kernel
theorem dL_six_328 : decode cL_six 328 = .ok (.iconst 2, 1) := by decide +kernel
theorem dL_six_329 : decode cL_six 329 = .ok (.if_icmp .ne 100, 3) := by decide +kernel
theorem dL_six_332 : decode cL_six 332 = .ok (.aload_n 0, 1) := by decide +kernel
theorem dL_six_333 : decode cL_six 333 = .ok (.iconst 2, 1) := by decide +kernel
theorem dL_six_334 : decode cL_six 334 = .ok (.iconst 2, 1) := by decide +kernel
theorem dL_six_335 : decode cL_six 335 = .ok (.invokevirtual 34, 3) := by decide +kernel
theorem dL_six_338 : decode cL_six 338 = .ok (.iconst 3, 1) := by decide +kernel
theorem dL_six_339 : decode cL_six 339 = .ok (.if_icmp .ne 90, 3) := by decide +kernel
theorem dL_six_342 : decode cL_six 342 = .ok (.aload_n 0, 1) := by decide +kernel
theorem dL_six_343 : decode cL_six 343 = .ok (.iconst 3, 1) := by decide +kernel
theorem dL_six_344 : decode cL_six 344 = .ok (.iconst 3, 1) := by decide +kernel
theorem dL_six_345 : decode cL_six 345 = .ok (.invokevirtual 34, 3) := by decide +kernel
theorem dL_six_348 : decode cL_six 348 = .ok (.iconst 4, 1) := by decide +kernel
theorem dL_six_349 : decode cL_six 349 = .ok (.if_icmp .ne 80, 3) := by decide +kernel
theorem dL_six_352 : decode cL_six 352 = .ok (.aload_n 0, 1) := by decide +kernel
theorem dL_six_353 : decode cL_six 353 = .ok (.iconst 4, 1) := by decide +kernel
theorem dL_six_354 : decode cL_six 354 = .ok (.iconst 4, 1) := by decide +kernel
theorem dL_six_355 : decode cL_six 355 = .ok (.invokevirtual 34, 3) := by decide +kernel
theorem dL_six_358 : decode cL_six 358 = .ok (.iconst 5, 1) := by decide +kernel
theorem dL_six_359 : decode cL_six 359 = .ok (.if_icmp .ne 70, 3) := by decide +kernel
theorem dL_six_362 : decode cL_six 362 = .ok (.aload_n 0, 1) := by decide +kernel
theorem dL_six_363 : decode cL_six 363 = .ok (.iconst 5, 1) := by decide +kernel
theorem dL_six_364 : decode cL_six 364 = .ok (.iconst 5, 1) := by decide +kernel
theorem dL_six_365 : decode cL_six 365 = .ok (.invokevirtual 34, 3) := by decide +kernel
theorem dL_six_368 : decode cL_six 368 = .ok (.bipush 6, 2) := by decide +kernel
theorem dL_six_370 : decode cL_six 370 = .ok (.if_icmp .ne 59, 3) := by decide +kernel
theorem dL_six_373 : decode cL_six 373 = .ok (.aload_n 0, 1) := by decide +kernel
theorem dL_six_374 : decode cL_six 374 = .ok (.bipush 6, 2) := by decide +kernel
theorem dL_six_376 : decode cL_six 376 = .ok (.bipush 7, 2) := by decide +kernel
theorem dL_six_378 : decode cL_six 378 = .ok (.invokevirtual 43, 3) := by decide +kernel
theorem dL_six_381 : decode cL_six 381 = .ok (.sipush 5760, 3) := by decide +kernel
theorem dL_six_384 : decode cL_six 384 = .ok (.if_icmp .ne 45, 3) := by decide +kernel
theorem dL_six_387 : decode cL_six 387 = .ok (.aload_n 0, 1) := by decide +kernel
theorem dL_six_388 : decode cL_six 388 = .ok (.bipush 6, 2) := by decide +kernel
theorem dL_six_390 : decode cL_six 390 = .ok (.iconst 1, 1) := by decide +kernel
theorem dL_six_391 : decode cL_six 391 = .ok (.invokevirtual 37, 3) := by decide +kernel
theorem dL_six_394 : decode cL_six 394 = .ok (.bipush 7, 2) := by decide +kernel
theorem dL_six_396 : decode cL_six 396 = .ok (.if_icmp .ne 33, 3) := by decide +kernel
theorem dL_six_399 : decode cL_six 399 = .ok (.aload_n 0, 1) := by decide +kernel
theorem dL_six_400 : decode cL_six 400 = .ok (.bipush 7, 2) := by decide +kernel
theorem dL_six_402 : decode cL_six 402 = .ok (.bipush 62, 2) := by decide +kernel
theorem dL_six_404 : decode cL_six 404 = .ok (.invokevirtual 43, 3) := by decide +kernel
theorem dL_six_407 : decode cL_six 407 = .ok (.sipush (-3200), 3) := by decide +kernel
theorem dL_six_410 : decode cL_six 410 = .ok (.if_icmp .ne 19, 3) := by decide +kernel
theorem dL_six_413 : decode cL_six 413 = .ok (.aload_n 0, 1) := by decide +kernel
theorem dL_six_414 : decode cL_six 414 = .ok (.bipush 7, 2) := by decide +kernel
theorem dL_six_416 : decode cL_six 416 = .ok (.sipush (-3200), 3) := by decide +kernel
theorem dL_six_419 : decode cL_six 419 = .ok (.bipush 62, 2) := by decide +kernel
theorem dL_six_421 : decode cL_six 421 = .ok (.bipush 63, 2) := by decide +kernel
theorem dL_six_423 : decode cL_six 423 = .ok (.invokestatic 109, 3) := by decide +kernel
theorem dL_six_426 : decode cL_six 426 = .ok (.ifCond .ne 5, 3) := by decide +kernel
theorem dL_six_429 : decode cL_six 429 = .ok (.iconst 0, 1) := by decide +kernel
theorem dL_six_430 : decode cL_six 430 = .ok (.ireturn, 1) := by decide +kernel
theorem dL_six_431 : decode cL_six 431 = .ok (.aload_n 0, 1) := by decide +kernel
theorem dL_six_432 : decode cL_six 432 = .ok (.invokevirtual 91, 3) := by decide +kernel
theorem dL_six_435 : decode cL_six 435 = .ok (.iconst 1, 1) := by decide +kernel
theorem dL_six_436 : decode cL_six 436 = .ok (.if_icmp .ne 68, 3) := by decide +kernel
theorem dL_six_439 : decode cL_six 439 = .ok (.aload_n 0, 1) := by decide +kernel
theorem dL_six_440 : decode cL_six 440 = .ok (.iconst 0, 1) := by decide +kernel
theorem dL_six_441 : decode cL_six 441 = .ok (.iconst 0, 1) := by decide +kernel
theorem dL_six_442 : decode cL_six 442 = .ok (.bipush 6, 2) := by decide +kernel
theorem dL_six_444 : decode cL_six 444 = .ok (.invokevirtual 24, 3) := by decide +kernel
theorem dL_six_447 : decode cL_six 447 = .ok (.iconst 1, 1) := by decide +kernel
theorem dL_six_448 : decode cL_six 448 = .ok (.if_icmp .ne 56, 3) := by decide +kernel
theorem dL_six_451 : decode cL_six 451 = .ok (.aload_n 0, 1) := by decide +kernel
theorem dL_six_452 : decode cL_six 452 = .ok (.iconst 1, 1) := by decide +kernel
theorem dL_six_453 : decode cL_six 453 = .ok (.iconst 0, 1) := by decide +kernel
theorem dL_six_454 : decode cL_six 454 = .ok (.iconst 4, 1) := by decide +kernel
theorem dL_six_455 : decode cL_six 455 = .ok (.invokevirtual 24, 3) := by decide +kernel
theorem dL_six_458 : decode cL_six 458 = .ok (.iconst 1, 1) := by decide +kernel
theorem dL_six_459 : decode cL_six 459 = .ok (.if_icmp .ne 45, 3) := by decide +kernel
theorem dL_six_462 : decode cL_six 462 = .ok (.aload_n 0, 1) := by decide +kernel
theorem dL_six_463 : decode cL_six 463 = .ok (.invokevirtual 91, 3) := by decide +kernel
theorem dL_six_466 : decode cL_six 466 = .ok (.iconst 4, 1) := by decide +kernel
theorem dL_six_467 : decode cL_six 467 = .ok (.if_icmp .ne 37, 3) := by decide +kernel
theorem dL_six_470 : decode cL_six 470 = .ok (.aload_n 0, 1) := by decide +kernel
theorem dL_six_471 : decode cL_six 471 = .ok (.iconst 0, 1) := by decide +kernel
theorem dL_six_472 : decode cL_six 472 = .ok (.iconst 0, 1) := by decide +kernel
theorem dL_six_473 : decode cL_six 473 = .ok (.iconst 0, 1) := by decide +kernel
theorem dL_six_474 : decode cL_six 474 = .ok (.invokevirtual 24, 3) := by decide +kernel
theorem dL_six_477 : decode cL_six 477 = .ok (.bipush 6, 2) := by decide +kernel
theorem dL_six_479 : decode cL_six 479 = .ok (.if_icmp .ne 25, 3) := by decide +kernel
theorem dL_six_482 : decode cL_six 482 = .ok (.aload_n 0, 1) := by decide +kernel
theorem dL_six_483 : decode cL_six 483 = .ok (.invokevirtual 91, 3) := by decide +kernel
theorem dL_six_486 : decode cL_six 486 = .ok (.ifCond .ne 18, 3) := by decide +kernel
theorem dL_six_489 : decode cL_six 489 = .ok (.aload_n 0, 1) := by decide +kernel
theorem dL_six_490 : decode cL_six 490 = .ok (.bipush 6, 2) := by decide +kernel
theorem dL_six_492 : decode cL_six 492 = .ok (.bipush 8, 2) := by decide +kernel
theorem dL_six_494 : decode cL_six 494 = .ok (.invokestatic 105, 3) := by decide +kernel
theorem dL_six_497 : decode cL_six 497 = .ok (.ifCond .eq 7, 3) := by decide +kernel
theorem dL_six_500 : decode cL_six 500 = .ok (.iconst 1, 1) := by decide +kernel
theorem dL_six_501 : decode cL_six 501 = .ok (.goto 4, 3) := by decide +kernel
theorem dL_six_504 : decode cL_six 504 = .ok (.iconst 0, 1) := by decide +kernel
theorem dL_six_505 : decode cL_six 505 = .ok (.ireturn, 1) := by decide +kernel
end
section
set_option maxRecDepth 20000 in
theorem ggL_law_L_guild : GoodIn wsL_law wsL_guild := goodIn_ca (goodIn_ca (goodIn_ca (goodIn_r _ [8, 0, 1, 2, 4, 9, 10, 11, 12, 13, 14, 15, 16, 17, 18, 19, 20, 21, 22, 23, 24, 25, 26, 27, 28, 29, 30, 31, 32, 33, 7, 34, 35, 3, 36, 37, 38, 39, 40, 41, 42, 43, 44, 45, 46, 47, 48, 49, 50, 51, 52, 53, 54, 55, 56, 57, 58, 59, 60, 61, 62, 63, 64, 65, 66, 67, 68, 69, 70, 71, 72, 73, 74, 75, 76, 77, 78, 79, 80, 81, 82, 83, 84, 85, 86, 87, 88, 89, 90, 91, 92, 93, 94, 95, 96, 97, 98, 99, 100, 101, 102, 103, 104, 105, 106, 107, 108, 109, 110, 111, 112, 113, 114, 115, 116, 117, 118, 119, 120, 121, 122, 123, 124, 125, 126, 127, 128, 129, 130, 131, 132, 133, 134, 135, 136, 137, 138, 139, 140, 141, 142, 143, 144, 145, 146, 147, 148, 149, 150, 151, 152, 153, 154, 155, 156, 157, 158, 159, 160, 161, 162, 163, 164, 165, 166, 167, 168, 169, 170, 171, 172, 173, 174, 175, 176, 177, 178, 179, 180, 181, 182, 183, 184, 185, 186, 187, 188, 189, 190, 191, 192, 193, 194, 195, 196, 197, 198, 199, 200, 201, 202, 203, 204, 205, 206, 207, 208, 209, 210, 211, 212, 213, 214, 215, 216, 217, 218, 219, 220, 221, 222, 223, 224, 225, 226, 227, 228, 229, 230, 231, 232, 233, 234, 235, 236, 237, 238, 239, 240, 241, 242, 243, 244, 245, 246, 247, 248, 249, 250, 251, 252, 253, 254, 255, 256, 257, 258, 259, 260, 261, 262, 263, 264, 265, 266, 267, 268, 269, 270, 271, 272, 273, 274, 275, 276, 277, 278, 279, 280, 281, 282, 283, 284, 285, 286, 287, 288, 289, 290, 291, 292, 293, 294, 295, 296, 297, 298, 299, 300, 301, 302, 303, 304, 305, 306, 307, 308, 309, 310, 311, 312, 313, 314, 315, 316, 317, 318, 319, 320, 321, 322, 323, 324, 325, 326, 327, 328, 329, 330, 331, 332, 333, 334, 335, 336, 337, 338, 339, 340, 341, 342, 343, 344, 345, 346, 347, 348, 349, 350, 351, 352, 353, 354, 355, 356, 357, 358, 359, 360, 361] rfl (by decide +kernel)) (goodIn_sub (fun _ h => List.mem_append_left _ (List.mem_append_left _ (List.mem_append_right _ h))) (by decide +kernel))) (goodIn_sub (fun _ h => List.mem_append_left _ (List.mem_append_right _ h)) (by decide +kernel))) (goodIn_sub (fun _ h => List.mem_append_right _ h) (by decide +kernel))
set_option maxRecDepth 20000 in
theorem gL_law_L_guild : GoodIn wsL_law (va_wsS RL 126 yL_guild wsL_guild) := goodIn_app (goodIn_of _ (by decide +kernel)) ggL_law_L_guild
set_option maxRecDepth 20000 in
theorem ggL_law_X0_init : GoodIn wsL_law wsX0_init := goodIn_r _ [11, 12, 13, 14, 15, 16, 17, 18, 19, 20, 21, 22, 23, 24, 25, 26, 27, 28, 29, 30, 31, 350, 351, 352, 353, 354, 355, 356, 357, 358, 359, 360, 361] (by decide +kernel) (by decide +kernel)
set_option maxRecDepth 20000 in
theorem gL_law_X0_init : GoodIn wsL_law (wsX0_init) := ggL_law_X0_init
set_option maxRecDepth 20000 in
theorem ggL_law_X0_elements : GoodIn wsL_law wsX0_elements := goodIn_ca (goodIn_r _ [102, 15, 16, 17, 19, 20, 21, 22, 23, 103, 104, 2, 105, 106, 107, 108, 109, 110, 28, 29, 30, 31, 350, 351, 352, 353, 354, 355, 356, 357, 358, 359, 360, 361] (by decide +kernel) (by decide +kernel)) (goodIn_sub (fun _ h => List.mem_append_left _ (List.mem_append_left _ (List.mem_append_right _ h))) (by decide +kernel))
set_option maxRecDepth 20000 in
theorem gL_law_X0_elements : GoodIn wsL_law (wsV RL 7 RX0 yX0_elements wsX0_elements) := goodIn_app (goodIn_of _ (by decide +kernel)) ggL_law_X0_elements
set_option maxRecDepth 20000 in
theorem ggL_law_X0_cover : GoodIn wsL_law wsX0_cover := goodIn_ca (goodIn_r _ [114, 19, 115, 116, 117, 2, 118, 15, 103, 104, 105, 119, 120, 121, 122, 123, 57, 58, 59, 124, 125, 126, 127, 128, 129, 71, 72, 73, 60, 61, 62, 350, 351, 352, 353, 354, 355, 356, 357, 358, 359, 360, 361] (by decide +kernel) (by decide +kernel)) (goodIn_sub (fun _ h => List.mem_append_left _ (List.mem_append_right _ h)) (by decide +kernel))
set_option maxRecDepth 20000 in
theorem gL_law_X0_cover : GoodIn wsL_law (wsV RL 13 RX0 yX0_cover wsX0_cover) := goodIn_app (goodIn_of _ (by decide +kernel)) ggL_law_X0_cover
set_option maxRecDepth 20000 in
theorem ggL_law_L_act : GoodIn wsL_law wsL_act := goodIn_ca (goodIn_ca (goodIn_ca (goodIn_r _ [95, 96, 97, 98, 36, 3, 4, 99, 100, 101, 2, 102, 15, 16, 17, 19, 20, 21, 22, 23, 103, 104, 105, 106, 107, 108, 109, 110, 28, 29, 30, 31, 111, 112, 113, 114, 115, 116, 117, 118, 119, 120, 121, 122, 123, 57, 58, 59, 124, 125, 126, 127, 128, 129, 71, 72, 73, 60, 61, 62, 130, 131, 132, 133, 134, 135, 136, 137, 138, 139, 140, 141, 142, 143, 144, 145, 146, 147, 53, 54, 55, 56, 148, 149, 150, 151, 67, 68, 69, 70, 152, 153, 154, 155, 156, 157, 158, 159, 160, 161, 162, 163, 164, 165, 166, 167, 168, 169, 170, 171, 172, 173, 174, 175, 176, 177, 178, 179, 180, 82, 83, 84, 85, 86, 87, 88, 181, 182, 183, 184, 185, 186, 187, 188, 189, 190, 191, 192, 63, 64, 65, 66, 193, 194, 195, 196, 197, 198, 199, 200, 24, 201, 202, 203, 204, 205, 206, 207, 208, 209, 210, 211, 212, 213, 214, 215, 216, 217, 218, 219, 220, 221, 222, 223, 224, 225, 226, 227, 228, 229, 230, 231, 232, 233, 234, 235, 236, 237, 238, 239, 240, 241, 242, 243, 244, 245, 246, 247, 248, 249, 250, 251, 252, 253, 254, 255, 256, 257, 258, 259, 260, 261, 262, 263, 264, 265, 266, 267, 268, 269, 270, 271, 272, 273, 274, 275, 276, 277, 278, 279, 280, 281, 282, 283, 284, 25, 285, 286, 287, 288, 289, 290, 291, 292, 293, 294, 295, 296, 297, 298, 299, 300, 301, 302, 303, 304, 305, 306, 307, 308, 309, 310, 311, 312, 313, 314, 315, 316, 317, 318, 319, 320, 321, 322, 323, 324, 325, 326, 350, 351, 352, 353, 354, 355, 356, 357, 358, 359, 360, 361] rfl (by decide +kernel)) (goodIn_sub (fun _ h => List.mem_append_left _ (List.mem_append_left _ (List.mem_append_right _ h))) (by decide +kernel))) (goodIn_sub (fun _ h => List.mem_append_left _ (List.mem_append_right _ h)) (by decide +kernel))) (goodIn_sub (fun _ h => List.mem_append_right _ h) (by decide +kernel))
set_option maxRecDepth 20000 in
theorem gL_law_L_act : GoodIn wsL_law (va_wsS RL 95 yL_act wsL_act) := goodIn_app (goodIn_of _ (by decide +kernel)) ggL_law_L_act
set_option maxRecDepth 20000 in
theorem ggL_law_X0_colour : GoodIn wsL_law wsX0_colour := goodIn_ca (goodIn_r _ [141, 21, 142, 143, 2, 144, 115, 116, 117, 118, 15, 145, 146, 147, 119, 120, 121, 122, 123, 53, 54, 55, 56, 57, 58, 59, 71, 72, 73, 350, 351, 352, 353, 354, 355, 356, 357, 358, 359, 360, 361] (by decide +kernel) (by decide +kernel)) (goodIn_sub (fun _ h => List.mem_append_left _ (List.mem_append_right _ h)) (by decide +kernel))
set_option maxRecDepth 20000 in
theorem gL_law_X0_colour : GoodIn wsL_law (wsV RL 21 RX0 yX0_colour wsX0_colour) := goodIn_app (goodIn_of _ (by decide +kernel)) ggL_law_X0_colour
set_option maxRecDepth 20000 in
theorem ggL_law_X0_room : GoodIn wsL_law wsX0_room := goodIn_ca (goodIn_ca (goodIn_r _ [151, 22, 142, 143, 2, 144, 145, 146, 147, 119, 120, 121, 122, 123, 103, 104, 105, 106, 107, 108, 109, 110, 67, 68, 69, 70, 57, 58, 59, 71, 72, 73, 350, 351, 352, 353, 354, 355, 356, 357, 358, 359, 360, 361] (by decide +kernel) (by decide +kernel)) (goodIn_sub (fun _ h => List.mem_append_left _ (List.mem_append_right _ h)) (by decide +kernel))) (goodIn_sub (fun _ h => List.mem_append_left _ (List.mem_append_left _ (List.mem_append_right _ h))) (by decide +kernel))
set_option maxRecDepth 20000 in
theorem gL_law_X0_room : GoodIn wsL_law (wsV RL 24 RX0 yX0_room wsX0_room) := goodIn_app (goodIn_of _ (by decide +kernel)) ggL_law_X0_room
set_option maxRecDepth 20000 in
theorem ggL_law_X0_weigh : GoodIn wsL_law wsX0_weigh := goodIn_ca (goodIn_ca (goodIn_r _ [155, 23, 115, 116, 117, 2, 118, 15, 119, 120, 121, 122, 123, 103, 104, 105, 106, 107, 108, 109, 110, 57, 58, 59, 71, 72, 73, 350, 351, 352, 353, 354, 355, 356, 357, 358, 359, 360, 361] (by decide +kernel) (by decide +kernel)) (goodIn_sub (fun _ h => List.mem_append_left _ (List.mem_append_right _ h)) (by decide +kernel))) (goodIn_sub (fun _ h => List.mem_append_left _ (List.mem_append_left _ (List.mem_append_right _ h))) (by decide +kernel))
set_option maxRecDepth 20000 in
theorem gL_law_X0_weigh : GoodIn wsL_law (wsV RL 27 RX0 yX0_weigh wsX0_weigh) := goodIn_app (goodIn_of _ (by decide +kernel)) ggL_law_X0_weigh
set_option maxRecDepth 20000 in
theorem ggL_law_X0_value : GoodIn wsL_law wsX0_value := goodIn_ca (goodIn_ca (goodIn_r _ [232, 209, 210, 211, 2, 212, 16, 119, 120, 121, 122, 123, 221, 222, 223, 224, 169, 170, 171, 172, 15, 106, 107, 108, 109, 110, 213, 214, 215, 216, 24, 57, 58, 59, 350, 351, 352, 353, 354, 355, 356, 357, 358, 359, 360, 361] (by decide +kernel) (by decide +kernel)) (goodIn_sub (fun _ h => List.mem_append_left _ (List.mem_append_right _ h)) (by decide +kernel))) (goodIn_sub (fun _ h => List.mem_append_left _ (List.mem_append_left _ (List.mem_append_right _ h))) (by decide +kernel))
set_option maxRecDepth 20000 in
theorem gL_law_X0_value : GoodIn wsL_law (wsV RL 43 RX0 yX0_value wsX0_value) := goodIn_app (goodIn_of _ (by decide +kernel)) ggL_law_X0_value
set_option maxRecDepth 20000 in
theorem ggL_law_X0_isLawful : GoodIn wsL_law wsX0_isLawful := goodIn_ca (goodIn_r _ [236, 209, 210, 211, 2, 212, 16, 119, 120, 121, 122, 123, 237, 238, 239, 240, 169, 170, 171, 172, 15, 241, 242, 243, 244, 60, 61, 62, 245, 246, 247, 248, 124, 125, 126, 213, 214, 215, 216, 24, 57, 58, 59, 350, 351, 352, 353, 354, 355, 356, 357, 358, 359, 360, 361] (by decide +kernel) (by decide +kernel)) (goodIn_sub (fun _ h => List.mem_append_left _ (List.mem_append_right _ h)) (by decide +kernel))
set_option maxRecDepth 20000 in
theorem gL_law_X0_isLawful : GoodIn wsL_law (wsV RL 46 RX0 yX0_isLawful wsX0_isLawful) := goodIn_app (goodIn_of _ (by decide +kernel)) ggL_law_X0_isLawful
set_option maxRecDepth 20000 in
theorem ggL_law_X0_rises : GoodIn wsL_law wsX0_rises := goodIn_ca (goodIn_r _ [252, 15, 209, 210, 211, 2, 212, 16, 119, 120, 121, 122, 123, 169, 170, 171, 172, 245, 246, 247, 248, 124, 125, 126, 213, 214, 215, 216, 24, 57, 58, 59, 350, 351, 352, 353, 354, 355, 356, 357, 358, 359, 360, 361] (by decide +kernel) (by decide +kernel)) (goodIn_sub (fun _ h => List.mem_append_left _ (List.mem_append_right _ h)) (by decide +kernel))
set_option maxRecDepth 20000 in
theorem gL_law_X0_rises : GoodIn wsL_law (wsV RL 50 RX0 yX0_rises wsX0_rises) := goodIn_app (goodIn_of _ (by decide +kernel)) ggL_law_X0_rises
set_option maxRecDepth 20000 in
theorem ggL_law_X0_least : GoodIn wsL_law wsX0_least := goodIn_ca (goodIn_ca (goodIn_r _ [256, 209, 210, 211, 2, 212, 16, 119, 120, 121, 122, 123, 237, 238, 239, 240, 169, 170, 171, 172, 15, 241, 242, 243, 244, 60, 61, 62, 245, 246, 247, 248, 124, 125, 126, 213, 214, 215, 216, 24, 57, 58, 59, 164, 165, 166, 167, 168, 257, 258, 259, 260, 261, 262, 263, 264, 265, 266, 267, 268, 127, 128, 129, 269, 270, 271, 272, 350, 351, 352, 353, 354, 355, 356, 357, 358, 359, 360, 361] (by decide +kernel) (by decide +kernel)) (goodIn_sub (fun _ h => List.mem_append_left _ (List.mem_append_right _ h)) (by decide +kernel))) (goodIn_sub (fun _ h => List.mem_append_right _ h) (by decide +kernel))
set_option maxRecDepth 20000 in
theorem gL_law_X0_least : GoodIn wsL_law (wsV RL 53 RX0 yX0_least wsX0_least) := goodIn_app (goodIn_of _ (by decide +kernel)) ggL_law_X0_least
set_option maxRecDepth 20000 in
theorem ggL_law_X0_greedy : GoodIn wsL_law wsX0_greedy := goodIn_ca (goodIn_ca (goodIn_r _ [300, 209, 210, 211, 2, 212, 16, 119, 120, 121, 122, 123, 103, 104, 105, 106, 107, 108, 109, 110, 301, 302, 303, 304, 15, 245, 246, 247, 248, 124, 125, 126, 213, 214, 215, 216, 24, 57, 58, 59, 350, 351, 352, 353, 354, 355, 356, 357, 358, 359, 360, 361] (by decide +kernel) (by decide +kernel)) (goodIn_sub (fun _ h => List.mem_append_left _ (List.mem_append_right _ h)) (by decide +kernel))) (goodIn_sub (fun _ h => List.mem_append_left _ (List.mem_append_left _ (List.mem_append_right _ h))) (by decide +kernel))
set_option maxRecDepth 20000 in
theorem gL_law_X0_greedy : GoodIn wsL_law (wsV RL 69 RX0 yX0_greedy wsX0_greedy) := goodIn_app (goodIn_of _ (by decide +kernel)) ggL_law_X0_greedy
set_option maxRecDepth 20000 in
theorem ggL_law_X0_best : GoodIn wsL_law wsX0_best := goodIn_ca (goodIn_ca (goodIn_r _ [308, 309, 310, 191, 311, 209, 210, 211, 2, 212, 16, 119, 120, 121, 122, 123, 103, 104, 105, 106, 107, 108, 109, 110, 169, 170, 171, 172, 15, 82, 83, 84, 85, 86, 87, 88, 213, 214, 215, 216, 24, 57, 58, 59, 350, 351, 352, 353, 354, 355, 356, 357, 358, 359, 360, 361] (by decide +kernel) (by decide +kernel)) (goodIn_sub (fun _ h => List.mem_append_left _ (List.mem_append_right _ h)) (by decide +kernel))) (goodIn_sub (fun _ h => List.mem_append_left _ (List.mem_append_left _ (List.mem_append_right _ h))) (by decide +kernel))
set_option maxRecDepth 20000 in
theorem gL_law_X0_best : GoodIn wsL_law (wsV RL 72 RX0 yX0_best wsX0_best) := goodIn_app (goodIn_of _ (by decide +kernel)) ggL_law_X0_best
set_option maxRecDepth 20000 in
theorem ggL_law_X0_leastSet : GoodIn wsL_law wsX0_leastSet := goodIn_ca (goodIn_ca (goodIn_r _ [276, 209, 210, 211, 2, 212, 16, 119, 120, 121, 122, 123, 237, 238, 239, 240, 169, 170, 171, 172, 15, 241, 242, 243, 244, 60, 61, 62, 245, 246, 247, 248, 124, 125, 126, 213, 214, 215, 216, 24, 57, 58, 59, 164, 165, 166, 167, 168, 257, 258, 259, 260, 261, 262, 263, 264, 265, 266, 267, 268, 127, 128, 129, 269, 270, 271, 272, 350, 351, 352, 353, 354, 355, 356, 357, 358, 359, 360, 361] (by decide +kernel) (by decide +kernel)) (goodIn_sub (fun _ h => List.mem_append_left _ (List.mem_append_right _ h)) (by decide +kernel))) (goodIn_sub (fun _ h => List.mem_append_right _ h) (by decide +kernel))
set_option maxRecDepth 20000 in
theorem gL_law_X0_leastSet : GoodIn wsL_law (wsV RL 56 RX0 yX0_leastSet wsX0_leastSet) := goodIn_app (goodIn_of _ (by decide +kernel)) ggL_law_X0_leastSet
set_option maxRecDepth 20000 in
theorem ggL_law_X0_leastSetAnew : GoodIn wsL_law wsX0_leastSetAnew := goodIn_ca (goodIn_ca (goodIn_r _ [280, 189, 190, 191, 192, 209, 210, 211, 2, 212, 16, 119, 120, 121, 122, 123, 237, 238, 239, 240, 169, 170, 171, 172, 15, 241, 242, 243, 244, 60, 61, 62, 245, 246, 247, 248, 124, 125, 126, 213, 214, 215, 216, 24, 57, 58, 59, 164, 165, 166, 167, 168, 350, 351, 352, 353, 354, 355, 356, 357, 358, 359, 360, 361] (by decide +kernel) (by decide +kernel)) (goodIn_sub (fun _ h => List.mem_append_left _ (List.mem_append_right _ h)) (by decide +kernel))) (goodIn_sub (fun _ h => List.mem_append_right _ h) (by decide +kernel))
set_option maxRecDepth 20000 in
theorem gL_law_X0_leastSetAnew : GoodIn wsL_law (wsV RL 60 RX0 yX0_leastSetAnew wsX0_leastSetAnew) := goodIn_app (goodIn_of _ (by decide +kernel)) ggL_law_X0_leastSetAnew
set_option maxRecDepth 20000 in
theorem ggL_law_X0_common : GoodIn wsL_law wsX0_common := goodIn_r _ [40, 15, 41, 42, 43, 2, 44, 27, 45, 46, 47, 48, 26, 28, 29, 30, 31, 49, 50, 51, 52, 53, 54, 55, 56, 21, 57, 58, 59, 60, 61, 62, 63, 64, 65, 66, 67, 68, 69, 70, 22, 71, 72, 73, 74, 75, 76, 77, 78, 79, 80, 81, 82, 83, 84, 85, 86, 87, 88, 89, 90, 91, 92, 350, 351, 352, 353, 354, 355, 356, 357, 358, 359, 360, 361] (by decide +kernel) (by decide +kernel)
set_option maxRecDepth 20000 in
theorem gL_law_X0_common : GoodIn wsL_law (wsV RL 91 RX0 yX0_common wsX0_common) := goodIn_app (goodIn_of _ (by decide +kernel)) ggL_law_X0_common
set_option maxRecDepth 20000 in
theorem ggL_law_X0_commonAnew : GoodIn wsL_law wsX0_commonAnew := goodIn_r _ [330, 309, 310, 191, 311, 169, 170, 171, 2, 172, 15, 331, 332, 333, 334, 63, 64, 65, 66, 60, 61, 62, 53, 54, 55, 56, 21, 57, 58, 59, 67, 68, 69, 70, 22, 82, 83, 84, 85, 86, 87, 88, 350, 351, 352, 353, 354, 355, 356, 357, 358, 359, 360, 361] (by decide +kernel) (by decide +kernel)
set_option maxRecDepth 20000 in
theorem gL_law_X0_commonAnew : GoodIn wsL_law (wsV RL 101 RX0 yX0_commonAnew wsX0_commonAnew) := goodIn_app (goodIn_of _ (by decide +kernel)) ggL_law_X0_commonAnew
set_option maxRecDepth 20000 in
theorem ggL_law_L_refuses : GoodIn wsL_law wsL_refuses := goodIn_ca (goodIn_ca (goodIn_ca (goodIn_r _ [34, 35, 3, 36, 37, 38, 39, 2, 40, 15, 41, 42, 43, 44, 27, 45, 46, 47, 48, 26, 28, 29, 30, 31, 49, 50, 51, 52, 53, 54, 55, 56, 21, 57, 58, 59, 60, 61, 62, 63, 64, 65, 66, 67, 68, 69, 70, 22, 71, 72, 73, 74, 75, 76, 77, 78, 79, 80, 81, 82, 83, 84, 85, 86, 87, 88, 89, 90, 91, 92, 93, 94, 7, 95, 96, 97, 98, 4, 99, 100, 101, 102, 16, 17, 19, 20, 23, 103, 104, 105, 106, 107, 108, 109, 110, 111, 112, 113, 114, 115, 116, 117, 118, 119, 120, 121, 122, 123, 124, 125, 126, 127, 128, 129, 130, 131, 132, 133, 134, 135, 136, 137, 138, 139, 140, 141, 142, 143, 144, 145, 146, 147, 148, 149, 150, 151, 152, 153, 154, 155, 156, 157, 158, 159, 160, 161, 162, 163, 164, 165, 166, 167, 168, 169, 170, 171, 172, 173, 174, 175, 176, 177, 178, 179, 180, 181, 182, 183, 184, 185, 186, 187, 188, 189, 190, 191, 192, 193, 194, 195, 196, 197, 198, 199, 200, 24, 201, 202, 203, 204, 205, 206, 207, 208, 209, 210, 211, 212, 213, 214, 215, 216, 217, 218, 219, 220, 221, 222, 223, 224, 225, 226, 227, 228, 229, 230, 231, 232, 233, 234, 235, 236, 237, 238, 239, 240, 241, 242, 243, 244, 245, 246, 247, 248, 249, 250, 251, 252, 253, 254, 255, 256, 257, 258, 259, 260, 261, 262, 263, 264, 265, 266, 267, 268, 269, 270, 271, 272, 273, 274, 275, 276, 277, 278, 279, 280, 281, 282, 283, 284, 25, 285, 286, 287, 288, 289, 290, 291, 292, 293, 294, 295, 296, 297, 298, 299, 300, 301, 302, 303, 304, 305, 306, 307, 308, 309, 310, 311, 312, 313, 314, 315, 316, 317, 318, 319, 320, 321, 322, 323, 324, 325, 326, 327, 328, 329, 330, 331, 332, 333, 334, 350, 351, 352, 353, 354, 355, 356, 357, 358, 359, 360, 361] rfl (by decide +kernel)) (goodIn_sub (fun _ h => List.mem_append_left _ (List.mem_append_left _ (List.mem_append_right _ h))) (by decide +kernel))) (goodIn_sub (fun _ h => List.mem_append_left _ (List.mem_append_right _ h)) (by decide +kernel))) (goodIn_sub (fun _ h => List.mem_append_right _ h) (by decide +kernel))
set_option maxRecDepth 20000 in
theorem gL_law_L_refuses : GoodIn wsL_law (va_wsS RL 105 yL_refuses wsL_refuses) := goodIn_app (goodIn_of _ (by decide +kernel)) ggL_law_L_refuses
theorem dL_law_0 : decode cL_law 0 = .ok (.invokestatic 126, 3) := by decide +kernel
theorem dL_law_3 : decode cL_law 3 = .ok (.ifCond .ne 5, 3) := by decide +kernel
theorem dL_law_6 : decode cL_law 6 = .ok (.iconst 0, 1) := by decide +kernel
theorem dL_law_7 : decode cL_law 7 = .ok (.ireturn, 1) := by decide +kernel
theorem dL_law_8 : decode cL_law 8 = .ok (.new 8, 3) := by decide +kernel
theorem dL_law_11 : decode cL_law 11 = .ok (.dup, 1) := by decide +kernel
theorem dL_law_12 : decode cL_law 12 = .ok (.invokespecial 104, 3) := by decide +kernel
theorem dL_law_15 : decode cL_law 15 = .ok (.astore_n 1, 1) := by decide +kernel
theorem dL_law_16 : decode cL_law 16 = .ok (.iconst 4, 1) := by decide +kernel
theorem dL_law_17 : decode cL_law 17 = .ok (.istore_n 2, 1) := by decide +kernel
theorem dL_law_18 : decode cL_law 18 = .ok (.iconst 0, 1) := by decide +kernel
theorem dL_law_19 : decode cL_law 19 = .ok (.istore_n 3, 1) := by decide +kernel
theorem dL_law_20 : decode cL_law 20 = .ok (.iconst 0, 1) := by decide +kernel
theorem dL_law_21 : decode cL_law 21 = .ok (.istore 4, 2) := by decide +kernel
theorem dL_law_23 : decode cL_law 23 = .ok (.iload 4, 2) := by decide +kernel
theorem dL_law_25 : decode cL_law 25 = .ok (.bipush 80, 2) := by decide +kernel
theorem dL_law_27 : decode cL_law 27 = .ok (.if_icmp .ge 921, 3) := by decide +kernel
theorem dL_law_30 : decode cL_law 30 = .ok (.aload_n 0, 1) := by decide +kernel
theorem dL_law_31 : decode cL_law 31 = .ok (.arraylength, 1) := by decide +kernel
theorem dL_law_32 : decode cL_law 32 = .ok (.ifCond .ne 11, 3) := by decide +kernel
theorem dL_law_35 : decode cL_law 35 = .ok (.bipush 103, 2) := by decide +kernel
theorem dL_law_37 : decode cL_law 37 = .ok (.iload 4, 2) := by decide +kernel
theorem dL_law_39 : decode cL_law 39 = .ok (.imul, 1) := by decide +kernel
theorem dL_law_40 : decode cL_law 40 = .ok (.goto 13, 3) := by decide +kernel
theorem dL_law_43 : decode cL_law 43 = .ok (.aload_n 0, 1) := by decide +kernel
theorem dL_law_44 : decode cL_law 44 = .ok (.iload 4, 2) := by decide +kernel
theorem dL_law_46 : decode cL_law 46 = .ok (.aload_n 0, 1) := by decide +kernel
theorem dL_law_47 : decode cL_law 47 = .ok (.arraylength, 1) := by decide +kernel
theorem dL_law_48 : decode cL_law 48 = .ok (.irem, 1) := by decide +kernel
theorem dL_law_49 : decode cL_law 49 = .ok (.iaload, 1) := by decide +kernel
theorem dL_law_50 : decode cL_law 50 = .ok (.bipush 8, 2) := by decide +kernel
theorem dL_law_52 : decode cL_law 52 = .ok (.iushr, 1) := by decide +kernel
theorem dL_law_53 : decode cL_law 53 = .ok (.istore 5, 2) := by decide +kernel
theorem dL_law_55 : decode cL_law 55 = .ok (.iload 5, 2) := by decide +kernel
theorem dL_law_57 : decode cL_law 57 = .ok (.bipush 17, 2) := by decide +kernel
theorem dL_law_59 : decode cL_law 59 = .ok (.irem, 1) := by decide +kernel
theorem dL_law_60 : decode cL_law 60 = .ok (.istore 6, 2) := by decide +kernel
theorem dL_law_62 : decode cL_law 62 = .ok (.iload 5, 2) := by decide +kernel
theorem dL_law_64 : decode cL_law 64 = .ok (.bipush 17, 2) := by decide +kernel
theorem dL_law_66 : decode cL_law 66 = .ok (.idiv, 1) := by decide +kernel
theorem dL_law_67 : decode cL_law 67 = .ok (.istore 7, 2) := by decide +kernel
theorem dL_law_69 : decode cL_law 69 = .ok (.iload 7, 2) := by decide +kernel
theorem dL_law_71 : decode cL_law 71 = .ok (.bipush 30, 2) := by decide +kernel
theorem dL_law_73 : decode cL_law 73 = .ok (.idiv, 1) := by decide +kernel
theorem dL_law_74 : decode cL_law 74 = .ok (.istore 8, 2) := by decide +kernel
theorem dL_law_76 : decode cL_law 76 = .ok (.iload 6, 2) := by decide +kernel
theorem dL_law_78 : decode cL_law 78 = .ok (.ifCond .ne 44, 3) := by decide +kernel
theorem dL_law_81 : decode cL_law 81 = .ok (.iload 7, 2) := by decide +kernel
theorem dL_law_83 : decode cL_law 83 = .ok (.iconst 5, 1) := by decide +kernel
theorem dL_law_84 : decode cL_law 84 = .ok (.irem, 1) := by decide +kernel
theorem dL_law_85 : decode cL_law 85 = .ok (.ifCond .ne 37, 3) := by decide +kernel
theorem dL_law_88 : decode cL_law 88 = .ok (.aload_n 1, 1) := by decide +kernel
theorem dL_law_89 : decode cL_law 89 = .ok (.iconst 1, 1) := by decide +kernel
theorem dL_law_90 : decode cL_law 90 = .ok (.iload 7, 2) := by decide +kernel
theorem dL_law_92 : decode cL_law 92 = .ok (.iconst 5, 1) := by decide +kernel
theorem dL_law_93 : decode cL_law 93 = .ok (.idiv, 1) := by decide +kernel
theorem dL_law_94 : decode cL_law 94 = .ok (.bipush 6, 2) := by decide +kernel
theorem dL_law_96 : decode cL_law 96 = .ok (.irem, 1) := by decide +kernel
theorem dL_law_97 : decode cL_law 97 = .ok (.iadd, 1) := by decide +kernel
theorem dL_law_98 : decode cL_law 98 = .ok (.invokevirtual 7, 3) := by decide +kernel
theorem dL_law_101 : decode cL_law 101 = .ok (.iload_n 2, 1) := by decide +kernel
theorem dL_law_102 : decode cL_law 102 = .ok (.if_icmp .eq 5, 3) := by decide +kernel
theorem dL_law_105 : decode cL_law 105 = .ok (.iconst 0, 1) := by decide +kernel
theorem dL_law_106 : decode cL_law 106 = .ok (.ireturn, 1) := by decide +kernel
theorem dL_law_107 : decode cL_law 107 = .ok (.iconst 1, 1) := by decide +kernel
theorem dL_law_108 : decode cL_law 108 = .ok (.iload 7, 2) := by decide +kernel
theorem dL_law_110 : decode cL_law 110 = .ok (.iconst 5, 1) := by decide +kernel
theorem dL_law_111 : decode cL_law 111 = .ok (.idiv, 1) := by decide +kernel
theorem dL_law_112 : decode cL_law 112 = .ok (.bipush 6, 2) := by decide +kernel
theorem dL_law_114 : decode cL_law 114 = .ok (.irem, 1) := by decide +kernel
theorem dL_law_115 : decode cL_law 115 = .ok (.iadd, 1) := by decide +kernel
theorem dL_law_116 : decode cL_law 116 = .ok (.istore_n 2, 1) := by decide +kernel
theorem dL_law_117 : decode cL_law 117 = .ok (.iconst 0, 1) := by decide +kernel
theorem dL_law_118 : decode cL_law 118 = .ok (.istore_n 3, 1) := by decide +kernel
theorem dL_law_119 : decode cL_law 119 = .ok (.goto 793, 3) := by decide +kernel
theorem dL_law_122 : decode cL_law 122 = .ok (.iload 6, 2) := by decide +kernel
theorem dL_law_124 : decode cL_law 124 = .ok (.iconst 3, 1) := by decide +kernel
theorem dL_law_125 : decode cL_law 125 = .ok (.if_icmp .ge 88, 3) := by decide +kernel
theorem dL_law_128 : decode cL_law 128 = .ok (.aload_n 1, 1) := by decide +kernel
theorem dL_law_129 : decode cL_law 129 = .ok (.iload 7, 2) := by decide +kernel
theorem dL_law_131 : decode cL_law 131 = .ok (.iload_n 2, 1) := by decide +kernel
theorem dL_law_132 : decode cL_law 132 = .ok (.irem, 1) := by decide +kernel
theorem dL_law_133 : decode cL_law 133 = .ok (.iload 8, 2) := by decide +kernel
theorem dL_law_135 : decode cL_law 135 = .ok (.bipush 10, 2) := by decide +kernel
theorem dL_law_137 : decode cL_law 137 = .ok (.irem, 1) := by decide +kernel
theorem dL_law_138 : decode cL_law 138 = .ok (.iload 7, 2) := by decide +kernel
theorem dL_law_140 : decode cL_law 140 = .ok (.iconst 3, 1) := by decide +kernel
theorem dL_law_141 : decode cL_law 141 = .ok (.irem, 1) := by decide +kernel
theorem dL_law_142 : decode cL_law 142 = .ok (.ifCond .le 7, 3) := by decide +kernel
theorem dL_law_145 : decode cL_law 145 = .ok (.iconst 1, 1) := by decide +kernel
theorem dL_law_146 : decode cL_law 146 = .ok (.goto 4, 3) := by decide +kernel
theorem dL_law_149 : decode cL_law 149 = .ok (.iconst 0, 1) := by decide +kernel
theorem dL_law_150 : decode cL_law 150 = .ok (.invokevirtual 13, 3) := by decide +kernel
theorem dL_law_153 : decode cL_law 153 = .ok (.istore 9, 2) := by decide +kernel
theorem dL_law_155 : decode cL_law 155 = .ok (.aload_n 1, 1) := by decide +kernel
theorem dL_law_156 : decode cL_law 156 = .ok (.iload 7, 2) := by decide +kernel
theorem dL_law_158 : decode cL_law 158 = .ok (.iload_n 2, 1) := by decide +kernel
theorem dL_law_159 : decode cL_law 159 = .ok (.irem, 1) := by decide +kernel
theorem dL_law_160 : decode cL_law 160 = .ok (.iload 8, 2) := by decide +kernel
theorem dL_law_162 : decode cL_law 162 = .ok (.bipush 10, 2) := by decide +kernel
theorem dL_law_164 : decode cL_law 164 = .ok (.irem, 1) := by decide +kernel
theorem dL_law_165 : decode cL_law 165 = .ok (.iload 7, 2) := by decide +kernel
theorem dL_law_167 : decode cL_law 167 = .ok (.iconst 3, 1) := by decide +kernel
theorem dL_law_168 : decode cL_law 168 = .ok (.irem, 1) := by decide +kernel
theorem dL_law_169 : decode cL_law 169 = .ok (.ifCond .le 7, 3) := by decide +kernel
theorem dL_law_172 : decode cL_law 172 = .ok (.iconst 1, 1) := by decide +kernel
theorem dL_law_173 : decode cL_law 173 = .ok (.goto 4, 3) := by decide +kernel
theorem dL_law_176 : decode cL_law 176 = .ok (.iconst 0, 1) := by decide +kernel
theorem dL_law_177 : decode cL_law 177 = .ok (.invokevirtual 13, 3) := by decide +kernel
theorem dL_law_180 : decode cL_law 180 = .ok (.iload 7, 2) := by decide +kernel
theorem dL_law_182 : decode cL_law 182 = .ok (.iconst 3, 1) := by decide +kernel
theorem dL_law_183 : decode cL_law 183 = .ok (.irem, 1) := by decide +kernel
theorem dL_law_184 : decode cL_law 184 = .ok (.ifCond .le 7, 3) := by decide +kernel
theorem dL_law_187 : decode cL_law 187 = .ok (.iconst 1, 1) := by decide +kernel
theorem dL_law_188 : decode cL_law 188 = .ok (.goto 4, 3) := by decide +kernel
theorem dL_law_191 : decode cL_law 191 = .ok (.iconst 0, 1) := by decide +kernel
theorem dL_law_192 : decode cL_law 192 = .ok (.if_icmp .ne 16, 3) := by decide +kernel
theorem dL_law_195 : decode cL_law 195 = .ok (.iload 9, 2) := by decide +kernel
theorem dL_law_197 : decode cL_law 197 = .ok (.ifCond .eq 13, 3) := by decide +kernel
theorem dL_law_200 : decode cL_law 200 = .ok (.iload 7, 2) := by decide +kernel
theorem dL_law_202 : decode cL_law 202 = .ok (.iload_n 2, 1) := by decide +kernel
theorem dL_law_203 : decode cL_law 203 = .ok (.irem, 1) := by decide +kernel
theorem dL_law_204 : decode cL_law 204 = .ok (.iload_n 2, 1) := by decide +kernel
theorem dL_law_205 : decode cL_law 205 = .ok (.if_icmp .lt 5, 3) := by decide +kernel
theorem dL_law_208 : decode cL_law 208 = .ok (.iconst 0, 1) := by decide +kernel
theorem dL_law_209 : decode cL_law 209 = .ok (.ireturn, 1) := by decide +kernel
theorem dL_law_210 : decode cL_law 210 = .ok (.goto 702, 3) := by decide +kernel
theorem dL_law_213 : decode cL_law 213 = .ok (.iload 6, 2) := by decide +kernel
theorem dL_law_215 : decode cL_law 215 = .ok (.iconst 5, 1) := by decide +kernel
theorem dL_law_216 : decode cL_law 216 = .ok (.if_icmp .ge 104, 3) := by decide +kernel
theorem dL_law_219 : decode cL_law 219 = .ok (.aload_n 1, 1) := by decide +kernel
theorem dL_law_220 : decode cL_law 220 = .ok (.iconst 2, 1) := by decide +kernel
theorem dL_law_221 : decode cL_law 221 = .ok (.iload 7, 2) := by decide +kernel
theorem dL_law_223 : decode cL_law 223 = .ok (.iload_n 2, 1) := by decide +kernel
theorem dL_law_224 : decode cL_law 224 = .ok (.irem, 1) := by decide +kernel
theorem dL_law_225 : decode cL_law 225 = .ok (.iload 8, 2) := by decide +kernel
theorem dL_law_227 : decode cL_law 227 = .ok (.iload_n 2, 1) := by decide +kernel
theorem dL_law_228 : decode cL_law 228 = .ok (.irem, 1) := by decide +kernel
theorem dL_law_229 : decode cL_law 229 = .ok (.iload 8, 2) := by decide +kernel
theorem dL_law_231 : decode cL_law 231 = .ok (.bipush 21, 2) := by decide +kernel
theorem dL_law_233 : decode cL_law 233 = .ok (.irem, 1) := by decide +kernel
theorem dL_law_234 : decode cL_law 234 = .ok (.invokestatic 95, 3) := by decide +kernel
theorem dL_law_237 : decode cL_law 237 = .ok (.istore 9, 2) := by decide +kernel
theorem dL_law_239 : decode cL_law 239 = .ok (.iload 9, 2) := by decide +kernel
theorem dL_law_241 : decode cL_law 241 = .ok (.ldc 86, 2) := by decide +kernel
theorem dL_law_243 : decode cL_law 243 = .ok (.if_icmp .eq 41, 3) := by decide +kernel
theorem dL_law_246 : decode cL_law 246 = .ok (.iload 9, 2) := by decide +kernel
theorem dL_law_248 : decode cL_law 248 = .ok (.ifCond .lt 67, 3) := by decide +kernel
theorem dL_law_251 : decode cL_law 251 = .ok (.iload 9, 2) := by decide +kernel
theorem dL_law_253 : decode cL_law 253 = .ok (.bipush 20, 2) := by decide +kernel
theorem dL_law_255 : decode cL_law 255 = .ok (.if_icmp .gt 60, 3) := by decide +kernel
theorem dL_law_258 : decode cL_law 258 = .ok (.aload_n 1, 1) := by decide +kernel
theorem dL_law_259 : decode cL_law 259 = .ok (.iconst 2, 1) := by decide +kernel
theorem dL_law_260 : decode cL_law 260 = .ok (.iload 8, 2) := by decide +kernel
theorem dL_law_262 : decode cL_law 262 = .ok (.iload_n 2, 1) := by decide +kernel
theorem dL_law_263 : decode cL_law 263 = .ok (.irem, 1) := by decide +kernel
theorem dL_law_264 : decode cL_law 264 = .ok (.iload 7, 2) := by decide +kernel
theorem dL_law_266 : decode cL_law 266 = .ok (.iload_n 2, 1) := by decide +kernel
theorem dL_law_267 : decode cL_law 267 = .ok (.irem, 1) := by decide +kernel
theorem dL_law_268 : decode cL_law 268 = .ok (.iload 8, 2) := by decide +kernel
theorem dL_law_270 : decode cL_law 270 = .ok (.bipush 21, 2) := by decide +kernel
theorem dL_law_272 : decode cL_law 272 = .ok (.irem, 1) := by decide +kernel
theorem dL_law_273 : decode cL_law 273 = .ok (.invokestatic 95, 3) := by decide +kernel
theorem dL_law_276 : decode cL_law 276 = .ok (.iload 8, 2) := by decide +kernel
theorem dL_law_278 : decode cL_law 278 = .ok (.bipush 21, 2) := by decide +kernel
theorem dL_law_280 : decode cL_law 280 = .ok (.irem, 1) := by decide +kernel
theorem dL_law_281 : decode cL_law 281 = .ok (.if_icmp .ne 34, 3) := by decide +kernel
theorem dL_law_284 : decode cL_law 284 = .ok (.iload 9, 2) := by decide +kernel
theorem dL_law_286 : decode cL_law 286 = .ok (.ldc 86, 2) := by decide +kernel
theorem dL_law_288 : decode cL_law 288 = .ok (.if_icmp .ne 7, 3) := by decide +kernel
theorem dL_law_291 : decode cL_law 291 = .ok (.iconst 1, 1) := by decide +kernel
theorem dL_law_292 : decode cL_law 292 = .ok (.goto 4, 3) := by decide +kernel
theorem dL_law_295 : decode cL_law 295 = .ok (.iconst 0, 1) := by decide +kernel
theorem dL_law_296 : decode cL_law 296 = .ok (.iload 7, 2) := by decide +kernel
theorem dL_law_298 : decode cL_law 298 = .ok (.iload_n 2, 1) := by decide +kernel
theorem dL_law_299 : decode cL_law 299 = .ok (.irem, 1) := by decide +kernel
theorem dL_law_300 : decode cL_law 300 = .ok (.iload 8, 2) := by decide +kernel
theorem dL_law_302 : decode cL_law 302 = .ok (.iload_n 2, 1) := by decide +kernel
theorem dL_law_303 : decode cL_law 303 = .ok (.irem, 1) := by decide +kernel
theorem dL_law_304 : decode cL_law 304 = .ok (.if_icmp .ne 7, 3) := by decide +kernel
theorem dL_law_307 : decode cL_law 307 = .ok (.iconst 1, 1) := by decide +kernel
theorem dL_law_308 : decode cL_law 308 = .ok (.goto 4, 3) := by decide +kernel
theorem dL_law_311 : decode cL_law 311 = .ok (.iconst 0, 1) := by decide +kernel
theorem dL_law_312 : decode cL_law 312 = .ok (.if_icmp .eq 5, 3) := by decide +kernel
theorem dL_law_315 : decode cL_law 315 = .ok (.iconst 0, 1) := by decide +kernel
theorem dL_law_316 : decode cL_law 316 = .ok (.ireturn, 1) := by decide +kernel
theorem dL_law_317 : decode cL_law 317 = .ok (.goto 595, 3) := by decide +kernel
theorem dL_law_320 : decode cL_law 320 = .ok (.iload 6, 2) := by decide +kernel
theorem dL_law_322 : decode cL_law 322 = .ok (.bipush 7, 2) := by decide +kernel
theorem dL_law_324 : decode cL_law 324 = .ok (.if_icmp .ge 82, 3) := by decide +kernel
theorem dL_law_327 : decode cL_law 327 = .ok (.aload_n 1, 1) := by decide +kernel
theorem dL_law_328 : decode cL_law 328 = .ok (.iload 7, 2) := by decide +kernel
theorem dL_law_330 : decode cL_law 330 = .ok (.iconst 2, 1) := by decide +kernel
theorem dL_law_331 : decode cL_law 331 = .ok (.irem, 1) := by decide +kernel
theorem dL_law_332 : decode cL_law 332 = .ok (.iload 8, 2) := by decide +kernel
theorem dL_law_334 : decode cL_law 334 = .ok (.iload_n 2, 1) := by decide +kernel
theorem dL_law_335 : decode cL_law 335 = .ok (.irem, 1) := by decide +kernel
theorem dL_law_336 : decode cL_law 336 = .ok (.iload 7, 2) := by decide +kernel
theorem dL_law_338 : decode cL_law 338 = .ok (.iconst 2, 1) := by decide +kernel
theorem dL_law_339 : decode cL_law 339 = .ok (.idiv, 1) := by decide +kernel
theorem dL_law_340 : decode cL_law 340 = .ok (.bipush 6, 2) := by decide +kernel
theorem dL_law_342 : decode cL_law 342 = .ok (.irem, 1) := by decide +kernel
theorem dL_law_343 : decode cL_law 343 = .ok (.invokevirtual 21, 3) := by decide +kernel
theorem dL_law_346 : decode cL_law 346 = .ok (.iconst 5, 1) := by decide +kernel
theorem dL_law_347 : decode cL_law 347 = .ok (.if_icmp .gt 57, 3) := by decide +kernel
theorem dL_law_350 : decode cL_law 350 = .ok (.aload_n 1, 1) := by decide +kernel
theorem dL_law_351 : decode cL_law 351 = .ok (.iload 7, 2) := by decide +kernel
theorem dL_law_353 : decode cL_law 353 = .ok (.iconst 2, 1) := by decide +kernel
theorem dL_law_354 : decode cL_law 354 = .ok (.irem, 1) := by decide +kernel
theorem dL_law_355 : decode cL_law 355 = .ok (.iload 8, 2) := by decide +kernel
theorem dL_law_357 : decode cL_law 357 = .ok (.iload_n 2, 1) := by decide +kernel
theorem dL_law_358 : decode cL_law 358 = .ok (.irem, 1) := by decide +kernel
theorem dL_law_359 : decode cL_law 359 = .ok (.iload 7, 2) := by decide +kernel
theorem dL_law_361 : decode cL_law 361 = .ok (.iconst 2, 1) := by decide +kernel
theorem dL_law_362 : decode cL_law 362 = .ok (.idiv, 1) := by decide +kernel
theorem dL_law_363 : decode cL_law 363 = .ok (.bipush 6, 2) := by decide +kernel
theorem dL_law_365 : decode cL_law 365 = .ok (.irem, 1) := by decide +kernel
theorem dL_law_366 : decode cL_law 366 = .ok (.invokevirtual 21, 3) := by decide +kernel
theorem dL_law_369 : decode cL_law 369 = .ok (.iload 7, 2) := by decide +kernel
theorem dL_law_371 : decode cL_law 371 = .ok (.iconst 2, 1) := by decide +kernel
theorem dL_law_372 : decode cL_law 372 = .ok (.idiv, 1) := by decide +kernel
theorem dL_law_373 : decode cL_law 373 = .ok (.bipush 6, 2) := by decide +kernel
theorem dL_law_375 : decode cL_law 375 = .ok (.irem, 1) := by decide +kernel
theorem dL_law_376 : decode cL_law 376 = .ok (.if_icmp .ne 28, 3) := by decide +kernel
theorem dL_law_379 : decode cL_law 379 = .ok (.aload_n 1, 1) := by decide +kernel
theorem dL_law_380 : decode cL_law 380 = .ok (.iload 7, 2) := by decide +kernel
theorem dL_law_382 : decode cL_law 382 = .ok (.iconst 2, 1) := by decide +kernel
theorem dL_law_383 : decode cL_law 383 = .ok (.irem, 1) := by decide +kernel
theorem dL_law_384 : decode cL_law 384 = .ok (.iload 8, 2) := by decide +kernel
theorem dL_law_386 : decode cL_law 386 = .ok (.bipush 6, 2) := by decide +kernel
theorem dL_law_388 : decode cL_law 388 = .ok (.irem, 1) := by decide +kernel
theorem dL_law_389 : decode cL_law 389 = .ok (.iload 7, 2) := by decide +kernel
theorem dL_law_391 : decode cL_law 391 = .ok (.iconst 2, 1) := by decide +kernel
theorem dL_law_392 : decode cL_law 392 = .ok (.idiv, 1) := by decide +kernel
theorem dL_law_393 : decode cL_law 393 = .ok (.bipush 7, 2) := by decide +kernel
theorem dL_law_395 : decode cL_law 395 = .ok (.irem, 1) := by decide +kernel
theorem dL_law_396 : decode cL_law 396 = .ok (.invokevirtual 24, 3) := by decide +kernel
theorem dL_law_399 : decode cL_law 399 = .ok (.bipush 6, 2) := by decide +kernel
theorem dL_law_401 : decode cL_law 401 = .ok (.if_icmp .le 511, 3) := by decide +kernel
theorem dL_law_404 : decode cL_law 404 = .ok (.iconst 0, 1) := by decide +kernel
theorem dL_law_405 : decode cL_law 405 = .ok (.ireturn, 1) := by decide +kernel
theorem dL_law_406 : decode cL_law 406 = .ok (.iload 6, 2) := by decide +kernel
theorem dL_law_408 : decode cL_law 408 = .ok (.bipush 7, 2) := by decide +kernel
theorem dL_law_410 : decode cL_law 410 = .ok (.if_icmp .ne 53, 3) := by decide +kernel
theorem dL_law_413 : decode cL_law 413 = .ok (.aload_n 1, 1) := by decide +kernel
theorem dL_law_414 : decode cL_law 414 = .ok (.iload 7, 2) := by decide +kernel
theorem dL_law_416 : decode cL_law 416 = .ok (.iload_n 2, 1) := by decide +kernel
theorem dL_law_417 : decode cL_law 417 = .ok (.irem, 1) := by decide +kernel
theorem dL_law_418 : decode cL_law 418 = .ok (.iload 8, 2) := by decide +kernel
theorem dL_law_420 : decode cL_law 420 = .ok (.bipush 41, 2) := by decide +kernel
theorem dL_law_422 : decode cL_law 422 = .ok (.irem, 1) := by decide +kernel
theorem dL_law_423 : decode cL_law 423 = .ok (.bipush 20, 2) := by decide +kernel
theorem dL_law_425 : decode cL_law 425 = .ok (.isub, 1) := by decide +kernel
theorem dL_law_426 : decode cL_law 426 = .ok (.invokevirtual 27, 3) := by decide +kernel
theorem dL_law_429 : decode cL_law 429 = .ok (.bipush 20, 2) := by decide +kernel
theorem dL_law_431 : decode cL_law 431 = .ok (.if_icmp .gt 30, 3) := by decide +kernel
theorem dL_law_434 : decode cL_law 434 = .ok (.aload_n 1, 1) := by decide +kernel
theorem dL_law_435 : decode cL_law 435 = .ok (.iload 7, 2) := by decide +kernel
theorem dL_law_437 : decode cL_law 437 = .ok (.iload_n 2, 1) := by decide +kernel
theorem dL_law_438 : decode cL_law 438 = .ok (.irem, 1) := by decide +kernel
theorem dL_law_439 : decode cL_law 439 = .ok (.iload 8, 2) := by decide +kernel
theorem dL_law_441 : decode cL_law 441 = .ok (.bipush 41, 2) := by decide +kernel
theorem dL_law_443 : decode cL_law 443 = .ok (.irem, 1) := by decide +kernel
theorem dL_law_444 : decode cL_law 444 = .ok (.bipush 20, 2) := by decide +kernel
theorem dL_law_446 : decode cL_law 446 = .ok (.isub, 1) := by decide +kernel
theorem dL_law_447 : decode cL_law 447 = .ok (.invokevirtual 27, 3) := by decide +kernel
theorem dL_law_450 : decode cL_law 450 = .ok (.iload 8, 2) := by decide +kernel
theorem dL_law_452 : decode cL_law 452 = .ok (.bipush 41, 2) := by decide +kernel
theorem dL_law_454 : decode cL_law 454 = .ok (.irem, 1) := by decide +kernel
theorem dL_law_455 : decode cL_law 455 = .ok (.bipush 20, 2) := by decide +kernel
theorem dL_law_457 : decode cL_law 457 = .ok (.isub, 1) := by decide +kernel
theorem dL_law_458 : decode cL_law 458 = .ok (.if_icmp .eq 454, 3) := by decide +kernel
theorem dL_law_461 : decode cL_law 461 = .ok (.iconst 0, 1) := by decide +kernel
theorem dL_law_462 : decode cL_law 462 = .ok (.ireturn, 1) := by decide +kernel
theorem dL_law_463 : decode cL_law 463 = .ok (.iload 6, 2) := by decide +kernel
theorem dL_law_465 : decode cL_law 465 = .ok (.bipush 11, 2) := by decide +kernel
theorem dL_law_467 : decode cL_law 467 = .ok (.if_icmp .lt 7, 3) := by decide +kernel
theorem dL_law_470 : decode cL_law 470 = .ok (.iload_n 3, 1) := by decide +kernel
theorem dL_law_471 : decode cL_law 471 = .ok (.ifCond .ne 90, 3) := by decide +kernel
theorem dL_law_474 : decode cL_law 474 = .ok (.aload_n 1, 1) := by decide +kernel
theorem dL_law_475 : decode cL_law 475 = .ok (.bipush 6, 2) := by decide +kernel
theorem dL_law_477 : decode cL_law 477 = .ok (.iload 7, 2) := by decide +kernel
theorem dL_law_479 : decode cL_law 479 = .ok (.iconst 5, 1) := by decide +kernel
theorem dL_law_480 : decode cL_law 480 = .ok (.irem, 1) := by decide +kernel
theorem dL_law_481 : decode cL_law 481 = .ok (.iconst 0, 1) := by decide +kernel
theorem dL_law_482 : decode cL_law 482 = .ok (.iconst 0, 1) := by decide +kernel
theorem dL_law_483 : decode cL_law 483 = .ok (.invokestatic 95, 3) := by decide +kernel
theorem dL_law_486 : decode cL_law 486 = .ok (.iload_n 3, 1) := by decide +kernel
theorem dL_law_487 : decode cL_law 487 = .ok (.bipush 8, 2) := by decide +kernel
theorem dL_law_489 : decode cL_law 489 = .ok (.if_icmp .ge 7, 3) := by decide +kernel
theorem dL_law_492 : decode cL_law 492 = .ok (.iload_n 3, 1) := by decide +kernel
theorem dL_law_493 : decode cL_law 493 = .ok (.goto 5, 3) := by decide +kernel
theorem dL_law_496 : decode cL_law 496 = .ok (.ldc 89, 2) := by decide +kernel
theorem dL_law_498 : decode cL_law 498 = .ok (.if_icmp .eq 5, 3) := by decide +kernel
theorem dL_law_501 : decode cL_law 501 = .ok (.iconst 0, 1) := by decide +kernel
theorem dL_law_502 : decode cL_law 502 = .ok (.ireturn, 1) := by decide +kernel
theorem dL_law_503 : decode cL_law 503 = .ok (.iload_n 3, 1) := by decide +kernel
theorem dL_law_504 : decode cL_law 504 = .ok (.bipush 8, 2) := by decide +kernel
theorem dL_law_506 : decode cL_law 506 = .ok (.if_icmp .ge 38, 3) := by decide +kernel
theorem dL_law_509 : decode cL_law 509 = .ok (.aload_n 1, 1) := by decide +kernel
theorem dL_law_510 : decode cL_law 510 = .ok (.iload_n 3, 1) := by decide +kernel
theorem dL_law_511 : decode cL_law 511 = .ok (.iconst 0, 1) := by decide +kernel
theorem dL_law_512 : decode cL_law 512 = .ok (.invokevirtual 43, 3) := by decide +kernel
theorem dL_law_515 : decode cL_law 515 = .ok (.ifCond .ne 27, 3) := by decide +kernel
theorem dL_law_518 : decode cL_law 518 = .ok (.aload_n 1, 1) := by decide +kernel
theorem dL_law_519 : decode cL_law 519 = .ok (.iload_n 3, 1) := by decide +kernel
theorem dL_law_520 : decode cL_law 520 = .ok (.invokevirtual 46, 3) := by decide +kernel
theorem dL_law_523 : decode cL_law 523 = .ok (.ifCond .eq 19, 3) := by decide +kernel
theorem dL_law_526 : decode cL_law 526 = .ok (.aload_n 1, 1) := by decide +kernel
theorem dL_law_527 : decode cL_law 527 = .ok (.iload_n 3, 1) := by decide +kernel
theorem dL_law_528 : decode cL_law 528 = .ok (.invokevirtual 50, 3) := by decide +kernel
theorem dL_law_531 : decode cL_law 531 = .ok (.ifCond .eq 13, 3) := by decide +kernel
theorem dL_law_534 : decode cL_law 534 = .ok (.aload_n 1, 1) := by decide +kernel
theorem dL_law_535 : decode cL_law 535 = .ok (.iload_n 3, 1) := by decide +kernel
theorem dL_law_536 : decode cL_law 536 = .ok (.invokevirtual 53, 3) := by decide +kernel
theorem dL_law_539 : decode cL_law 539 = .ok (.ifCond .eq 5, 3) := by decide +kernel
theorem dL_law_542 : decode cL_law 542 = .ok (.iconst 0, 1) := by decide +kernel
theorem dL_law_543 : decode cL_law 543 = .ok (.ireturn, 1) := by decide +kernel
theorem dL_law_544 : decode cL_law 544 = .ok (.iload_n 3, 1) := by decide +kernel
theorem dL_law_545 : decode cL_law 545 = .ok (.iload_n 3, 1) := by decide +kernel
theorem dL_law_546 : decode cL_law 546 = .ok (.bipush 8, 2) := by decide +kernel
theorem dL_law_548 : decode cL_law 548 = .ok (.if_icmp .ge 7, 3) := by decide +kernel
theorem dL_law_551 : decode cL_law 551 = .ok (.iconst 1, 1) := by decide +kernel
theorem dL_law_552 : decode cL_law 552 = .ok (.goto 4, 3) := by decide +kernel
theorem dL_law_555 : decode cL_law 555 = .ok (.iconst 0, 1) := by decide +kernel
theorem dL_law_556 : decode cL_law 556 = .ok (.iadd, 1) := by decide +kernel
theorem dL_law_557 : decode cL_law 557 = .ok (.istore_n 3, 1) := by decide +kernel
theorem dL_law_558 : decode cL_law 558 = .ok (.goto 354, 3) := by decide +kernel
theorem dL_law_561 : decode cL_law 561 = .ok (.iload 6, 2) := by decide +kernel
theorem dL_law_563 : decode cL_law 563 = .ok (.bipush 14, 2) := by decide +kernel
theorem dL_law_565 : decode cL_law 565 = .ok (.if_icmp .ge 126, 3) := by decide +kernel
theorem dL_law_568 : decode cL_law 568 = .ok (.iload 6, 2) := by decide +kernel
theorem dL_law_570 : decode cL_law 570 = .ok (.bipush 11, 2) := by decide +kernel
theorem dL_law_572 : decode cL_law 572 = .ok (.if_icmp .ne 21, 3) := by decide +kernel
theorem dL_law_575 : decode cL_law 575 = .ok (.aload_n 1, 1) := by decide +kernel
theorem dL_law_576 : decode cL_law 576 = .ok (.bipush 7, 2) := by decide +kernel
theorem dL_law_578 : decode cL_law 578 = .ok (.iload 7, 2) := by decide +kernel
theorem dL_law_580 : decode cL_law 580 = .ok (.iload_n 3, 1) := by decide +kernel
theorem dL_law_581 : decode cL_law 581 = .ok (.irem, 1) := by decide +kernel
theorem dL_law_582 : decode cL_law 582 = .ok (.iload 8, 2) := by decide +kernel
theorem dL_law_584 : decode cL_law 584 = .ok (.iload_n 3, 1) := by decide +kernel
theorem dL_law_585 : decode cL_law 585 = .ok (.irem, 1) := by decide +kernel
theorem dL_law_586 : decode cL_law 586 = .ok (.iconst 0, 1) := by decide +kernel
theorem dL_law_587 : decode cL_law 587 = .ok (.invokestatic 95, 3) := by decide +kernel
theorem dL_law_590 : decode cL_law 590 = .ok (.goto 46, 3) := by decide +kernel
theorem dL_law_593 : decode cL_law 593 = .ok (.iload 6, 2) := by decide +kernel
theorem dL_law_595 : decode cL_law 595 = .ok (.bipush 12, 2) := by decide +kernel
theorem dL_law_597 : decode cL_law 597 = .ok (.if_icmp .ne 23, 3) := by decide +kernel
theorem dL_law_600 : decode cL_law 600 = .ok (.aload_n 1, 1) := by decide +kernel
theorem dL_law_601 : decode cL_law 601 = .ok (.bipush 8, 2) := by decide +kernel
theorem dL_law_603 : decode cL_law 603 = .ok (.iload 7, 2) := by decide +kernel
theorem dL_law_605 : decode cL_law 605 = .ok (.iload_n 3, 1) := by decide +kernel
theorem dL_law_606 : decode cL_law 606 = .ok (.irem, 1) := by decide +kernel
theorem dL_law_607 : decode cL_law 607 = .ok (.iload 8, 2) := by decide +kernel
theorem dL_law_609 : decode cL_law 609 = .ok (.iconst 1, 1) := by decide +kernel
theorem dL_law_610 : decode cL_law 610 = .ok (.iload_n 2, 1) := by decide +kernel
theorem dL_law_611 : decode cL_law 611 = .ok (.ishl, 1) := by decide +kernel
theorem dL_law_612 : decode cL_law 612 = .ok (.irem, 1) := by decide +kernel
theorem dL_law_613 : decode cL_law 613 = .ok (.iconst 0, 1) := by decide +kernel
theorem dL_law_614 : decode cL_law 614 = .ok (.invokestatic 95, 3) := by decide +kernel
theorem dL_law_617 : decode cL_law 617 = .ok (.goto 19, 3) := by decide +kernel
theorem dL_law_620 : decode cL_law 620 = .ok (.aload_n 1, 1) := by decide +kernel
theorem dL_law_621 : decode cL_law 621 = .ok (.bipush 9, 2) := by decide +kernel
theorem dL_law_623 : decode cL_law 623 = .ok (.iload 7, 2) := by decide +kernel
theorem dL_law_625 : decode cL_law 625 = .ok (.iload_n 3, 1) := by decide +kernel
theorem dL_law_626 : decode cL_law 626 = .ok (.irem, 1) := by decide +kernel
theorem dL_law_627 : decode cL_law 627 = .ok (.iload 8, 2) := by decide +kernel
theorem dL_law_629 : decode cL_law 629 = .ok (.bipush 101, 2) := by decide +kernel
theorem dL_law_631 : decode cL_law 631 = .ok (.irem, 1) := by decide +kernel
theorem dL_law_632 : decode cL_law 632 = .ok (.iconst 0, 1) := by decide +kernel
theorem dL_law_633 : decode cL_law 633 = .ok (.invokestatic 95, 3) := by decide +kernel
theorem dL_law_636 : decode cL_law 636 = .ok (.istore 9, 2) := by decide +kernel
theorem dL_law_638 : decode cL_law 638 = .ok (.iload 9, 2) := by decide +kernel
theorem dL_law_640 : decode cL_law 640 = .ok (.iload_n 3, 1) := by decide +kernel
theorem dL_law_641 : decode cL_law 641 = .ok (.bipush 8, 2) := by decide +kernel
theorem dL_law_643 : decode cL_law 643 = .ok (.if_icmp .ge 7, 3) := by decide +kernel
theorem dL_law_646 : decode cL_law 646 = .ok (.iload_n 3, 1) := by decide +kernel
theorem dL_law_647 : decode cL_law 647 = .ok (.goto 5, 3) := by decide +kernel
theorem dL_law_650 : decode cL_law 650 = .ok (.ldc 89, 2) := by decide +kernel
theorem dL_law_652 : decode cL_law 652 = .ok (.if_icmp .eq 5, 3) := by decide +kernel
theorem dL_law_655 : decode cL_law 655 = .ok (.iconst 0, 1) := by decide +kernel
theorem dL_law_656 : decode cL_law 656 = .ok (.ireturn, 1) := by decide +kernel
theorem dL_law_657 : decode cL_law 657 = .ok (.iload_n 3, 1) := by decide +kernel
theorem dL_law_658 : decode cL_law 658 = .ok (.iload_n 3, 1) := by decide +kernel
theorem dL_law_659 : decode cL_law 659 = .ok (.bipush 8, 2) := by decide +kernel
theorem dL_law_661 : decode cL_law 661 = .ok (.if_icmp .ge 7, 3) := by decide +kernel
theorem dL_law_664 : decode cL_law 664 = .ok (.iconst 1, 1) := by decide +kernel
theorem dL_law_665 : decode cL_law 665 = .ok (.goto 4, 3) := by decide +kernel
theorem dL_law_668 : decode cL_law 668 = .ok (.iconst 0, 1) := by decide +kernel
theorem dL_law_669 : decode cL_law 669 = .ok (.iadd, 1) := by decide +kernel
theorem dL_law_670 : decode cL_law 670 = .ok (.istore_n 3, 1) := by decide +kernel
theorem dL_law_671 : decode cL_law 671 = .ok (.iload 9, 2) := by decide +kernel
theorem dL_law_673 : decode cL_law 673 = .ok (.ifCond .lt 15, 3) := by decide +kernel
theorem dL_law_676 : decode cL_law 676 = .ok (.aload_n 1, 1) := by decide +kernel
theorem dL_law_677 : decode cL_law 677 = .ok (.iload 9, 2) := by decide +kernel
theorem dL_law_679 : decode cL_law 679 = .ok (.iconst 0, 1) := by decide +kernel
theorem dL_law_680 : decode cL_law 680 = .ok (.invokevirtual 43, 3) := by decide +kernel
theorem dL_law_683 : decode cL_law 683 = .ok (.ifCond .eq 5, 3) := by decide +kernel
theorem dL_law_686 : decode cL_law 686 = .ok (.iconst 0, 1) := by decide +kernel
theorem dL_law_687 : decode cL_law 687 = .ok (.ireturn, 1) := by decide +kernel
theorem dL_law_688 : decode cL_law 688 = .ok (.goto 224, 3) := by decide +kernel
theorem dL_law_691 : decode cL_law 691 = .ok (.iload 6, 2) := by decide +kernel
theorem dL_law_693 : decode cL_law 693 = .ok (.bipush 14, 2) := by decide +kernel
theorem dL_law_695 : decode cL_law 695 = .ok (.if_icmp .ne 58, 3) := by decide +kernel
theorem dL_law_698 : decode cL_law 698 = .ok (.aload_n 1, 1) := by decide +kernel
theorem dL_law_699 : decode cL_law 699 = .ok (.bipush 16, 2) := by decide +kernel
theorem dL_law_701 : decode cL_law 701 = .ok (.iload 8, 2) := by decide +kernel
theorem dL_law_703 : decode cL_law 703 = .ok (.iload_n 2, 1) := by decide +kernel
theorem dL_law_704 : decode cL_law 704 = .ok (.irem, 1) := by decide +kernel
theorem dL_law_705 : decode cL_law 705 = .ok (.iconst 0, 1) := by decide +kernel
theorem dL_law_706 : decode cL_law 706 = .ok (.iconst 0, 1) := by decide +kernel
theorem dL_law_707 : decode cL_law 707 = .ok (.invokestatic 95, 3) := by decide +kernel
theorem dL_law_710 : decode cL_law 710 = .ok (.istore 9, 2) := by decide +kernel
theorem dL_law_712 : decode cL_law 712 = .ok (.iload 9, 2) := by decide +kernel
theorem dL_law_714 : decode cL_law 714 = .ok (.ldc 89, 2) := by decide +kernel
theorem dL_law_716 : decode cL_law 716 = .ok (.if_icmp .eq 34, 3) := by decide +kernel
theorem dL_law_719 : decode cL_law 719 = .ok (.iload 9, 2) := by decide +kernel
theorem dL_law_721 : decode cL_law 721 = .ok (.iconst 1, 1) := by decide +kernel
theorem dL_law_722 : decode cL_law 722 = .ok (.if_icmp .lt 26, 3) := by decide +kernel
theorem dL_law_725 : decode cL_law 725 = .ok (.iload 9, 2) := by decide +kernel
theorem dL_law_727 : decode cL_law 727 = .ok (.iload_n 2, 1) := by decide +kernel
theorem dL_law_728 : decode cL_law 728 = .ok (.if_icmp .gt 20, 3) := by decide +kernel
theorem dL_law_731 : decode cL_law 731 = .ok (.aload_n 1, 1) := by decide +kernel
theorem dL_law_732 : decode cL_law 732 = .ok (.bipush 17, 2) := by decide +kernel
theorem dL_law_734 : decode cL_law 734 = .ok (.iconst 0, 1) := by decide +kernel
theorem dL_law_735 : decode cL_law 735 = .ok (.iload 8, 2) := by decide +kernel
theorem dL_law_737 : decode cL_law 737 = .ok (.iload_n 2, 1) := by decide +kernel
theorem dL_law_738 : decode cL_law 738 = .ok (.irem, 1) := by decide +kernel
theorem dL_law_739 : decode cL_law 739 = .ok (.iconst 0, 1) := by decide +kernel
theorem dL_law_740 : decode cL_law 740 = .ok (.invokestatic 95, 3) := by decide +kernel
theorem dL_law_743 : decode cL_law 743 = .ok (.ldc 89, 2) := by decide +kernel
theorem dL_law_745 : decode cL_law 745 = .ok (.if_icmp .ne 5, 3) := by decide +kernel
theorem dL_law_748 : decode cL_law 748 = .ok (.iconst 0, 1) := by decide +kernel
theorem dL_law_749 : decode cL_law 749 = .ok (.ireturn, 1) := by decide +kernel
theorem dL_law_750 : decode cL_law 750 = .ok (.goto 162, 3) := by decide +kernel
theorem dL_law_753 : decode cL_law 753 = .ok (.iload 7, 2) := by decide +kernel
theorem dL_law_755 : decode cL_law 755 = .ok (.iload_n 3, 1) := by decide +kernel
theorem dL_law_756 : decode cL_law 756 = .ok (.irem, 1) := by decide +kernel
theorem dL_law_757 : decode cL_law 757 = .ok (.istore 9, 2) := by decide +kernel
theorem dL_law_759 : decode cL_law 759 = .ok (.iload 8, 2) := by decide +kernel
theorem dL_law_761 : decode cL_law 761 = .ok (.bipush 7, 2) := by decide +kernel
theorem dL_law_763 : decode cL_law 763 = .ok (.irem, 1) := by decide +kernel
theorem dL_law_764 : decode cL_law 764 = .ok (.istore 10, 2) := by decide +kernel
theorem dL_law_766 : decode cL_law 766 = .ok (.aload_n 1, 1) := by decide +kernel
theorem dL_law_767 : decode cL_law 767 = .ok (.iload 9, 2) := by decide +kernel
theorem dL_law_769 : decode cL_law 769 = .ok (.iload 10, 2) := by decide +kernel
theorem dL_law_771 : decode cL_law 771 = .ok (.invokevirtual 69, 3) := by decide +kernel
theorem dL_law_774 : decode cL_law 774 = .ok (.istore 11, 2) := by decide +kernel
theorem dL_law_776 : decode cL_law 776 = .ok (.iconst 0, 1) := by decide +kernel
theorem dL_law_777 : decode cL_law 777 = .ok (.istore 12, 2) := by decide +kernel
theorem dL_law_779 : decode cL_law 779 = .ok (.iconst 0, 1) := by decide +kernel
theorem dL_law_780 : decode cL_law 780 = .ok (.istore 13, 2) := by decide +kernel
theorem dL_law_782 : decode cL_law 782 = .ok (.iload 13, 2) := by decide +kernel
theorem dL_law_784 : decode cL_law 784 = .ok (.iload_n 2, 1) := by decide +kernel
theorem dL_law_785 : decode cL_law 785 = .ok (.if_icmp .ge 21, 3) := by decide +kernel
theorem dL_law_788 : decode cL_law 788 = .ok (.iload 12, 2) := by decide +kernel
theorem dL_law_790 : decode cL_law 790 = .ok (.iload 11, 2) := by decide +kernel
theorem dL_law_792 : decode cL_law 792 = .ok (.iload 13, 2) := by decide +kernel
theorem dL_law_794 : decode cL_law 794 = .ok (.ishr, 1) := by decide +kernel
theorem dL_law_795 : decode cL_law 795 = .ok (.iconst 1, 1) := by decide +kernel
theorem dL_law_796 : decode cL_law 796 = .ok (.iand, 1) := by decide +kernel
theorem dL_law_797 : decode cL_law 797 = .ok (.iadd, 1) := by decide +kernel
theorem dL_law_798 : decode cL_law 798 = .ok (.istore 12, 2) := by decide +kernel
theorem dL_law_800 : decode cL_law 800 = .ok (.iinc 13 1, 3) := by decide +kernel
theorem dL_law_803 : decode cL_law 803 = .ok (.goto (-21), 3) := by decide +kernel
theorem dL_law_806 : decode cL_law 806 = .ok (.iload 12, 2) := by decide +kernel
theorem dL_law_808 : decode cL_law 808 = .ok (.iload 10, 2) := by decide +kernel
theorem dL_law_810 : decode cL_law 810 = .ok (.if_icmp .gt 33, 3) := by decide +kernel
theorem dL_law_813 : decode cL_law 813 = .ok (.aload_n 1, 1) := by decide +kernel
theorem dL_law_814 : decode cL_law 814 = .ok (.iload 9, 2) := by decide +kernel
theorem dL_law_816 : decode cL_law 816 = .ok (.iload 11, 2) := by decide +kernel
theorem dL_law_818 : decode cL_law 818 = .ok (.invokevirtual 43, 3) := by decide +kernel
theorem dL_law_821 : decode cL_law 821 = .ok (.aload_n 1, 1) := by decide +kernel
theorem dL_law_822 : decode cL_law 822 = .ok (.iload 9, 2) := by decide +kernel
theorem dL_law_824 : decode cL_law 824 = .ok (.iload 10, 2) := by decide +kernel
theorem dL_law_826 : decode cL_law 826 = .ok (.invokevirtual 72, 3) := by decide +kernel
theorem dL_law_829 : decode cL_law 829 = .ok (.if_icmp .gt 14, 3) := by decide +kernel
theorem dL_law_832 : decode cL_law 832 = .ok (.aload_n 1, 1) := by decide +kernel
theorem dL_law_833 : decode cL_law 833 = .ok (.iload 9, 2) := by decide +kernel
theorem dL_law_835 : decode cL_law 835 = .ok (.iload 11, 2) := by decide +kernel
theorem dL_law_837 : decode cL_law 837 = .ok (.invokevirtual 43, 3) := by decide +kernel
theorem dL_law_840 : decode cL_law 840 = .ok (.ifCond .ge 5, 3) := by decide +kernel
theorem dL_law_843 : decode cL_law 843 = .ok (.iconst 0, 1) := by decide +kernel
theorem dL_law_844 : decode cL_law 844 = .ok (.ireturn, 1) := by decide +kernel
theorem dL_law_845 : decode cL_law 845 = .ok (.aload_n 1, 1) := by decide +kernel
theorem dL_law_846 : decode cL_law 846 = .ok (.iload 9, 2) := by decide +kernel
theorem dL_law_848 : decode cL_law 848 = .ok (.invokevirtual 46, 3) := by decide +kernel
theorem dL_law_851 : decode cL_law 851 = .ok (.ifCond .eq 61, 3) := by decide +kernel
theorem dL_law_854 : decode cL_law 854 = .ok (.aload_n 1, 1) := by decide +kernel
theorem dL_law_855 : decode cL_law 855 = .ok (.iload 9, 2) := by decide +kernel
theorem dL_law_857 : decode cL_law 857 = .ok (.iconst 0, 1) := by decide +kernel
theorem dL_law_858 : decode cL_law 858 = .ok (.invokevirtual 56, 3) := by decide +kernel
theorem dL_law_861 : decode cL_law 861 = .ok (.aload_n 1, 1) := by decide +kernel
theorem dL_law_862 : decode cL_law 862 = .ok (.iload 9, 2) := by decide +kernel
theorem dL_law_864 : decode cL_law 864 = .ok (.iconst 0, 1) := by decide +kernel
theorem dL_law_865 : decode cL_law 865 = .ok (.invokevirtual 60, 3) := by decide +kernel
theorem dL_law_868 : decode cL_law 868 = .ok (.if_icmp .ne 42, 3) := by decide +kernel
theorem dL_law_871 : decode cL_law 871 = .ok (.aload_n 1, 1) := by decide +kernel
theorem dL_law_872 : decode cL_law 872 = .ok (.iload 9, 2) := by decide +kernel
theorem dL_law_874 : decode cL_law 874 = .ok (.iconst 1, 1) := by decide +kernel
theorem dL_law_875 : decode cL_law 875 = .ok (.invokevirtual 56, 3) := by decide +kernel
theorem dL_law_878 : decode cL_law 878 = .ok (.aload_n 1, 1) := by decide +kernel
theorem dL_law_879 : decode cL_law 879 = .ok (.iload 9, 2) := by decide +kernel
theorem dL_law_881 : decode cL_law 881 = .ok (.iconst 1, 1) := by decide +kernel
theorem dL_law_882 : decode cL_law 882 = .ok (.invokevirtual 60, 3) := by decide +kernel
theorem dL_law_885 : decode cL_law 885 = .ok (.if_icmp .ne 25, 3) := by decide +kernel
theorem dL_law_888 : decode cL_law 888 = .ok (.aload_n 1, 1) := by decide +kernel
theorem dL_law_889 : decode cL_law 889 = .ok (.iload 9, 2) := by decide +kernel
theorem dL_law_891 : decode cL_law 891 = .ok (.aload_n 1, 1) := by decide +kernel
theorem dL_law_892 : decode cL_law 892 = .ok (.iload 9, 2) := by decide +kernel
theorem dL_law_894 : decode cL_law 894 = .ok (.iconst 1, 1) := by decide +kernel
theorem dL_law_895 : decode cL_law 895 = .ok (.invokevirtual 56, 3) := by decide +kernel
theorem dL_law_898 : decode cL_law 898 = .ok (.invokevirtual 43, 3) := by decide +kernel
theorem dL_law_901 : decode cL_law 901 = .ok (.aload_n 1, 1) := by decide +kernel
theorem dL_law_902 : decode cL_law 902 = .ok (.iload 9, 2) := by decide +kernel
theorem dL_law_904 : decode cL_law 904 = .ok (.invokevirtual 53, 3) := by decide +kernel
theorem dL_law_907 : decode cL_law 907 = .ok (.if_icmp .eq 5, 3) := by decide +kernel
theorem dL_law_910 : decode cL_law 910 = .ok (.iconst 0, 1) := by decide +kernel
theorem dL_law_911 : decode cL_law 911 = .ok (.ireturn, 1) := by decide +kernel
theorem dL_law_912 : decode cL_law 912 = .ok (.aload_n 1, 1) := by decide +kernel
theorem dL_law_913 : decode cL_law 913 = .ok (.invokevirtual 91, 3) := by decide +kernel
theorem dL_law_916 : decode cL_law 916 = .ok (.aload_n 1, 1) := by decide +kernel
theorem dL_law_917 : decode cL_law 917 = .ok (.invokevirtual 101, 3) := by decide +kernel
theorem dL_law_920 : decode cL_law 920 = .ok (.if_icmp .ne 20, 3) := by decide +kernel
theorem dL_law_923 : decode cL_law 923 = .ok (.iload 4, 2) := by decide +kernel
theorem dL_law_925 : decode cL_law 925 = .ok (.bipush 16, 2) := by decide +kernel
theorem dL_law_927 : decode cL_law 927 = .ok (.irem, 1) := by decide +kernel
theorem dL_law_928 : decode cL_law 928 = .ok (.ifCond .ne 14, 3) := by decide +kernel
theorem dL_law_931 : decode cL_law 931 = .ok (.aload_n 1, 1) := by decide +kernel
theorem dL_law_932 : decode cL_law 932 = .ok (.iload_n 2, 1) := by decide +kernel
theorem dL_law_933 : decode cL_law 933 = .ok (.iload_n 3, 1) := by decide +kernel
theorem dL_law_934 : decode cL_law 934 = .ok (.invokestatic 105, 3) := by decide +kernel
theorem dL_law_937 : decode cL_law 937 = .ok (.ifCond .ne 5, 3) := by decide +kernel
theorem dL_law_940 : decode cL_law 940 = .ok (.iconst 0, 1) := by decide +kernel
theorem dL_law_941 : decode cL_law 941 = .ok (.ireturn, 1) := by decide +kernel
theorem dL_law_942 : decode cL_law 942 = .ok (.iinc 4 1, 3) := by decide +kernel
theorem dL_law_945 : decode cL_law 945 = .ok (.goto (-922), 3) := by decide +kernel
theorem dL_law_948 : decode cL_law 948 = .ok (.iconst 1, 1) := by decide +kernel
theorem dL_law_949 : decode cL_law 949 = .ok (.ireturn, 1) := by decide +kernel
abbrev vwCl : List vw_C := [(RX0, TX0, 12)]
end

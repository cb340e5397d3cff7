section
-- ===== PART A: goes FIRST, ahead of the names: the tables' words, and 'selects' of the private methods out of them =====
/-- a private method of a class that the tables say can be made, by its rows of tables_1 -/
def lw_okq (q : MethodName × Nat) : Prop := (q.1.cls ≠ "java/lang/invoke/MethodHandle" ∧ q.1.cls ≠ "java/lang/invoke/VarHandle") ∧ Cond.instantiable q.1.cls q.2 ∈ tables_1 ∧ Cond.privateMethod q.1 ∈ tables_1 ∧ Cond.instanceMethod q.1 ∈ tables_1
theorem lw_p0 : lw_okq (⟨"DangerousGoods", "wouldBreach", "(III)Z"⟩, 10) := ⟨⟨by decide +kernel, by decide +kernel⟩, List.mem_of_getElem? (i := 12) (by decide +kernel), List.mem_of_getElem? (i := 61) (by decide +kernel), List.mem_of_getElem? (i := 62) (by decide +kernel)⟩
theorem lw_p1 : lw_okq (⟨"DangerousGoods", "needOf", "(II)I"⟩, 10) := ⟨⟨by decide +kernel, by decide +kernel⟩, List.mem_of_getElem? (i := 12) (by decide +kernel), List.mem_of_getElem? (i := 80) (by decide +kernel), List.mem_of_getElem? (i := 81) (by decide +kernel)⟩
theorem lw_p2 : lw_okq (⟨"DangerousGoods", "areExcepted", "(I)Z"⟩, 10) := ⟨⟨by decide +kernel, by decide +kernel⟩, List.mem_of_getElem? (i := 12) (by decide +kernel), List.mem_of_getElem? (i := 84) (by decide +kernel), List.mem_of_getElem? (i := 85) (by decide +kernel)⟩
theorem lw_p3 : lw_okq (⟨"DangerousGoods", "areWithin", "(I[I)Z"⟩, 10) := ⟨⟨by decide +kernel, by decide +kernel⟩, List.mem_of_getElem? (i := 12) (by decide +kernel), List.mem_of_getElem? (i := 88) (by decide +kernel), List.mem_of_getElem? (i := 89) (by decide +kernel)⟩
theorem lw_p4 : lw_okq (⟨"DangerousGoods", "greatestTableDistance", "(II)I"⟩, 10) := ⟨⟨by decide +kernel, by decide +kernel⟩, List.mem_of_getElem? (i := 12) (by decide +kernel), List.mem_of_getElem? (i := 92) (by decide +kernel), List.mem_of_getElem? (i := 93) (by decide +kernel)⟩
theorem lw_p5 : lw_okq (⟨"DangerousGoods", "tableDistance", "(II)I"⟩, 10) := ⟨⟨by decide +kernel, by decide +kernel⟩, List.mem_of_getElem? (i := 12) (by decide +kernel), List.mem_of_getElem? (i := 96) (by decide +kernel), List.mem_of_getElem? (i := 97) (by decide +kernel)⟩
theorem lw_p6 : lw_okq (⟨"DangerousGoods", "areLimited", "(I)Z"⟩, 10) := ⟨⟨by decide +kernel, by decide +kernel⟩, List.mem_of_getElem? (i := 12) (by decide +kernel), List.mem_of_getElem? (i := 103) (by decide +kernel), List.mem_of_getElem? (i := 104) (by decide +kernel)⟩
theorem lw_p7 : lw_okq (⟨"DangerousGoods", "wouldBeClean", "(II)Z"⟩, 10) := ⟨⟨by decide +kernel, by decide +kernel⟩, List.mem_of_getElem? (i := 12) (by decide +kernel), List.mem_of_getElem? (i := 111) (by decide +kernel), List.mem_of_getElem? (i := 112) (by decide +kernel)⟩
theorem lw_p8 : lw_okq (⟨"DangerousGoods", "wouldBeMisplaced", "(II)Z"⟩, 10) := ⟨⟨by decide +kernel, by decide +kernel⟩, List.mem_of_getElem? (i := 12) (by decide +kernel), List.mem_of_getElem? (i := 115) (by decide +kernel), List.mem_of_getElem? (i := 116) (by decide +kernel)⟩
theorem lw_p9 : lw_okq (⟨"DangerousGoods", "isBarredFrom", "(II)Z"⟩, 10) := ⟨⟨by decide +kernel, by decide +kernel⟩, List.mem_of_getElem? (i := 12) (by decide +kernel), List.mem_of_getElem? (i := 119) (by decide +kernel), List.mem_of_getElem? (i := 120) (by decide +kernel)⟩
theorem lw_p10 : lw_okq (⟨"DangerousGoods", "breachesAt", "(II)I"⟩, 10) := ⟨⟨by decide +kernel, by decide +kernel⟩, List.mem_of_getElem? (i := 12) (by decide +kernel), List.mem_of_getElem? (i := 123) (by decide +kernel), List.mem_of_getElem? (i := 124) (by decide +kernel)⟩
theorem lw_p11 : lw_okq (⟨"DangerousGoods", "leastLeaving", "()I"⟩, 10) := ⟨⟨by decide +kernel, by decide +kernel⟩, List.mem_of_getElem? (i := 12) (by decide +kernel), List.mem_of_getElem? (i := 131) (by decide +kernel), List.mem_of_getElem? (i := 132) (by decide +kernel)⟩
theorem lw_p12 : lw_okq (⟨"java/lang/Throwable", "fillInStackTrace", "(I)Ljava/lang/Throwable;"⟩, 6) := ⟨⟨by decide +kernel, by decide +kernel⟩, List.mem_of_getElem? (i := 200) (by decide +kernel), List.mem_of_getElem? (i := 198) (by decide +kernel), List.mem_of_getElem? (i := 199) (by decide +kernel)⟩
theorem lw_p13 : lw_okq (⟨"DangerousGoods", "checkGoods", "(I)V"⟩, 10) := ⟨⟨by decide +kernel, by decide +kernel⟩, List.mem_of_getElem? (i := 12) (by decide +kernel), List.mem_of_getElem? (i := 293) (by decide +kernel), List.mem_of_getElem? (i := 294) (by decide +kernel)⟩
theorem lw_p14 : lw_okq (⟨"DangerousGoods", "checkPair", "(II)V"⟩, 10) := ⟨⟨by decide +kernel, by decide +kernel⟩, List.mem_of_getElem? (i := 12) (by decide +kernel), List.mem_of_getElem? (i := 348) (by decide +kernel), List.mem_of_getElem? (i := 349) (by decide +kernel)⟩
theorem lw_p15 : lw_okq (⟨"DangerousGoodsModel", "goes", "(I)Z"⟩, 11) := ⟨⟨by decide +kernel, by decide +kernel⟩, List.mem_of_getElem? (i := 388) (by decide +kernel), List.mem_of_getElem? (i := 442) (by decide +kernel), List.mem_of_getElem? (i := 443) (by decide +kernel)⟩
def lw_privs_1 : List (MethodName × Nat) := [(⟨"DangerousGoods", "wouldBreach", "(III)Z"⟩, 10), (⟨"DangerousGoods", "needOf", "(II)I"⟩, 10), (⟨"DangerousGoods", "areExcepted", "(I)Z"⟩, 10), (⟨"DangerousGoods", "areWithin", "(I[I)Z"⟩, 10), (⟨"DangerousGoods", "greatestTableDistance", "(II)I"⟩, 10), (⟨"DangerousGoods", "tableDistance", "(II)I"⟩, 10), (⟨"DangerousGoods", "areLimited", "(I)Z"⟩, 10), (⟨"DangerousGoods", "wouldBeClean", "(II)Z"⟩, 10), (⟨"DangerousGoods", "wouldBeMisplaced", "(II)Z"⟩, 10), (⟨"DangerousGoods", "isBarredFrom", "(II)Z"⟩, 10), (⟨"DangerousGoods", "breachesAt", "(II)I"⟩, 10), (⟨"DangerousGoods", "leastLeaving", "()I"⟩, 10), (⟨"java/lang/Throwable", "fillInStackTrace", "(I)Ljava/lang/Throwable;"⟩, 6), (⟨"DangerousGoods", "checkGoods", "(I)V"⟩, 10), (⟨"DangerousGoods", "checkPair", "(II)V"⟩, 10), (⟨"DangerousGoodsModel", "goes", "(I)Z"⟩, 11)]
theorem lw_r1 : ∀ q ∈ lw_privs_1, lw_okq q := List.forall_mem_cons.mpr ⟨lw_p0, List.forall_mem_cons.mpr ⟨lw_p1, List.forall_mem_cons.mpr ⟨lw_p2, List.forall_mem_cons.mpr ⟨lw_p3, List.forall_mem_cons.mpr ⟨lw_p4, List.forall_mem_cons.mpr ⟨lw_p5, List.forall_mem_cons.mpr ⟨lw_p6, List.forall_mem_cons.mpr ⟨lw_p7, List.forall_mem_cons.mpr ⟨lw_p8, List.forall_mem_cons.mpr ⟨lw_p9, List.forall_mem_cons.mpr ⟨lw_p10, List.forall_mem_cons.mpr ⟨lw_p11, List.forall_mem_cons.mpr ⟨lw_p12, List.forall_mem_cons.mpr ⟨lw_p13, List.forall_mem_cons.mpr ⟨lw_p14, List.forall_mem_cons.mpr ⟨lw_p15, fun _ h => absurd h List.not_mem_nil⟩⟩⟩⟩⟩⟩⟩⟩⟩⟩⟩⟩⟩⟩⟩⟩
theorem lw_p16 : lw_okq (⟨"DangerousGoodsModel", "areGoods", "(I)Z"⟩, 11) := ⟨⟨by decide +kernel, by decide +kernel⟩, List.mem_of_getElem? (i := 388) (by decide +kernel), List.mem_of_getElem? (i := 472) (by decide +kernel), List.mem_of_getElem? (i := 473) (by decide +kernel)⟩
theorem lw_p17 : lw_okq (⟨"DangerousGoodsModel", "asks", "(I)Z"⟩, 11) := ⟨⟨by decide +kernel, by decide +kernel⟩, List.mem_of_getElem? (i := 388) (by decide +kernel), List.mem_of_getElem? (i := 488) (by decide +kernel), List.mem_of_getElem? (i := 489) (by decide +kernel)⟩
theorem lw_p18 : lw_okq (⟨"DangerousGoodsModel", "areLimited", "(I)Z"⟩, 11) := ⟨⟨by decide +kernel, by decide +kernel⟩, List.mem_of_getElem? (i := 388) (by decide +kernel), List.mem_of_getElem? (i := 496) (by decide +kernel), List.mem_of_getElem? (i := 497) (by decide +kernel)⟩
theorem lw_p19 : lw_okq (⟨"DangerousGoodsModel", "areExcepted", "(I)Z"⟩, 11) := ⟨⟨by decide +kernel, by decide +kernel⟩, List.mem_of_getElem? (i := 388) (by decide +kernel), List.mem_of_getElem? (i := 500) (by decide +kernel), List.mem_of_getElem? (i := 501) (by decide +kernel)⟩
theorem lw_p20 : lw_okq (⟨"DangerousGoodsModel", "isWithin", "(I[I)Z"⟩, 11) := ⟨⟨by decide +kernel, by decide +kernel⟩, List.mem_of_getElem? (i := 388) (by decide +kernel), List.mem_of_getElem? (i := 504) (by decide +kernel), List.mem_of_getElem? (i := 505) (by decide +kernel)⟩
theorem lw_p21 : lw_okq (⟨"DangerousGoodsModel", "asksTwo", "(II)Z"⟩, 11) := ⟨⟨by decide +kernel, by decide +kernel⟩, List.mem_of_getElem? (i := 388) (by decide +kernel), List.mem_of_getElem? (i := 516) (by decide +kernel), List.mem_of_getElem? (i := 517) (by decide +kernel)⟩
theorem lw_p22 : lw_okq (⟨"DangerousGoodsModel", "needs", "(II)I"⟩, 11) := ⟨⟨by decide +kernel, by decide +kernel⟩, List.mem_of_getElem? (i := 388) (by decide +kernel), List.mem_of_getElem? (i := 520) (by decide +kernel), List.mem_of_getElem? (i := 521) (by decide +kernel)⟩
theorem lw_p23 : lw_okq (⟨"DangerousGoodsModel", "ofTable", "(II)I"⟩, 11) := ⟨⟨by decide +kernel, by decide +kernel⟩, List.mem_of_getElem? (i := 388) (by decide +kernel), List.mem_of_getElem? (i := 524) (by decide +kernel), List.mem_of_getElem? (i := 525) (by decide +kernel)⟩
theorem lw_p24 : lw_okq (⟨"DangerousGoodsModel", "areFoes", "(III)Z"⟩, 11) := ⟨⟨by decide +kernel, by decide +kernel⟩, List.mem_of_getElem? (i := 388) (by decide +kernel), List.mem_of_getElem? (i := 535) (by decide +kernel), List.mem_of_getElem? (i := 536) (by decide +kernel)⟩
theorem lw_p25 : lw_okq (⟨"DangerousGoodsModel", "areWrong", "(II)Z"⟩, 11) := ⟨⟨by decide +kernel, by decide +kernel⟩, List.mem_of_getElem? (i := 388) (by decide +kernel), List.mem_of_getElem? (i := 543) (by decide +kernel), List.mem_of_getElem? (i := 544) (by decide +kernel)⟩
theorem lw_p26 : lw_okq (⟨"DangerousGoodsModel", "foesOf", "(I)I"⟩, 11) := ⟨⟨by decide +kernel, by decide +kernel⟩, List.mem_of_getElem? (i := 388) (by decide +kernel), List.mem_of_getElem? (i := 551) (by decide +kernel), List.mem_of_getElem? (i := 552) (by decide +kernel)⟩
theorem lw_p27 : lw_okq (⟨"DangerousGoodsModel", "laysFoes", "()V"⟩, 11) := ⟨⟨by decide +kernel, by decide +kernel⟩, List.mem_of_getElem? (i := 388) (by decide +kernel), List.mem_of_getElem? (i := 563) (by decide +kernel), List.mem_of_getElem? (i := 564) (by decide +kernel)⟩
theorem lw_p28 : lw_okq (⟨"DangerousGoodsModel", "wrongs", "()I"⟩, 11) := ⟨⟨by decide +kernel, by decide +kernel⟩, List.mem_of_getElem? (i := 388) (by decide +kernel), List.mem_of_getElem? (i := 567) (by decide +kernel), List.mem_of_getElem? (i := 568) (by decide +kernel)⟩
theorem lw_p29 : lw_okq (⟨"DangerousGoodsModel", "isCleanWithout", "(II)Z"⟩, 11) := ⟨⟨by decide +kernel, by decide +kernel⟩, List.mem_of_getElem? (i := 388) (by decide +kernel), List.mem_of_getElem? (i := 571) (by decide +kernel), List.mem_of_getElem? (i := 572) (by decide +kernel)⟩
theorem lw_p30 : lw_okq (⟨"DangerousGoodsModel", "isGood", "(II)Z"⟩, 11) := ⟨⟨by decide +kernel, by decide +kernel⟩, List.mem_of_getElem? (i := 388) (by decide +kernel), List.mem_of_getElem? (i := 579) (by decide +kernel), List.mem_of_getElem? (i := 580) (by decide +kernel)⟩
theorem lw_p31 : lw_okq (⟨"DangerousGoodsModel", "least", "()I"⟩, 11) := ⟨⟨by decide +kernel, by decide +kernel⟩, List.mem_of_getElem? (i := 388) (by decide +kernel), List.mem_of_getElem? (i := 591) (by decide +kernel), List.mem_of_getElem? (i := 592) (by decide +kernel)⟩
def lw_privs_2 : List (MethodName × Nat) := [(⟨"DangerousGoodsModel", "areGoods", "(I)Z"⟩, 11), (⟨"DangerousGoodsModel", "asks", "(I)Z"⟩, 11), (⟨"DangerousGoodsModel", "areLimited", "(I)Z"⟩, 11), (⟨"DangerousGoodsModel", "areExcepted", "(I)Z"⟩, 11), (⟨"DangerousGoodsModel", "isWithin", "(I[I)Z"⟩, 11), (⟨"DangerousGoodsModel", "asksTwo", "(II)Z"⟩, 11), (⟨"DangerousGoodsModel", "needs", "(II)I"⟩, 11), (⟨"DangerousGoodsModel", "ofTable", "(II)I"⟩, 11), (⟨"DangerousGoodsModel", "areFoes", "(III)Z"⟩, 11), (⟨"DangerousGoodsModel", "areWrong", "(II)Z"⟩, 11), (⟨"DangerousGoodsModel", "foesOf", "(I)I"⟩, 11), (⟨"DangerousGoodsModel", "laysFoes", "()V"⟩, 11), (⟨"DangerousGoodsModel", "wrongs", "()I"⟩, 11), (⟨"DangerousGoodsModel", "isCleanWithout", "(II)Z"⟩, 11), (⟨"DangerousGoodsModel", "isGood", "(II)Z"⟩, 11), (⟨"DangerousGoodsModel", "least", "()I"⟩, 11)]
theorem lw_r2 : ∀ q ∈ lw_privs_2, lw_okq q := List.forall_mem_cons.mpr ⟨lw_p16, List.forall_mem_cons.mpr ⟨lw_p17, List.forall_mem_cons.mpr ⟨lw_p18, List.forall_mem_cons.mpr ⟨lw_p19, List.forall_mem_cons.mpr ⟨lw_p20, List.forall_mem_cons.mpr ⟨lw_p21, List.forall_mem_cons.mpr ⟨lw_p22, List.forall_mem_cons.mpr ⟨lw_p23, List.forall_mem_cons.mpr ⟨lw_p24, List.forall_mem_cons.mpr ⟨lw_p25, List.forall_mem_cons.mpr ⟨lw_p26, List.forall_mem_cons.mpr ⟨lw_p27, List.forall_mem_cons.mpr ⟨lw_p28, List.forall_mem_cons.mpr ⟨lw_p29, List.forall_mem_cons.mpr ⟨lw_p30, List.forall_mem_cons.mpr ⟨lw_p31, fun _ h => absurd h List.not_mem_nil⟩⟩⟩⟩⟩⟩⟩⟩⟩⟩⟩⟩⟩⟩⟩⟩
def lw_privs : List (MethodName × Nat) := lw_privs_1 ++ (lw_privs_2)
def lw_tbl : List Cond := k2_sels lw_privs ++ tables_1
theorem lw_privs_ok : ∀ q ∈ lw_privs, lw_okq q := by
  show ∀ q ∈ lw_privs_1 ++ (lw_privs_2), lw_okq q
  exact List.forall_mem_append.mpr ⟨lw_r1, lw_r2⟩
-- ===== end of PART A; then your names; then what follows =====
end
section
/-! ===== BEGIN words of one list among another's, by their places ===== -/
theorem goodIn_r {big : List Cond} (ws : List Cond) (ps : List Nat) (hp : ws = ps.filterMap (fun i => big[i]?)) (h : ws.all goodWord = true) : GoodIn big ws := by
  intro w hw
  have h1 := List.all_eq_true.mp h w hw
  rw [hp] at hw
  obtain ⟨i, -, hi⟩ := List.mem_filterMap.mp hw
  have hm : w ∈ big := by first | exact List.mem_of_getElem? hi | exact List.getElem?_mem hi
  exact ⟨hm, good_of_word h1⟩
theorem goodIn_app {big a b : List Cond} (ha : GoodIn big a) (hb : GoodIn big b) : GoodIn big (a ++ b) := fun w h => (List.mem_append.mp h).elim (ha w) (hb w)
theorem goodIn_ca {big a b : List Cond} {c : Cond} (ha : GoodIn big (c :: a)) (hb : GoodIn big b) : GoodIn big (c :: (a ++ b)) := fun w h => (List.mem_cons.mp h).elim (fun e => ha w (List.mem_cons.mpr (Or.inl e))) (fun h => (List.mem_append.mp h).elim (fun h => ha w (List.mem_cons.mpr (Or.inr h))) (hb w))
theorem goodIn_sub {big ws : List Cond} (hm : ∀ w ∈ ws, w ∈ big) (h : ws.all goodWord = true) : GoodIn big ws := fun w hw => ⟨hm w hw, good_of_word (List.all_eq_true.mp h w hw)⟩
/-! ===== END ===== -/

/-! ===== BEGIN exceptions that leave a method, and their catching by the caller (launches without stack traces) ===== -/
section VXA
/-! The laws vx_back, vx_callV, vx_callS, vx_callSW, vx_throw0, vx_throwS follow proofs of the library, with one case more: JvmDerived/Free/Laws.lean (Back.of_free), Shelf42/LK1.lean (callV, callS), Shelf/KitTraced.lean (throwNew0V, throwNewS). -/
/-- where a method has thrown q: the class by its name, the cell, what was written, the world -/
def vx_T (XC : String → State → State → Prop) (st : State) (q : Addr) (t : State) (mc ms : Nat) (free : Addr → Prop) : Prop :=
  ∃ (E : String) (ce : Cell) (L : List Loc), XC E st t ∧ t.heap[q]? = some ce ∧ ce.vm = .none ∧ st.vm.findClass E = some ce.cls ∧ st.WarmedH t.vm ∧ st.sameButNew ({ t with vm := st.vm } : State) L mc ms ∧ ∀ z ∈ L, free z.base
def vx_Q (Qc : Array Value → State → Outcome → State → Prop) (XC : String → State → State → Prop) (mc ms : Nat) (free : Addr → Prop) : Array Value → State → Outcome → State → Prop := fun a st o t =>
  (Qc a st o t ∧ ∃ L, FrameEnd st o t L mc ms ∧ ∀ q ∈ L, free q.base) ∨ ∃ q, o = .threw q ∧ vx_T XC st q t mc ms free
/-- a callee that returns or throws -/
def vx_Met (l : Launch) (y : MethodName) (ws : List Cond) (rm : Room) (Pc : Array Value → State → Prop) (Qc : Array Value → State → Outcome → State → Prop) (XC : String → State → State → Prop) (mc ms : Nat) (free : Addr → Prop) : Prop :=
  MetFree l y (headSpec ws rm) Pc (fun _ _ _ _ _ => True) (vx_Q Qc XC mc ms free)
def vx_Post (XC : String → State → State → Prop) (mc ms : Nat) (free : Addr → Prop) : Pt → Array Value → Addr → Pt → Prop := fun A a q B =>
  ∃ (g : JFrame) (mk : MethodId) (t : State) (L : List Loc) (E : String) (ce : Cell), B.U.heap = t.heap ∧ B.U.vm = t.vm ∧ XC E (A.U.calling g mk a) t ∧ t.heap[q]? = some ce ∧ ce.vm = .none ∧ A.U.vm.findClass E = some ce.cls ∧ B.locs = A.locs ++ L ∧ (∀ z ∈ L, free z.base) ∧ B.cells = A.cells + mc ∧ B.slots = A.slots + ms
def vx_Back (l : Launch) (R : Room) (p : Program) (e : Env) (below : List Frame) (s : State) (sargs : Array Value) (y : MethodName) (len W9 : Nat)
    (Pre : Pt → Array Value → Prop) (Post : Pt → Array Value → Option Value → Pt → Prop) (PostX : Pt → Array Value → Addr → Pt → Prop) : Prop :=
  ∀ (m : MethodId) (meth : Method) (c : Code) (A : Pt) (g : JFrame) (ig : Instr) (mk : MethodId) (a : Array Value),
    Stand p l e R s m sargs below meth c A.U A.locs A.cells A.slots → g.method = m → g.locals.size = c.maxLocals → decode c.code g.pc = .ok (ig, len) →
    2 * g.monitorRoom + (g.stack.map fun v => v.category).sum ≤ W9 → A.U.methodNamed? y = some mk → Pre A a →
    (∃ (v : Option Value) (B : Pt), Stand p l e R s m sargs below meth c B.U B.locs B.cells B.slots ∧ Post A a v B ∧
      Steps p.tables e below (doInvoke e (A.U.setTop g) [] mk a).1 (B.U.setTop { g with pc := g.pc + len, stack := v.toList ++ g.stack })) ∨
    (∃ (q : Addr) (B : Pt), Stand p l e R s m sargs below meth c B.U B.locs B.cells B.slots ∧ PostX A a q B ∧
      Steps p.tables e below (doInvoke e (A.U.setTop g) [] mk a).1 ((B.U.setTop g).pushFrame (.throwing q)))
section Payer
variable {l : Launch} {R : Room} {p : Program} {e : Env} {below : List Frame} {s : State} {sargs : Array Value} {y : MethodName} {len W9 : Nat}
theorem vx_back {ws : List Cond} {rm : Room} {Pc : Array Value → State → Prop} {Qc : Array Value → State → Outcome → State → Prop} {XC : String → State → State → Prop} {mc ms : Nat} {free : Addr → Prop} {bytes : ByteArray} {maxL : Nat} {ret : Option FieldType}
    (hM : vx_Met l y ws rm Pc Qc XC mc ms free) (hblind : FrameBlind Pc) (hrc : rm.cells = mc) (hrs : rm.slots = ms)
    (hframes : rm.frames + 1 ≤ R.frames) (hlocals : W9 + (maxL + 11) + rm.locals ≤ R.locals)
    (hws : ∀ w ∈ ws, ∀ a' U, s.WarmedH U.vm → w.before a' U = true) (hcode : Cond.code y bytes maxL ret ∈ ws) (hinit : ∀ a' U, s.WarmedH U.vm → (Cond.initialized y.cls).before a' U = true) :
    vx_Back l R p e below s sargs y len W9 (PreOf R mc ms Pc) (PostOf Qc mc ms free) (vx_Post XC mc ms free) := by
  intro m meth c A g ig mk a X hg hsize hdg hW hn hp
  have h1 : (headSpec ws rm).pre.before a A.U = true := atoms_intro fun w hw => hws w hw _ _ X.warmed
  have h2 : (Cond.code y bytes maxL ret).before a A.U = true := hws _ hcode _ _ X.warmed
  have h3 : (Cond.initialized y.cls).before a A.U = true := hinit _ _ X.warmed
  have h4 : A.cells + (headSpec ws rm).room.cells ≤ R.cells := by rw [show (headSpec ws rm).room.cells = mc from hrc]; exact hp.1
  have h5 : A.slots + (headSpec ws rm).room.slots ≤ R.slots := by rw [show (headSpec ws rm).room.slots = ms from hrs]; exact hp.2.1
  have hPc : Pc a (A.U.calling g mk a) := hblind _ _ _ _ hp.2.2
  obtain ⟨U, Ls, c0, s0⟩ := A
  dsimp only [Pt.U, Pt.locs, Pt.cells, Pt.slots] at h1 h2 h3 h4 h5 X hn hPc ⊢
  obtain ⟨methY, cY, hmY, hcY, -, hlY, -, -, -, -⟩ := Cond.code_spec hn h2
  obtain ⟨kY, hkY, -⟩ := className_of_methodNamed hn
  have hinitY : kY.init = .initialized := Cond.initialized_spec (findClass_of_methodNamed hn) hkY h3
  have h : At U g.method c below := by rw [hg]; exact X.here
  have hlocals9 : W9 + (maxL + 11) + (headSpec ws rm).room.locals ≤ R.locals := hlocals
  have happ : (headSpec ws rm).appliesLoose y e.platform (U.calling g mk a) = true :=
    Spec.appliesLoose_calling (g := g) h hdg hn hkY hinitY
      (X.room_calling (g := g) (R' := (headSpec ws rm).room) hsize hmY hcY hframes (by rw [hlY]; omega) h4 h5) h1
  obtain ⟨mid, hmid⟩ := h.above
  have hfr : (U.setTop g).frames = (.java g :: mid) ++ below := by rw [State.frames_setTop' g h.top, hmid]; rfl
  obtain ⟨o, s₂, hsteps, -, hend, hq⟩ := Steps.callFree hM p X.admits X.cas X.clock (acts := []) hfr happ hPc trivial
  have hq' : vx_Q Qc XC mc ms free a (U.calling g mk a) o s₂ := hq
  rw [State.frames_setTop' g h.top] at hend
  obtain ⟨g₀, hg0⟩ := Option.isSome_iff_exists.mp h.top
  obtain ⟨r, hr⟩ := State.topJava?_eq_some.mp hg0
  have hr' : (({ U with heap := s₂.heap, slotsUsed := s₂.slotsUsed } : State).setVm s₂.vm).frames = .java g₀ :: r := hr
  rcases hq' with ⟨hqc, L, hfe, hL⟩ | ⟨q, rfl, E, ce, L, hx, hce, hcv, hcl, hW₂, hsm, hL⟩
  · obtain ⟨⟨v, rfl⟩, hW₂, e2, q2, q3, q4, q5, q6⟩ := id hfe
    have e3 : s₂ = ({ (U.calling g mk a).setFrames s₂.frames with heap := s₂.heap, slotsUsed := s₂.slotsUsed } : State).setVm s₂.vm := by
      have : s₂ = ({ s₂ with vm := (U.calling g mk a).vm } : State).setVm s₂.vm := rfl
      rw [e2] at this
      exact this
    obtain ⟨c₂, i₂, len₂, hc₂, hd₂, hf₂⟩ := hend
    have hW' : U.WarmedH s₂.vm := hW₂
    have hcc : c₂ = c := by
      have h1 : s₂.code? g.method = U.code? g.method := by
        rw [State.code?_eq, State.code?_eq, hW'.alike.method?]
      exact Option.some.inj (hc₂.symm.trans (h1.trans h.code))
    subst hcc
    have hlen : len₂ = len := by rw [hdg] at hd₂; cases hd₂; rfl
    subst hlen
    have hs₂ : s₂ = (({ U with heap := s₂.heap, slotsUsed := s₂.slotsUsed } : State).setVm s₂.vm).setTop { g with pc := g.pc + len₂, stack := v.toList ++ g.stack } := by
      refine e3.trans ?_
      rw [hf₂, State.calling_eq h.top, State.setFrames_setFrames, State.setTop_of_frames _ hr', hr]
      rfl
    have hsame : U.sameButNew ({ U with heap := s₂.heap, slotsUsed := s₂.slotsUsed } : State) L mc ms := by
      refine ⟨?_, q2, q3, q4, q5, q6⟩
      obtain ⟨t, ht, -⟩ := State.frames_cons hr
      show ({ U with heap := s₂.heap, slotsUsed := s₂.slotsUsed } : State) = { U.setFrames U.frames with heap := s₂.heap, slotsUsed := s₂.slotsUsed }
      rw [State.setFrames_self ht]
    subst hg
    refine Or.inl ⟨v, ⟨(({ U with heap := s₂.heap, slotsUsed := s₂.slotsUsed } : State).setVm s₂.vm), Ls ++ L, c0 + mc, s0 + ms⟩,
      ⟨X.admits, X.cas, X.clock, X.frames, X.room, X.hears, X.method, X.code, (X.here.setHeapUsed s₂.heap s₂.slotsUsed).setVm hW'.alike, X.tail, State.WarmedH.trans X.warmed hW', X.limits, X.bytes, X.same.trans (hsame.setVm s.vm)⟩,
      ⟨g, mk, s₂, L, rfl, rfl, hqc, rfl, hL, rfl, rfl⟩, ?_⟩
    show Steps p.tables e below _ ((({ U with heap := s₂.heap, slotsUsed := s₂.slotsUsed } : State).setVm s₂.vm).setTop { g with pc := g.pc + len₂, stack := v.toList ++ g.stack })
    rw [← hs₂]
    exact hsteps
  · obtain ⟨e2, q2, q3, q4, q5, q6⟩ := id hsm
    have e3 : s₂ = ({ (U.calling g mk a).setFrames s₂.frames with heap := s₂.heap, slotsUsed := s₂.slotsUsed } : State).setVm s₂.vm := by
      have : s₂ = ({ s₂ with vm := (U.calling g mk a).vm } : State).setVm s₂.vm := rfl
      rw [e2] at this
      exact this
    have hf₂ : s₂.frames = .throwing q :: .java g :: U.frames.tail := hend
    have hW' : U.WarmedH s₂.vm := hW₂
    have hs₂ : s₂ = ((({ U with heap := s₂.heap, slotsUsed := s₂.slotsUsed } : State).setVm s₂.vm).setTop g).pushFrame (.throwing q) := by
      refine e3.trans ?_
      rw [hf₂, State.calling_eq h.top, State.setFrames_setFrames, State.pushFrame, State.frames_setTop _ hr', State.setTop_of_frames _ hr', State.setFrames_setFrames, hr]
      rfl
    have hsame : U.sameButNew ({ U with heap := s₂.heap, slotsUsed := s₂.slotsUsed } : State) L mc ms := by
      refine ⟨?_, q2, q3, q4, q5, q6⟩
      obtain ⟨t, ht, -⟩ := State.frames_cons hr
      show ({ U with heap := s₂.heap, slotsUsed := s₂.slotsUsed } : State) = { U.setFrames U.frames with heap := s₂.heap, slotsUsed := s₂.slotsUsed }
      rw [State.setFrames_self ht]
    subst hg
    refine Or.inr ⟨q, ⟨(({ U with heap := s₂.heap, slotsUsed := s₂.slotsUsed } : State).setVm s₂.vm), Ls ++ L, c0 + mc, s0 + ms⟩,
      ⟨X.admits, X.cas, X.clock, X.frames, X.room, X.hears, X.method, X.code, (X.here.setHeapUsed s₂.heap s₂.slotsUsed).setVm hW'.alike, X.tail, State.WarmedH.trans X.warmed hW', X.limits, X.bytes, X.same.trans (hsame.setVm s.vm)⟩,
      ⟨g, mk, s₂, L, E, ce, rfl, rfl, hx, hce, hcv, hcl, rfl, hL, rfl, rfl⟩, ?_⟩
    show Steps p.tables e below _ (((({ U with heap := s₂.heap, slotsUsed := s₂.slotsUsed } : State).setVm s₂.vm).setTop g).pushFrame (.throwing q))
    rw [← hs₂]
    exact hsteps
end Payer
section Calls
variable {p : Program} {l : Launch} {e : Env} {R : Room} {s : State} {m : MethodId} {args : Array Value} {below : List Frame} {meth : Method} {c : Code} {T : State} {locs : List Loc} {cells slots : Nat}
theorem vx_callV (X : Stand p l e R s m args below meth c T locs cells slots) (hexec : p.tables.exec = Jvm.exec) {own C : String} {index : Nat} {y : MethodName} {bytes : ByteArray} {maxL : Nat} {ret : Option FieldType}
    (hown : s.vm.findClass own = some m.cls) (hlink : (Cond.methodLink own index y).before args s = true) (hinst : (Cond.instanceMethod y).before args s = true) (hsel : (Cond.selects C y y).before args s = true)
    (hcode : (Cond.code y bytes maxL ret).before args s = true) (hy : y.cls ≠ "java/lang/invoke/MethodHandle" ∧ y.cls ≠ "java/lang/invoke/VarHandle")
    {W9 : Nat} {Pre : Pt → Array Value → Prop} {Post : Pt → Array Value → Option Value → Pt → Prop} {PostX : Pt → Array Value → Addr → Pt → Prop} (hK : vx_Back l R p e below s args y 3 W9 Pre Post PostX)
    {b : Addr} {cellB : Cell} (hcell : T.heap[b]? = some cellB) (hobj : cellB.vm.isStatics = false) (hcls : s.vm.findClass C = some cellB.cls)
    {g : JFrame} (hg : g.method = m) (hsize : g.locals.size = c.maxLocals) {argsL rest : List Value} (hlen : ∀ sig, parseMethodDescriptor y.desc = some sig → argsL.length = sig.parameters.length)
    (hstack : g.stack = argsL.reverse ++ .ref b :: rest) (hW : 2 * g.monitorRoom + (rest.map fun v => v.category).sum ≤ W9) (hdg : decode c.code g.pc = .ok (.invokevirtual index, 3))
    (hpre : ∀ vm₁, s.WarmedH vm₁ → Pre ⟨T.setVm vm₁, locs, cells, slots⟩ (Value.ref b :: argsL).toArray) :
    (∃ (v : Option Value) (vm₁ : Vm) (B : Pt), s.WarmedH vm₁ ∧ Stand p l e R s m args below meth c B.U B.locs B.cells B.slots ∧ Post ⟨T.setVm vm₁, locs, cells, slots⟩ (Value.ref b :: argsL).toArray v B ∧
      ∀ target, Steps p.tables e below (B.U.setTop { g with pc := g.pc + 3, stack := v.toList ++ rest }) target → Steps p.tables e below (T.setTop g) target) ∨
    (∃ (q : Addr) (vm₁ : Vm) (B : Pt), s.WarmedH vm₁ ∧ Stand p l e R s m args below meth c B.U B.locs B.cells B.slots ∧ PostX ⟨T.setVm vm₁, locs, cells, slots⟩ (Value.ref b :: argsL).toArray q B ∧
      Steps p.tables e below (T.setTop g) ((B.U.setTop { g with stack := rest }).pushFrame (.throwing q))) := by
  obtain ⟨mk, methM, hnamed, hmethM, hstM, habM⟩ := Cond.instanceMethod_spec hinst
  obtain ⟨methM', cM, hmethM', -, -, -, -, -, -, hsigM⟩ := Cond.code_spec hnamed hcode
  cases hmethM.symm.trans hmethM'
  obtain ⟨c2, r2, m2, q1, q2, q3, q4, kP, hkP, hkPi⟩ := Cond.selects_spec hsel
  cases hcls.symm.trans q1
  cases (State.methodFound?_of_named hnamed hy).symm.trans q2
  cases hnamed.symm.trans q3
  have hselP : selectMethod e.platform s.vm cellB.cls mk = .method mk := by rw [Launch.admits_selectMethod X.admits]; exact q4
  obtain ⟨vm₁, X₁, hstep₁⟩ := X.invokevirtual hexec hown hlink hnamed hmethM hstM hkP hkPi hy (a := b) (cell := cellB) hcell
    (fun z h => by rw [h] at hobj; cases hobj) hselP hmethM habM hkP hkPi (g := g) hg (argsL := argsL) (rest := rest) (hlen _ hsigM) hstack hdg
  rcases hK m meth c ⟨T.setVm vm₁, locs, cells, slots⟩ { g with stack := rest } (.invokevirtual index) mk (Value.ref b :: argsL).toArray X₁ hg hsize hdg hW (X₁.named hnamed) (hpre vm₁ X₁.warmed) with ⟨v, B, X', hpost, hsteps⟩ | ⟨q, B, X', hpost, hsteps⟩
  · exact Or.inl ⟨v, vm₁, B, X₁.warmed, X', hpost, fun target h => hstep₁ _ fun acts => by rw [doInvoke_state]; exact hsteps.trans h⟩
  · exact Or.inr ⟨q, vm₁, B, X₁.warmed, X', hpost, hstep₁ _ fun acts => by rw [doInvoke_state]; exact hsteps⟩
theorem vx_callS (X : Stand p l e R s m args below meth c T locs cells slots) (hexec : p.tables.exec = Jvm.exec) {own : String} {index : Nat} {y : MethodName} {bytes : ByteArray} {maxL : Nat} {ret : Option FieldType}
    (hown : s.vm.findClass own = some m.cls) (hlink : (Cond.methodLink own index y).before args s = true) (hstat : (Cond.static y).before args s = true) (hinit : (Cond.initialized y.cls).before args s = true)
    (hcode : (Cond.code y bytes maxL ret).before args s = true) (hy : y.cls ≠ "java/lang/invoke/MethodHandle" ∧ y.cls ≠ "java/lang/invoke/VarHandle")
    {W9 : Nat} {Pre : Pt → Array Value → Prop} {Post : Pt → Array Value → Option Value → Pt → Prop} {PostX : Pt → Array Value → Addr → Pt → Prop} (hK : vx_Back l R p e below s args y 3 W9 Pre Post PostX)
    {g : JFrame} (hg : g.method = m) (hsize : g.locals.size = c.maxLocals) {argsL rest : List Value} (hlen : ∀ sig, parseMethodDescriptor y.desc = some sig → argsL.length = sig.parameters.length)
    (hstack : g.stack = argsL.reverse ++ rest) (hW : 2 * g.monitorRoom + (rest.map fun v => v.category).sum ≤ W9) (hdg : decode c.code g.pc = .ok (.invokestatic index, 3))
    (hpre : ∀ vm₁, s.WarmedH vm₁ → Pre ⟨T.setVm vm₁, locs, cells, slots⟩ argsL.toArray) :
    (∃ (v : Option Value) (vm₁ : Vm) (B : Pt), s.WarmedH vm₁ ∧ Stand p l e R s m args below meth c B.U B.locs B.cells B.slots ∧ Post ⟨T.setVm vm₁, locs, cells, slots⟩ argsL.toArray v B ∧
      ∀ target, Steps p.tables e below (B.U.setTop { g with pc := g.pc + 3, stack := v.toList ++ rest }) target → Steps p.tables e below (T.setTop g) target) ∨
    (∃ (q : Addr) (vm₁ : Vm) (B : Pt), s.WarmedH vm₁ ∧ Stand p l e R s m args below meth c B.U B.locs B.cells B.slots ∧ PostX ⟨T.setVm vm₁, locs, cells, slots⟩ argsL.toArray q B ∧
      Steps p.tables e below (T.setTop g) ((B.U.setTop { g with stack := rest }).pushFrame (.throwing q))) := by
  obtain ⟨mk, hnamed⟩ := Cond.code_named hcode
  obtain ⟨methM, cM, hmethM, -, -, -, -, -, -, hsigM⟩ := Cond.code_spec hnamed hcode
  have hstatic : methM.isStatic = true := Cond.static_spec hnamed hmethM hstat
  obtain ⟨kP, hkP, -⟩ := className_of_methodNamed hnamed
  have hinitP : kP.init = .initialized := Cond.initialized_spec (findClass_of_methodNamed hnamed) hkP hinit
  obtain ⟨vm₁, X₁, hstep₁⟩ := X.invokestatic hexec hown hlink hnamed hmethM hstatic hkP hinitP hy (g := g) hg (argsL := argsL) (rest := rest) (hlen _ hsigM) hstack hdg
  rcases hK m meth c ⟨T.setVm vm₁, locs, cells, slots⟩ { g with stack := rest } (.invokestatic index) mk argsL.toArray X₁ hg hsize hdg hW (X₁.named hnamed) (hpre vm₁ X₁.warmed) with ⟨v, B, X', hpost, hsteps⟩ | ⟨q, B, X', hpost, hsteps⟩
  · exact Or.inl ⟨v, vm₁, B, X₁.warmed, X', hpost, fun target h => hstep₁ _ fun acts => by rw [doInvoke_state]; exact hsteps.trans h⟩
  · exact Or.inr ⟨q, vm₁, B, X₁.warmed, X', hpost, hstep₁ _ fun acts => by rw [doInvoke_state]; exact hsteps⟩
end Calls
theorem vx_cls {s : State} {T : State} {vm₁ : Vm} {E : String} {k : ClassId} (hW : s.WarmedH vm₁) (h : (T.setVm vm₁).vm.findClass E = some k) : s.vm.findClass E = some k := by
  have h1 : vm₁.findClass E = some k := h
  rw [hW.alike.findClass] at h1
  exact h1
/-- the method's frame g, with q thrown over it -/
def vx_W (p : Program) (l : Launch) (e : Env) (R : Room) (s : State) (m : MethodId) (args : Array Value) (below : List Frame) (meth : Method) (c : Code) (H : Heap) (locs : List Loc) (cells slots : Nat) (Q : State → Prop) (g : JFrame) (q : Addr) : Prop :=
  ∀ T : State, T.heap = H → Stand p l e R s m args below meth c T locs cells slots → ∃ t, Steps p.tables e below ((T.setTop g).pushFrame (.throwing q)) t ∧ Q t
def vx_Run (p : Program) (l : Launch) (e : Env) (R : Room) (s : State) (m : MethodId) (args : Array Value) (below : List Frame) (meth : Method) (c : Code) (H : Heap) (locs : List Loc) (cells slots mc ms : Nat) (g : JFrame) (rest : List Value) (Qa : State → Outcome → State → Prop) (XC : String → State → State → Prop) (free : Addr → Prop) : Prop :=
  ∀ T : State, T.heap = H → Stand p l e R s m args below meth c T locs cells slots →
    (∃ (v : Option Value) (st₀ t T' : State) (L : List Loc), st₀.heap = H ∧ Stand p l e R s m args below meth c T' (locs ++ L) (cells + mc) (slots + ms) ∧ (∀ q ∈ L, free q.base) ∧ T'.heap = t.heap ∧ T'.vm = t.vm ∧ Qa st₀ (.returned v) t ∧
      Goes p e below T g T' { g with pc := g.pc + 3, stack := v.toList ++ rest }) ∨
    (∃ (q : Addr) (st₀ t T' : State) (L : List Loc) (E : String) (ce : Cell), st₀.heap = H ∧ Stand p l e R s m args below meth c T' (locs ++ L) (cells + mc) (slots + ms) ∧ (∀ z ∈ L, free z.base) ∧ T'.heap = t.heap ∧ T'.vm = t.vm ∧ XC E st₀ t ∧ t.heap[q]? = some ce ∧ ce.vm = .none ∧ s.vm.findClass E = some ce.cls ∧
      Steps p.tables e below (T.setTop g) ((T'.setTop { g with stack := rest }).pushFrame (.throwing q)))
def vx_X {S : Type} (px : S → Prop) (B : String → S → State → Prop) (A : Nat → Prop) : String → State → State → Prop := fun E st t => ∃ u : S, px u ∧ B E u t ∧ va_F A st t
section Runs
variable {p : Program} {l : Launch} {e : Env} {R : Room} {s : State} {m : MethodId} {args : Array Value} {below : List Frame} {meth : Method} {c : Code} {H : Heap} {locs : List Loc} {cells slots : Nat}
variable {y : MethodName} {bytes cc : ByteArray} {maxL nL mc ms n index : Nat} {ret : Option FieldType} {ws : List Cond} {rm : Room} {Pc : Array Value → State → Prop} {Qc : Array Value → State → Outcome → State → Prop} {XC : String → State → State → Prop} {free : Addr → Prop} {Ts : List Cond} {own C : String} {b : Addr} {As rest : List Value} {g : JFrame}
theorem vx_callBack (cb : CallB R s args own index y bytes maxL ret ws rm mc ms n) (hM : vx_Met l y ws rm Pc Qc XC mc ms free) (hbl : FrameBlind Pc) : vx_Back l R p e below s args y 3 8 (PreOf R mc ms Pc) (PostOf Qc mc ms free) (vx_Post XC mc ms free) := by
  obtain ⟨hrc, hrs, hfr, hlo, hws, hcw, -, hini, -⟩ := cb
  exact vx_back (bytes := bytes) (maxL := maxL) (ret := ret) hM hbl hrc hrs hfr hlo hws hcw (fun a' U hW => word_at hW (Or.inl (by first | rfl | simp [Cond.onTables, Cond.keeps, Cond.steady])) hini)
theorem vx_runV (S : CallFix p m c cc nL s args Ts own) (hM : vx_Met l y ws rm Pc Qc XC mc ms free) (cw : CallW R s args own C index y bytes maxL ret ws rm mc ms n) (hp : PreV s H C b Pc As)
    (hg : g.method = m) (hn : As.length = n) (hsize : g.locals.size = nL) (hstack : g.stack = As.reverse ++ .ref b :: rest) (hW : 2 * g.monitorRoom + (rest.map fun v => v.category).sum ≤ 8) (hdg : decode cc g.pc = .ok (.invokevirtual index, 3)) (hf : cells + mc ≤ R.cells ∧ slots + ms ≤ R.slots) :
    vx_Run p l e R s m args below meth c H locs cells slots mc ms g rest (Qc (Value.ref b :: As).toArray) XC free := by
  have hK : vx_Back l R p e below s args y 3 8 (PreOf R mc ms Pc) (PostOf Qc mc ms free) (vx_Post XC mc ms free) := vx_callBack cw.1 hM hp.1
  obtain ⟨⟨-, -, -, -, -, -, hcode, -, hy, hlen, hl⟩, hin, hse⟩ := cw
  obtain ⟨hx, hb, hml, ho, -⟩ := S
  obtain ⟨-, ⟨cellB, hcB, hoB, hclB⟩, hPc⟩ := hp
  intro T hT X
  rcases vx_callV X hx (C := C) (bytes := bytes) (maxL := maxL) (ret := ret) ho hl hin hse hcode hy hK (by rw [hT]; exact hcB) hoB hclB hg (hsize.trans hml.symm) (argsL := As) (rest := rest) (fun sig h => hn.trans (hlen sig h)) hstack hW (by rw [hb]; exact hdg)
    (fun vm₁ hW₁ => ⟨hf.1, hf.2, hPc (T.setVm vm₁) hT hW₁⟩) with ⟨v, vm₁, ⟨U', l2, c2, s2⟩, hW₁, X', ⟨g', mk, t, L, e1, e2, hq, h1, hL, h2, h3⟩, st⟩ | ⟨q, vm₁, ⟨U', l2, c2, s2⟩, hW₁, X', ⟨g', mk, t, L, E, ce, e1, e2, hq, hce, hcv, hcl, h1, hL, h2, h3⟩, st⟩
  · dsimp only [Pt.U, Pt.locs, Pt.cells, Pt.slots] at X' e1 e2 h1 h2 h3 st
    subst h1; subst h2; subst h3
    exact Or.inl ⟨v, (T.setVm vm₁).calling g' mk (Value.ref b :: As).toArray, t, U', L, hT, X', hL, e1, e2, hq, st⟩
  · dsimp only [Pt.U, Pt.locs, Pt.cells, Pt.slots] at X' e1 e2 h1 h2 h3 st hcl
    subst h1; subst h2; subst h3
    exact Or.inr ⟨q, (T.setVm vm₁).calling g' mk (Value.ref b :: As).toArray, t, U', L, E, ce, hT, X', hL, e1, e2, hq, hce, hcv, vx_cls hW₁ hcl, st⟩
theorem vx_runS (S : CallFix p m c cc nL s args Ts own) (hM : vx_Met l y ws rm Pc Qc XC mc ms free) (cw : CallB R s args own index y bytes maxL ret ws rm mc ms n ∧ (Cond.static y).before args s = true) (hp : PreS s H Pc As)
    (hg : g.method = m) (hn : As.length = n) (hsize : g.locals.size = nL) (hstack : g.stack = As.reverse ++ rest) (hW : 2 * g.monitorRoom + (rest.map fun v => v.category).sum ≤ 8) (hdg : decode cc g.pc = .ok (.invokestatic index, 3)) (hf : cells + mc ≤ R.cells ∧ slots + ms ≤ R.slots) :
    vx_Run p l e R s m args below meth c H locs cells slots mc ms g rest (Qc As.toArray) XC free := by
  have hK : vx_Back l R p e below s args y 3 8 (PreOf R mc ms Pc) (PostOf Qc mc ms free) (vx_Post XC mc ms free) := vx_callBack cw.1 hM hp.1
  obtain ⟨⟨-, -, -, -, -, -, hcode, hini, hy, hlen, hl⟩, hstt⟩ := cw
  obtain ⟨hx, hb, hml, ho, -⟩ := S
  intro T hT X
  rcases vx_callS X hx (bytes := bytes) (maxL := maxL) (ret := ret) ho hl hstt hini hcode hy hK hg (hsize.trans hml.symm) (argsL := As) (rest := rest) (fun sig h => hn.trans (hlen sig h)) hstack hW (by rw [hb]; exact hdg)
    (fun vm₁ hW₁ => ⟨hf.1, hf.2, hp.2 (T.setVm vm₁) hT hW₁⟩) with ⟨v, vm₁, ⟨U', l2, c2, s2⟩, hW₁, X', ⟨g', mk, t, L, e1, e2, hq, h1, hL, h2, h3⟩, st⟩ | ⟨q, vm₁, ⟨U', l2, c2, s2⟩, hW₁, X', ⟨g', mk, t, L, E, ce, e1, e2, hq, hce, hcv, hcl, h1, hL, h2, h3⟩, st⟩
  · dsimp only [Pt.U, Pt.locs, Pt.cells, Pt.slots] at X' e1 e2 h1 h2 h3 st
    subst h1; subst h2; subst h3
    exact Or.inl ⟨v, (T.setVm vm₁).calling g' mk As.toArray, t, U', L, hT, X', hL, e1, e2, hq, st⟩
  · dsimp only [Pt.U, Pt.locs, Pt.cells, Pt.slots] at X' e1 e2 h1 h2 h3 st hcl
    subst h1; subst h2; subst h3
    exact Or.inr ⟨q, (T.setVm vm₁).calling g' mk As.toArray, t, U', L, E, ce, hT, X', hL, e1, e2, hq, hce, hcv, vx_cls hW₁ hcl, st⟩
end Runs
section Rows
variable {p : Program} {l : Launch} {e : Env} {R : Room} {s : State} {m : MethodId} {args : Array Value} {below : List Frame} {meth : Method} {c : Code} {H : Heap} {locs : List Loc} {cells slots : Nat} {Q : State → Prop}
variable {mc ms : Nat} {free : Addr → Prop} {A0 A1 : Nat → Prop} {H0 : Heap} {a : Array Value} {pc : Nat} {ls : Array Slot} {st0 rest : List Value}
theorem vx_keep {st₀ t T' : State} {L : List Loc} (h0 : st₀.heap = H) (e1 : T'.heap = t.heap) (hS : va_S A0 H0 H locs) (hA : ∀ q, q < H.size → A1 q → A0 q) (hf : ∀ q, free q → A0 q) (hL : ∀ q ∈ L, free q.base) (hF : va_F A1 st₀ t) :
    H.size ≤ T'.heap.size ∧ (∀ q : Nat, q < H.size → ¬ A1 q → T'.heap[q]? = H[q]?) ∧ va_S A0 H0 T'.heap (locs ++ L) := by
  obtain ⟨hz, hk⟩ := hF
  rw [h0] at hz hk
  exact ⟨by rw [e1]; exact hz, fun q h1 h2 => by rw [e1]; exact hk q h1 h2,
    ⟨Nat.le_trans hS.1 (by rw [e1]; exact hz), fun q h1 h2 => by rw [e1, hk q (Nat.lt_of_lt_of_le h1 hS.1) (fun z => h2 (hA q (Nat.lt_of_lt_of_le h1 hS.1) z))]; exact hS.2.1 q h1 h2, fun q hq => by
      rcases List.mem_append.mp hq with h | h
      · exact hS.2.2 q h
      · exact hf _ (hL q h)⟩⟩
theorem vx_calli {S SX : Type} {post : Int32 → S → Prop} {px : SX → Prop} {B : S → State → Prop} {BX : String → SX → State → Prop} {AX : Nat → Prop} (hr : vx_Run p l e R s m args below meth c H locs cells slots mc ms (F0 m pc ls st0) rest (va_Qi post B A1 a) (vx_X px BX AX) free) (hS : va_S A0 H0 H locs) (hA : ∀ q, q < H.size → A1 q → A0 q) (hf : ∀ q, free q → A0 q) (hAX : ∀ q, q < H.size → AX q → A0 q)
    (kx : ∀ (E : String) (ce : Cell) (q9 : Addr) (u : SX) (t : State) (H1 : Heap) (locs1 : List Loc), t.heap = H1 → s.vm.Alike t.vm → px u → BX E u t → H.size ≤ H1.size → (∀ q : Nat, q < H.size → ¬ AX q → H1[q]? = H[q]?) → va_S A0 H0 H1 locs1 → H1[q9]? = some ce → ce.vm = .none → s.vm.findClass E = some ce.cls → vx_W p l e R s m args below meth c H1 locs1 (cells + mc) (slots + ms) Q (F0 m pc ls rest) q9)
    (kk : ∀ (r : Int32) (u : S) (t : State) (H1 : Heap) (locs1 : List Loc), t.heap = H1 → s.vm.Alike t.vm → post r u → B u t → H.size ≤ H1.size → (∀ q : Nat, q < H.size → ¬ A1 q → H1[q]? = H[q]?) → va_S A0 H0 H1 locs1 → W p l e R s m args below meth c H1 locs1 (cells + mc) (slots + ms) Q (F0 m (pc + 3) ls (.int r :: rest))) : W p l e R s m args below meth c H locs cells slots Q (F0 m pc ls st0) := by
  intro T hT X
  rcases hr T hT X with ⟨v, st₀, t, T', L, h0, X', hL, e1, e2, ⟨⟨r, u, hv, hp, hb⟩, hF⟩, st⟩ | ⟨q, st₀, t, T', L, E, ce, h0, X', hL, e1, e2, ⟨u, hp, hb, hF⟩, hce, hcv, hcl, st⟩
  · cases hv
    obtain ⟨k1, k2, k3⟩ := vx_keep h0 e1 hS hA hf hL hF
    obtain ⟨t2, a1, b1⟩ := kk r u t T'.heap (locs ++ L) e1.symm (by rw [← e2]; exact X'.warmed.alike) hp hb k1 k2 k3 T' rfl X'
    exact ⟨t2, st t2 a1, b1⟩
  · obtain ⟨k1, k2, k3⟩ := vx_keep h0 e1 hS hAX hf hL hF
    obtain ⟨t2, a1, b1⟩ := kx E ce q u t T'.heap (locs ++ L) e1.symm (by rw [← e2]; exact X'.warmed.alike) hp hb k1 k2 k3 (by rw [e1]; exact hce) hcv hcl T' rfl X'
    exact ⟨t2, st.trans a1, b1⟩
theorem vx_calll {S SX : Type} {post : Int64 → S → Prop} {px : SX → Prop} {B : S → State → Prop} {BX : String → SX → State → Prop} {AX : Nat → Prop} (hr : vx_Run p l e R s m args below meth c H locs cells slots mc ms (F0 m pc ls st0) rest (va_Ql post B A1 a) (vx_X px BX AX) free) (hS : va_S A0 H0 H locs) (hA : ∀ q, q < H.size → A1 q → A0 q) (hf : ∀ q, free q → A0 q) (hAX : ∀ q, q < H.size → AX q → A0 q)
    (kx : ∀ (E : String) (ce : Cell) (q9 : Addr) (u : SX) (t : State) (H1 : Heap) (locs1 : List Loc), t.heap = H1 → s.vm.Alike t.vm → px u → BX E u t → H.size ≤ H1.size → (∀ q : Nat, q < H.size → ¬ AX q → H1[q]? = H[q]?) → va_S A0 H0 H1 locs1 → H1[q9]? = some ce → ce.vm = .none → s.vm.findClass E = some ce.cls → vx_W p l e R s m args below meth c H1 locs1 (cells + mc) (slots + ms) Q (F0 m pc ls rest) q9)
    (kk : ∀ (r : Int64) (u : S) (t : State) (H1 : Heap) (locs1 : List Loc), t.heap = H1 → s.vm.Alike t.vm → post r u → B u t → H.size ≤ H1.size → (∀ q : Nat, q < H.size → ¬ A1 q → H1[q]? = H[q]?) → va_S A0 H0 H1 locs1 → W p l e R s m args below meth c H1 locs1 (cells + mc) (slots + ms) Q (F0 m (pc + 3) ls (.long r :: rest))) : W p l e R s m args below meth c H locs cells slots Q (F0 m pc ls st0) := by
  intro T hT X
  rcases hr T hT X with ⟨v, st₀, t, T', L, h0, X', hL, e1, e2, ⟨⟨r, u, hv, hp, hb⟩, hF⟩, st⟩ | ⟨q, st₀, t, T', L, E, ce, h0, X', hL, e1, e2, ⟨u, hp, hb, hF⟩, hce, hcv, hcl, st⟩
  · cases hv
    obtain ⟨k1, k2, k3⟩ := vx_keep h0 e1 hS hA hf hL hF
    obtain ⟨t2, a1, b1⟩ := kk r u t T'.heap (locs ++ L) e1.symm (by rw [← e2]; exact X'.warmed.alike) hp hb k1 k2 k3 T' rfl X'
    exact ⟨t2, st t2 a1, b1⟩
  · obtain ⟨k1, k2, k3⟩ := vx_keep h0 e1 hS hAX hf hL hF
    obtain ⟨t2, a1, b1⟩ := kx E ce q u t T'.heap (locs ++ L) e1.symm (by rw [← e2]; exact X'.warmed.alike) hp hb k1 k2 k3 (by rw [e1]; exact hce) hcv hcl T' rfl X'
    exact ⟨t2, st.trans a1, b1⟩
theorem vx_callf {S SX : Type} {post : UInt32 → S → Prop} {px : SX → Prop} {B : S → State → Prop} {BX : String → SX → State → Prop} {AX : Nat → Prop} (hr : vx_Run p l e R s m args below meth c H locs cells slots mc ms (F0 m pc ls st0) rest (va_Qf post B A1 a) (vx_X px BX AX) free) (hS : va_S A0 H0 H locs) (hA : ∀ q, q < H.size → A1 q → A0 q) (hf : ∀ q, free q → A0 q) (hAX : ∀ q, q < H.size → AX q → A0 q)
    (kx : ∀ (E : String) (ce : Cell) (q9 : Addr) (u : SX) (t : State) (H1 : Heap) (locs1 : List Loc), t.heap = H1 → s.vm.Alike t.vm → px u → BX E u t → H.size ≤ H1.size → (∀ q : Nat, q < H.size → ¬ AX q → H1[q]? = H[q]?) → va_S A0 H0 H1 locs1 → H1[q9]? = some ce → ce.vm = .none → s.vm.findClass E = some ce.cls → vx_W p l e R s m args below meth c H1 locs1 (cells + mc) (slots + ms) Q (F0 m pc ls rest) q9)
    (kk : ∀ (r : UInt32) (u : S) (t : State) (H1 : Heap) (locs1 : List Loc), t.heap = H1 → s.vm.Alike t.vm → post r u → B u t → H.size ≤ H1.size → (∀ q : Nat, q < H.size → ¬ A1 q → H1[q]? = H[q]?) → va_S A0 H0 H1 locs1 → W p l e R s m args below meth c H1 locs1 (cells + mc) (slots + ms) Q (F0 m (pc + 3) ls (.float r :: rest))) : W p l e R s m args below meth c H locs cells slots Q (F0 m pc ls st0) := by
  intro T hT X
  rcases hr T hT X with ⟨v, st₀, t, T', L, h0, X', hL, e1, e2, ⟨⟨r, u, hv, hp, hb⟩, hF⟩, st⟩ | ⟨q, st₀, t, T', L, E, ce, h0, X', hL, e1, e2, ⟨u, hp, hb, hF⟩, hce, hcv, hcl, st⟩
  · cases hv
    obtain ⟨k1, k2, k3⟩ := vx_keep h0 e1 hS hA hf hL hF
    obtain ⟨t2, a1, b1⟩ := kk r u t T'.heap (locs ++ L) e1.symm (by rw [← e2]; exact X'.warmed.alike) hp hb k1 k2 k3 T' rfl X'
    exact ⟨t2, st t2 a1, b1⟩
  · obtain ⟨k1, k2, k3⟩ := vx_keep h0 e1 hS hAX hf hL hF
    obtain ⟨t2, a1, b1⟩ := kx E ce q u t T'.heap (locs ++ L) e1.symm (by rw [← e2]; exact X'.warmed.alike) hp hb k1 k2 k3 (by rw [e1]; exact hce) hcv hcl T' rfl X'
    exact ⟨t2, st.trans a1, b1⟩
theorem vx_calld {S SX : Type} {post : UInt64 → S → Prop} {px : SX → Prop} {B : S → State → Prop} {BX : String → SX → State → Prop} {AX : Nat → Prop} (hr : vx_Run p l e R s m args below meth c H locs cells slots mc ms (F0 m pc ls st0) rest (va_Qd post B A1 a) (vx_X px BX AX) free) (hS : va_S A0 H0 H locs) (hA : ∀ q, q < H.size → A1 q → A0 q) (hf : ∀ q, free q → A0 q) (hAX : ∀ q, q < H.size → AX q → A0 q)
    (kx : ∀ (E : String) (ce : Cell) (q9 : Addr) (u : SX) (t : State) (H1 : Heap) (locs1 : List Loc), t.heap = H1 → s.vm.Alike t.vm → px u → BX E u t → H.size ≤ H1.size → (∀ q : Nat, q < H.size → ¬ AX q → H1[q]? = H[q]?) → va_S A0 H0 H1 locs1 → H1[q9]? = some ce → ce.vm = .none → s.vm.findClass E = some ce.cls → vx_W p l e R s m args below meth c H1 locs1 (cells + mc) (slots + ms) Q (F0 m pc ls rest) q9)
    (kk : ∀ (r : UInt64) (u : S) (t : State) (H1 : Heap) (locs1 : List Loc), t.heap = H1 → s.vm.Alike t.vm → post r u → B u t → H.size ≤ H1.size → (∀ q : Nat, q < H.size → ¬ A1 q → H1[q]? = H[q]?) → va_S A0 H0 H1 locs1 → W p l e R s m args below meth c H1 locs1 (cells + mc) (slots + ms) Q (F0 m (pc + 3) ls (.double r :: rest))) : W p l e R s m args below meth c H locs cells slots Q (F0 m pc ls st0) := by
  intro T hT X
  rcases hr T hT X with ⟨v, st₀, t, T', L, h0, X', hL, e1, e2, ⟨⟨r, u, hv, hp, hb⟩, hF⟩, st⟩ | ⟨q, st₀, t, T', L, E, ce, h0, X', hL, e1, e2, ⟨u, hp, hb, hF⟩, hce, hcv, hcl, st⟩
  · cases hv
    obtain ⟨k1, k2, k3⟩ := vx_keep h0 e1 hS hA hf hL hF
    obtain ⟨t2, a1, b1⟩ := kk r u t T'.heap (locs ++ L) e1.symm (by rw [← e2]; exact X'.warmed.alike) hp hb k1 k2 k3 T' rfl X'
    exact ⟨t2, st t2 a1, b1⟩
  · obtain ⟨k1, k2, k3⟩ := vx_keep h0 e1 hS hAX hf hL hF
    obtain ⟨t2, a1, b1⟩ := kx E ce q u t T'.heap (locs ++ L) e1.symm (by rw [← e2]; exact X'.warmed.alike) hp hb k1 k2 k3 (by rw [e1]; exact hce) hcv hcl T' rfl X'
    exact ⟨t2, st.trans a1, b1⟩
theorem vx_callv {S SX : Type} {post : S → Prop} {px : SX → Prop} {B : S → State → Prop} {BX : String → SX → State → Prop} {AX : Nat → Prop} (hr : vx_Run p l e R s m args below meth c H locs cells slots mc ms (F0 m pc ls st0) rest (va_Qv post B A1 a) (vx_X px BX AX) free) (hS : va_S A0 H0 H locs) (hA : ∀ q, q < H.size → A1 q → A0 q) (hf : ∀ q, free q → A0 q) (hAX : ∀ q, q < H.size → AX q → A0 q)
    (kx : ∀ (E : String) (ce : Cell) (q9 : Addr) (u : SX) (t : State) (H1 : Heap) (locs1 : List Loc), t.heap = H1 → s.vm.Alike t.vm → px u → BX E u t → H.size ≤ H1.size → (∀ q : Nat, q < H.size → ¬ AX q → H1[q]? = H[q]?) → va_S A0 H0 H1 locs1 → H1[q9]? = some ce → ce.vm = .none → s.vm.findClass E = some ce.cls → vx_W p l e R s m args below meth c H1 locs1 (cells + mc) (slots + ms) Q (F0 m pc ls rest) q9)
    (kk : ∀ (u : S) (t : State) (H1 : Heap) (locs1 : List Loc), t.heap = H1 → s.vm.Alike t.vm → post u → B u t → H.size ≤ H1.size → (∀ q : Nat, q < H.size → ¬ A1 q → H1[q]? = H[q]?) → va_S A0 H0 H1 locs1 → W p l e R s m args below meth c H1 locs1 (cells + mc) (slots + ms) Q (F0 m (pc + 3) ls (rest))) : W p l e R s m args below meth c H locs cells slots Q (F0 m pc ls st0) := by
  intro T hT X
  rcases hr T hT X with ⟨v, st₀, t, T', L, h0, X', hL, e1, e2, ⟨⟨u, hv, hp, hb⟩, hF⟩, st⟩ | ⟨q, st₀, t, T', L, E, ce, h0, X', hL, e1, e2, ⟨u, hp, hb, hF⟩, hce, hcv, hcl, st⟩
  · cases hv
    obtain ⟨k1, k2, k3⟩ := vx_keep h0 e1 hS hA hf hL hF
    obtain ⟨t2, a1, b1⟩ := kk u t T'.heap (locs ++ L) e1.symm (by rw [← e2]; exact X'.warmed.alike) hp hb k1 k2 k3 T' rfl X'
    exact ⟨t2, st t2 a1, b1⟩
  · obtain ⟨k1, k2, k3⟩ := vx_keep h0 e1 hS hAX hf hL hF
    obtain ⟨t2, a1, b1⟩ := kx E ce q u t T'.heap (locs ++ L) e1.symm (by rw [← e2]; exact X'.warmed.alike) hp hb k1 k2 k3 (by rw [e1]; exact hce) hcv hcl T' rfl X'
    exact ⟨t2, st.trans a1, b1⟩
/-- caught by the row x of this method's table; the rows ahead don't take it -/
theorem vx_catch {own name : String} {E : String} {ce : Cell} {q : Addr} (hown : s.vm.findClass own = some m.cls) (pre : List ExceptionTableEntry) (x : ExceptionTableEntry) (suf : List ExceptionTableEntry) (hsplit : c.exceptionTable.toList = pre ++ x :: suf)
    (hpass : ∀ z ∈ pre, covers z pc = false ∨ (z.catchType ≠ 0 ∧ ∃ nm : String, (Cond.classLink own z.catchType nm).before args s = true ∧ va_Nc E nm s)) (hx : covers x pc = true) (h0 : x.catchType ≠ 0)
    (hlink : (Cond.classLink own x.catchType name).before args s = true) (hcast : (Cond.castable E name).before args s = true) (hcell : H[q]? = some ce) (hv : ce.vm = .none) (hcl : s.vm.findClass E = some ce.cls)
    (kk : W p l e R s m args below meth c H locs cells slots Q (F0 m x.handlerPc ls [.ref q])) : vx_W p l e R s m args below meth c H locs cells slots Q (F0 m pc ls rest) q := by
  intro T hT X
  have hpl : e.platform.magicAccessors = ({} : Platform).magicAccessors := by rw [X.admits.platform]
  obtain ⟨c3, c4, hc3, hc4, hasg⟩ := Cond.castable_spec hcast
  cases Option.some.inj (hc3.symm.trans hcl)
  obtain ⟨c5, hc5, hcl5⟩ := Cond.classLink_spec hown hlink e.platform hpl
  cases Option.some.inj (hc4.symm.trans hc5)
  obtain ⟨vm', X', st⟩ := X.thenCaughtThrough q (g := F0 m pc ls rest) rfl (Steps.refl _) (by rw [hT]; exact hcell) (by rw [hv]; rfl) (by obtain ⟨k9, h9, -⟩ := Vm.findClass_spec hcl; exact ⟨k9, h9⟩) pre x suf hsplit
    (fun z hz => by
      rcases hpass z hz with h | ⟨hz0, nm, hl1, hn1⟩
      · exact Or.inl h
      · obtain ⟨c6, hc6, hcl6⟩ := Cond.classLink_spec hown hl1 e.platform hpl
        obtain ⟨a8, b8, h1, h2, h3⟩ := hn1
        cases Option.some.inj (h1.symm.trans hcl)
        cases Option.some.inj (h2.symm.trans hc6)
        exact Or.inr ⟨hz0, _, hcl6, h3⟩) hx (Or.inr ⟨h0, c4, hcl5, hasg⟩)
  obtain ⟨t, a1, b1⟩ := kk (T.setVm vm') hT X'
  exact ⟨t, st.trans a1, b1⟩
end Rows
section Ends
variable {p : Program} {l : Launch} {e : Env} {R : Room} {s : State} {m : MethodId} {args : Array Value} {below : List Frame} {meth : Method} {c : Code} {H : Heap} {locs : List Loc} {cells slots : Nat} {Q : State → Prop}
variable {mc ms : Nat} {free : Addr → Prop} {A0 A1 : Nat → Prop} {H0 : Heap} {a : Array Value} {ls : Array Slot} {st0 rest : List Value}
variable {Qc : Array Value → State → Outcome → State → Prop} {XC : String → State → State → Prop}
/-- what a body that may throw owes at its end -/
def vx_MQ (below : List Frame) (Qc : Array Value → State → Outcome → State → Prop) (XC : String → State → State → Prop) (a : Array Value) (s : State) (mc ms : Nat) (free : Addr → Prop) : State → Prop := fun t =>
  ∃ o, t.status = .running ∧ Ended t below o ∧ vx_Q Qc XC mc ms free a s o t
theorem vx_ret {g : JFrame} {mc ms : Nat} (k : W p l e R s m args below meth c H locs cells slots (MQ below Qc args s mc ms free) g) : W p l e R s m args below meth c H locs cells slots (vx_MQ below Qc XC args s mc ms free) g := by
  intro T hT X
  obtain ⟨t, a1, o, b1, b2, b3, b4⟩ := k T hT X
  exact ⟨t, a1, o, b1, b2, Or.inl ⟨b3, b4⟩⟩
/-- not caught here: it goes on to the caller -/
theorem vx_widen {g : JFrame} {q : Addr} {k n : Nat} (h1 : cells ≤ k) (h2 : slots ≤ n) (kk : vx_W p l e R s m args below meth c H locs k n Q g q) : vx_W p l e R s m args below meth c H locs cells slots Q g q := fun T hT X => kk T hT (stand_widen X h1 h2)
theorem vx_out {pc : Nat} {E : String} {ce : Cell} {q : Addr} {mc ms : Nat} (hout : ∀ x ∈ c.exceptionTable.toList, covers x pc = false) (hlocks : meth.locks = false) (hcell : H[q]? = some ce) (hv : ce.vm = .none) (hcl : s.vm.findClass E = some ce.cls)
    (hx : ∀ t : State, t.heap = H → s.vm.Alike t.vm → XC E s t) (hf : ∀ z ∈ locs, free z.base) (hc : cells ≤ mc) (hs : slots ≤ ms) :
    vx_W p l e R s m args below meth c H locs cells slots (vx_MQ below Qc XC args s mc ms free) (F0 m pc ls rest) q := by
  intro T hT X
  obtain ⟨st1, hrun, hend, hW, hsm⟩ := X.leaveThrown q (g := F0 m pc ls rest) rfl rfl rfl hout hlocks
  have hcell9 : (T.setFrames (.throwing q :: below)).heap[q]? = some ce := by
    show T.heap[q]? = some ce
    rw [hT]; exact hcell
  exact ⟨_, st1, .threw q, hrun, hend, Or.inr ⟨q, rfl, E, ce, locs, hx _ hT hW.alike, hcell9, hv, hcl, hW, hsm.mono hc hs, hf⟩⟩
theorem vx_frame {U : State} {k n : Nat} (h : s.sameButNew ({ U with vm := s.vm } : State) locs k n) : s.heap.size ≤ U.heap.size ∧ ∀ q : Nat, q < s.heap.size → (∀ z ∈ locs, z.base ≠ q) → U.heap[q]? = s.heap[q]? := by
  obtain ⟨-, h2, -, -, -, h6⟩ := h
  refine ⟨h2, fun q hq hz => ?_⟩
  obtain ⟨c9, e1, e2, e3, e4⟩ := h6 q _ (Array.getElem?_eq_getElem hq)
  have hs : c9.slots = (s.heap[q]).slots := Array.ext_getElem? fun i => e4 i fun hm => hz _ hm rfl
  have h9 : c9 = s.heap[q] := by
    rw [hs] at e2
    exact e2
  have e5 : U.heap[q]? = some c9 := e1
  rw [e5, h9, Array.getElem?_eq_getElem hq]
/-- the words of a throw but the four that speak of the heap -/
def vx_no (w : Cond) : Bool := decide (w ≠ .isRef (.static Bundle.tN "UNASSIGNED_STACK" Bundle.steD)) && decide (w ≠ .isRef (.static Bundle.tN "SUPPRESSED_SENTINEL" Bundle.listD)) && decide (w ≠ .laysStatic Bundle.tN "UNASSIGNED_STACK" Bundle.steD) && decide (w ≠ .laysStatic Bundle.tN "SUPPRESSED_SENTINEL" Bundle.listD)
def vx_at0 (own : String) (ic : Nat) (X : String) (names : List String) : List Cond := (Bundle.ownAtoms0 own ic X names).filter vx_no
def vx_atS (own : String) (ic : Nat) (X : String) (names : List String) : List Cond := (Bundle.ownAtoms own ic X names).filter vx_no
/-- a word that the tables alone decide, or a good one -/
def vx_ot (w : Cond) : Bool := w.onTables || goodWord w
theorem vx_ot_at {args a' : Array Value} {s U : State} {w : Cond} (hW : s.WarmedH U.vm) (hvm : s.vm = U.vm) (hg : vx_ot w = true) (h : w.before args s = true) : w.before a' U = true := by
  simp only [vx_ot, Bool.or_eq_true] at hg
  rcases hg with hg | hg
  · exact va_tabs hg hvm h
  · exact word_at hW (good_of_word hg) h
/-- a list's words: the good ones out of the method's own list, the others by premises of their own -/
theorem vx_hat {args : Array Value} {s : State} {L B : List Cond} (h1 : ∀ w ∈ L.filter goodWord, w.before args s = true) (h2 : ∀ w ∈ L.filter (fun w => !goodWord w), w ∈ B) (h3 : ∀ w ∈ B, w.before args s = true) : ∀ w ∈ L, w.before args s = true := by
  intro w hw
  by_cases g : goodWord w = true
  · exact h1 w (List.mem_filter.mpr ⟨hw, g⟩)
  · refine h3 w (h2 w (List.mem_filter.mpr ⟨hw, ?_⟩))
    show (!goodWord w) = true
    cases hgw : goodWord w
    · rfl
    · exact absurd hgw g
theorem vx_c {args : Array Value} {s : State} {w : Cond} {B : List Cond} (h : w.before args s = true) (t : ∀ w ∈ B, w.before args s = true) : ∀ w' ∈ w :: B, w'.before args s = true := fun w' h' => (List.mem_cons.mp h').elim (fun e => by rw [e]; exact h) (t w')
theorem vx_n {args : Array Value} {s : State} : ∀ w ∈ ([] : List Cond), w.before args s = true := fun _ h => nomatch h
theorem vx_own {args : Array Value} {s : State} {L : List Cond} (h1 : ∀ w ∈ L.filter vx_no, w.before args s = true)
    (hU : (Cond.isRef (.static Bundle.tN "UNASSIGNED_STACK" Bundle.steD)).before args s = true) (hN : (Cond.isRef (.static Bundle.tN "SUPPRESSED_SENTINEL" Bundle.listD)).before args s = true)
    (lU : (Cond.laysStatic Bundle.tN "UNASSIGNED_STACK" Bundle.steD).before args s = true) (lN : (Cond.laysStatic Bundle.tN "SUPPRESSED_SENTINEL" Bundle.listD).before args s = true) : ∀ w ∈ L, w.before args s = true := by
  intro w hw
  by_cases e1 : w = .isRef (.static Bundle.tN "UNASSIGNED_STACK" Bundle.steD)
  · rw [e1]; exact hU
  · by_cases e2 : w = .isRef (.static Bundle.tN "SUPPRESSED_SENTINEL" Bundle.listD)
    · rw [e2]; exact hN
    · by_cases e3 : w = .laysStatic Bundle.tN "UNASSIGNED_STACK" Bundle.steD
      · rw [e3]; exact lU
      · by_cases e4 : w = .laysStatic Bundle.tN "SUPPRESSED_SENTINEL" Bundle.listD
        · rw [e4]; exact lN
        · exact h1 w (List.mem_filter.mpr ⟨hw, by unfold vx_no; rw [decide_eq_true e1, decide_eq_true e2, decide_eq_true e3, decide_eq_true e4]; rfl⟩)
/-- where a static field lies, its class's statics cell in H -/
def vx_L (C n d : String) (A : Nat → Prop) (U : State) (H : Heap) : Prop := ∃ (c : ClassId) (k : Class) (i : Nat) (f : Field) (a : Nat) (cell : Cell), U.vm.findClass C = some c ∧ U.fieldFound? C n d = some (c, k, i, f) ∧ f.isStatic = true ∧ k.statics = some a ∧ H[a]? = some cell ∧ cell.vm.isStatics = true ∧ cell.cls = c ∧ f.slot < cell.slots.size ∧ k.staticTypes[f.slot]? = some f.type ∧ ¬ A a
theorem vx_L.moved {C n d : String} {A : Nat → Prop} {u U : State} {H : Heap} (hvm : u.vm.Alike U.vm) (h : vx_L C n d A u H) : vx_L C n d A U H := by
  obtain ⟨c, k, i, f, a, cell, h1, h2, h3, h4, h5, h6, h7, h8, h9, h10⟩ := h
  obtain ⟨k', hi', he⟩ := State.fieldFound?_setVm hvm h2
  exact ⟨c, k', i, f, a, cell, by rw [hvm.findClass]; exact h1, hi', h3, by rw [he]; exact h4, h5, h6, h7, h8, by rw [he]; exact h9, h10⟩
theorem vx_L.kept {C n d : String} {A : Nat → Prop} {U : State} {H H1 : Heap} (h : vx_L C n d A U H) (hq : ∀ a : Nat, a < H.size → ¬ A a → H1[a]? = H[a]?) : vx_L C n d A U H1 := by
  obtain ⟨c, k, i, f, a, cell, h1, h2, h3, h4, h5, h6, h7, h8, h9, h10⟩ := h
  exact ⟨c, k, i, f, a, cell, h1, h2, h3, h4, by rw [hq a (Array.getElem?_eq_some_iff.mp h5).1 h10]; exact h5, h6, h7, h8, h9, h10⟩
theorem vx_L.narrow {C n d : String} {A B : Nat → Prop} {U : State} {H : Heap} (h : vx_L C n d A U H) (hAB : ∀ q, B q → A q) : vx_L C n d B U H := by
  obtain ⟨c, k, i, f, a, cell, h1, h2, h3, h4, h5, h6, h7, h8, h9, h10⟩ := h
  exact ⟨c, k, i, f, a, cell, h1, h2, h3, h4, h5, h6, h7, h8, h9, fun z => h10 (hAB _ z)⟩
theorem vx_L.word {C n d : String} {A : Nat → Prop} {s : State} {args : Array Value} (h : vx_L C n d A s s.heap) : (Cond.laysStatic C n d).before args s = true := by
  obtain ⟨c, k, i, f, a, cell, h1, h2, h3, h4, h5, h6, h7, h8, h9, -⟩ := h
  show (Cond.laysStatic C n d).holds args s none s [] = true
  exact Cond.laysStatic_of h1 h2 h3 h4 h5 h6 h7 h8 h9
/-- .. and what it holds: null or some reference -/
def vx_Zq (C n d : String) (A : Nat → Prop) (U : State) (H : Heap) : Prop := va_Zq C n d A U H ∧ vx_L C n d A U H
theorem vx_Zq.moved {C n d : String} {A : Nat → Prop} {u U : State} {H : Heap} (hvm : u.vm.Alike U.vm) (h : vx_Zq C n d A u H) : vx_Zq C n d A U H := ⟨va_Zq.moved hvm h.1, vx_L.moved hvm h.2⟩
theorem vx_Zq.kept {C n d : String} {A : Nat → Prop} {U : State} {H H1 : Heap} (h : vx_Zq C n d A U H) (hq : ∀ a : Nat, a < H.size → ¬ A a → H1[a]? = H[a]?) : vx_Zq C n d A U H1 := ⟨va_Zq.kept h.1 hq, vx_L.kept h.2 hq⟩
theorem vx_Zq.narrow {C n d : String} {A B : Nat → Prop} {U : State} {H : Heap} (h : vx_Zq C n d A U H) (hAB : ∀ q, B q → A q) : vx_Zq C n d B U H := ⟨va_Zq.narrow h.1 hAB, vx_L.narrow h.2 hAB⟩
theorem vx_Zqof {args : Array Value} {s : State} {C n d : String} {A : Nat → Prop} (hl : (Cond.laysStatic C n d).before args s = true) (hini : (Cond.initialized C).before args s = true) (h : (Cond.isRef (.static C n d)).before args s = true) (hA : ∀ a : Nat, a < s.heap.size → ¬ A a) : vx_Zq C n d A s s.heap := by
  refine ⟨va_Zqof hl hini h hA, ?_⟩
  obtain ⟨c, k, i, f, a, cell, h1, h2, h3, h4, h5, h6, h7, h8, h9⟩ := Cond.laysStatic_spec hl
  exact ⟨c, k, i, f, a, cell, h1, h2, h3, h4, h5, h6, h7, h8, h9, hA a (Array.getElem?_eq_some_iff.mp h5).1⟩
theorem vx_isRef {C n d : String} {v : Value} {A : Nat → Prop} {s : State} {args : Array Value} (h : va_Z C n d v A s s.heap) (hv : v.isRef = true) : (Cond.isRef (.static C n d)).before args s = true := by
  obtain ⟨cf, kf, fi, f, a, cell, h1, h2, h3, h4, h5, h6, h7, -⟩ := h
  have he : (Term.static C n d).eval args s none [] s = some v := by
    simp [Term.eval, State.fieldNamed?, h1, h2, h4, h5, h6, h7]
  simp only [Cond.before, Cond.holds, Cond.value, he]
  cases v <;> simp_all [Value.isRef]
theorem vx_isRefq {C n d : String} {A : Nat → Prop} {s : State} {args : Array Value} (h : va_Zq C n d A s s.heap) : (Cond.isRef (.static C n d)).before args s = true := by
  rcases h with h | ⟨t, h⟩
  · exact vx_isRef h rfl
  · exact vx_isRef h rfl
/-- the same frame, seen from here: as if the method were called anew in this heap -/
theorem vx_rebase {T : State} (X : Stand p l e R s m args below meth c T locs cells slots) {R' : Room} (hf : R'.frames ≤ R.frames) (hl : R'.locals ≤ R.locals) (hc : cells + R'.cells ≤ R.cells) (hs : slots + R'.slots ≤ R.slots) :
    Stand p l e R' ((T.setVm s.vm).setFrames (.invoking m args :: below)) m args below meth c T [] 0 0 := by
  have htop : (T.setVm s.vm).topJava?.isSome := X.here.top
  have hF : ((T.setVm s.vm).setFrames (.invoking m args :: below)).frames = .invoking m args :: below := State.frames_setFrames _ (State.cur_lt_of_top htop)
  obtain ⟨g₀, hg0⟩ := Option.isSome_iff_exists.mp htop
  obtain ⟨r, hr⟩ := State.topJava?_eq_some.mp hg0
  have hl9 : e.platform.stackLimits (T.setVm s.vm).me = e.platform.stackLimits s.me := X.limits
  have hb9 : (T.setVm s.vm).me.stackBytes = s.me.stackBytes := X.bytes
  refine ⟨X.admits, X.cas, X.clock, hF, ?_, X.hears, X.method, X.code, X.here, X.tail, X.warmed, ?_, ?_, ?_⟩
  · have h := X.room
    have hU : ((T.setVm s.vm).setFrames (.invoking m args :: below)).localsInUse = s.localsInUse := by
      rw [State.localsInUse_invoking hF (meth := meth) (c := c) X.method X.code, State.localsInUse_invoking X.frames X.method X.code]
    simp only [State.hasRoom, Bool.and_eq_true, decide_eq_true_eq] at h ⊢
    obtain ⟨⟨⟨⟨h1, h2, h3, h4, h5, h6⟩, h7⟩, h8⟩, h9⟩ := h
    rw [X.frames, List.length_cons] at h2 h3
    have q1 := X.heapSize
    have q2 := X.used
    simp only [hF, hU, List.length_cons, State.stackLimits_setFrames, State.stackBytes_setFrames, hl9, hb9]
    refine ⟨⟨⟨⟨by omega, by omega, by omega, by omega, by omega, h6⟩, ?_⟩, ?_⟩, X.book⟩
    · show T.heap.size + R'.cells ≤ e.platform.maxCells
      omega
    · show T.slotsUsed + R'.slots ≤ e.platform.maxSlots
      omega
  · rw [State.stackLimits_setFrames]; rfl
  · rw [State.stackBytes_setFrames]; rfl
  · refine ⟨?_, Nat.le_refl _, Nat.le_refl _, ?_, ?_, fun a c9 h9 => ⟨c9, h9, rfl, rfl, fun _ _ => rfl⟩⟩
    · obtain ⟨t, ht, -⟩ := State.frames_cons hr
      show T.setVm s.vm = { ((T.setVm s.vm).setFrames (.invoking m args :: below)).setFrames (T.setVm s.vm).frames with heap := T.heap, slotsUsed := T.slotsUsed }
      rw [State.setFrames_setFrames, State.setFrames_self ht]
      rfl
    · show T.slotsUsed = T.slotsUsed + ((T.heap.toList.drop T.heap.size).map (·.slots.size)).sum
      rw [List.drop_eq_nil_of_le (Nat.le_of_eq Array.length_toList)]
      rfl
    · show ((T.heap.toList.drop T.heap.size).map (·.slots.size)).sum ≤ 0
      rw [List.drop_eq_nil_of_le (Nat.le_of_eq Array.length_toList)]
      exact Nat.le_refl _
/-- 'throw new E()': new; dup; invokespecial; athrow -/
theorem vx_throw0 {cc : ByteArray} {pc : Nat} (hexec : p.tables.exec = Jvm.exec) (hb : c.code = cc) (hl : l.stackTraces = false) {own cls : String} {names : List String} {ik ic mc ms : Nat} {A : Nat → Prop}
    (hown : s.vm.findClass own = some m.cls) (hcls : Bundle.fit cls = true) (hnames : ∀ n ∈ names, Bundle.fit n = true)
    (hk : (Cond.classLink own ik cls).before args s = true) (hini : (Cond.initialized cls).before args s = true) (hat : ∀ w ∈ vx_at0 own ic cls names, w.before args s = true)
    (hgood : ∀ w ∈ Cond.classLink own ik cls :: Cond.initialized cls :: vx_at0 own ic cls names, vx_ot w = true)
    (hU : vx_Zq Bundle.tN "UNASSIGNED_STACK" Bundle.steD A s s.heap) (hN : vx_Zq Bundle.tN "SUPPRESSED_SENTINEL" Bundle.listD A s s.heap) (hS : va_S A s.heap H locs) (hsize : ls.size = c.maxLocals)
    (d0 : decode cc pc = .ok (.new ik, 3)) (d3 : decode cc (pc + 3) = .ok (.dup, 1)) (d4 : decode cc (pc + 4) = .ok (.invokespecial ic, 3)) (d7 : decode cc (pc + 7) = .ok (.athrow, 1))
    (hout : ∀ x ∈ c.exceptionTable.toList, covers x (pc + 7) = false)
    (hRframes : names.length + 3 < R.frames) (hRlocals : (rest.map fun v => v.category).sum + (13 * (names.length + 1) + 42) ≤ R.locals) (hRcells : cells + 1 ≤ R.cells) (hRslots : slots + 6 ≤ R.slots) (hlocks : meth.locks = false)
    (hx : ∀ t : State, s.vm.Alike t.vm → H.size ≤ t.heap.size → (∀ q : Nat, q < H.size → t.heap[q]? = H[q]?) → XC cls s t)
    (hf : ∀ z ∈ locs, free z.base) (hc : cells + 1 ≤ mc) (hs : slots + 6 ≤ ms) :
    W p l e R s m args below meth c H locs cells slots (vx_MQ below Qc XC args s mc ms free) (F0 m pc ls rest) := by
  intro T hT X
  have htr : e.platform.stackTraces = false := (show e.platform.stackTraces = l.stackTraces by rw [X.admits.platform]).trans hl
  have Y := vx_rebase X (R' := { frames := R.frames, locals := R.locals, cells := 1, slots := 6 }) (Nat.le_refl _) (Nat.le_refl _) hRcells hRslots
  obtain ⟨s', hA⟩ : ∃ z, z = (T.setVm s.vm).setFrames (.invoking m args :: below) := ⟨_, rfl⟩
  rw [← hA] at Y
  have hvm : s'.vm = s.vm := by rw [hA]; rfl
  have hhp : s'.heap = H := by rw [hA]; exact hT
  have hW0 : s.WarmedH s'.vm := by rw [hvm]; exact State.WarmedH.refl s
  have hat' : ∀ w ∈ vx_at0 own ic cls names, w.before args s' = true := fun w hw => vx_ot_at hW0 hvm.symm (hgood w (List.mem_cons_of_mem _ (List.mem_cons_of_mem _ hw))) (hat w hw)
  have hk' : (Cond.classLink own ik cls).before args s' = true := vx_ot_at hW0 hvm.symm (hgood _ List.mem_cons_self) hk
  have hini' : (Cond.initialized cls).before args s' = true := vx_ot_at hW0 hvm.symm (hgood _ (List.mem_cons_of_mem _ List.mem_cons_self)) hini
  have hU' : vx_Zq Bundle.tN "UNASSIGNED_STACK" Bundle.steD A s' s'.heap := by rw [hhp]; exact vx_Zq.moved hW0.alike (hU.kept hS.2.1)
  have hN' : vx_Zq Bundle.tN "SUPPRESSED_SENTINEL" Bundle.listD A s' s'.heap := by rw [hhp]; exact vx_Zq.moved hW0.alike (hN.kept hS.2.1)
  have h : ∀ w ∈ Bundle.ownAtoms0 own ic cls names, w.before args s' = true := vx_own hat' (vx_isRefq hU'.1) (vx_isRefq hN'.1) hU'.2.word hN'.2.word
  have hown' : s'.vm.findClass own = some m.cls := by rw [hvm]; exact hown
  have hins : (Cond.instantiable cls 6).before args s' = true := h _ (by simp [Bundle.ownAtoms0])
  obtain ⟨vm₁, cX, kX, hfX, hkX, -, -, X₁, st1⟩ := Y.newCold hexec (own := own) (C := cls) (index := ik) (n := 6) hown' hk' hins hini'
    (g := F0 m pc ls rest) rfl (by rw [hb]; exact d0) (Nat.le_refl _) (Nat.le_refl _)
  generalize hT1 : (T.setVm vm₁).pushCell { cls := cX, slots := kX.instanceTypes.map defaultValue, vm := .none } = T1 at X₁ st1
  have hcat : (Value.ref T.heap.size).category = 1 := rfl
  have hcellA : T1.heap[T.heap.size]? = some (freshCell cX kX) := by rw [← hT1]; exact State.heap_pushCell_size _ _
  have d3' : decode c.code (pc + 3) = .ok (.dup, 1) := by rw [hb]; exact d3
  obtain ⟨U, hsteps, hrun, hend, hW, hsame, ce, hce, hO⟩ := X₁.ctorThrow0 hexec htr (own := own) (cls := cls) (names := names) (ic := ic) hown' hcls hnames h (fun x hx => nomatch hx) hfX hkX hcellA (by rw [hhp, hT]; exact Nat.le_refl _)
    (g := { method := m, pc := pc + 4, locals := ls, stack := .ref T.heap.size :: .ref T.heap.size :: rest, locked := none }) rfl hsize rfl rfl (rest := rest) rfl
    (by rw [hb]; exact d4) (by rw [hb]; exact d7) hout hRframes (by simp only [List.map_cons, List.sum_cons, hcat]; omega) hlocks
  obtain ⟨f1, f2⟩ := vx_frame hsame
  rw [hhp] at f1 f2
  have hWs : s.WarmedH U.vm := State.WarmedH.trans hW0 hW
  have hcl : s.vm.findClass cls = some ce.cls := by
    have h9 := hO.cls
    rw [hvm] at h9
    exact h9
  have hall : s.sameButNew ({ U with vm := s.vm } : State) locs mc ms := by
    subst hA
    obtain ⟨e1, e2⟩ := hsame
    rw [State.setFrames_setFrames] at e1
    have h2 : (T.setVm s.vm).sameButNew ({ U with vm := s.vm } : State) [] (0 + 1) (0 + 6) := ⟨e1, e2⟩
    have h3 := X.same.trans h2
    rw [List.append_nil] at h3
    exact h3.mono hc hs
  refine ⟨U, ?_, .threw T.heap.size, hrun, hend, Or.inr ⟨T.heap.size, rfl, cls, ce, locs, hx U hWs.alike f1 (fun q hq => f2 q hq (fun z hz => nomatch hz)), hce, hO.vm, hcl, hWs, hall, hf⟩⟩
  refine st1 _ ?_
  show Steps p.tables e below (T1.setTop { method := m, pc := pc + 3, locals := ls, stack := .ref T.heap.size :: rest, locked := none }) _
  jvm_step X₁.here [X₁.here.top, hexec, d3', Value.category]
  exact hsteps
/-- 'throw new E("text")': new; dup; ldc; invokespecial; athrow -/
theorem vx_throwS {cc : ByteArray} {pc : Nat} (hexec : p.tables.exec = Jvm.exec) (hb : c.code = cc) (hl : l.stackTraces = false) {own cls text : String} {names : List String} {ik is ic mc ms sa : Nat} {A : Nat → Prop}
    (hown : s.vm.findClass own = some m.cls) (hcls : Bundle.fit cls = true) (hnames : ∀ n ∈ names, Bundle.fit n = true)
    (hk : (Cond.classLink own ik cls).before args s = true) (hini : (Cond.initialized cls).before args s = true) (hstr : vk_R own is text sa s) (hat : ∀ w ∈ vx_atS own ic cls names, w.before args s = true)
    (hgood : ∀ w ∈ Cond.classLink own ik cls :: Cond.initialized cls :: vx_atS own ic cls names, vx_ot w = true)
    (hU : vx_Zq Bundle.tN "UNASSIGNED_STACK" Bundle.steD A s s.heap) (hN : vx_Zq Bundle.tN "SUPPRESSED_SENTINEL" Bundle.listD A s s.heap) (hS : va_S A s.heap H locs) (hsize : ls.size = c.maxLocals)
    (d0 : decode cc pc = .ok (.new ik, 3)) (d3 : decode cc (pc + 3) = .ok (.dup, 1)) (d4 : decode cc (pc + 4) = .ok (.ldc is, 2)) (d6 : decode cc (pc + 6) = .ok (.invokespecial ic, 3)) (d9 : decode cc (pc + 9) = .ok (.athrow, 1))
    (hout : ∀ x ∈ c.exceptionTable.toList, covers x (pc + 9) = false)
    (hRframes : names.length + 3 < R.frames) (hRlocals : (rest.map fun v => v.category).sum + (13 * (names.length + 1) + 43) ≤ R.locals) (hRcells : cells + 1 ≤ R.cells) (hRslots : slots + 6 ≤ R.slots) (hlocks : meth.locks = false)
    (hx : ∀ t : State, s.vm.Alike t.vm → H.size ≤ t.heap.size → (∀ q : Nat, q < H.size → t.heap[q]? = H[q]?) → XC cls s t)
    (hf : ∀ z ∈ locs, free z.base) (hc : cells + 1 ≤ mc) (hs : slots + 6 ≤ ms) :
    W p l e R s m args below meth c H locs cells slots (vx_MQ below Qc XC args s mc ms free) (F0 m pc ls rest) := by
  intro T hT X
  have htr : e.platform.stackTraces = false := (show e.platform.stackTraces = l.stackTraces by rw [X.admits.platform]).trans hl
  have Y := vx_rebase X (R' := { frames := R.frames, locals := R.locals, cells := 1, slots := 6 }) (Nat.le_refl _) (Nat.le_refl _) hRcells hRslots
  obtain ⟨s', hA⟩ : ∃ z, z = (T.setVm s.vm).setFrames (.invoking m args :: below) := ⟨_, rfl⟩
  rw [← hA] at Y
  have hvm : s'.vm = s.vm := by rw [hA]; rfl
  have hhp : s'.heap = H := by rw [hA]; exact hT
  have hW0 : s.WarmedH s'.vm := by rw [hvm]; exact State.WarmedH.refl s
  have hat' : ∀ w ∈ vx_atS own ic cls names, w.before args s' = true := fun w hw => vx_ot_at hW0 hvm.symm (hgood w (List.mem_cons_of_mem _ (List.mem_cons_of_mem _ hw))) (hat w hw)
  have hk' : (Cond.classLink own ik cls).before args s' = true := vx_ot_at hW0 hvm.symm (hgood _ List.mem_cons_self) hk
  have hini' : (Cond.initialized cls).before args s' = true := vx_ot_at hW0 hvm.symm (hgood _ (List.mem_cons_of_mem _ List.mem_cons_self)) hini
  have hU' : vx_Zq Bundle.tN "UNASSIGNED_STACK" Bundle.steD A s' s'.heap := by rw [hhp]; exact vx_Zq.moved hW0.alike (hU.kept hS.2.1)
  have hN' : vx_Zq Bundle.tN "SUPPRESSED_SENTINEL" Bundle.listD A s' s'.heap := by rw [hhp]; exact vx_Zq.moved hW0.alike (hN.kept hS.2.1)
  have h : ∀ w ∈ Bundle.ownAtoms own ic cls names, w.before args s' = true := vx_own hat' (vx_isRefq hU'.1) (vx_isRefq hN'.1) hU'.2.word hN'.2.word
  have hown' : s'.vm.findClass own = some m.cls := by rw [hvm]; exact hown
  have hins : (Cond.instantiable cls 6).before args s' = true := h _ (by simp [Bundle.ownAtoms])
  obtain ⟨vm₁, cX, kX, hfX, hkX, -, -, X₁, st1⟩ := Y.newCold hexec (own := own) (C := cls) (index := ik) (n := 6) hown' hk' hins hini'
    (g := F0 m pc ls rest) rfl (by rw [hb]; exact d0) (Nat.le_refl _) (Nat.le_refl _)
  generalize hT1 : (T.setVm vm₁).pushCell { cls := cX, slots := kX.instanceTypes.map defaultValue, vm := .none } = T1 at X₁ st1
  have hcat : (Value.ref T.heap.size).category = 1 := rfl
  have hcellA : T1.heap[T.heap.size]? = some (freshCell cX kX) := by rw [← hT1]; exact State.heap_pushCell_size _ _
  have d3' : decode c.code (pc + 3) = .ok (.dup, 1) := by rw [hb]; exact d3
  have d4' : decode c.code (pc + 4) = .ok (.ldc is, 2) := by rw [hb]; exact d4
  have hstr' : vk_R own is text sa s' := vk_R.warm hW0 hstr
  obtain ⟨U, hsteps, hrun, hend, hW, hsame, ce, hce, hO⟩ := X₁.ctorThrowS hexec htr (own := own) (cls := cls) (names := names) (ic := ic) hown' hcls hnames h (fun x hx => nomatch hx) hfX hkX hcellA (by rw [hhp, hT]; exact Nat.le_refl _) (msg := .ref sa) rfl
    (g := { method := m, pc := pc + 6, locals := ls, stack := .ref sa :: .ref T.heap.size :: .ref T.heap.size :: rest, locked := none }) rfl hsize rfl rfl (rest := rest) rfl
    (by rw [hb]; exact d6) (by rw [hb]; exact d9) hout hRframes (by simp only [List.map_cons, List.sum_cons, hcat]; omega) hlocks
  obtain ⟨f1, f2⟩ := vx_frame hsame
  rw [hhp] at f1 f2
  have hWs : s.WarmedH U.vm := State.WarmedH.trans hW0 hW
  have hcl : s.vm.findClass cls = some ce.cls := by
    have h9 := hO.cls
    rw [hvm] at h9
    exact h9
  have hall : s.sameButNew ({ U with vm := s.vm } : State) locs mc ms := by
    subst hA
    obtain ⟨e1, e2⟩ := hsame
    rw [State.setFrames_setFrames] at e1
    have h2 : (T.setVm s.vm).sameButNew ({ U with vm := s.vm } : State) [] (0 + 1) (0 + 6) := ⟨e1, e2⟩
    have h3 := X.same.trans h2
    rw [List.append_nil] at h3
    exact h3.mono hc hs
  refine ⟨U, ?_, .threw T.heap.size, hrun, hend, Or.inr ⟨T.heap.size, rfl, cls, ce, locs, hx U hWs.alike f1 (fun q hq => f2 q hq (fun z hz => nomatch hz)), hce, hO.vm, hcl, hWs, hall, hf⟩⟩
  refine st1 _ ?_
  show Steps p.tables e below (T1.setTop { method := m, pc := pc + 3, locals := ls, stack := .ref T.heap.size :: rest, locked := none }) _
  jvm_step X₁.here [X₁.here.top, hexec, d3', Value.category]
  exact X₁.ldcString hexec (own := own) (text := text) (index := is) (a := sa) hown' hstr'.1 hstr'.2
    (g := { method := m, pc := pc + 4, locals := ls, stack := .ref T.heap.size :: .ref T.heap.size :: rest, locked := none }) rfl d4' _ hsteps
/-- 'throw new E("text")', the text by a wide index -/
theorem vx_throwSW {cc : ByteArray} {pc : Nat} (hexec : p.tables.exec = Jvm.exec) (hb : c.code = cc) (hl : l.stackTraces = false) {own cls text : String} {names : List String} {ik is ic mc ms sa : Nat} {A : Nat → Prop}
    (hown : s.vm.findClass own = some m.cls) (hcls : Bundle.fit cls = true) (hnames : ∀ n ∈ names, Bundle.fit n = true)
    (hk : (Cond.classLink own ik cls).before args s = true) (hini : (Cond.initialized cls).before args s = true) (hstr : vk_R own is text sa s) (hat : ∀ w ∈ vx_atS own ic cls names, w.before args s = true)
    (hgood : ∀ w ∈ Cond.classLink own ik cls :: Cond.initialized cls :: vx_atS own ic cls names, vx_ot w = true)
    (hU : vx_Zq Bundle.tN "UNASSIGNED_STACK" Bundle.steD A s s.heap) (hN : vx_Zq Bundle.tN "SUPPRESSED_SENTINEL" Bundle.listD A s s.heap) (hS : va_S A s.heap H locs) (hsize : ls.size = c.maxLocals)
    (d0 : decode cc pc = .ok (.new ik, 3)) (d3 : decode cc (pc + 3) = .ok (.dup, 1)) (d4 : decode cc (pc + 4) = .ok (.ldc_w is, 3)) (d7 : decode cc (pc + 7) = .ok (.invokespecial ic, 3)) (d10 : decode cc (pc + 10) = .ok (.athrow, 1))
    (hout : ∀ x ∈ c.exceptionTable.toList, covers x (pc + 10) = false)
    (hRframes : names.length + 3 < R.frames) (hRlocals : (rest.map fun v => v.category).sum + (13 * (names.length + 1) + 43) ≤ R.locals) (hRcells : cells + 1 ≤ R.cells) (hRslots : slots + 6 ≤ R.slots) (hlocks : meth.locks = false)
    (hx : ∀ t : State, s.vm.Alike t.vm → H.size ≤ t.heap.size → (∀ q : Nat, q < H.size → t.heap[q]? = H[q]?) → XC cls s t)
    (hf : ∀ z ∈ locs, free z.base) (hc : cells + 1 ≤ mc) (hs : slots + 6 ≤ ms) :
    W p l e R s m args below meth c H locs cells slots (vx_MQ below Qc XC args s mc ms free) (F0 m pc ls rest) := by
  intro T hT X
  have htr : e.platform.stackTraces = false := (show e.platform.stackTraces = l.stackTraces by rw [X.admits.platform]).trans hl
  have Y := vx_rebase X (R' := { frames := R.frames, locals := R.locals, cells := 1, slots := 6 }) (Nat.le_refl _) (Nat.le_refl _) hRcells hRslots
  obtain ⟨s', hA⟩ : ∃ z, z = (T.setVm s.vm).setFrames (.invoking m args :: below) := ⟨_, rfl⟩
  rw [← hA] at Y
  have hvm : s'.vm = s.vm := by rw [hA]; rfl
  have hhp : s'.heap = H := by rw [hA]; exact hT
  have hW0 : s.WarmedH s'.vm := by rw [hvm]; exact State.WarmedH.refl s
  have hat' : ∀ w ∈ vx_atS own ic cls names, w.before args s' = true := fun w hw => vx_ot_at hW0 hvm.symm (hgood w (List.mem_cons_of_mem _ (List.mem_cons_of_mem _ hw))) (hat w hw)
  have hk' : (Cond.classLink own ik cls).before args s' = true := vx_ot_at hW0 hvm.symm (hgood _ List.mem_cons_self) hk
  have hini' : (Cond.initialized cls).before args s' = true := vx_ot_at hW0 hvm.symm (hgood _ (List.mem_cons_of_mem _ List.mem_cons_self)) hini
  have hU' : vx_Zq Bundle.tN "UNASSIGNED_STACK" Bundle.steD A s' s'.heap := by rw [hhp]; exact vx_Zq.moved hW0.alike (hU.kept hS.2.1)
  have hN' : vx_Zq Bundle.tN "SUPPRESSED_SENTINEL" Bundle.listD A s' s'.heap := by rw [hhp]; exact vx_Zq.moved hW0.alike (hN.kept hS.2.1)
  have h : ∀ w ∈ Bundle.ownAtoms own ic cls names, w.before args s' = true := vx_own hat' (vx_isRefq hU'.1) (vx_isRefq hN'.1) hU'.2.word hN'.2.word
  have hown' : s'.vm.findClass own = some m.cls := by rw [hvm]; exact hown
  have hins : (Cond.instantiable cls 6).before args s' = true := h _ (by simp [Bundle.ownAtoms])
  obtain ⟨vm₁, cX, kX, hfX, hkX, -, -, X₁, st1⟩ := Y.newCold hexec (own := own) (C := cls) (index := ik) (n := 6) hown' hk' hins hini'
    (g := F0 m pc ls rest) rfl (by rw [hb]; exact d0) (Nat.le_refl _) (Nat.le_refl _)
  generalize hT1 : (T.setVm vm₁).pushCell { cls := cX, slots := kX.instanceTypes.map defaultValue, vm := .none } = T1 at X₁ st1
  have hcat : (Value.ref T.heap.size).category = 1 := rfl
  have hcellA : T1.heap[T.heap.size]? = some (freshCell cX kX) := by rw [← hT1]; exact State.heap_pushCell_size _ _
  have d3' : decode c.code (pc + 3) = .ok (.dup, 1) := by rw [hb]; exact d3
  have d4' : decode c.code (pc + 4) = .ok (.ldc_w is, 3) := by rw [hb]; exact d4
  have hstr' : vk_R own is text sa s' := vk_R.warm hW0 hstr
  obtain ⟨U, hsteps, hrun, hend, hW, hsame, ce, hce, hO⟩ := X₁.ctorThrowS hexec htr (own := own) (cls := cls) (names := names) (ic := ic) hown' hcls hnames h (fun x hx => nomatch hx) hfX hkX hcellA (by rw [hhp, hT]; exact Nat.le_refl _) (msg := .ref sa) rfl
    (g := { method := m, pc := pc + 7, locals := ls, stack := .ref sa :: .ref T.heap.size :: .ref T.heap.size :: rest, locked := none }) rfl hsize rfl rfl (rest := rest) rfl
    (by rw [hb]; exact d7) (by rw [hb]; exact d10) hout hRframes (by simp only [List.map_cons, List.sum_cons, hcat]; omega) hlocks
  obtain ⟨f1, f2⟩ := vx_frame hsame
  rw [hhp] at f1 f2
  have hWs : s.WarmedH U.vm := State.WarmedH.trans hW0 hW
  have hcl : s.vm.findClass cls = some ce.cls := by
    have h9 := hO.cls
    rw [hvm] at h9
    exact h9
  have hall : s.sameButNew ({ U with vm := s.vm } : State) locs mc ms := by
    subst hA
    obtain ⟨e1, e2⟩ := hsame
    rw [State.setFrames_setFrames] at e1
    have h2 : (T.setVm s.vm).sameButNew ({ U with vm := s.vm } : State) [] (0 + 1) (0 + 6) := ⟨e1, e2⟩
    have h3 := X.same.trans h2
    rw [List.append_nil] at h3
    exact h3.mono hc hs
  refine ⟨U, ?_, .threw T.heap.size, hrun, hend, Or.inr ⟨T.heap.size, rfl, cls, ce, locs, hx U hWs.alike f1 (fun q hq => f2 q hq (fun z hz => nomatch hz)), hce, hO.vm, hcl, hWs, hall, hf⟩⟩
  refine st1 _ ?_
  show Steps p.tables e below (T1.setTop { method := m, pc := pc + 3, locals := ls, stack := .ref T.heap.size :: rest, locked := none }) _
  jvm_step X₁.here [X₁.here.top, hexec, d3', Value.category]
  exact X₁.ldcStringW hexec (own := own) (text := text) (index := is) (a := sa) hown' hstr'.1 hstr'.2
    (g := { method := m, pc := pc + 4, locals := ls, stack := .ref T.heap.size :: .ref T.heap.size :: rest, locked := none }) rfl d4' _ hsteps
end Ends
section Bodies
variable {l : Launch}
theorem vx_ofW {y : MethodName} {ws ws' : List Cond} {rm : Room} {Pc : Array Value → State → Prop} {Qc : Array Value → State → Outcome → State → Prop} {XC : String → State → State → Prop} {mc ms : Nat} {free : Addr → Prop} {cc : ByteArray} {maxL : Nat} {ret : Option FieldType}
    (hy : plainName y.cls = true) (hw : ws = Cond.code y cc maxL ret :: ws')
    (body : ∀ p e s m args below meth c s₁, BodyLoose p l y (headSpec ws rm) cc maxL ret e s m args below meth c s₁ → c.maxLocals = maxL → (∀ x ∈ c.exceptionTable.toList, False) → Pc args s →
      W p l e (headSpec ws rm).room s m args below meth c s.heap [] 0 0 (vx_MQ below Qc XC args s mc ms free) (entryFrame m args maxL)) : vx_Met l y ws rm Pc Qc XC mc ms free := by
  refine MetFree.of_bodyS (code := cc) (maxLocals := maxL) (ret := ret) hy ?_ ?_
  · intro args s m h hn
    obtain ⟨meth, c, h1, h2, h3, h4, h5, h6, -, -⟩ := Cond.code_spec hn (atoms_spec (ws := ws) h _ (by rw [hw]; exact List.mem_cons_self))
    exact ⟨meth, c, h1, h2, h3, h4, h5, h6⟩
  · intro p e s m args below meth c s₁ B hml hP _
    have hh0 : s₁.heap = s.heap := by rw [B.state]; rfl
    have ht : ∀ x ∈ c.exceptionTable.toList, False := by
      obtain ⟨meth9, c9, h1, h2, -, -, -, -, h7, -⟩ := Cond.code_spec B.named (atoms_spec (ws := ws) B.pre _ (by rw [hw]; exact List.mem_cons_self))
      cases Option.some.inj (h1.symm.trans B.method)
      cases Option.some.inj (h2.symm.trans (Stand.of_body B).code)
      intro x hx
      rw [Array.isEmpty_iff.mp h7] at hx
      cases hx
    obtain ⟨t, a1, o, b1, b2, b3⟩ := body p e s m args below meth c s₁ B hml ht hP s₁ hh0 (Stand.of_body B)
    exact ⟨t, o, a1, b1, b2, b3⟩
/-- the table of a body with handlers -/
theorem vx_table {p : Program} {x y : MethodName} {S : Spec} {cc bytes : ByteArray} {maxL maxL' : Nat} {ret ret' : Option FieldType} {e : Env} {s s₁ : State} {m : MethodId} {args : Array Value} {below : List Frame} {meth : Method} {c : Code} {hh : List (Nat × Nat × Nat × Nat)}
    (B : BodyLoose p l y S cc maxL ret e s m args below meth c s₁) (h : (Cond.codeWith y bytes maxL' ret' hh).before args s = true) : c.exceptionTable.toList = tableOf hh := by
  obtain ⟨m9, meth9, c9, hn9, h1, h2, -, -, h6, -⟩ := Cond.codeWith_spec h
  cases Option.some.inj (hn9.symm.trans B.named)
  cases Option.some.inj (h1.symm.trans B.method)
  cases Option.some.inj (h2.symm.trans (Stand.of_body B).code)
  rw [← h6, table_eq]
end Bodies
end VXA
/-! ===== END ===== -/
/-! ===== BEGIN a static call of a method with an exception table ===== -/
section VXS
variable {p : Program} {l : Launch} {e : Env} {R : Room} {s : State} {m : MethodId} {args : Array Value} {below : List Frame} {meth : Method} {c : Code} {T : State} {H : Heap} {locs : List Loc} {cells slots : Nat}
abbrev vx_CSW (R : Room) (s : State) (args : Array Value) (own : String) (index : Nat) (y : MethodName) (bytes : ByteArray) (maxL : Nat) (ret : Option FieldType) (hh : List (Nat × Nat × Nat × Nat)) (ws : List Cond) (rm : Room) (mc ms n : Nat) : Prop :=
  (rm.cells = mc ∧ rm.slots = ms ∧ rm.frames + 1 ≤ R.frames ∧ 8 + (maxL + 11) + rm.locals ≤ R.locals ∧ (∀ w ∈ ws, ∀ (a' : Array Value) (U : State), s.WarmedH U.vm → w.before a' U = true) ∧ Cond.codeWith y bytes maxL ret hh ∈ ws) ∧
  (Cond.codeWith y bytes maxL ret hh).before args s = true ∧ (Cond.initialized y.cls).before args s = true ∧ (y.cls ≠ "java/lang/invoke/MethodHandle" ∧ y.cls ≠ "java/lang/invoke/VarHandle") ∧
  (∀ sig, parseMethodDescriptor y.desc = some sig → n = sig.parameters.length) ∧ (Cond.methodLink own index y).before args s = true ∧ (Cond.static y).before args s = true
theorem vx_cwSW {own : String} {index maxL mc ms : Nat} {y : MethodName} {bytes : ByteArray} {ret : Option FieldType} {hh : List (Nat × Nat × Nat × Nat)} {Ts ws ws' : List Cond} {rm : Room} (n : Nat) (ht : ∀ w ∈ Ts, w.before args s = true) (hT : GoodIn Ts (va_wsS own index y ws)) (hw : ws = Cond.codeWith y bytes maxL ret hh :: ws') (hrc : rm.cells = mc) (hrs : rm.slots = ms)
    (hd : y.cls ≠ "java/lang/invoke/MethodHandle" ∧ y.cls ≠ "java/lang/invoke/VarHandle" ∧ (parseMethodDescriptor y.desc).map (fun d => d.parameters.length) = some n) (hR : rm.frames + 1 ≤ R.frames ∧ 8 + (maxL + 11) + rm.locals ≤ R.locals) :
    vx_CSW R s args own index y bytes maxL ret hh ws rm mc ms n := by
  have ok : ∀ w ∈ va_wsS own index y ws, w.before args s = true := fun w h => ht w (hT w h).1
  have hG : GoodIn Ts ws := fun w h => hT w (by unfold va_wsS; exact List.mem_append_right _ h)
  have hc : Cond.codeWith y bytes maxL ret hh ∈ ws := by rw [hw]; exact List.mem_cons_self
  refine ⟨⟨hrc, hrs, hR.1, hR.2, pay_in ht hG, hc⟩, ht _ (hG _ hc).1, ok _ (by simp [va_wsS]), ⟨hd.1, hd.2.1⟩, fun sig h => ?_, ok _ (by simp [va_wsS]), ok _ (by simp [va_wsS])⟩
  have h2 := hd.2.2
  rw [h] at h2
  exact (Option.some.inj h2).symm
theorem vx_callSW (X : Stand p l e R s m args below meth c T locs cells slots) (hexec : p.tables.exec = Jvm.exec) {own : String} {index : Nat} {y : MethodName} {bytes : ByteArray} {maxL : Nat} {ret : Option FieldType} {hh : List (Nat × Nat × Nat × Nat)}
    (hown : s.vm.findClass own = some m.cls) (hlink : (Cond.methodLink own index y).before args s = true) (hstat : (Cond.static y).before args s = true) (hinit : (Cond.initialized y.cls).before args s = true)
    (hcode : (Cond.codeWith y bytes maxL ret hh).before args s = true) (hy : y.cls ≠ "java/lang/invoke/MethodHandle" ∧ y.cls ≠ "java/lang/invoke/VarHandle")
    {W9 : Nat} {Pre : Pt → Array Value → Prop} {Post : Pt → Array Value → Option Value → Pt → Prop} (hK : Back l R p e below s args y 3 W9 Pre Post)
    {g : JFrame} (hg : g.method = m) (hsize : g.locals.size = c.maxLocals) {argsL rest : List Value} (hlen : ∀ sig, parseMethodDescriptor y.desc = some sig → argsL.length = sig.parameters.length)
    (hstack : g.stack = argsL.reverse ++ rest) (hW : 2 * g.monitorRoom + (rest.map fun v => v.category).sum ≤ W9) (hdg : decode c.code g.pc = .ok (.invokestatic index, 3))
    (hpre : ∀ vm₁, s.WarmedH vm₁ → Pre ⟨T.setVm vm₁, locs, cells, slots⟩ argsL.toArray) :
    ∃ (v : Option Value) (vm₁ : Vm) (B : Pt), s.WarmedH vm₁ ∧ Stand p l e R s m args below meth c B.U B.locs B.cells B.slots ∧ Post ⟨T.setVm vm₁, locs, cells, slots⟩ argsL.toArray v B ∧
      ∀ target, Steps p.tables e below (B.U.setTop { g with pc := g.pc + 3, stack := v.toList ++ rest }) target → Steps p.tables e below (T.setTop g) target := by
  obtain ⟨mk, methM, cM, hnamed, hmethM, -, -, -, -, -, -, hsigM⟩ := Cond.codeWith_spec hcode
  have hstatic : methM.isStatic = true := Cond.static_spec hnamed hmethM hstat
  obtain ⟨kP, hkP, -⟩ := className_of_methodNamed hnamed
  have hinitP : kP.init = .initialized := Cond.initialized_spec (findClass_of_methodNamed hnamed) hkP hinit
  obtain ⟨vm₁, X₁, hstep₁⟩ := X.invokestatic hexec hown hlink hnamed hmethM hstatic hkP hinitP hy (g := g) hg (argsL := argsL) (rest := rest) (hlen _ hsigM) hstack hdg
  obtain ⟨v, B, X', hpost, hsteps⟩ := hK m meth c ⟨T.setVm vm₁, locs, cells, slots⟩ { g with stack := rest } (.invokestatic index) mk argsL.toArray X₁ hg hsize hdg hW (X₁.named hnamed) (hpre vm₁ X₁.warmed)
  exact ⟨v, vm₁, B, X₁.warmed, X', hpost, fun target h => hstep₁ _ fun acts => by rw [doInvoke_state]; exact hsteps.trans h⟩
theorem vx_runSW {y : MethodName} {bytes cc : ByteArray} {maxL nL mc ms n index : Nat} {ret : Option FieldType} {hh : List (Nat × Nat × Nat × Nat)} {ws : List Cond} {rm : Room} {Pc : Array Value → State → Prop} {Qc : Array Value → State → Outcome → State → Prop} {free : Addr → Prop} {Ts : List Cond} {own : String} {As rest : List Value} {g : JFrame}
    (S : CallFix p m c cc nL s args Ts own) (hM : Met l y ws rm Pc Qc mc ms free) (cw : vx_CSW R s args own index y bytes maxL ret hh ws rm mc ms n) (hp : PreS s H Pc As)
    (hg : g.method = m) (hn : As.length = n) (hsize : g.locals.size = nL) (hstack : g.stack = As.reverse ++ rest) (hW : 2 * g.monitorRoom + (rest.map fun v => v.category).sum ≤ 8) (hdg : decode cc g.pc = .ok (.invokestatic index, 3)) (hf : cells + mc ≤ R.cells ∧ slots + ms ≤ R.slots) :
    va_Run p l e R s m args below meth c H locs cells slots mc ms g rest (Qc As.toArray) (free) := by
  obtain ⟨⟨hrc, hrs, hfr, hlo, hws, hcw⟩, hcode, hini, hy, hlen, hl, hstt⟩ := cw
  have hK : Back l R p e below s args y 3 8 (PreOf R mc ms Pc) (PostOf Qc mc ms free) := va_backW (hh := hh) (bytes := bytes) (maxL := maxL) (ret := ret) hM hp.1 hrc hrs hfr hlo hws hcw (fun a' U hW => word_at hW (Or.inl (by first | rfl | simp [Cond.onTables, Cond.keeps, Cond.steady])) hini)
  obtain ⟨hx, hb, hml, ho, -⟩ := S
  intro T hT X
  obtain ⟨v, vm₁, ⟨U', l2, c2, s2⟩, hW₁, X', ⟨g', mk, t, L, e1, e2, hq, h1, hL, h2, h3⟩, st⟩ := vx_callSW X hx (hh := hh) (bytes := bytes) (maxL := maxL) (ret := ret) ho hl hstt hini hcode hy hK hg (hsize.trans hml.symm) (argsL := As) (rest := rest) (fun sig h => hn.trans (hlen sig h)) hstack hW (by rw [hb]; exact hdg)
    (fun vm₁ hW₁ => ⟨hf.1, hf.2, hp.2 (T.setVm vm₁) hT hW₁⟩)
  dsimp only [Pt.U, Pt.locs, Pt.cells, Pt.slots] at X' e1 e2 h1 h2 h3 st
  subst h1; subst h2; subst h3
  exact ⟨v, (T.setVm vm₁).calling g' mk As.toArray, t, U', L, hT, X', hL, e1, e2, hq, st⟩
/-- not caught here, past rows that name other classes: it goes on to the caller -/
theorem vx_outP {p : Program} {l : Launch} {e : Env} {R : Room} {s : State} {m : MethodId} {args : Array Value} {below : List Frame} {meth : Method} {c : Code} {H : Heap} {locs : List Loc} {cells slots : Nat} {free : Addr → Prop} {ls : Array Slot} {rest : List Value} {Qc : Array Value → State → Outcome → State → Prop} {XC : String → State → State → Prop}
    {pc : Nat} {own E : String} {ce : Cell} {q : Addr} {mc ms : Nat} (hown : s.vm.findClass own = some m.cls) (hlocks : meth.locks = false)
    (hpass : ∀ z ∈ c.exceptionTable.toList, covers z pc = false ∨ (z.catchType ≠ 0 ∧ ∃ nm : String, (Cond.classLink own z.catchType nm).before args s = true ∧ va_Nc E nm s)) (hcell : H[q]? = some ce) (hv : ce.vm = .none) (hcl : s.vm.findClass E = some ce.cls)
    (hx : ∀ t : State, t.heap = H → s.vm.Alike t.vm → XC E s t) (hf : ∀ z ∈ locs, free z.base) (hc : cells ≤ mc) (hs : slots ≤ ms) :
    vx_W p l e R s m args below meth c H locs cells slots (vx_MQ below Qc XC args s mc ms free) (F0 m pc ls rest) q := by
  intro T hT X
  have hpl : e.platform.magicAccessors = ({} : Platform).magicAccessors := by rw [X.admits.platform]
  obtain ⟨vm', hW', X', st⟩ := X.outThrough hlocks q (g := F0 m pc ls rest) rfl rfl rfl (cell := ce) (by rw [hT]; exact hcell) (by rw [hv]; rfl)
    (by obtain ⟨k9, h9, -⟩ := Vm.findClass_spec hcl; exact ⟨k9, h9⟩) (fun z hz => by
      rcases hpass z hz with h | ⟨hz0, nm, hl1, hn1⟩
      · exact Or.inl h
      · obtain ⟨c6, hc6, hcl6⟩ := Cond.classLink_spec hown hl1 e.platform hpl
        obtain ⟨a8, b8, h1, h2, h3⟩ := hn1
        cases Option.some.inj (h1.symm.trans hcl)
        cases Option.some.inj (h2.symm.trans hc6)
        exact Or.inr ⟨hz0, _, hcl6, h3⟩)
  obtain ⟨g₀, hfr⟩ := X'.frames_eq
  have hcell9 : ((T.setVm vm').setFrames (.throwing q :: below)).heap[q]? = some ce := by
    show T.heap[q]? = some ce
    rw [hT]; exact hcell
  have hend : Ended ((T.setVm vm').setFrames (.throwing q :: below)) below (.threw q) := State.frames_setFrames _ (State.cur_lt_of_frames hfr)
  refine ⟨(T.setVm vm').setFrames (.throwing q :: below), ?_, .threw q, X'.here.running, hend, Or.inr ⟨q, rfl, E, ce, locs, hx _ hT (X'.ends _).1.alike, hcell9, hv, hcl, (X'.ends _).1, (X'.ends _).2.mono hc hs, hf⟩⟩
  rw [X.pushThrowing_eq]
  exact st
/-- a thing of a world lies in the heap -/
theorem vx_lt {D : va_G} {cl : List vw_C} {ws : va_W} {H1 : Heap} (h : va_P D cl ws H1) {k : Nat} {q : Nat × va_E} (hk : ws[k]? = some q) : q.1 < H1.size := (h k q hk).lt
end VXS
/-! ===== END ===== -/
/-! ===== BEGIN methods with a table of their own: called by a name, returning or throwing ===== -/
section VXH
/-! vx_backW, vx_callVX, vx_callSX, vx_callVW, vx_runVW, vx_runVX, vx_runSX, vx_ofWH follow the same proofs as their sisters above (Free/Laws.lean, Shelf42/LK1.lean); vx_outP calls Shelf42/NT130.lean (outThrough). -/
section
variable {l : Launch} {R : Room} {p : Program} {e : Env} {below : List Frame} {s : State} {sargs : Array Value} {y : MethodName} {len W9 : Nat}
theorem vx_backW {ws : List Cond} {rm : Room} {Pc : Array Value → State → Prop} {Qc : Array Value → State → Outcome → State → Prop} {XC : String → State → State → Prop} {mc ms : Nat} {free : Addr → Prop} {bytes : ByteArray} {maxL : Nat} {ret : Option FieldType} {hh : List (Nat × Nat × Nat × Nat)}
    (hM : vx_Met l y ws rm Pc Qc XC mc ms free) (hblind : FrameBlind Pc) (hrc : rm.cells = mc) (hrs : rm.slots = ms)
    (hframes : rm.frames + 1 ≤ R.frames) (hlocals : W9 + (maxL + 11) + rm.locals ≤ R.locals)
    (hws : ∀ w ∈ ws, ∀ a' U, s.WarmedH U.vm → w.before a' U = true) (hcode : Cond.codeWith y bytes maxL ret hh ∈ ws) (hinit : ∀ a' U, s.WarmedH U.vm → (Cond.initialized y.cls).before a' U = true) :
    vx_Back l R p e below s sargs y len W9 (PreOf R mc ms Pc) (PostOf Qc mc ms free) (vx_Post XC mc ms free) := by
  intro m meth c A g ig mk a X hg hsize hdg hW hn hp
  have h1 : (headSpec ws rm).pre.before a A.U = true := atoms_intro fun w hw => hws w hw _ _ X.warmed
  have h2 : (Cond.codeWith y bytes maxL ret hh).before a A.U = true := hws _ hcode _ _ X.warmed
  have h3 : (Cond.initialized y.cls).before a A.U = true := hinit _ _ X.warmed
  have h4 : A.cells + (headSpec ws rm).room.cells ≤ R.cells := by rw [show (headSpec ws rm).room.cells = mc from hrc]; exact hp.1
  have h5 : A.slots + (headSpec ws rm).room.slots ≤ R.slots := by rw [show (headSpec ws rm).room.slots = ms from hrs]; exact hp.2.1
  have hPc : Pc a (A.U.calling g mk a) := hblind _ _ _ _ hp.2.2
  obtain ⟨U, Ls, c0, s0⟩ := A
  dsimp only [Pt.U, Pt.locs, Pt.cells, Pt.slots] at h1 h2 h3 h4 h5 X hn hPc ⊢
  obtain ⟨m9, methY, cY, hn9, hmY, hcY, -, hlY, -⟩ := Cond.codeWith_spec h2
  cases Option.some.inj (hn9.symm.trans hn)
  obtain ⟨kY, hkY, -⟩ := className_of_methodNamed hn
  have hinitY : kY.init = .initialized := Cond.initialized_spec (findClass_of_methodNamed hn) hkY h3
  have h : At U g.method c below := by rw [hg]; exact X.here
  have hlocals9 : W9 + (maxL + 11) + (headSpec ws rm).room.locals ≤ R.locals := hlocals
  have happ : (headSpec ws rm).appliesLoose y e.platform (U.calling g mk a) = true :=
    Spec.appliesLoose_calling (g := g) h hdg hn hkY hinitY
      (X.room_calling (g := g) (R' := (headSpec ws rm).room) hsize hmY hcY hframes (by rw [hlY]; omega) h4 h5) h1
  obtain ⟨mid, hmid⟩ := h.above
  have hfr : (U.setTop g).frames = (.java g :: mid) ++ below := by rw [State.frames_setTop' g h.top, hmid]; rfl
  obtain ⟨o, s₂, hsteps, -, hend, hq⟩ := Steps.callFree hM p X.admits X.cas X.clock (acts := []) hfr happ hPc trivial
  have hq' : vx_Q Qc XC mc ms free a (U.calling g mk a) o s₂ := hq
  rw [State.frames_setTop' g h.top] at hend
  obtain ⟨g₀, hg0⟩ := Option.isSome_iff_exists.mp h.top
  obtain ⟨r, hr⟩ := State.topJava?_eq_some.mp hg0
  have hr' : (({ U with heap := s₂.heap, slotsUsed := s₂.slotsUsed } : State).setVm s₂.vm).frames = .java g₀ :: r := hr
  rcases hq' with ⟨hqc, L, hfe, hL⟩ | ⟨q, rfl, E, ce, L, hx, hce, hcv, hcl, hW₂, hsm, hL⟩
  · obtain ⟨⟨v, rfl⟩, hW₂, e2, q2, q3, q4, q5, q6⟩ := id hfe
    have e3 : s₂ = ({ (U.calling g mk a).setFrames s₂.frames with heap := s₂.heap, slotsUsed := s₂.slotsUsed } : State).setVm s₂.vm := by
      have : s₂ = ({ s₂ with vm := (U.calling g mk a).vm } : State).setVm s₂.vm := rfl
      rw [e2] at this
      exact this
    obtain ⟨c₂, i₂, len₂, hc₂, hd₂, hf₂⟩ := hend
    have hW' : U.WarmedH s₂.vm := hW₂
    have hcc : c₂ = c := by
      have h1 : s₂.code? g.method = U.code? g.method := by
        rw [State.code?_eq, State.code?_eq, hW'.alike.method?]
      exact Option.some.inj (hc₂.symm.trans (h1.trans h.code))
    subst hcc
    have hlen : len₂ = len := by rw [hdg] at hd₂; cases hd₂; rfl
    subst hlen
    have hs₂ : s₂ = (({ U with heap := s₂.heap, slotsUsed := s₂.slotsUsed } : State).setVm s₂.vm).setTop { g with pc := g.pc + len₂, stack := v.toList ++ g.stack } := by
      refine e3.trans ?_
      rw [hf₂, State.calling_eq h.top, State.setFrames_setFrames, State.setTop_of_frames _ hr', hr]
      rfl
    have hsame : U.sameButNew ({ U with heap := s₂.heap, slotsUsed := s₂.slotsUsed } : State) L mc ms := by
      refine ⟨?_, q2, q3, q4, q5, q6⟩
      obtain ⟨t, ht, -⟩ := State.frames_cons hr
      show ({ U with heap := s₂.heap, slotsUsed := s₂.slotsUsed } : State) = { U.setFrames U.frames with heap := s₂.heap, slotsUsed := s₂.slotsUsed }
      rw [State.setFrames_self ht]
    subst hg
    refine Or.inl ⟨v, ⟨(({ U with heap := s₂.heap, slotsUsed := s₂.slotsUsed } : State).setVm s₂.vm), Ls ++ L, c0 + mc, s0 + ms⟩,
      ⟨X.admits, X.cas, X.clock, X.frames, X.room, X.hears, X.method, X.code, (X.here.setHeapUsed s₂.heap s₂.slotsUsed).setVm hW'.alike, X.tail, State.WarmedH.trans X.warmed hW', X.limits, X.bytes, X.same.trans (hsame.setVm s.vm)⟩,
      ⟨g, mk, s₂, L, rfl, rfl, hqc, rfl, hL, rfl, rfl⟩, ?_⟩
    show Steps p.tables e below _ ((({ U with heap := s₂.heap, slotsUsed := s₂.slotsUsed } : State).setVm s₂.vm).setTop { g with pc := g.pc + len₂, stack := v.toList ++ g.stack })
    rw [← hs₂]
    exact hsteps
  · obtain ⟨e2, q2, q3, q4, q5, q6⟩ := id hsm
    have e3 : s₂ = ({ (U.calling g mk a).setFrames s₂.frames with heap := s₂.heap, slotsUsed := s₂.slotsUsed } : State).setVm s₂.vm := by
      have : s₂ = ({ s₂ with vm := (U.calling g mk a).vm } : State).setVm s₂.vm := rfl
      rw [e2] at this
      exact this
    have hf₂ : s₂.frames = .throwing q :: .java g :: U.frames.tail := hend
    have hW' : U.WarmedH s₂.vm := hW₂
    have hs₂ : s₂ = ((({ U with heap := s₂.heap, slotsUsed := s₂.slotsUsed } : State).setVm s₂.vm).setTop g).pushFrame (.throwing q) := by
      refine e3.trans ?_
      rw [hf₂, State.calling_eq h.top, State.setFrames_setFrames, State.pushFrame, State.frames_setTop _ hr', State.setTop_of_frames _ hr', State.setFrames_setFrames, hr]
      rfl
    have hsame : U.sameButNew ({ U with heap := s₂.heap, slotsUsed := s₂.slotsUsed } : State) L mc ms := by
      refine ⟨?_, q2, q3, q4, q5, q6⟩
      obtain ⟨t, ht, -⟩ := State.frames_cons hr
      show ({ U with heap := s₂.heap, slotsUsed := s₂.slotsUsed } : State) = { U.setFrames U.frames with heap := s₂.heap, slotsUsed := s₂.slotsUsed }
      rw [State.setFrames_self ht]
    subst hg
    refine Or.inr ⟨q, ⟨(({ U with heap := s₂.heap, slotsUsed := s₂.slotsUsed } : State).setVm s₂.vm), Ls ++ L, c0 + mc, s0 + ms⟩,
      ⟨X.admits, X.cas, X.clock, X.frames, X.room, X.hears, X.method, X.code, (X.here.setHeapUsed s₂.heap s₂.slotsUsed).setVm hW'.alike, X.tail, State.WarmedH.trans X.warmed hW', X.limits, X.bytes, X.same.trans (hsame.setVm s.vm)⟩,
      ⟨g, mk, s₂, L, E, ce, rfl, rfl, hx, hce, hcv, hcl, rfl, hL, rfl, rfl⟩, ?_⟩
    show Steps p.tables e below _ (((({ U with heap := s₂.heap, slotsUsed := s₂.slotsUsed } : State).setVm s₂.vm).setTop g).pushFrame (.throwing q))
    rw [← hs₂]
    exact hsteps
end
variable {p : Program} {l : Launch} {e : Env} {R : Room} {s : State} {m : MethodId} {args : Array Value} {below : List Frame} {meth : Method} {c : Code} {T : State} {H : Heap} {locs : List Loc} {cells slots : Nat}
theorem vx_callVX (X : Stand p l e R s m args below meth c T locs cells slots) (hexec : p.tables.exec = Jvm.exec) {own C : String} {index : Nat} {y : MethodName} {bytes : ByteArray} {maxL : Nat} {ret : Option FieldType} {hh : List (Nat × Nat × Nat × Nat)}
    (hown : s.vm.findClass own = some m.cls) (hlink : (Cond.methodLink own index y).before args s = true) (hinst : (Cond.instanceMethod y).before args s = true) (hsel : (Cond.selects C y y).before args s = true)
    (hcode : (Cond.codeWith y bytes maxL ret hh).before args s = true) (hy : y.cls ≠ "java/lang/invoke/MethodHandle" ∧ y.cls ≠ "java/lang/invoke/VarHandle")
    {W9 : Nat} {Pre : Pt → Array Value → Prop} {Post : Pt → Array Value → Option Value → Pt → Prop} {PostX : Pt → Array Value → Addr → Pt → Prop} (hK : vx_Back l R p e below s args y 3 W9 Pre Post PostX)
    {b : Addr} {cellB : Cell} (hcell : T.heap[b]? = some cellB) (hobj : cellB.vm.isStatics = false) (hcls : s.vm.findClass C = some cellB.cls)
    {g : JFrame} (hg : g.method = m) (hsize : g.locals.size = c.maxLocals) {argsL rest : List Value} (hlen : ∀ sig, parseMethodDescriptor y.desc = some sig → argsL.length = sig.parameters.length)
    (hstack : g.stack = argsL.reverse ++ .ref b :: rest) (hW : 2 * g.monitorRoom + (rest.map fun v => v.category).sum ≤ W9) (hdg : decode c.code g.pc = .ok (.invokevirtual index, 3))
    (hpre : ∀ vm₁, s.WarmedH vm₁ → Pre ⟨T.setVm vm₁, locs, cells, slots⟩ (Value.ref b :: argsL).toArray) :
    (∃ (v : Option Value) (vm₁ : Vm) (B : Pt), s.WarmedH vm₁ ∧ Stand p l e R s m args below meth c B.U B.locs B.cells B.slots ∧ Post ⟨T.setVm vm₁, locs, cells, slots⟩ (Value.ref b :: argsL).toArray v B ∧
      ∀ target, Steps p.tables e below (B.U.setTop { g with pc := g.pc + 3, stack := v.toList ++ rest }) target → Steps p.tables e below (T.setTop g) target) ∨
    (∃ (q : Addr) (vm₁ : Vm) (B : Pt), s.WarmedH vm₁ ∧ Stand p l e R s m args below meth c B.U B.locs B.cells B.slots ∧ PostX ⟨T.setVm vm₁, locs, cells, slots⟩ (Value.ref b :: argsL).toArray q B ∧
      Steps p.tables e below (T.setTop g) ((B.U.setTop { g with stack := rest }).pushFrame (.throwing q))) := by
  obtain ⟨mk, methM, hnamed, hmethM, hstM, habM⟩ := Cond.instanceMethod_spec hinst
  obtain ⟨m8, methM', cM, hn8, hmethM', -, -, -, -, -, -, hsigM⟩ := Cond.codeWith_spec hcode
  cases Option.some.inj (hn8.symm.trans hnamed)
  cases hmethM.symm.trans hmethM'
  obtain ⟨c2, r2, m2, q1, q2, q3, q4, kP, hkP, hkPi⟩ := Cond.selects_spec hsel
  cases hcls.symm.trans q1
  cases (State.methodFound?_of_named hnamed hy).symm.trans q2
  cases hnamed.symm.trans q3
  have hselP : selectMethod e.platform s.vm cellB.cls mk = .method mk := by rw [Launch.admits_selectMethod X.admits]; exact q4
  obtain ⟨vm₁, X₁, hstep₁⟩ := X.invokevirtual hexec hown hlink hnamed hmethM hstM hkP hkPi hy (a := b) (cell := cellB) hcell
    (fun z h => by rw [h] at hobj; cases hobj) hselP hmethM habM hkP hkPi (g := g) hg (argsL := argsL) (rest := rest) (hlen _ hsigM) hstack hdg
  rcases hK m meth c ⟨T.setVm vm₁, locs, cells, slots⟩ { g with stack := rest } (.invokevirtual index) mk (Value.ref b :: argsL).toArray X₁ hg hsize hdg hW (X₁.named hnamed) (hpre vm₁ X₁.warmed) with ⟨v, B, X', hpost, hsteps⟩ | ⟨q, B, X', hpost, hsteps⟩
  · exact Or.inl ⟨v, vm₁, B, X₁.warmed, X', hpost, fun target h => hstep₁ _ fun acts => by rw [doInvoke_state]; exact hsteps.trans h⟩
  · exact Or.inr ⟨q, vm₁, B, X₁.warmed, X', hpost, hstep₁ _ fun acts => by rw [doInvoke_state]; exact hsteps⟩
theorem vx_callSX (X : Stand p l e R s m args below meth c T locs cells slots) (hexec : p.tables.exec = Jvm.exec) {own : String} {index : Nat} {y : MethodName} {bytes : ByteArray} {maxL : Nat} {ret : Option FieldType} {hh : List (Nat × Nat × Nat × Nat)}
    (hown : s.vm.findClass own = some m.cls) (hlink : (Cond.methodLink own index y).before args s = true) (hstat : (Cond.static y).before args s = true) (hinit : (Cond.initialized y.cls).before args s = true)
    (hcode : (Cond.codeWith y bytes maxL ret hh).before args s = true) (hy : y.cls ≠ "java/lang/invoke/MethodHandle" ∧ y.cls ≠ "java/lang/invoke/VarHandle")
    {W9 : Nat} {Pre : Pt → Array Value → Prop} {Post : Pt → Array Value → Option Value → Pt → Prop} {PostX : Pt → Array Value → Addr → Pt → Prop} (hK : vx_Back l R p e below s args y 3 W9 Pre Post PostX)
    {g : JFrame} (hg : g.method = m) (hsize : g.locals.size = c.maxLocals) {argsL rest : List Value} (hlen : ∀ sig, parseMethodDescriptor y.desc = some sig → argsL.length = sig.parameters.length)
    (hstack : g.stack = argsL.reverse ++ rest) (hW : 2 * g.monitorRoom + (rest.map fun v => v.category).sum ≤ W9) (hdg : decode c.code g.pc = .ok (.invokestatic index, 3))
    (hpre : ∀ vm₁, s.WarmedH vm₁ → Pre ⟨T.setVm vm₁, locs, cells, slots⟩ argsL.toArray) :
    (∃ (v : Option Value) (vm₁ : Vm) (B : Pt), s.WarmedH vm₁ ∧ Stand p l e R s m args below meth c B.U B.locs B.cells B.slots ∧ Post ⟨T.setVm vm₁, locs, cells, slots⟩ argsL.toArray v B ∧
      ∀ target, Steps p.tables e below (B.U.setTop { g with pc := g.pc + 3, stack := v.toList ++ rest }) target → Steps p.tables e below (T.setTop g) target) ∨
    (∃ (q : Addr) (vm₁ : Vm) (B : Pt), s.WarmedH vm₁ ∧ Stand p l e R s m args below meth c B.U B.locs B.cells B.slots ∧ PostX ⟨T.setVm vm₁, locs, cells, slots⟩ argsL.toArray q B ∧
      Steps p.tables e below (T.setTop g) ((B.U.setTop { g with stack := rest }).pushFrame (.throwing q))) := by
  obtain ⟨mk, methM, cM, hnamed, hmethM, -, -, -, -, -, -, hsigM⟩ := Cond.codeWith_spec hcode
  have hstatic : methM.isStatic = true := Cond.static_spec hnamed hmethM hstat
  obtain ⟨kP, hkP, -⟩ := className_of_methodNamed hnamed
  have hinitP : kP.init = .initialized := Cond.initialized_spec (findClass_of_methodNamed hnamed) hkP hinit
  obtain ⟨vm₁, X₁, hstep₁⟩ := X.invokestatic hexec hown hlink hnamed hmethM hstatic hkP hinitP hy (g := g) hg (argsL := argsL) (rest := rest) (hlen _ hsigM) hstack hdg
  rcases hK m meth c ⟨T.setVm vm₁, locs, cells, slots⟩ { g with stack := rest } (.invokestatic index) mk argsL.toArray X₁ hg hsize hdg hW (X₁.named hnamed) (hpre vm₁ X₁.warmed) with ⟨v, B, X', hpost, hsteps⟩ | ⟨q, B, X', hpost, hsteps⟩
  · exact Or.inl ⟨v, vm₁, B, X₁.warmed, X', hpost, fun target h => hstep₁ _ fun acts => by rw [doInvoke_state]; exact hsteps.trans h⟩
  · exact Or.inr ⟨q, vm₁, B, X₁.warmed, X', hpost, hstep₁ _ fun acts => by rw [doInvoke_state]; exact hsteps⟩
theorem vx_callVW (X : Stand p l e R s m args below meth c T locs cells slots) (hexec : p.tables.exec = Jvm.exec) {own C : String} {index : Nat} {y : MethodName} {bytes : ByteArray} {maxL : Nat} {ret : Option FieldType} {hh : List (Nat × Nat × Nat × Nat)}
    (hown : s.vm.findClass own = some m.cls) (hlink : (Cond.methodLink own index y).before args s = true) (hinst : (Cond.instanceMethod y).before args s = true) (hsel : (Cond.selects C y y).before args s = true)
    (hcode : (Cond.codeWith y bytes maxL ret hh).before args s = true) (hy : y.cls ≠ "java/lang/invoke/MethodHandle" ∧ y.cls ≠ "java/lang/invoke/VarHandle")
    {W9 : Nat} {Pre : Pt → Array Value → Prop} {Post : Pt → Array Value → Option Value → Pt → Prop} (hK : Back l R p e below s args y 3 W9 Pre Post)
    {b : Addr} {cellB : Cell} (hcell : T.heap[b]? = some cellB) (hobj : cellB.vm.isStatics = false) (hcls : s.vm.findClass C = some cellB.cls)
    {g : JFrame} (hg : g.method = m) (hsize : g.locals.size = c.maxLocals) {argsL rest : List Value} (hlen : ∀ sig, parseMethodDescriptor y.desc = some sig → argsL.length = sig.parameters.length)
    (hstack : g.stack = argsL.reverse ++ .ref b :: rest) (hW : 2 * g.monitorRoom + (rest.map fun v => v.category).sum ≤ W9) (hdg : decode c.code g.pc = .ok (.invokevirtual index, 3))
    (hpre : ∀ vm₁, s.WarmedH vm₁ → Pre ⟨T.setVm vm₁, locs, cells, slots⟩ (Value.ref b :: argsL).toArray) :
    ∃ (v : Option Value) (vm₁ : Vm) (B : Pt), s.WarmedH vm₁ ∧ Stand p l e R s m args below meth c B.U B.locs B.cells B.slots ∧ Post ⟨T.setVm vm₁, locs, cells, slots⟩ (Value.ref b :: argsL).toArray v B ∧
      ∀ target, Steps p.tables e below (B.U.setTop { g with pc := g.pc + 3, stack := v.toList ++ rest }) target → Steps p.tables e below (T.setTop g) target := by
  obtain ⟨mk, methM, hnamed, hmethM, hstM, habM⟩ := Cond.instanceMethod_spec hinst
  obtain ⟨m8, methM', cM, hn8, hmethM', -, -, -, -, -, -, hsigM⟩ := Cond.codeWith_spec hcode
  cases Option.some.inj (hn8.symm.trans hnamed)
  cases hmethM.symm.trans hmethM'
  obtain ⟨c2, r2, m2, q1, q2, q3, q4, kP, hkP, hkPi⟩ := Cond.selects_spec hsel
  cases hcls.symm.trans q1
  cases (State.methodFound?_of_named hnamed hy).symm.trans q2
  cases hnamed.symm.trans q3
  have hselP : selectMethod e.platform s.vm cellB.cls mk = .method mk := by rw [Launch.admits_selectMethod X.admits]; exact q4
  obtain ⟨vm₁, X₁, hstep₁⟩ := X.invokevirtual hexec hown hlink hnamed hmethM hstM hkP hkPi hy (a := b) (cell := cellB) hcell
    (fun z h => by rw [h] at hobj; cases hobj) hselP hmethM habM hkP hkPi (g := g) hg (argsL := argsL) (rest := rest) (hlen _ hsigM) hstack hdg
  obtain ⟨v, B, X', hpost, hsteps⟩ := hK m meth c ⟨T.setVm vm₁, locs, cells, slots⟩ { g with stack := rest } (.invokevirtual index) mk (Value.ref b :: argsL).toArray X₁ hg hsize hdg hW (X₁.named hnamed) (hpre vm₁ X₁.warmed)
  exact ⟨v, vm₁, B, X₁.warmed, X', hpost, fun target h => hstep₁ _ fun acts => by rw [doInvoke_state]; exact hsteps.trans h⟩
abbrev vx_CVW (R : Room) (s : State) (args : Array Value) (own C : String) (index : Nat) (y : MethodName) (bytes : ByteArray) (maxL : Nat) (ret : Option FieldType) (hh : List (Nat × Nat × Nat × Nat)) (ws : List Cond) (rm : Room) (mc ms n : Nat) : Prop :=
  (rm.cells = mc ∧ rm.slots = ms ∧ rm.frames + 1 ≤ R.frames ∧ 8 + (maxL + 11) + rm.locals ≤ R.locals ∧ (∀ w ∈ ws, ∀ (a' : Array Value) (U : State), s.WarmedH U.vm → w.before a' U = true) ∧ Cond.codeWith y bytes maxL ret hh ∈ ws) ∧
  (Cond.codeWith y bytes maxL ret hh).before args s = true ∧ (Cond.initialized y.cls).before args s = true ∧ (y.cls ≠ "java/lang/invoke/MethodHandle" ∧ y.cls ≠ "java/lang/invoke/VarHandle") ∧
  (∀ sig, parseMethodDescriptor y.desc = some sig → n = sig.parameters.length) ∧ (Cond.methodLink own index y).before args s = true ∧ (Cond.instanceMethod y).before args s = true ∧ (Cond.selects C y y).before args s = true
theorem vx_cwVW {own C : String} {index maxL mc ms : Nat} {y : MethodName} {bytes : ByteArray} {ret : Option FieldType} {hh : List (Nat × Nat × Nat × Nat)} {Ts ws ws' : List Cond} {rm : Room} (n : Nat) (ht : ∀ w ∈ Ts, w.before args s = true) (hT : GoodIn Ts (wsV own index C y ws)) (hw : ws = Cond.codeWith y bytes maxL ret hh :: ws') (hrc : rm.cells = mc) (hrs : rm.slots = ms)
    (hd : y.cls = C ∧ y.cls ≠ "java/lang/invoke/MethodHandle" ∧ y.cls ≠ "java/lang/invoke/VarHandle" ∧ (parseMethodDescriptor y.desc).map (fun d => d.parameters.length) = some n) (hR : rm.frames + 1 ≤ R.frames ∧ 8 + (maxL + 11) + rm.locals ≤ R.locals) :
    vx_CVW R s args own C index y bytes maxL ret hh ws rm mc ms n := by
  obtain ⟨hC, hd⟩ := hd
  subst hC
  have ok : ∀ w ∈ wsV own index y.cls y ws, w.before args s = true := fun w h => ht w (hT w h).1
  have hG : GoodIn Ts ws := fun w h => hT w (by unfold wsV; exact List.mem_append_right _ h)
  have hc : Cond.codeWith y bytes maxL ret hh ∈ ws := by rw [hw]; exact List.mem_cons_self
  refine ⟨⟨hrc, hrs, hR.1, hR.2, pay_in ht hG, hc⟩, ht _ (hG _ hc).1, ok _ (by simp [wsV]), ⟨hd.1, hd.2.1⟩, fun sig h => ?_, ok _ (by simp [wsV]), ok _ (by simp [wsV]), ok _ (by simp [wsV])⟩
  have h2 := hd.2.2
  rw [h] at h2
  exact (Option.some.inj h2).symm
theorem vx_runVW {y : MethodName} {bytes cc : ByteArray} {maxL nL mc ms n index : Nat} {ret : Option FieldType} {hh : List (Nat × Nat × Nat × Nat)} {ws : List Cond} {rm : Room} {Pc : Array Value → State → Prop} {Qc : Array Value → State → Outcome → State → Prop} {free : Addr → Prop} {Ts : List Cond} {own C : String} {b : Addr} {As rest : List Value} {g : JFrame}
    (S : CallFix p m c cc nL s args Ts own) (hM : Met l y ws rm Pc Qc mc ms free) (cw : vx_CVW R s args own C index y bytes maxL ret hh ws rm mc ms n) (hp : PreV s H C b Pc As)
    (hg : g.method = m) (hn : As.length = n) (hsize : g.locals.size = nL) (hstack : g.stack = As.reverse ++ .ref b :: rest) (hW : 2 * g.monitorRoom + (rest.map fun v => v.category).sum ≤ 8) (hdg : decode cc g.pc = .ok (.invokevirtual index, 3)) (hf : cells + mc ≤ R.cells ∧ slots + ms ≤ R.slots) :
    va_Run p l e R s m args below meth c H locs cells slots mc ms g rest (Qc (Value.ref b :: As).toArray) free := by
  obtain ⟨⟨hrc, hrs, hfr, hlo, hws, hcw⟩, hcode, hini, hy, hlen, hl, hin, hse⟩ := cw
  have hK : Back l R p e below s args y 3 8 (PreOf R mc ms Pc) (PostOf Qc mc ms free) := va_backW (hh := hh) (bytes := bytes) (maxL := maxL) (ret := ret) hM hp.1 hrc hrs hfr hlo hws hcw (fun a' U hW => word_at hW (Or.inl (by first | rfl | simp [Cond.onTables, Cond.keeps, Cond.steady])) hini)
  obtain ⟨hx, hb, hml, ho, -⟩ := S
  obtain ⟨-, ⟨cellB, hcB, hoB, hclB⟩, hPc⟩ := hp
  intro T hT X
  obtain ⟨v, vm₁, ⟨U', l2, c2, s2⟩, hW₁, X', ⟨g', mk, t, L, e1, e2, hq, h1, hL, h2, h3⟩, st⟩ := vx_callVW X hx (C := C) (hh := hh) (bytes := bytes) (maxL := maxL) (ret := ret) ho hl hin hse hcode hy hK (by rw [hT]; exact hcB) hoB hclB hg (hsize.trans hml.symm) (argsL := As) (rest := rest) (fun sig h => hn.trans (hlen sig h)) hstack hW (by rw [hb]; exact hdg)
    (fun vm₁ hW₁ => ⟨hf.1, hf.2, hPc (T.setVm vm₁) hT hW₁⟩)
  dsimp only [Pt.U, Pt.locs, Pt.cells, Pt.slots] at X' e1 e2 h1 h2 h3 st
  subst h1; subst h2; subst h3
  exact ⟨v, (T.setVm vm₁).calling g' mk (Value.ref b :: As).toArray, t, U', L, hT, X', hL, e1, e2, hq, st⟩
section
variable {y : MethodName} {bytes cc : ByteArray} {maxL nL mc ms n index : Nat} {ret : Option FieldType} {ws : List Cond} {rm : Room} {Pc : Array Value → State → Prop} {Qc : Array Value → State → Outcome → State → Prop} {XC : String → State → State → Prop} {free : Addr → Prop} {Ts : List Cond} {own C : String} {b : Addr} {As rest : List Value} {g : JFrame}
theorem vx_runVX {hh : List (Nat × Nat × Nat × Nat)} (S : CallFix p m c cc nL s args Ts own) (hM : vx_Met l y ws rm Pc Qc XC mc ms free) (cw : vx_CVW R s args own C index y bytes maxL ret hh ws rm mc ms n) (hp : PreV s H C b Pc As)
    (hg : g.method = m) (hn : As.length = n) (hsize : g.locals.size = nL) (hstack : g.stack = As.reverse ++ .ref b :: rest) (hW : 2 * g.monitorRoom + (rest.map fun v => v.category).sum ≤ 8) (hdg : decode cc g.pc = .ok (.invokevirtual index, 3)) (hf : cells + mc ≤ R.cells ∧ slots + ms ≤ R.slots) :
    vx_Run p l e R s m args below meth c H locs cells slots mc ms g rest (Qc (Value.ref b :: As).toArray) XC free := by
  obtain ⟨⟨hrc, hrs, hfr, hlo, hws, hcw⟩, hcode, hini, hy, hlen, hl, hin, hse⟩ := cw
  have hK : vx_Back l R p e below s args y 3 8 (PreOf R mc ms Pc) (PostOf Qc mc ms free) (vx_Post XC mc ms free) := vx_backW (hh := hh) (bytes := bytes) (maxL := maxL) (ret := ret) hM hp.1 hrc hrs hfr hlo hws hcw (fun a' U hW => word_at hW (Or.inl (by first | rfl | simp [Cond.onTables, Cond.keeps, Cond.steady])) hini)
  obtain ⟨hx, hb, hml, ho, -⟩ := S
  obtain ⟨-, ⟨cellB, hcB, hoB, hclB⟩, hPc⟩ := hp
  intro T hT X
  rcases vx_callVX X hx (C := C) (hh := hh) (bytes := bytes) (maxL := maxL) (ret := ret) ho hl hin hse hcode hy hK (by rw [hT]; exact hcB) hoB hclB hg (hsize.trans hml.symm) (argsL := As) (rest := rest) (fun sig h => hn.trans (hlen sig h)) hstack hW (by rw [hb]; exact hdg)
    (fun vm₁ hW₁ => ⟨hf.1, hf.2, hPc (T.setVm vm₁) hT hW₁⟩) with ⟨v, vm₁, ⟨U', l2, c2, s2⟩, hW₁, X', ⟨g', mk, t, L, e1, e2, hq, h1, hL, h2, h3⟩, st⟩ | ⟨q, vm₁, ⟨U', l2, c2, s2⟩, hW₁, X', ⟨g', mk, t, L, E, ce, e1, e2, hq, hce, hcv, hcl, h1, hL, h2, h3⟩, st⟩
  · dsimp only [Pt.U, Pt.locs, Pt.cells, Pt.slots] at X' e1 e2 h1 h2 h3 st
    subst h1; subst h2; subst h3
    exact Or.inl ⟨v, (T.setVm vm₁).calling g' mk (Value.ref b :: As).toArray, t, U', L, hT, X', hL, e1, e2, hq, st⟩
  · dsimp only [Pt.U, Pt.locs, Pt.cells, Pt.slots] at X' e1 e2 h1 h2 h3 st hcl
    subst h1; subst h2; subst h3
    exact Or.inr ⟨q, (T.setVm vm₁).calling g' mk (Value.ref b :: As).toArray, t, U', L, E, ce, hT, X', hL, e1, e2, hq, hce, hcv, vx_cls hW₁ hcl, st⟩
theorem vx_runSX {hh : List (Nat × Nat × Nat × Nat)} (S : CallFix p m c cc nL s args Ts own) (hM : vx_Met l y ws rm Pc Qc XC mc ms free) (cw : vx_CSW R s args own index y bytes maxL ret hh ws rm mc ms n) (hp : PreS s H Pc As)
    (hg : g.method = m) (hn : As.length = n) (hsize : g.locals.size = nL) (hstack : g.stack = As.reverse ++ rest) (hW : 2 * g.monitorRoom + (rest.map fun v => v.category).sum ≤ 8) (hdg : decode cc g.pc = .ok (.invokestatic index, 3)) (hf : cells + mc ≤ R.cells ∧ slots + ms ≤ R.slots) :
    vx_Run p l e R s m args below meth c H locs cells slots mc ms g rest (Qc As.toArray) XC free := by
  obtain ⟨⟨hrc, hrs, hfr, hlo, hws, hcw⟩, hcode, hini, hy, hlen, hl, hstt⟩ := cw
  have hK : vx_Back l R p e below s args y 3 8 (PreOf R mc ms Pc) (PostOf Qc mc ms free) (vx_Post XC mc ms free) := vx_backW (hh := hh) (bytes := bytes) (maxL := maxL) (ret := ret) hM hp.1 hrc hrs hfr hlo hws hcw (fun a' U hW => word_at hW (Or.inl (by first | rfl | simp [Cond.onTables, Cond.keeps, Cond.steady])) hini)
  obtain ⟨hx, hb, hml, ho, -⟩ := S
  intro T hT X
  rcases vx_callSX X hx (hh := hh) (bytes := bytes) (maxL := maxL) (ret := ret) ho hl hstt hini hcode hy hK hg (hsize.trans hml.symm) (argsL := As) (rest := rest) (fun sig h => hn.trans (hlen sig h)) hstack hW (by rw [hb]; exact hdg)
    (fun vm₁ hW₁ => ⟨hf.1, hf.2, hp.2 (T.setVm vm₁) hT hW₁⟩) with ⟨v, vm₁, ⟨U', l2, c2, s2⟩, hW₁, X', ⟨g', mk, t, L, e1, e2, hq, h1, hL, h2, h3⟩, st⟩ | ⟨q, vm₁, ⟨U', l2, c2, s2⟩, hW₁, X', ⟨g', mk, t, L, E, ce, e1, e2, hq, hce, hcv, hcl, h1, hL, h2, h3⟩, st⟩
  · dsimp only [Pt.U, Pt.locs, Pt.cells, Pt.slots] at X' e1 e2 h1 h2 h3 st
    subst h1; subst h2; subst h3
    exact Or.inl ⟨v, (T.setVm vm₁).calling g' mk As.toArray, t, U', L, hT, X', hL, e1, e2, hq, st⟩
  · dsimp only [Pt.U, Pt.locs, Pt.cells, Pt.slots] at X' e1 e2 h1 h2 h3 st hcl
    subst h1; subst h2; subst h3
    exact Or.inr ⟨q, (T.setVm vm₁).calling g' mk As.toArray, t, U', L, E, ce, hT, X', hL, e1, e2, hq, hce, hcv, vx_cls hW₁ hcl, st⟩
end
end VXH
theorem vx_ofWH {l : Launch} {y : MethodName} {ws ws' : List Cond} {rm : Room} {Pc : Array Value → State → Prop} {Qc : Array Value → State → Outcome → State → Prop} {XC : String → State → State → Prop} {mc ms : Nat} {free : Addr → Prop} {cc : ByteArray} {maxL : Nat} {ret : Option FieldType} {hh : List (Nat × Nat × Nat × Nat)}
    (hy : plainName y.cls = true) (hw : ws = Cond.codeWith y cc maxL ret hh :: ws')
    (body : ∀ p e s m args below meth c s₁, BodyLoose p l y (headSpec ws rm) cc maxL ret e s m args below meth c s₁ → c.maxLocals = maxL → Pc args s →
      W p l e (headSpec ws rm).room s m args below meth c s.heap [] 0 0 (vx_MQ below Qc XC args s mc ms free) (entryFrame m args maxL)) : vx_Met l y ws rm Pc Qc XC mc ms free := by
  refine MetFree.of_bodyS (code := cc) (maxLocals := maxL) (ret := ret) hy ?_ ?_
  · intro args s m h hn
    obtain ⟨m9, meth, c, hn9, h1, h2, h3, h4, -, h5, h6, -⟩ := Cond.codeWith_spec (atoms_spec (ws := ws) h _ (by rw [hw]; exact List.mem_cons_self))
    cases hn.symm.trans hn9
    exact ⟨meth, c, h1, h2, h3, h4, h5, h6⟩
  · intro p e s m args below meth c s₁ B hml hP _
    have hh0 : s₁.heap = s.heap := by rw [B.state]; rfl
    obtain ⟨t, a1, o, b1, b2, b3⟩ := body p e s m args below meth c s₁ B hml hP s₁ hh0 (Stand.of_body B)
    exact ⟨t, o, a1, b1, b2, b3⟩
/-! ===== END ===== -/
end
section
/-! ===== BEGIN printed: names, fields, word lists, decode rows ===== -/
def RX0 : String := "DangerousGoods"
def TX0 : u_T := fun k => match k with
  | 0 => ("DangerousGoods", "table", "[I", true)
  | 1 => ("DangerousGoods", "limitedQuantities", "[I", true)
  | 2 => ("DangerousGoods", "exceptedQuantities", "[I", true)
  | 3 => ("DangerousGoods", "barred", "[Z", true)
  | 4 => ("DangerousGoods", "classes", "[I", true)
  | 5 => ("DangerousGoods", "subsidiaries", "[I", true)
  | 6 => ("DangerousGoods", "quantities", "[I", true)
  | 7 => ("DangerousGoods", "places", "[I", true)
  | 8 => ("DangerousGoods", "count", "I", false)
  | _ => ("DangerousGoods", "breachRows", "[I", true)
def tyX0 : Nat → FieldType := fun k => match k with
  | 0 => .array .int
  | 1 => .array .int
  | 2 => .array .int
  | 3 => .array .boolean
  | 4 => .array .int
  | 5 => .array .int
  | 6 => .array .int
  | 7 => .array .int
  | 8 => .int
  | _ => .array .int
abbrev wsX00 : List Cond := u_ws RX0 TX0 10
theorem nmX0 : ∀ a, a < 10 → ∀ b, b < 10 → a ≠ b → (TX0 a).2.1 ≠ (TX0 b).2.1 := by decide +kernel
theorem tyX0_ok : ∀ k, k < 10 → parseFieldDescriptor (TX0 k).2.2.1 = some (tyX0 k) := by decide +kernel
abbrev cX0_init : ByteArray := prog_1_method_1_code
def yX0_init : MethodName := ⟨RX0, "<init>", "()V"⟩
abbrev cX0_setDistance : ByteArray := prog_1_method_2_code
def yX0_setDistance : MethodName := ⟨RX0, "setDistance", "(III)I"⟩
abbrev cX0_setQuantities : ByteArray := prog_1_method_3_code
def yX0_setQuantities : MethodName := ⟨RX0, "setQuantities", "(III)V"⟩
abbrev cX0_bar : ByteArray := prog_1_method_4_code
def yX0_bar : MethodName := ⟨RX0, "bar", "(IIZ)Z"⟩
abbrev cX0_distance : ByteArray := prog_1_method_5_code
def yX0_distance : MethodName := ⟨RX0, "distance", "(II)I"⟩
abbrev cX0_add : ByteArray := prog_1_method_6_code
def yX0_add : MethodName := ⟨RX0, "add", "(III)I"⟩
abbrev cX0_setQuantity : ByteArray := prog_1_method_7_code
def yX0_setQuantity : MethodName := ⟨RX0, "setQuantity", "(II)I"⟩
abbrev cX0_put : ByteArray := prog_1_method_8_code
def yX0_put : MethodName := ⟨RX0, "put", "(II)I"⟩
abbrev cX0_goods : ByteArray := prog_1_method_9_code
def yX0_goods : MethodName := ⟨RX0, "goods", "()I"⟩
abbrev cX0_placeOf : ByteArray := prog_1_method_10_code
def yX0_placeOf : MethodName := ⟨RX0, "placeOf", "(I)I"⟩
abbrev cX0_isLimited : ByteArray := prog_1_method_11_code
def yX0_isLimited : MethodName := ⟨RX0, "isLimited", "(I)Z"⟩
abbrev cX0_isExcepted : ByteArray := prog_1_method_12_code
def yX0_isExcepted : MethodName := ⟨RX0, "isExcepted", "(I)Z"⟩
abbrev cX0_need : ByteArray := prog_1_method_13_code
def yX0_need : MethodName := ⟨RX0, "need", "(II)I"⟩
abbrev cX0_areInBreach : ByteArray := prog_1_method_14_code
def yX0_areInBreach : MethodName := ⟨RX0, "areInBreach", "(II)Z"⟩
abbrev cX0_isMisplaced : ByteArray := prog_1_method_15_code
def yX0_isMisplaced : MethodName := ⟨RX0, "isMisplaced", "(I)Z"⟩
abbrev cX0_breaches : ByteArray := prog_1_method_16_code
def yX0_breaches : MethodName := ⟨RX0, "breaches", "()I"⟩
abbrev cX0_inBreachWith : ByteArray := prog_1_method_17_code
def yX0_inBreachWith : MethodName := ⟨RX0, "inBreachWith", "(I)I"⟩
abbrev cX0_isClean : ByteArray := prog_1_method_18_code
def yX0_isClean : MethodName := ⟨RX0, "isClean", "()Z"⟩
abbrev cX0_canPut : ByteArray := prog_1_method_19_code
def yX0_canPut : MethodName := ⟨RX0, "canPut", "(II)Z"⟩
abbrev cX0_placeFor : ByteArray := prog_1_method_20_code
def yX0_placeFor : MethodName := ⟨RX0, "placeFor", "(I)I"⟩
abbrev cX0_fewest : ByteArray := prog_1_method_21_code
def yX0_fewest : MethodName := ⟨RX0, "fewest", "()I"⟩
abbrev cX0_leaving : ByteArray := prog_1_method_22_code
def yX0_leaving : MethodName := ⟨RX0, "leaving", "()I"⟩
abbrev cX0_checkRange : ByteArray := prog_1_method_23_code
def yX0_checkRange : MethodName := ⟨RX0, "checkRange", "(III)V"⟩
abbrev cX0_checkClass : ByteArray := prog_1_method_24_code
def yX0_checkClass : MethodName := ⟨RX0, "checkClass", "(I)V"⟩
abbrev cX0_checkSubsidiary : ByteArray := prog_1_method_25_code
def yX0_checkSubsidiary : MethodName := ⟨RX0, "checkSubsidiary", "(II)V"⟩
abbrev cX0_checkPlace : ByteArray := prog_1_method_26_code
def yX0_checkPlace : MethodName := ⟨RX0, "checkPlace", "(I)V"⟩
abbrev cX0_checkQuantity : ByteArray := prog_1_method_27_code
def yX0_checkQuantity : MethodName := ⟨RX0, "checkQuantity", "(I)V"⟩
abbrev cX0_checkGoods : ByteArray := prog_1_method_28_code
def yX0_checkGoods : MethodName := ⟨RX0, "checkGoods", "(I)V"⟩
abbrev cX0_checkPair : ByteArray := prog_1_method_29_code
def yX0_checkPair : MethodName := ⟨RX0, "checkPair", "(II)V"⟩
abbrev cX0_holdOf : ByteArray := prog_1_method_30_code
def yX0_holdOf : MethodName := ⟨RX0, "holdOf", "(I)I"⟩
abbrev cX0_bayOf : ByteArray := prog_1_method_31_code
def yX0_bayOf : MethodName := ⟨RX0, "bayOf", "(I)I"⟩
abbrev cX0_deckOf : ByteArray := prog_1_method_32_code
def yX0_deckOf : MethodName := ⟨RX0, "deckOf", "(I)I"⟩
abbrev cX0_distanceBetween : ByteArray := prog_1_method_33_code
def yX0_distanceBetween : MethodName := ⟨RX0, "distanceBetween", "(II)I"⟩
abbrev cX0_tableDistance : ByteArray := prog_1_method_34_code
def yX0_tableDistance : MethodName := ⟨RX0, "tableDistance", "(II)I"⟩
abbrev cX0_greatestTableDistance : ByteArray := prog_1_method_35_code
def yX0_greatestTableDistance : MethodName := ⟨RX0, "greatestTableDistance", "(II)I"⟩
abbrev cX0_areWithin : ByteArray := prog_1_method_36_code
def yX0_areWithin : MethodName := ⟨RX0, "areWithin", "(I[I)Z"⟩
abbrev cX0_areExcepted : ByteArray := prog_1_method_37_code
def yX0_areExcepted : MethodName := ⟨RX0, "areExcepted", "(I)Z"⟩
abbrev cX0_areLimited : ByteArray := prog_1_method_38_code
def yX0_areLimited : MethodName := ⟨RX0, "areLimited", "(I)Z"⟩
abbrev cX0_needOf : ByteArray := prog_1_method_39_code
def yX0_needOf : MethodName := ⟨RX0, "needOf", "(II)I"⟩
abbrev cX0_wouldBreach : ByteArray := prog_1_method_40_code
def yX0_wouldBreach : MethodName := ⟨RX0, "wouldBreach", "(III)Z"⟩
abbrev cX0_breachesAt : ByteArray := prog_1_method_41_code
def yX0_breachesAt : MethodName := ⟨RX0, "breachesAt", "(II)I"⟩
abbrev cX0_isBarredFrom : ByteArray := prog_1_method_42_code
def yX0_isBarredFrom : MethodName := ⟨RX0, "isBarredFrom", "(II)Z"⟩
abbrev cX0_wouldBeMisplaced : ByteArray := prog_1_method_43_code
def yX0_wouldBeMisplaced : MethodName := ⟨RX0, "wouldBeMisplaced", "(II)Z"⟩
abbrev cX0_wouldBeClean : ByteArray := prog_1_method_44_code
def yX0_wouldBeClean : MethodName := ⟨RX0, "wouldBeClean", "(II)Z"⟩
abbrev cX0_leastLeaving : ByteArray := prog_1_method_45_code
def yX0_leastLeaving : MethodName := ⟨RX0, "leastLeaving", "()I"⟩
abbrev cX0_searchLeaving : ByteArray := prog_1_method_46_code
def yX0_searchLeaving : MethodName := ⟨RX0, "searchLeaving", "([IIII)I"⟩
def RX1 : String := "DangerousGoodsModel"
def TX1 : u_T := fun k => match k with
  | 0 => ("DangerousGoodsModel", "table", "[I", true)
  | 1 => ("DangerousGoodsModel", "limits", "[I", true)
  | 2 => ("DangerousGoodsModel", "exceptions", "[I", true)
  | 3 => ("DangerousGoodsModel", "isBarred", "[Z", true)
  | 4 => ("DangerousGoodsModel", "goods", "I", false)
  | 5 => ("DangerousGoodsModel", "classes", "[I", true)
  | 6 => ("DangerousGoodsModel", "subsidiaries", "[I", true)
  | 7 => ("DangerousGoodsModel", "quantities", "[I", true)
  | 8 => ("DangerousGoodsModel", "places", "[I", true)
  | 9 => ("DangerousGoodsModel", "foes", "[I", true)
  | _ => ("DangerousGoodsModel", "thrown", "I", false)
def tyX1 : Nat → FieldType := fun k => match k with
  | 0 => .array .int
  | 1 => .array .int
  | 2 => .array .int
  | 3 => .array .boolean
  | 4 => .int
  | 5 => .array .int
  | 6 => .array .int
  | 7 => .array .int
  | 8 => .array .int
  | 9 => .array .int
  | _ => .int
abbrev wsX10 : List Cond := u_ws RX1 TX1 11
theorem nmX1 : ∀ a, a < 11 → ∀ b, b < 11 → a ≠ b → (TX1 a).2.1 ≠ (TX1 b).2.1 := by decide +kernel
theorem tyX1_ok : ∀ k, k < 11 → parseFieldDescriptor (TX1 k).2.2.1 = some (tyX1 k) := by decide +kernel
abbrev cX1_init : ByteArray := prog_3_method_1_code
def yX1_init : MethodName := ⟨RX1, "<init>", "()V"⟩
abbrev cX1_thrown : ByteArray := prog_3_method_2_code
def yX1_thrown : MethodName := ⟨RX1, "thrown", "()I"⟩
abbrev cX1_goes : ByteArray := prog_3_method_3_code
def yX1_goes : MethodName := ⟨RX1, "goes", "(I)Z"⟩
abbrev cX1_isIn : ByteArray := prog_3_method_4_code
def yX1_isIn : MethodName := ⟨RX1, "isIn", "(III)Z"⟩
abbrev cX1_isClass : ByteArray := prog_3_method_5_code
def yX1_isClass : MethodName := ⟨RX1, "isClass", "(I)Z"⟩
abbrev cX1_isPlace : ByteArray := prog_3_method_6_code
def yX1_isPlace : MethodName := ⟨RX1, "isPlace", "(I)Z"⟩
abbrev cX1_areGoods : ByteArray := prog_3_method_7_code
def yX1_areGoods : MethodName := ⟨RX1, "areGoods", "(I)Z"⟩
abbrev cX1_setDistance : ByteArray := prog_3_method_8_code
def yX1_setDistance : MethodName := ⟨RX1, "setDistance", "(III)I"⟩
abbrev cX1_setQuantities : ByteArray := prog_3_method_9_code
def yX1_setQuantities : MethodName := ⟨RX1, "setQuantities", "(III)V"⟩
abbrev cX1_bar : ByteArray := prog_3_method_10_code
def yX1_bar : MethodName := ⟨RX1, "bar", "(IIZ)Z"⟩
abbrev cX1_apart : ByteArray := prog_3_method_11_code
def yX1_apart : MethodName := ⟨RX1, "apart", "(II)I"⟩
abbrev cX1_distance : ByteArray := prog_3_method_12_code
def yX1_distance : MethodName := ⟨RX1, "distance", "(II)I"⟩
abbrev cX1_add : ByteArray := prog_3_method_13_code
def yX1_add : MethodName := ⟨RX1, "add", "(III)I"⟩
abbrev cX1_setQuantity : ByteArray := prog_3_method_14_code
def yX1_setQuantity : MethodName := ⟨RX1, "setQuantity", "(II)I"⟩
abbrev cX1_put : ByteArray := prog_3_method_15_code
def yX1_put : MethodName := ⟨RX1, "put", "(II)I"⟩
abbrev cX1_goods : ByteArray := prog_3_method_16_code
def yX1_goods : MethodName := ⟨RX1, "goods", "()I"⟩
abbrev cX1_asks : ByteArray := prog_3_method_17_code
def yX1_asks : MethodName := ⟨RX1, "asks", "(I)Z"⟩
abbrev cX1_placeOf : ByteArray := prog_3_method_18_code
def yX1_placeOf : MethodName := ⟨RX1, "placeOf", "(I)I"⟩
abbrev cX1_isWithin : ByteArray := prog_3_method_19_code
def yX1_isWithin : MethodName := ⟨RX1, "isWithin", "(I[I)Z"⟩
abbrev cX1_areExcepted : ByteArray := prog_3_method_20_code
def yX1_areExcepted : MethodName := ⟨RX1, "areExcepted", "(I)Z"⟩
abbrev cX1_areLimited : ByteArray := prog_3_method_21_code
def yX1_areLimited : MethodName := ⟨RX1, "areLimited", "(I)Z"⟩
abbrev cX1_isLimited : ByteArray := prog_3_method_22_code
def yX1_isLimited : MethodName := ⟨RX1, "isLimited", "(I)Z"⟩
abbrev cX1_isExcepted : ByteArray := prog_3_method_23_code
def yX1_isExcepted : MethodName := ⟨RX1, "isExcepted", "(I)Z"⟩
abbrev cX1_ofTable : ByteArray := prog_3_method_24_code
def yX1_ofTable : MethodName := ⟨RX1, "ofTable", "(II)I"⟩
abbrev cX1_greater : ByteArray := prog_3_method_25_code
def yX1_greater : MethodName := ⟨RX1, "greater", "(II)I"⟩
abbrev cX1_needs : ByteArray := prog_3_method_26_code
def yX1_needs : MethodName := ⟨RX1, "needs", "(II)I"⟩
abbrev cX1_asksTwo : ByteArray := prog_3_method_27_code
def yX1_asksTwo : MethodName := ⟨RX1, "asksTwo", "(II)Z"⟩
abbrev cX1_need : ByteArray := prog_3_method_28_code
def yX1_need : MethodName := ⟨RX1, "need", "(II)I"⟩
abbrev cX1_areFoes : ByteArray := prog_3_method_29_code
def yX1_areFoes : MethodName := ⟨RX1, "areFoes", "(III)Z"⟩
abbrev cX1_areWrong : ByteArray := prog_3_method_30_code
def yX1_areWrong : MethodName := ⟨RX1, "areWrong", "(II)Z"⟩
abbrev cX1_areInBreach : ByteArray := prog_3_method_31_code
def yX1_areInBreach : MethodName := ⟨RX1, "areInBreach", "(II)Z"⟩
abbrev cX1_isMisplaced : ByteArray := prog_3_method_32_code
def yX1_isMisplaced : MethodName := ⟨RX1, "isMisplaced", "(I)Z"⟩
abbrev cX1_foesOf : ByteArray := prog_3_method_33_code
def yX1_foesOf : MethodName := ⟨RX1, "foesOf", "(I)I"⟩
abbrev cX1_breaches : ByteArray := prog_3_method_34_code
def yX1_breaches : MethodName := ⟨RX1, "breaches", "()I"⟩
abbrev cX1_inBreachWith : ByteArray := prog_3_method_35_code
def yX1_inBreachWith : MethodName := ⟨RX1, "inBreachWith", "(I)I"⟩
abbrev cX1_wrongs : ByteArray := prog_3_method_36_code
def yX1_wrongs : MethodName := ⟨RX1, "wrongs", "()I"⟩
abbrev cX1_isCleanWithout : ByteArray := prog_3_method_37_code
def yX1_isCleanWithout : MethodName := ⟨RX1, "isCleanWithout", "(II)Z"⟩
abbrev cX1_laysFoes : ByteArray := prog_3_method_38_code
def yX1_laysFoes : MethodName := ⟨RX1, "laysFoes", "()V"⟩
abbrev cX1_isClean : ByteArray := prog_3_method_39_code
def yX1_isClean : MethodName := ⟨RX1, "isClean", "()Z"⟩
abbrev cX1_isGood : ByteArray := prog_3_method_40_code
def yX1_isGood : MethodName := ⟨RX1, "isGood", "(II)Z"⟩
abbrev cX1_canPut : ByteArray := prog_3_method_41_code
def yX1_canPut : MethodName := ⟨RX1, "canPut", "(II)Z"⟩
abbrev cX1_placeFor : ByteArray := prog_3_method_42_code
def yX1_placeFor : MethodName := ⟨RX1, "placeFor", "(I)I"⟩
abbrev cX1_count : ByteArray := prog_3_method_43_code
def yX1_count : MethodName := ⟨RX1, "count", "(I)I"⟩
abbrev cX1_least : ByteArray := prog_3_method_44_code
def yX1_least : MethodName := ⟨RX1, "least", "()I"⟩
abbrev cX1_fewest : ByteArray := prog_3_method_45_code
def yX1_fewest : MethodName := ⟨RX1, "fewest", "()I"⟩
abbrev cX1_leaving : ByteArray := prog_3_method_46_code
def yX1_leaving : MethodName := ⟨RX1, "leaving", "()I"⟩
def RJ6 : String := "java/lang/Integer"
def TJ6 : u_T := fun k => match k with
  | _ => ("", "", "", false)
def tyJ6 : Nat → FieldType := fun k => match k with
  | _ => .int
abbrev wsJ60 : List Cond := u_ws RJ6 TJ6 0
theorem nmJ6 : ∀ a, a < 0 → ∀ b, b < 0 → a ≠ b → (TJ6 a).2.1 ≠ (TJ6 b).2.1 := by decide +kernel
theorem tyJ6_ok : ∀ k, k < 0 → parseFieldDescriptor (TJ6 k).2.2.1 = some (tyJ6 k) := by decide +kernel
abbrev cJ6_bitCount_0f7a4 : ByteArray := prog_8_method_49_code
def yJ6_bitCount_0f7a4 : MethodName := ⟨RJ6, "bitCount", "(I)I"⟩
def RJ9 : String := "java/lang/Math"
def TJ9 : u_T := fun k => match k with
  | _ => ("", "", "", false)
def tyJ9 : Nat → FieldType := fun k => match k with
  | _ => .int
abbrev wsJ90 : List Cond := u_ws RJ9 TJ9 0
theorem nmJ9 : ∀ a, a < 0 → ∀ b, b < 0 → a ≠ b → (TJ9 a).2.1 ≠ (TJ9 b).2.1 := by decide +kernel
theorem tyJ9_ok : ∀ k, k < 0 → parseFieldDescriptor (TJ9 k).2.2.1 = some (tyJ9 k) := by decide +kernel
abbrev cJ9_abs_0f7a4 : ByteArray := prog_9_method_59_code
def yJ9_abs_0f7a4 : MethodName := ⟨RJ9, "abs", "(I)I"⟩
abbrev cJ9_max_7cf53 : ByteArray := prog_9_method_65_code
def yJ9_max_7cf53 : MethodName := ⟨RJ9, "max", "(II)I"⟩
def RJ0 : String := "java/lang/String"
def TJ0 : u_T := fun k => match k with
  | _ => ("", "", "", false)
def tyJ0 : Nat → FieldType := fun k => match k with
  | _ => .int
abbrev wsJ00 : List Cond := u_ws RJ0 TJ0 0
theorem nmJ0 : ∀ a, a < 0 → ∀ b, b < 0 → a ≠ b → (TJ0 a).2.1 ≠ (TJ0 b).2.1 := by decide +kernel
theorem tyJ0_ok : ∀ k, k < 0 → parseFieldDescriptor (TJ0 k).2.2.1 = some (tyJ0 k) := by decide +kernel
def RL : String := "DangerousGoodsLaw"
abbrev cL_setDistance : ByteArray := method_3_code
def yL_setDistance : MethodName := ⟨RL, "setDistance", "(LDangerousGoods;III[J)I"⟩
abbrev cL_setQuantities : ByteArray := method_4_code
def yL_setQuantities : MethodName := ⟨RL, "setQuantities", "(LDangerousGoods;III)I"⟩
abbrev cL_bar : ByteArray := method_5_code
def yL_bar : MethodName := ⟨RL, "bar", "(LDangerousGoods;IIZ[J)I"⟩
abbrev cL_distance : ByteArray := method_6_code
def yL_distance : MethodName := ⟨RL, "distance", "(LDangerousGoods;II[J)I"⟩
abbrev cL_add : ByteArray := method_7_code
def yL_add : MethodName := ⟨RL, "add", "(LDangerousGoods;III[J)I"⟩
abbrev cL_setQuantity : ByteArray := method_8_code
def yL_setQuantity : MethodName := ⟨RL, "setQuantity", "(LDangerousGoods;II[J)I"⟩
abbrev cL_put : ByteArray := method_9_code
def yL_put : MethodName := ⟨RL, "put", "(LDangerousGoods;II[J)I"⟩
abbrev cL_placeOf : ByteArray := method_10_code
def yL_placeOf : MethodName := ⟨RL, "placeOf", "(LDangerousGoods;I[J)I"⟩
abbrev cL_isLimited : ByteArray := method_11_code
def yL_isLimited : MethodName := ⟨RL, "isLimited", "(LDangerousGoods;I[J)I"⟩
abbrev cL_isExcepted : ByteArray := method_12_code
def yL_isExcepted : MethodName := ⟨RL, "isExcepted", "(LDangerousGoods;I[J)I"⟩
abbrev cL_need : ByteArray := method_13_code
def yL_need : MethodName := ⟨RL, "need", "(LDangerousGoods;II[J)I"⟩
abbrev cL_areInBreach : ByteArray := method_14_code
def yL_areInBreach : MethodName := ⟨RL, "areInBreach", "(LDangerousGoods;II[J)I"⟩
abbrev cL_isMisplaced : ByteArray := method_15_code
def yL_isMisplaced : MethodName := ⟨RL, "isMisplaced", "(LDangerousGoods;I[J)I"⟩
abbrev cL_inBreachWith : ByteArray := method_16_code
def yL_inBreachWith : MethodName := ⟨RL, "inBreachWith", "(LDangerousGoods;I[J)I"⟩
abbrev cL_canPut : ByteArray := method_17_code
def yL_canPut : MethodName := ⟨RL, "canPut", "(LDangerousGoods;II[J)I"⟩
abbrev cL_placeFor : ByteArray := method_18_code
def yL_placeFor : MethodName := ⟨RL, "placeFor", "(LDangerousGoods;I[J)I"⟩
abbrev cL_law : ByteArray := code
def yL_law : MethodName := ⟨RL, "law", "([I)Z"⟩
def wsX0_init : List Cond := .code yX0_init cX0_init 1 none :: ([.methodLink RX0 3 objectInit, .instanceMethod objectInit, .code objectInit ⟨#[0xb1]⟩ 1 none, .arrayClass .int, .fieldLink RX0 9 "DangerousGoods" "table" "[I", .fieldLink RX0 13 "DangerousGoods" "limitedQuantities" "[I", .fieldLink RX0 16 "DangerousGoods" "exceptedQuantities" "[I", .arrayClass .boolean, .fieldLink RX0 19 "DangerousGoods" "barred" "[Z", .fieldLink RX0 23 "DangerousGoods" "classes" "[I", .fieldLink RX0 26 "DangerousGoods" "subsidiaries" "[I", .fieldLink RX0 29 "DangerousGoods" "quantities" "[I", .fieldLink RX0 32 "DangerousGoods" "places" "[I", .fieldLink RX0 35 "DangerousGoods" "count" "I", .fieldLink RX0 39 "DangerousGoods" "breachRows" "[I"] ++ wsX00)
def wsX0_checkRange : List Cond := .code yX0_checkRange cX0_checkRange 3 none :: ([.classLink RX0 114 "java/lang/IllegalArgumentException", .initialized "java/lang/IllegalArgumentException"] ++ (vx_atS RX0 118 "java/lang/IllegalArgumentException" ["java/lang/RuntimeException", "java/lang/Exception"]).filter goodWord)
def wsX0_checkClass : List Cond := .code yX0_checkClass cX0_checkClass 1 none :: ([.methodLink RX0 46 yX0_checkRange, .static yX0_checkRange, .initialized RX0, .code yX0_checkRange cX0_checkRange 3 none, .classLink RX0 114 "java/lang/IllegalArgumentException", .initialized "java/lang/IllegalArgumentException"] ++ (vx_atS RX0 118 "java/lang/IllegalArgumentException" ["java/lang/RuntimeException", "java/lang/Exception"]).filter goodWord)
def wsX0_tableDistance : List Cond := .code yX0_tableDistance cX0_tableDistance 3 (some .int) :: ([.fieldLink RX0 9 "DangerousGoods" "table" "[I"] ++ wsX00)
def wsX0_setDistance : List Cond := .code yX0_setDistance cX0_setDistance 5 (some .int) :: ([.fieldLink RX0 9 "DangerousGoods" "table" "[I", .methodLink RX0 42 yX0_checkClass, .static yX0_checkClass, .initialized RX0, .code yX0_checkClass cX0_checkClass 1 none, .methodLink RX0 46 yX0_checkRange, .static yX0_checkRange, .code yX0_checkRange cX0_checkRange 3 none, .classLink RX0 114 "java/lang/IllegalArgumentException", .initialized "java/lang/IllegalArgumentException", .methodLink RX0 50 yX0_tableDistance, .instanceMethod yX0_tableDistance, .selects RX0 yX0_tableDistance yX0_tableDistance, .code yX0_tableDistance cX0_tableDistance 3 (some .int)] ++ wsX00 ++ (vx_atS RX0 118 "java/lang/IllegalArgumentException" ["java/lang/RuntimeException", "java/lang/Exception"]).filter goodWord)
def wsX0_setQuantities : List Cond := .code yX0_setQuantities cX0_setQuantities 4 none :: ([.fieldLink RX0 13 "DangerousGoods" "limitedQuantities" "[I", .fieldLink RX0 16 "DangerousGoods" "exceptedQuantities" "[I", .methodLink RX0 42 yX0_checkClass, .static yX0_checkClass, .initialized RX0, .code yX0_checkClass cX0_checkClass 1 none, .methodLink RX0 46 yX0_checkRange, .static yX0_checkRange, .code yX0_checkRange cX0_checkRange 3 none, .classLink RX0 114 "java/lang/IllegalArgumentException", .initialized "java/lang/IllegalArgumentException"] ++ wsX00 ++ (vx_atS RX0 118 "java/lang/IllegalArgumentException" ["java/lang/RuntimeException", "java/lang/Exception"]).filter goodWord)
def wsX0_bar : List Cond := .code yX0_bar cX0_bar 6 (some .boolean) :: ([.fieldLink RX0 19 "DangerousGoods" "barred" "[Z", .methodLink RX0 42 yX0_checkClass, .static yX0_checkClass, .initialized RX0, .code yX0_checkClass cX0_checkClass 1 none, .methodLink RX0 46 yX0_checkRange, .static yX0_checkRange, .code yX0_checkRange cX0_checkRange 3 none, .classLink RX0 114 "java/lang/IllegalArgumentException", .initialized "java/lang/IllegalArgumentException"] ++ wsX00 ++ (vx_atS RX0 118 "java/lang/IllegalArgumentException" ["java/lang/RuntimeException", "java/lang/Exception"]).filter goodWord)
def wsX0_checkPlace : List Cond := .code yX0_checkPlace cX0_checkPlace 1 none :: ([.methodLink RX0 46 yX0_checkRange, .static yX0_checkRange, .initialized RX0, .code yX0_checkRange cX0_checkRange 3 none, .classLink RX0 114 "java/lang/IllegalArgumentException", .initialized "java/lang/IllegalArgumentException"] ++ (vx_atS RX0 118 "java/lang/IllegalArgumentException" ["java/lang/RuntimeException", "java/lang/Exception"]).filter goodWord)
def wsX0_holdOf : List Cond := .code yX0_holdOf cX0_holdOf 1 (some .int) :: ([])
def wsX0_bayOf : List Cond := .code yX0_bayOf cX0_bayOf 1 (some .int) :: ([])
def wsX0_deckOf : List Cond := .code yX0_deckOf cX0_deckOf 1 (some .int) :: ([])
def wsX0_distanceBetween : List Cond := .code yX0_distanceBetween cX0_distanceBetween 4 (some .int) :: ([.methodLink RX0 131 Lib.Math.abs.name, .static Lib.Math.abs.name, .initialized "java/lang/Math", .code Lib.Math.abs.name Lib.Math.abs.code 1 (some .int), .methodLink RX0 128 yX0_holdOf, .static yX0_holdOf, .initialized RX0, .code yX0_holdOf cX0_holdOf 1 (some .int), .methodLink RX0 136 yX0_bayOf, .static yX0_bayOf, .code yX0_bayOf cX0_bayOf 1 (some .int), .methodLink RX0 139 yX0_deckOf, .static yX0_deckOf, .code yX0_deckOf cX0_deckOf 1 (some .int)])
def wsX0_distance_r1 : List Cond := [Cond.methodLink RX0 54 yX0_checkPlace, Cond.static yX0_checkPlace, Cond.initialized RX0, Cond.code yX0_checkPlace cX0_checkPlace 1 none, Cond.methodLink RX0 46 yX0_checkRange, Cond.static yX0_checkRange, Cond.code yX0_checkRange cX0_checkRange 3 none, Cond.classLink RX0 114 "java/lang/IllegalArgumentException", Cond.initialized "java/lang/IllegalArgumentException", Cond.methodLink RX0 57 yX0_distanceBetween, Cond.static yX0_distanceBetween, Cond.code yX0_distanceBetween cX0_distanceBetween 4 (some .int), Cond.methodLink RX0 131 Lib.Math.abs.name, Cond.static Lib.Math.abs.name, Cond.initialized "java/lang/Math", Cond.code Lib.Math.abs.name Lib.Math.abs.code 1 (some .int), Cond.methodLink RX0 128 yX0_holdOf, Cond.static yX0_holdOf, Cond.code yX0_holdOf cX0_holdOf 1 (some .int), Cond.methodLink RX0 136 yX0_bayOf, Cond.static yX0_bayOf, Cond.code yX0_bayOf cX0_bayOf 1 (some .int), Cond.methodLink RX0 139 yX0_deckOf, Cond.static yX0_deckOf]
def wsX0_distance_r2 : List Cond := [Cond.code yX0_deckOf cX0_deckOf 1 (some .int)]
def wsX0_distance : List Cond := .code yX0_distance cX0_distance 3 (some .int) :: ((wsX0_distance_r1 ++ wsX0_distance_r2) ++ (vx_atS RX0 118 "java/lang/IllegalArgumentException" ["java/lang/RuntimeException", "java/lang/Exception"]).filter goodWord)
def wsX0_checkSubsidiary : List Cond := .code yX0_checkSubsidiary cX0_checkSubsidiary 2 none :: ([.classLink RX0 114 "java/lang/IllegalArgumentException", .initialized "java/lang/IllegalArgumentException", .methodLink RX0 42 yX0_checkClass, .static yX0_checkClass, .initialized RX0, .code yX0_checkClass cX0_checkClass 1 none, .methodLink RX0 46 yX0_checkRange, .static yX0_checkRange, .code yX0_checkRange cX0_checkRange 3 none] ++ (vx_atS RX0 118 "java/lang/IllegalArgumentException" ["java/lang/RuntimeException", "java/lang/Exception"]).filter goodWord)
def wsX0_checkQuantity : List Cond := .code yX0_checkQuantity cX0_checkQuantity 1 none :: ([.methodLink RX0 46 yX0_checkRange, .static yX0_checkRange, .initialized RX0, .code yX0_checkRange cX0_checkRange 3 none, .classLink RX0 114 "java/lang/IllegalArgumentException", .initialized "java/lang/IllegalArgumentException"] ++ (vx_atS RX0 118 "java/lang/IllegalArgumentException" ["java/lang/RuntimeException", "java/lang/Exception"]).filter goodWord)
def wsX0_add : List Cond := .code yX0_add cX0_add 5 (some .int) :: ([.classLink RX0 67 "java/lang/IllegalStateException", .initialized "java/lang/IllegalStateException", .fieldLink RX0 35 "DangerousGoods" "count" "I", .fieldLink RX0 23 "DangerousGoods" "classes" "[I", .fieldLink RX0 26 "DangerousGoods" "subsidiaries" "[I", .fieldLink RX0 29 "DangerousGoods" "quantities" "[I", .fieldLink RX0 32 "DangerousGoods" "places" "[I", .methodLink RX0 42 yX0_checkClass, .static yX0_checkClass, .initialized RX0, .code yX0_checkClass cX0_checkClass 1 none, .methodLink RX0 46 yX0_checkRange, .static yX0_checkRange, .code yX0_checkRange cX0_checkRange 3 none, .classLink RX0 114 "java/lang/IllegalArgumentException", .initialized "java/lang/IllegalArgumentException", .methodLink RX0 60 yX0_checkSubsidiary, .static yX0_checkSubsidiary, .code yX0_checkSubsidiary cX0_checkSubsidiary 2 none, .methodLink RX0 64 yX0_checkQuantity, .static yX0_checkQuantity, .code yX0_checkQuantity cX0_checkQuantity 1 none] ++ wsX00 ++ (vx_atS RX0 71 "java/lang/IllegalStateException" ["java/lang/RuntimeException", "java/lang/Exception"]).filter goodWord ++ (vx_atS RX0 118 "java/lang/IllegalArgumentException" ["java/lang/RuntimeException", "java/lang/Exception"]).filter goodWord)
def wsX0_checkGoods : List Cond := .code yX0_checkGoods cX0_checkGoods 2 none :: ([.classLink RX0 121 "java/lang/IndexOutOfBoundsException", .initialized "java/lang/IndexOutOfBoundsException", .fieldLink RX0 35 "DangerousGoods" "count" "I"] ++ wsX00 ++ (vx_atS RX0 125 "java/lang/IndexOutOfBoundsException" ["java/lang/RuntimeException", "java/lang/Exception"]).filter goodWord)
def wsX0_setQuantity : List Cond := .code yX0_setQuantity cX0_setQuantity 4 (some .int) :: ([.fieldLink RX0 29 "DangerousGoods" "quantities" "[I", .methodLink RX0 74 yX0_checkGoods, .instanceMethod yX0_checkGoods, .selects RX0 yX0_checkGoods yX0_checkGoods, .initialized RX0, .code yX0_checkGoods cX0_checkGoods 2 none, .classLink RX0 121 "java/lang/IndexOutOfBoundsException", .initialized "java/lang/IndexOutOfBoundsException", .fieldLink RX0 35 "DangerousGoods" "count" "I", .methodLink RX0 64 yX0_checkQuantity, .static yX0_checkQuantity, .code yX0_checkQuantity cX0_checkQuantity 1 none, .methodLink RX0 46 yX0_checkRange, .static yX0_checkRange, .code yX0_checkRange cX0_checkRange 3 none, .classLink RX0 114 "java/lang/IllegalArgumentException", .initialized "java/lang/IllegalArgumentException"] ++ wsX00 ++ (vx_atS RX0 125 "java/lang/IndexOutOfBoundsException" ["java/lang/RuntimeException", "java/lang/Exception"]).filter goodWord ++ (vx_atS RX0 118 "java/lang/IllegalArgumentException" ["java/lang/RuntimeException", "java/lang/Exception"]).filter goodWord)
def wsX0_put : List Cond := .code yX0_put cX0_put 4 (some .int) :: ([.fieldLink RX0 32 "DangerousGoods" "places" "[I", .methodLink RX0 74 yX0_checkGoods, .instanceMethod yX0_checkGoods, .selects RX0 yX0_checkGoods yX0_checkGoods, .initialized RX0, .code yX0_checkGoods cX0_checkGoods 2 none, .classLink RX0 121 "java/lang/IndexOutOfBoundsException", .initialized "java/lang/IndexOutOfBoundsException", .fieldLink RX0 35 "DangerousGoods" "count" "I", .methodLink RX0 54 yX0_checkPlace, .static yX0_checkPlace, .code yX0_checkPlace cX0_checkPlace 1 none, .methodLink RX0 46 yX0_checkRange, .static yX0_checkRange, .code yX0_checkRange cX0_checkRange 3 none, .classLink RX0 114 "java/lang/IllegalArgumentException", .initialized "java/lang/IllegalArgumentException"] ++ wsX00 ++ (vx_atS RX0 125 "java/lang/IndexOutOfBoundsException" ["java/lang/RuntimeException", "java/lang/Exception"]).filter goodWord ++ (vx_atS RX0 118 "java/lang/IllegalArgumentException" ["java/lang/RuntimeException", "java/lang/Exception"]).filter goodWord)
def wsX0_goods : List Cond := .code yX0_goods cX0_goods 1 (some .int) :: ([.fieldLink RX0 35 "DangerousGoods" "count" "I"] ++ wsX00)
def wsX0_placeOf : List Cond := .code yX0_placeOf cX0_placeOf 2 (some .int) :: ([.fieldLink RX0 32 "DangerousGoods" "places" "[I", .methodLink RX0 74 yX0_checkGoods, .instanceMethod yX0_checkGoods, .selects RX0 yX0_checkGoods yX0_checkGoods, .initialized RX0, .code yX0_checkGoods cX0_checkGoods 2 none, .classLink RX0 121 "java/lang/IndexOutOfBoundsException", .initialized "java/lang/IndexOutOfBoundsException", .fieldLink RX0 35 "DangerousGoods" "count" "I"] ++ wsX00 ++ (vx_atS RX0 125 "java/lang/IndexOutOfBoundsException" ["java/lang/RuntimeException", "java/lang/Exception"]).filter goodWord)
def wsX0_areWithin : List Cond := .code yX0_areWithin cX0_areWithin 5 (some .boolean) :: ([.fieldLink RX0 29 "DangerousGoods" "quantities" "[I", .fieldLink RX0 26 "DangerousGoods" "subsidiaries" "[I", .fieldLink RX0 23 "DangerousGoods" "classes" "[I"] ++ wsX00)
def wsX0_areLimited : List Cond := .code yX0_areLimited cX0_areLimited 2 (some .boolean) :: ([.fieldLink RX0 16 "DangerousGoods" "exceptedQuantities" "[I", .fieldLink RX0 13 "DangerousGoods" "limitedQuantities" "[I", .methodLink RX0 145 yX0_areWithin, .instanceMethod yX0_areWithin, .selects RX0 yX0_areWithin yX0_areWithin, .initialized RX0, .code yX0_areWithin cX0_areWithin 5 (some .boolean), .fieldLink RX0 29 "DangerousGoods" "quantities" "[I", .fieldLink RX0 26 "DangerousGoods" "subsidiaries" "[I", .fieldLink RX0 23 "DangerousGoods" "classes" "[I"] ++ wsX00)
def wsX0_isLimited : List Cond := .code yX0_isLimited cX0_isLimited 2 (some .boolean) :: ([.methodLink RX0 74 yX0_checkGoods, .instanceMethod yX0_checkGoods, .selects RX0 yX0_checkGoods yX0_checkGoods, .initialized RX0, .code yX0_checkGoods cX0_checkGoods 2 none, .classLink RX0 121 "java/lang/IndexOutOfBoundsException", .initialized "java/lang/IndexOutOfBoundsException", .fieldLink RX0 35 "DangerousGoods" "count" "I", .methodLink RX0 77 yX0_areLimited, .instanceMethod yX0_areLimited, .selects RX0 yX0_areLimited yX0_areLimited, .code yX0_areLimited cX0_areLimited 2 (some .boolean), .fieldLink RX0 16 "DangerousGoods" "exceptedQuantities" "[I", .fieldLink RX0 13 "DangerousGoods" "limitedQuantities" "[I", .methodLink RX0 145 yX0_areWithin, .instanceMethod yX0_areWithin, .selects RX0 yX0_areWithin yX0_areWithin, .code yX0_areWithin cX0_areWithin 5 (some .boolean), .fieldLink RX0 29 "DangerousGoods" "quantities" "[I", .fieldLink RX0 26 "DangerousGoods" "subsidiaries" "[I", .fieldLink RX0 23 "DangerousGoods" "classes" "[I"] ++ wsX00 ++ (vx_atS RX0 125 "java/lang/IndexOutOfBoundsException" ["java/lang/RuntimeException", "java/lang/Exception"]).filter goodWord)
def wsX0_areExcepted : List Cond := .code yX0_areExcepted cX0_areExcepted 2 (some .boolean) :: ([.fieldLink RX0 16 "DangerousGoods" "exceptedQuantities" "[I", .methodLink RX0 145 yX0_areWithin, .instanceMethod yX0_areWithin, .selects RX0 yX0_areWithin yX0_areWithin, .initialized RX0, .code yX0_areWithin cX0_areWithin 5 (some .boolean), .fieldLink RX0 29 "DangerousGoods" "quantities" "[I", .fieldLink RX0 26 "DangerousGoods" "subsidiaries" "[I", .fieldLink RX0 23 "DangerousGoods" "classes" "[I"] ++ wsX00)
def wsX0_isExcepted : List Cond := .code yX0_isExcepted cX0_isExcepted 2 (some .boolean) :: ([.methodLink RX0 74 yX0_checkGoods, .instanceMethod yX0_checkGoods, .selects RX0 yX0_checkGoods yX0_checkGoods, .initialized RX0, .code yX0_checkGoods cX0_checkGoods 2 none, .classLink RX0 121 "java/lang/IndexOutOfBoundsException", .initialized "java/lang/IndexOutOfBoundsException", .fieldLink RX0 35 "DangerousGoods" "count" "I", .methodLink RX0 81 yX0_areExcepted, .instanceMethod yX0_areExcepted, .selects RX0 yX0_areExcepted yX0_areExcepted, .code yX0_areExcepted cX0_areExcepted 2 (some .boolean), .fieldLink RX0 16 "DangerousGoods" "exceptedQuantities" "[I", .methodLink RX0 145 yX0_areWithin, .instanceMethod yX0_areWithin, .selects RX0 yX0_areWithin yX0_areWithin, .code yX0_areWithin cX0_areWithin 5 (some .boolean), .fieldLink RX0 29 "DangerousGoods" "quantities" "[I", .fieldLink RX0 26 "DangerousGoods" "subsidiaries" "[I", .fieldLink RX0 23 "DangerousGoods" "classes" "[I"] ++ wsX00 ++ (vx_atS RX0 125 "java/lang/IndexOutOfBoundsException" ["java/lang/RuntimeException", "java/lang/Exception"]).filter goodWord)
def wsX0_checkPair : List Cond := .code yX0_checkPair cX0_checkPair 3 none :: ([.classLink RX0 114 "java/lang/IllegalArgumentException", .initialized "java/lang/IllegalArgumentException", .methodLink RX0 74 yX0_checkGoods, .instanceMethod yX0_checkGoods, .selects RX0 yX0_checkGoods yX0_checkGoods, .initialized RX0, .code yX0_checkGoods cX0_checkGoods 2 none, .classLink RX0 121 "java/lang/IndexOutOfBoundsException", .initialized "java/lang/IndexOutOfBoundsException", .fieldLink RX0 35 "DangerousGoods" "count" "I"] ++ wsX00 ++ (vx_atS RX0 118 "java/lang/IllegalArgumentException" ["java/lang/RuntimeException", "java/lang/Exception"]).filter goodWord ++ (vx_atS RX0 125 "java/lang/IndexOutOfBoundsException" ["java/lang/RuntimeException", "java/lang/Exception"]).filter goodWord)
def wsX0_greatestTableDistance : List Cond := .code yX0_greatestTableDistance cX0_greatestTableDistance 5 (some .int) :: ([.fieldLink RX0 23 "DangerousGoods" "classes" "[I", .fieldLink RX0 26 "DangerousGoods" "subsidiaries" "[I", .methodLink RX0 142 Lib.Math.max.name, .static Lib.Math.max.name, .initialized "java/lang/Math", .code Lib.Math.max.name Lib.Math.max.code 2 (some .int), .methodLink RX0 50 yX0_tableDistance, .instanceMethod yX0_tableDistance, .selects RX0 yX0_tableDistance yX0_tableDistance, .initialized RX0, .code yX0_tableDistance cX0_tableDistance 3 (some .int), .fieldLink RX0 9 "DangerousGoods" "table" "[I"] ++ wsX00)
def wsX0_needOf_r1 : List Cond := [Cond.methodLink RX0 142 Lib.Math.max.name, Cond.static Lib.Math.max.name, Cond.initialized "java/lang/Math", Cond.code Lib.Math.max.name Lib.Math.max.code 2 (some .int), Cond.methodLink RX0 81 yX0_areExcepted, Cond.instanceMethod yX0_areExcepted, Cond.selects RX0 yX0_areExcepted yX0_areExcepted, Cond.initialized RX0, Cond.code yX0_areExcepted cX0_areExcepted 2 (some .boolean), Cond.fieldLink RX0 16 "DangerousGoods" "exceptedQuantities" "[I", Cond.methodLink RX0 145 yX0_areWithin, Cond.instanceMethod yX0_areWithin, Cond.selects RX0 yX0_areWithin yX0_areWithin, Cond.code yX0_areWithin cX0_areWithin 5 (some .boolean), Cond.fieldLink RX0 29 "DangerousGoods" "quantities" "[I", Cond.fieldLink RX0 26 "DangerousGoods" "subsidiaries" "[I", Cond.fieldLink RX0 23 "DangerousGoods" "classes" "[I", Cond.methodLink RX0 149 yX0_greatestTableDistance, Cond.instanceMethod yX0_greatestTableDistance, Cond.selects RX0 yX0_greatestTableDistance yX0_greatestTableDistance, Cond.code yX0_greatestTableDistance cX0_greatestTableDistance 5 (some .int), Cond.methodLink RX0 50 yX0_tableDistance, Cond.instanceMethod yX0_tableDistance, Cond.selects RX0 yX0_tableDistance yX0_tableDistance]
def wsX0_needOf_r2 : List Cond := [Cond.code yX0_tableDistance cX0_tableDistance 3 (some .int), Cond.fieldLink RX0 9 "DangerousGoods" "table" "[I", Cond.methodLink RX0 77 yX0_areLimited, Cond.instanceMethod yX0_areLimited, Cond.selects RX0 yX0_areLimited yX0_areLimited, Cond.code yX0_areLimited cX0_areLimited 2 (some .boolean), Cond.fieldLink RX0 13 "DangerousGoods" "limitedQuantities" "[I"]
def wsX0_needOf : List Cond := .code yX0_needOf cX0_needOf 4 (some .int) :: ((wsX0_needOf_r1 ++ wsX0_needOf_r2) ++ wsX00)
def wsX0_need_r1 : List Cond := [Cond.methodLink RX0 84 yX0_checkPair, Cond.instanceMethod yX0_checkPair, Cond.selects RX0 yX0_checkPair yX0_checkPair, Cond.initialized RX0, Cond.code yX0_checkPair cX0_checkPair 3 none, Cond.classLink RX0 114 "java/lang/IllegalArgumentException", Cond.initialized "java/lang/IllegalArgumentException", Cond.methodLink RX0 74 yX0_checkGoods, Cond.instanceMethod yX0_checkGoods, Cond.selects RX0 yX0_checkGoods yX0_checkGoods, Cond.code yX0_checkGoods cX0_checkGoods 2 none, Cond.classLink RX0 121 "java/lang/IndexOutOfBoundsException", Cond.initialized "java/lang/IndexOutOfBoundsException", Cond.fieldLink RX0 35 "DangerousGoods" "count" "I", Cond.methodLink RX0 87 yX0_needOf, Cond.instanceMethod yX0_needOf, Cond.selects RX0 yX0_needOf yX0_needOf, Cond.code yX0_needOf cX0_needOf 4 (some .int), Cond.methodLink RX0 142 Lib.Math.max.name, Cond.static Lib.Math.max.name, Cond.initialized "java/lang/Math", Cond.code Lib.Math.max.name Lib.Math.max.code 2 (some .int), Cond.methodLink RX0 81 yX0_areExcepted, Cond.instanceMethod yX0_areExcepted]
def wsX0_need_r2 : List Cond := [Cond.selects RX0 yX0_areExcepted yX0_areExcepted, Cond.code yX0_areExcepted cX0_areExcepted 2 (some .boolean), Cond.fieldLink RX0 16 "DangerousGoods" "exceptedQuantities" "[I", Cond.methodLink RX0 145 yX0_areWithin, Cond.instanceMethod yX0_areWithin, Cond.selects RX0 yX0_areWithin yX0_areWithin, Cond.code yX0_areWithin cX0_areWithin 5 (some .boolean), Cond.fieldLink RX0 29 "DangerousGoods" "quantities" "[I", Cond.fieldLink RX0 26 "DangerousGoods" "subsidiaries" "[I", Cond.fieldLink RX0 23 "DangerousGoods" "classes" "[I", Cond.methodLink RX0 149 yX0_greatestTableDistance, Cond.instanceMethod yX0_greatestTableDistance, Cond.selects RX0 yX0_greatestTableDistance yX0_greatestTableDistance, Cond.code yX0_greatestTableDistance cX0_greatestTableDistance 5 (some .int), Cond.methodLink RX0 50 yX0_tableDistance, Cond.instanceMethod yX0_tableDistance, Cond.selects RX0 yX0_tableDistance yX0_tableDistance, Cond.code yX0_tableDistance cX0_tableDistance 3 (some .int), Cond.fieldLink RX0 9 "DangerousGoods" "table" "[I", Cond.methodLink RX0 77 yX0_areLimited, Cond.instanceMethod yX0_areLimited, Cond.selects RX0 yX0_areLimited yX0_areLimited, Cond.code yX0_areLimited cX0_areLimited 2 (some .boolean), Cond.fieldLink RX0 13 "DangerousGoods" "limitedQuantities" "[I"]
def wsX0_need : List Cond := .code yX0_need cX0_need 3 (some .int) :: ((wsX0_need_r1 ++ wsX0_need_r2) ++ wsX00 ++ (vx_atS RX0 118 "java/lang/IllegalArgumentException" ["java/lang/RuntimeException", "java/lang/Exception"]).filter goodWord ++ (vx_atS RX0 125 "java/lang/IndexOutOfBoundsException" ["java/lang/RuntimeException", "java/lang/Exception"]).filter goodWord)
def wsX0_wouldBreach_r1 : List Cond := [Cond.fieldLink RX0 32 "DangerousGoods" "places" "[I", Cond.methodLink RX0 57 yX0_distanceBetween, Cond.static yX0_distanceBetween, Cond.initialized RX0, Cond.code yX0_distanceBetween cX0_distanceBetween 4 (some .int), Cond.methodLink RX0 131 Lib.Math.abs.name, Cond.static Lib.Math.abs.name, Cond.initialized "java/lang/Math", Cond.code Lib.Math.abs.name Lib.Math.abs.code 1 (some .int), Cond.methodLink RX0 128 yX0_holdOf, Cond.static yX0_holdOf, Cond.code yX0_holdOf cX0_holdOf 1 (some .int), Cond.methodLink RX0 136 yX0_bayOf, Cond.static yX0_bayOf, Cond.code yX0_bayOf cX0_bayOf 1 (some .int), Cond.methodLink RX0 139 yX0_deckOf, Cond.static yX0_deckOf, Cond.code yX0_deckOf cX0_deckOf 1 (some .int), Cond.methodLink RX0 87 yX0_needOf, Cond.instanceMethod yX0_needOf, Cond.selects RX0 yX0_needOf yX0_needOf, Cond.code yX0_needOf cX0_needOf 4 (some .int), Cond.methodLink RX0 142 Lib.Math.max.name, Cond.static Lib.Math.max.name]
def wsX0_wouldBreach_r2 : List Cond := [Cond.code Lib.Math.max.name Lib.Math.max.code 2 (some .int), Cond.methodLink RX0 81 yX0_areExcepted, Cond.instanceMethod yX0_areExcepted, Cond.selects RX0 yX0_areExcepted yX0_areExcepted, Cond.code yX0_areExcepted cX0_areExcepted 2 (some .boolean), Cond.fieldLink RX0 16 "DangerousGoods" "exceptedQuantities" "[I", Cond.methodLink RX0 145 yX0_areWithin, Cond.instanceMethod yX0_areWithin, Cond.selects RX0 yX0_areWithin yX0_areWithin, Cond.code yX0_areWithin cX0_areWithin 5 (some .boolean), Cond.fieldLink RX0 29 "DangerousGoods" "quantities" "[I", Cond.fieldLink RX0 26 "DangerousGoods" "subsidiaries" "[I", Cond.fieldLink RX0 23 "DangerousGoods" "classes" "[I", Cond.methodLink RX0 149 yX0_greatestTableDistance, Cond.instanceMethod yX0_greatestTableDistance, Cond.selects RX0 yX0_greatestTableDistance yX0_greatestTableDistance, Cond.code yX0_greatestTableDistance cX0_greatestTableDistance 5 (some .int), Cond.methodLink RX0 50 yX0_tableDistance, Cond.instanceMethod yX0_tableDistance, Cond.selects RX0 yX0_tableDistance yX0_tableDistance, Cond.code yX0_tableDistance cX0_tableDistance 3 (some .int), Cond.fieldLink RX0 9 "DangerousGoods" "table" "[I", Cond.methodLink RX0 77 yX0_areLimited, Cond.instanceMethod yX0_areLimited]
def wsX0_wouldBreach_r3 : List Cond := [Cond.selects RX0 yX0_areLimited yX0_areLimited, Cond.code yX0_areLimited cX0_areLimited 2 (some .boolean), Cond.fieldLink RX0 13 "DangerousGoods" "limitedQuantities" "[I"]
def wsX0_wouldBreach : List Cond := .code yX0_wouldBreach cX0_wouldBreach 4 (some .boolean) :: ((wsX0_wouldBreach_r1 ++ (wsX0_wouldBreach_r2 ++ wsX0_wouldBreach_r3)) ++ wsX00)
def wsX0_areInBreach_r1 : List Cond := [Cond.fieldLink RX0 32 "DangerousGoods" "places" "[I", Cond.methodLink RX0 84 yX0_checkPair, Cond.instanceMethod yX0_checkPair, Cond.selects RX0 yX0_checkPair yX0_checkPair, Cond.initialized RX0, Cond.code yX0_checkPair cX0_checkPair 3 none, Cond.classLink RX0 114 "java/lang/IllegalArgumentException", Cond.initialized "java/lang/IllegalArgumentException", Cond.methodLink RX0 74 yX0_checkGoods, Cond.instanceMethod yX0_checkGoods, Cond.selects RX0 yX0_checkGoods yX0_checkGoods, Cond.code yX0_checkGoods cX0_checkGoods 2 none, Cond.classLink RX0 121 "java/lang/IndexOutOfBoundsException", Cond.initialized "java/lang/IndexOutOfBoundsException", Cond.fieldLink RX0 35 "DangerousGoods" "count" "I", Cond.methodLink RX0 90 yX0_wouldBreach, Cond.instanceMethod yX0_wouldBreach, Cond.selects RX0 yX0_wouldBreach yX0_wouldBreach, Cond.code yX0_wouldBreach cX0_wouldBreach 4 (some .boolean), Cond.methodLink RX0 57 yX0_distanceBetween, Cond.static yX0_distanceBetween, Cond.code yX0_distanceBetween cX0_distanceBetween 4 (some .int), Cond.methodLink RX0 131 Lib.Math.abs.name, Cond.static Lib.Math.abs.name]
def wsX0_areInBreach_r2 : List Cond := [Cond.initialized "java/lang/Math", Cond.code Lib.Math.abs.name Lib.Math.abs.code 1 (some .int), Cond.methodLink RX0 128 yX0_holdOf, Cond.static yX0_holdOf, Cond.code yX0_holdOf cX0_holdOf 1 (some .int), Cond.methodLink RX0 136 yX0_bayOf, Cond.static yX0_bayOf, Cond.code yX0_bayOf cX0_bayOf 1 (some .int), Cond.methodLink RX0 139 yX0_deckOf, Cond.static yX0_deckOf, Cond.code yX0_deckOf cX0_deckOf 1 (some .int), Cond.methodLink RX0 87 yX0_needOf, Cond.instanceMethod yX0_needOf, Cond.selects RX0 yX0_needOf yX0_needOf, Cond.code yX0_needOf cX0_needOf 4 (some .int), Cond.methodLink RX0 142 Lib.Math.max.name, Cond.static Lib.Math.max.name, Cond.code Lib.Math.max.name Lib.Math.max.code 2 (some .int), Cond.methodLink RX0 81 yX0_areExcepted, Cond.instanceMethod yX0_areExcepted, Cond.selects RX0 yX0_areExcepted yX0_areExcepted, Cond.code yX0_areExcepted cX0_areExcepted 2 (some .boolean), Cond.fieldLink RX0 16 "DangerousGoods" "exceptedQuantities" "[I", Cond.methodLink RX0 145 yX0_areWithin]
def wsX0_areInBreach_r3 : List Cond := [Cond.instanceMethod yX0_areWithin, Cond.selects RX0 yX0_areWithin yX0_areWithin, Cond.code yX0_areWithin cX0_areWithin 5 (some .boolean), Cond.fieldLink RX0 29 "DangerousGoods" "quantities" "[I", Cond.fieldLink RX0 26 "DangerousGoods" "subsidiaries" "[I", Cond.fieldLink RX0 23 "DangerousGoods" "classes" "[I", Cond.methodLink RX0 149 yX0_greatestTableDistance, Cond.instanceMethod yX0_greatestTableDistance, Cond.selects RX0 yX0_greatestTableDistance yX0_greatestTableDistance, Cond.code yX0_greatestTableDistance cX0_greatestTableDistance 5 (some .int), Cond.methodLink RX0 50 yX0_tableDistance, Cond.instanceMethod yX0_tableDistance, Cond.selects RX0 yX0_tableDistance yX0_tableDistance, Cond.code yX0_tableDistance cX0_tableDistance 3 (some .int), Cond.fieldLink RX0 9 "DangerousGoods" "table" "[I", Cond.methodLink RX0 77 yX0_areLimited, Cond.instanceMethod yX0_areLimited, Cond.selects RX0 yX0_areLimited yX0_areLimited, Cond.code yX0_areLimited cX0_areLimited 2 (some .boolean), Cond.fieldLink RX0 13 "DangerousGoods" "limitedQuantities" "[I"]
def wsX0_areInBreach : List Cond := .code yX0_areInBreach cX0_areInBreach 3 (some .boolean) :: ((wsX0_areInBreach_r1 ++ (wsX0_areInBreach_r2 ++ wsX0_areInBreach_r3)) ++ wsX00 ++ (vx_atS RX0 118 "java/lang/IllegalArgumentException" ["java/lang/RuntimeException", "java/lang/Exception"]).filter goodWord ++ (vx_atS RX0 125 "java/lang/IndexOutOfBoundsException" ["java/lang/RuntimeException", "java/lang/Exception"]).filter goodWord)
def wsX0_isBarredFrom : List Cond := .code yX0_isBarredFrom cX0_isBarredFrom 3 (some .boolean) :: ([.fieldLink RX0 19 "DangerousGoods" "barred" "[Z"] ++ wsX00)
def wsX0_wouldBeMisplaced : List Cond := .code yX0_wouldBeMisplaced cX0_wouldBeMisplaced 4 (some .boolean) :: ([.fieldLink RX0 23 "DangerousGoods" "classes" "[I", .fieldLink RX0 26 "DangerousGoods" "subsidiaries" "[I", .methodLink RX0 81 yX0_areExcepted, .instanceMethod yX0_areExcepted, .selects RX0 yX0_areExcepted yX0_areExcepted, .initialized RX0, .code yX0_areExcepted cX0_areExcepted 2 (some .boolean), .fieldLink RX0 16 "DangerousGoods" "exceptedQuantities" "[I", .methodLink RX0 145 yX0_areWithin, .instanceMethod yX0_areWithin, .selects RX0 yX0_areWithin yX0_areWithin, .code yX0_areWithin cX0_areWithin 5 (some .boolean), .fieldLink RX0 29 "DangerousGoods" "quantities" "[I", .methodLink RX0 139 yX0_deckOf, .static yX0_deckOf, .code yX0_deckOf cX0_deckOf 1 (some .int), .methodLink RX0 152 yX0_isBarredFrom, .instanceMethod yX0_isBarredFrom, .selects RX0 yX0_isBarredFrom yX0_isBarredFrom, .code yX0_isBarredFrom cX0_isBarredFrom 3 (some .boolean), .fieldLink RX0 19 "DangerousGoods" "barred" "[Z"] ++ wsX00)
def wsX0_isMisplaced_r1 : List Cond := [Cond.fieldLink RX0 32 "DangerousGoods" "places" "[I", Cond.methodLink RX0 74 yX0_checkGoods, Cond.instanceMethod yX0_checkGoods, Cond.selects RX0 yX0_checkGoods yX0_checkGoods, Cond.initialized RX0, Cond.code yX0_checkGoods cX0_checkGoods 2 none, Cond.classLink RX0 121 "java/lang/IndexOutOfBoundsException", Cond.initialized "java/lang/IndexOutOfBoundsException", Cond.fieldLink RX0 35 "DangerousGoods" "count" "I", Cond.methodLink RX0 94 yX0_wouldBeMisplaced, Cond.instanceMethod yX0_wouldBeMisplaced, Cond.selects RX0 yX0_wouldBeMisplaced yX0_wouldBeMisplaced, Cond.code yX0_wouldBeMisplaced cX0_wouldBeMisplaced 4 (some .boolean), Cond.fieldLink RX0 23 "DangerousGoods" "classes" "[I", Cond.fieldLink RX0 26 "DangerousGoods" "subsidiaries" "[I", Cond.methodLink RX0 81 yX0_areExcepted, Cond.instanceMethod yX0_areExcepted, Cond.selects RX0 yX0_areExcepted yX0_areExcepted, Cond.code yX0_areExcepted cX0_areExcepted 2 (some .boolean), Cond.fieldLink RX0 16 "DangerousGoods" "exceptedQuantities" "[I", Cond.methodLink RX0 145 yX0_areWithin, Cond.instanceMethod yX0_areWithin, Cond.selects RX0 yX0_areWithin yX0_areWithin, Cond.code yX0_areWithin cX0_areWithin 5 (some .boolean)]
def wsX0_isMisplaced_r2 : List Cond := [Cond.fieldLink RX0 29 "DangerousGoods" "quantities" "[I", Cond.methodLink RX0 139 yX0_deckOf, Cond.static yX0_deckOf, Cond.code yX0_deckOf cX0_deckOf 1 (some .int), Cond.methodLink RX0 152 yX0_isBarredFrom, Cond.instanceMethod yX0_isBarredFrom, Cond.selects RX0 yX0_isBarredFrom yX0_isBarredFrom, Cond.code yX0_isBarredFrom cX0_isBarredFrom 3 (some .boolean), Cond.fieldLink RX0 19 "DangerousGoods" "barred" "[Z"]
def wsX0_isMisplaced : List Cond := .code yX0_isMisplaced cX0_isMisplaced 2 (some .boolean) :: ((wsX0_isMisplaced_r1 ++ wsX0_isMisplaced_r2) ++ wsX00 ++ (vx_atS RX0 125 "java/lang/IndexOutOfBoundsException" ["java/lang/RuntimeException", "java/lang/Exception"]).filter goodWord)
def wsX0_breaches_r1 : List Cond := [Cond.fieldLink RX0 35 "DangerousGoods" "count" "I", Cond.fieldLink RX0 32 "DangerousGoods" "places" "[I", Cond.methodLink RX0 90 yX0_wouldBreach, Cond.instanceMethod yX0_wouldBreach, Cond.selects RX0 yX0_wouldBreach yX0_wouldBreach, Cond.initialized RX0, Cond.code yX0_wouldBreach cX0_wouldBreach 4 (some .boolean), Cond.methodLink RX0 57 yX0_distanceBetween, Cond.static yX0_distanceBetween, Cond.code yX0_distanceBetween cX0_distanceBetween 4 (some .int), Cond.methodLink RX0 131 Lib.Math.abs.name, Cond.static Lib.Math.abs.name, Cond.initialized "java/lang/Math", Cond.code Lib.Math.abs.name Lib.Math.abs.code 1 (some .int), Cond.methodLink RX0 128 yX0_holdOf, Cond.static yX0_holdOf, Cond.code yX0_holdOf cX0_holdOf 1 (some .int), Cond.methodLink RX0 136 yX0_bayOf, Cond.static yX0_bayOf, Cond.code yX0_bayOf cX0_bayOf 1 (some .int), Cond.methodLink RX0 139 yX0_deckOf, Cond.static yX0_deckOf, Cond.code yX0_deckOf cX0_deckOf 1 (some .int), Cond.methodLink RX0 87 yX0_needOf]
def wsX0_breaches_r2 : List Cond := [Cond.instanceMethod yX0_needOf, Cond.selects RX0 yX0_needOf yX0_needOf, Cond.code yX0_needOf cX0_needOf 4 (some .int), Cond.methodLink RX0 142 Lib.Math.max.name, Cond.static Lib.Math.max.name, Cond.code Lib.Math.max.name Lib.Math.max.code 2 (some .int), Cond.methodLink RX0 81 yX0_areExcepted, Cond.instanceMethod yX0_areExcepted, Cond.selects RX0 yX0_areExcepted yX0_areExcepted, Cond.code yX0_areExcepted cX0_areExcepted 2 (some .boolean), Cond.fieldLink RX0 16 "DangerousGoods" "exceptedQuantities" "[I", Cond.methodLink RX0 145 yX0_areWithin, Cond.instanceMethod yX0_areWithin, Cond.selects RX0 yX0_areWithin yX0_areWithin, Cond.code yX0_areWithin cX0_areWithin 5 (some .boolean), Cond.fieldLink RX0 29 "DangerousGoods" "quantities" "[I", Cond.fieldLink RX0 26 "DangerousGoods" "subsidiaries" "[I", Cond.fieldLink RX0 23 "DangerousGoods" "classes" "[I", Cond.methodLink RX0 149 yX0_greatestTableDistance, Cond.instanceMethod yX0_greatestTableDistance, Cond.selects RX0 yX0_greatestTableDistance yX0_greatestTableDistance, Cond.code yX0_greatestTableDistance cX0_greatestTableDistance 5 (some .int), Cond.methodLink RX0 50 yX0_tableDistance, Cond.instanceMethod yX0_tableDistance]
def wsX0_breaches_r3 : List Cond := [Cond.selects RX0 yX0_tableDistance yX0_tableDistance, Cond.code yX0_tableDistance cX0_tableDistance 3 (some .int), Cond.fieldLink RX0 9 "DangerousGoods" "table" "[I", Cond.methodLink RX0 77 yX0_areLimited, Cond.instanceMethod yX0_areLimited, Cond.selects RX0 yX0_areLimited yX0_areLimited, Cond.code yX0_areLimited cX0_areLimited 2 (some .boolean), Cond.fieldLink RX0 13 "DangerousGoods" "limitedQuantities" "[I"]
def wsX0_breaches : List Cond := .code yX0_breaches cX0_breaches 4 (some .int) :: ((wsX0_breaches_r1 ++ (wsX0_breaches_r2 ++ wsX0_breaches_r3)) ++ wsX00)
def wsX0_breachesAt_r1 : List Cond := [Cond.fieldLink RX0 35 "DangerousGoods" "count" "I", Cond.methodLink RX0 90 yX0_wouldBreach, Cond.instanceMethod yX0_wouldBreach, Cond.selects RX0 yX0_wouldBreach yX0_wouldBreach, Cond.initialized RX0, Cond.code yX0_wouldBreach cX0_wouldBreach 4 (some .boolean), Cond.fieldLink RX0 32 "DangerousGoods" "places" "[I", Cond.methodLink RX0 57 yX0_distanceBetween, Cond.static yX0_distanceBetween, Cond.code yX0_distanceBetween cX0_distanceBetween 4 (some .int), Cond.methodLink RX0 131 Lib.Math.abs.name, Cond.static Lib.Math.abs.name, Cond.initialized "java/lang/Math", Cond.code Lib.Math.abs.name Lib.Math.abs.code 1 (some .int), Cond.methodLink RX0 128 yX0_holdOf, Cond.static yX0_holdOf, Cond.code yX0_holdOf cX0_holdOf 1 (some .int), Cond.methodLink RX0 136 yX0_bayOf, Cond.static yX0_bayOf, Cond.code yX0_bayOf cX0_bayOf 1 (some .int), Cond.methodLink RX0 139 yX0_deckOf, Cond.static yX0_deckOf, Cond.code yX0_deckOf cX0_deckOf 1 (some .int), Cond.methodLink RX0 87 yX0_needOf]
def wsX0_breachesAt_r2 : List Cond := [Cond.instanceMethod yX0_needOf, Cond.selects RX0 yX0_needOf yX0_needOf, Cond.code yX0_needOf cX0_needOf 4 (some .int), Cond.methodLink RX0 142 Lib.Math.max.name, Cond.static Lib.Math.max.name, Cond.code Lib.Math.max.name Lib.Math.max.code 2 (some .int), Cond.methodLink RX0 81 yX0_areExcepted, Cond.instanceMethod yX0_areExcepted, Cond.selects RX0 yX0_areExcepted yX0_areExcepted, Cond.code yX0_areExcepted cX0_areExcepted 2 (some .boolean), Cond.fieldLink RX0 16 "DangerousGoods" "exceptedQuantities" "[I", Cond.methodLink RX0 145 yX0_areWithin, Cond.instanceMethod yX0_areWithin, Cond.selects RX0 yX0_areWithin yX0_areWithin, Cond.code yX0_areWithin cX0_areWithin 5 (some .boolean), Cond.fieldLink RX0 29 "DangerousGoods" "quantities" "[I", Cond.fieldLink RX0 26 "DangerousGoods" "subsidiaries" "[I", Cond.fieldLink RX0 23 "DangerousGoods" "classes" "[I", Cond.methodLink RX0 149 yX0_greatestTableDistance, Cond.instanceMethod yX0_greatestTableDistance, Cond.selects RX0 yX0_greatestTableDistance yX0_greatestTableDistance, Cond.code yX0_greatestTableDistance cX0_greatestTableDistance 5 (some .int), Cond.methodLink RX0 50 yX0_tableDistance, Cond.instanceMethod yX0_tableDistance]
def wsX0_breachesAt_r3 : List Cond := [Cond.selects RX0 yX0_tableDistance yX0_tableDistance, Cond.code yX0_tableDistance cX0_tableDistance 3 (some .int), Cond.fieldLink RX0 9 "DangerousGoods" "table" "[I", Cond.methodLink RX0 77 yX0_areLimited, Cond.instanceMethod yX0_areLimited, Cond.selects RX0 yX0_areLimited yX0_areLimited, Cond.code yX0_areLimited cX0_areLimited 2 (some .boolean), Cond.fieldLink RX0 13 "DangerousGoods" "limitedQuantities" "[I"]
def wsX0_breachesAt : List Cond := .code yX0_breachesAt cX0_breachesAt 5 (some .int) :: ((wsX0_breachesAt_r1 ++ (wsX0_breachesAt_r2 ++ wsX0_breachesAt_r3)) ++ wsX00)
def wsX0_inBreachWith_r1 : List Cond := [Cond.fieldLink RX0 32 "DangerousGoods" "places" "[I", Cond.methodLink RX0 74 yX0_checkGoods, Cond.instanceMethod yX0_checkGoods, Cond.selects RX0 yX0_checkGoods yX0_checkGoods, Cond.initialized RX0, Cond.code yX0_checkGoods cX0_checkGoods 2 none, Cond.classLink RX0 121 "java/lang/IndexOutOfBoundsException", Cond.initialized "java/lang/IndexOutOfBoundsException", Cond.fieldLink RX0 35 "DangerousGoods" "count" "I", Cond.methodLink RX0 98 yX0_breachesAt, Cond.instanceMethod yX0_breachesAt, Cond.selects RX0 yX0_breachesAt yX0_breachesAt, Cond.code yX0_breachesAt cX0_breachesAt 5 (some .int), Cond.methodLink RX0 90 yX0_wouldBreach, Cond.instanceMethod yX0_wouldBreach, Cond.selects RX0 yX0_wouldBreach yX0_wouldBreach, Cond.code yX0_wouldBreach cX0_wouldBreach 4 (some .boolean), Cond.methodLink RX0 57 yX0_distanceBetween, Cond.static yX0_distanceBetween, Cond.code yX0_distanceBetween cX0_distanceBetween 4 (some .int), Cond.methodLink RX0 131 Lib.Math.abs.name, Cond.static Lib.Math.abs.name, Cond.initialized "java/lang/Math", Cond.code Lib.Math.abs.name Lib.Math.abs.code 1 (some .int)]
def wsX0_inBreachWith_r2 : List Cond := [Cond.methodLink RX0 128 yX0_holdOf, Cond.static yX0_holdOf, Cond.code yX0_holdOf cX0_holdOf 1 (some .int), Cond.methodLink RX0 136 yX0_bayOf, Cond.static yX0_bayOf, Cond.code yX0_bayOf cX0_bayOf 1 (some .int), Cond.methodLink RX0 139 yX0_deckOf, Cond.static yX0_deckOf, Cond.code yX0_deckOf cX0_deckOf 1 (some .int), Cond.methodLink RX0 87 yX0_needOf, Cond.instanceMethod yX0_needOf, Cond.selects RX0 yX0_needOf yX0_needOf, Cond.code yX0_needOf cX0_needOf 4 (some .int), Cond.methodLink RX0 142 Lib.Math.max.name, Cond.static Lib.Math.max.name, Cond.code Lib.Math.max.name Lib.Math.max.code 2 (some .int), Cond.methodLink RX0 81 yX0_areExcepted, Cond.instanceMethod yX0_areExcepted, Cond.selects RX0 yX0_areExcepted yX0_areExcepted, Cond.code yX0_areExcepted cX0_areExcepted 2 (some .boolean), Cond.fieldLink RX0 16 "DangerousGoods" "exceptedQuantities" "[I", Cond.methodLink RX0 145 yX0_areWithin, Cond.instanceMethod yX0_areWithin, Cond.selects RX0 yX0_areWithin yX0_areWithin]
def wsX0_inBreachWith_r3 : List Cond := [Cond.code yX0_areWithin cX0_areWithin 5 (some .boolean), Cond.fieldLink RX0 29 "DangerousGoods" "quantities" "[I", Cond.fieldLink RX0 26 "DangerousGoods" "subsidiaries" "[I", Cond.fieldLink RX0 23 "DangerousGoods" "classes" "[I", Cond.methodLink RX0 149 yX0_greatestTableDistance, Cond.instanceMethod yX0_greatestTableDistance, Cond.selects RX0 yX0_greatestTableDistance yX0_greatestTableDistance, Cond.code yX0_greatestTableDistance cX0_greatestTableDistance 5 (some .int), Cond.methodLink RX0 50 yX0_tableDistance, Cond.instanceMethod yX0_tableDistance, Cond.selects RX0 yX0_tableDistance yX0_tableDistance, Cond.code yX0_tableDistance cX0_tableDistance 3 (some .int), Cond.fieldLink RX0 9 "DangerousGoods" "table" "[I", Cond.methodLink RX0 77 yX0_areLimited, Cond.instanceMethod yX0_areLimited, Cond.selects RX0 yX0_areLimited yX0_areLimited, Cond.code yX0_areLimited cX0_areLimited 2 (some .boolean), Cond.fieldLink RX0 13 "DangerousGoods" "limitedQuantities" "[I"]
def wsX0_inBreachWith : List Cond := .code yX0_inBreachWith cX0_inBreachWith 2 (some .int) :: ((wsX0_inBreachWith_r1 ++ (wsX0_inBreachWith_r2 ++ wsX0_inBreachWith_r3)) ++ wsX00 ++ (vx_atS RX0 125 "java/lang/IndexOutOfBoundsException" ["java/lang/RuntimeException", "java/lang/Exception"]).filter goodWord)
def wsX0_wouldBeClean_r1 : List Cond := [Cond.methodLink RX0 94 yX0_wouldBeMisplaced, Cond.instanceMethod yX0_wouldBeMisplaced, Cond.selects RX0 yX0_wouldBeMisplaced yX0_wouldBeMisplaced, Cond.initialized RX0, Cond.code yX0_wouldBeMisplaced cX0_wouldBeMisplaced 4 (some .boolean), Cond.fieldLink RX0 23 "DangerousGoods" "classes" "[I", Cond.fieldLink RX0 26 "DangerousGoods" "subsidiaries" "[I", Cond.methodLink RX0 81 yX0_areExcepted, Cond.instanceMethod yX0_areExcepted, Cond.selects RX0 yX0_areExcepted yX0_areExcepted, Cond.code yX0_areExcepted cX0_areExcepted 2 (some .boolean), Cond.fieldLink RX0 16 "DangerousGoods" "exceptedQuantities" "[I", Cond.methodLink RX0 145 yX0_areWithin, Cond.instanceMethod yX0_areWithin, Cond.selects RX0 yX0_areWithin yX0_areWithin, Cond.code yX0_areWithin cX0_areWithin 5 (some .boolean), Cond.fieldLink RX0 29 "DangerousGoods" "quantities" "[I", Cond.methodLink RX0 139 yX0_deckOf, Cond.static yX0_deckOf, Cond.code yX0_deckOf cX0_deckOf 1 (some .int), Cond.methodLink RX0 152 yX0_isBarredFrom, Cond.instanceMethod yX0_isBarredFrom, Cond.selects RX0 yX0_isBarredFrom yX0_isBarredFrom, Cond.code yX0_isBarredFrom cX0_isBarredFrom 3 (some .boolean)]
def wsX0_wouldBeClean_r2 : List Cond := [Cond.fieldLink RX0 19 "DangerousGoods" "barred" "[Z", Cond.methodLink RX0 98 yX0_breachesAt, Cond.instanceMethod yX0_breachesAt, Cond.selects RX0 yX0_breachesAt yX0_breachesAt, Cond.code yX0_breachesAt cX0_breachesAt 5 (some .int), Cond.fieldLink RX0 35 "DangerousGoods" "count" "I", Cond.methodLink RX0 90 yX0_wouldBreach, Cond.instanceMethod yX0_wouldBreach, Cond.selects RX0 yX0_wouldBreach yX0_wouldBreach, Cond.code yX0_wouldBreach cX0_wouldBreach 4 (some .boolean), Cond.fieldLink RX0 32 "DangerousGoods" "places" "[I", Cond.methodLink RX0 57 yX0_distanceBetween, Cond.static yX0_distanceBetween, Cond.code yX0_distanceBetween cX0_distanceBetween 4 (some .int), Cond.methodLink RX0 131 Lib.Math.abs.name, Cond.static Lib.Math.abs.name, Cond.initialized "java/lang/Math", Cond.code Lib.Math.abs.name Lib.Math.abs.code 1 (some .int), Cond.methodLink RX0 128 yX0_holdOf, Cond.static yX0_holdOf, Cond.code yX0_holdOf cX0_holdOf 1 (some .int), Cond.methodLink RX0 136 yX0_bayOf, Cond.static yX0_bayOf, Cond.code yX0_bayOf cX0_bayOf 1 (some .int)]
def wsX0_wouldBeClean_r3 : List Cond := [Cond.methodLink RX0 87 yX0_needOf, Cond.instanceMethod yX0_needOf, Cond.selects RX0 yX0_needOf yX0_needOf, Cond.code yX0_needOf cX0_needOf 4 (some .int), Cond.methodLink RX0 142 Lib.Math.max.name, Cond.static Lib.Math.max.name, Cond.code Lib.Math.max.name Lib.Math.max.code 2 (some .int), Cond.methodLink RX0 149 yX0_greatestTableDistance, Cond.instanceMethod yX0_greatestTableDistance, Cond.selects RX0 yX0_greatestTableDistance yX0_greatestTableDistance, Cond.code yX0_greatestTableDistance cX0_greatestTableDistance 5 (some .int), Cond.methodLink RX0 50 yX0_tableDistance, Cond.instanceMethod yX0_tableDistance, Cond.selects RX0 yX0_tableDistance yX0_tableDistance, Cond.code yX0_tableDistance cX0_tableDistance 3 (some .int), Cond.fieldLink RX0 9 "DangerousGoods" "table" "[I", Cond.methodLink RX0 77 yX0_areLimited, Cond.instanceMethod yX0_areLimited, Cond.selects RX0 yX0_areLimited yX0_areLimited, Cond.code yX0_areLimited cX0_areLimited 2 (some .boolean), Cond.fieldLink RX0 13 "DangerousGoods" "limitedQuantities" "[I"]
def wsX0_wouldBeClean : List Cond := .code yX0_wouldBeClean cX0_wouldBeClean 3 (some .boolean) :: ((wsX0_wouldBeClean_r1 ++ (wsX0_wouldBeClean_r2 ++ wsX0_wouldBeClean_r3)) ++ wsX00)
def wsX0_isClean_r1 : List Cond := [Cond.fieldLink RX0 35 "DangerousGoods" "count" "I", Cond.fieldLink RX0 32 "DangerousGoods" "places" "[I", Cond.methodLink RX0 101 yX0_wouldBeClean, Cond.instanceMethod yX0_wouldBeClean, Cond.selects RX0 yX0_wouldBeClean yX0_wouldBeClean, Cond.initialized RX0, Cond.code yX0_wouldBeClean cX0_wouldBeClean 3 (some .boolean), Cond.methodLink RX0 94 yX0_wouldBeMisplaced, Cond.instanceMethod yX0_wouldBeMisplaced, Cond.selects RX0 yX0_wouldBeMisplaced yX0_wouldBeMisplaced, Cond.code yX0_wouldBeMisplaced cX0_wouldBeMisplaced 4 (some .boolean), Cond.fieldLink RX0 23 "DangerousGoods" "classes" "[I", Cond.fieldLink RX0 26 "DangerousGoods" "subsidiaries" "[I", Cond.methodLink RX0 81 yX0_areExcepted, Cond.instanceMethod yX0_areExcepted, Cond.selects RX0 yX0_areExcepted yX0_areExcepted, Cond.code yX0_areExcepted cX0_areExcepted 2 (some .boolean), Cond.fieldLink RX0 16 "DangerousGoods" "exceptedQuantities" "[I", Cond.methodLink RX0 145 yX0_areWithin, Cond.instanceMethod yX0_areWithin, Cond.selects RX0 yX0_areWithin yX0_areWithin, Cond.code yX0_areWithin cX0_areWithin 5 (some .boolean), Cond.fieldLink RX0 29 "DangerousGoods" "quantities" "[I", Cond.methodLink RX0 139 yX0_deckOf]
def wsX0_isClean_r2 : List Cond := [Cond.static yX0_deckOf, Cond.code yX0_deckOf cX0_deckOf 1 (some .int), Cond.methodLink RX0 152 yX0_isBarredFrom, Cond.instanceMethod yX0_isBarredFrom, Cond.selects RX0 yX0_isBarredFrom yX0_isBarredFrom, Cond.code yX0_isBarredFrom cX0_isBarredFrom 3 (some .boolean), Cond.fieldLink RX0 19 "DangerousGoods" "barred" "[Z", Cond.methodLink RX0 98 yX0_breachesAt, Cond.instanceMethod yX0_breachesAt, Cond.selects RX0 yX0_breachesAt yX0_breachesAt, Cond.code yX0_breachesAt cX0_breachesAt 5 (some .int), Cond.methodLink RX0 90 yX0_wouldBreach, Cond.instanceMethod yX0_wouldBreach, Cond.selects RX0 yX0_wouldBreach yX0_wouldBreach, Cond.code yX0_wouldBreach cX0_wouldBreach 4 (some .boolean), Cond.methodLink RX0 57 yX0_distanceBetween, Cond.static yX0_distanceBetween, Cond.code yX0_distanceBetween cX0_distanceBetween 4 (some .int), Cond.methodLink RX0 131 Lib.Math.abs.name, Cond.static Lib.Math.abs.name, Cond.initialized "java/lang/Math", Cond.code Lib.Math.abs.name Lib.Math.abs.code 1 (some .int), Cond.methodLink RX0 128 yX0_holdOf, Cond.static yX0_holdOf]
def wsX0_isClean_r3 : List Cond := [Cond.code yX0_holdOf cX0_holdOf 1 (some .int), Cond.methodLink RX0 136 yX0_bayOf, Cond.static yX0_bayOf, Cond.code yX0_bayOf cX0_bayOf 1 (some .int), Cond.methodLink RX0 87 yX0_needOf, Cond.instanceMethod yX0_needOf, Cond.selects RX0 yX0_needOf yX0_needOf, Cond.code yX0_needOf cX0_needOf 4 (some .int), Cond.methodLink RX0 142 Lib.Math.max.name, Cond.static Lib.Math.max.name, Cond.code Lib.Math.max.name Lib.Math.max.code 2 (some .int), Cond.methodLink RX0 149 yX0_greatestTableDistance, Cond.instanceMethod yX0_greatestTableDistance, Cond.selects RX0 yX0_greatestTableDistance yX0_greatestTableDistance, Cond.code yX0_greatestTableDistance cX0_greatestTableDistance 5 (some .int), Cond.methodLink RX0 50 yX0_tableDistance, Cond.instanceMethod yX0_tableDistance, Cond.selects RX0 yX0_tableDistance yX0_tableDistance, Cond.code yX0_tableDistance cX0_tableDistance 3 (some .int), Cond.fieldLink RX0 9 "DangerousGoods" "table" "[I", Cond.methodLink RX0 77 yX0_areLimited, Cond.instanceMethod yX0_areLimited, Cond.selects RX0 yX0_areLimited yX0_areLimited, Cond.code yX0_areLimited cX0_areLimited 2 (some .boolean)]
def wsX0_isClean_r4 : List Cond := [Cond.fieldLink RX0 13 "DangerousGoods" "limitedQuantities" "[I"]
def wsX0_isClean : List Cond := .code yX0_isClean cX0_isClean 2 (some .boolean) :: ((wsX0_isClean_r1 ++ (wsX0_isClean_r2 ++ (wsX0_isClean_r3 ++ wsX0_isClean_r4))) ++ wsX00)
def wsX0_canPut_r1 : List Cond := [Cond.methodLink RX0 74 yX0_checkGoods, Cond.instanceMethod yX0_checkGoods, Cond.selects RX0 yX0_checkGoods yX0_checkGoods, Cond.initialized RX0, Cond.code yX0_checkGoods cX0_checkGoods 2 none, Cond.classLink RX0 121 "java/lang/IndexOutOfBoundsException", Cond.initialized "java/lang/IndexOutOfBoundsException", Cond.fieldLink RX0 35 "DangerousGoods" "count" "I", Cond.methodLink RX0 54 yX0_checkPlace, Cond.static yX0_checkPlace, Cond.code yX0_checkPlace cX0_checkPlace 1 none, Cond.methodLink RX0 46 yX0_checkRange, Cond.static yX0_checkRange, Cond.code yX0_checkRange cX0_checkRange 3 none, Cond.classLink RX0 114 "java/lang/IllegalArgumentException", Cond.initialized "java/lang/IllegalArgumentException", Cond.methodLink RX0 101 yX0_wouldBeClean, Cond.instanceMethod yX0_wouldBeClean, Cond.selects RX0 yX0_wouldBeClean yX0_wouldBeClean, Cond.code yX0_wouldBeClean cX0_wouldBeClean 3 (some .boolean), Cond.methodLink RX0 94 yX0_wouldBeMisplaced, Cond.instanceMethod yX0_wouldBeMisplaced, Cond.selects RX0 yX0_wouldBeMisplaced yX0_wouldBeMisplaced, Cond.code yX0_wouldBeMisplaced cX0_wouldBeMisplaced 4 (some .boolean)]
def wsX0_canPut_r2 : List Cond := [Cond.fieldLink RX0 23 "DangerousGoods" "classes" "[I", Cond.fieldLink RX0 26 "DangerousGoods" "subsidiaries" "[I", Cond.methodLink RX0 81 yX0_areExcepted, Cond.instanceMethod yX0_areExcepted, Cond.selects RX0 yX0_areExcepted yX0_areExcepted, Cond.code yX0_areExcepted cX0_areExcepted 2 (some .boolean), Cond.fieldLink RX0 16 "DangerousGoods" "exceptedQuantities" "[I", Cond.methodLink RX0 145 yX0_areWithin, Cond.instanceMethod yX0_areWithin, Cond.selects RX0 yX0_areWithin yX0_areWithin, Cond.code yX0_areWithin cX0_areWithin 5 (some .boolean), Cond.fieldLink RX0 29 "DangerousGoods" "quantities" "[I", Cond.methodLink RX0 139 yX0_deckOf, Cond.static yX0_deckOf, Cond.code yX0_deckOf cX0_deckOf 1 (some .int), Cond.methodLink RX0 152 yX0_isBarredFrom, Cond.instanceMethod yX0_isBarredFrom, Cond.selects RX0 yX0_isBarredFrom yX0_isBarredFrom, Cond.code yX0_isBarredFrom cX0_isBarredFrom 3 (some .boolean), Cond.fieldLink RX0 19 "DangerousGoods" "barred" "[Z", Cond.methodLink RX0 98 yX0_breachesAt, Cond.instanceMethod yX0_breachesAt, Cond.selects RX0 yX0_breachesAt yX0_breachesAt, Cond.code yX0_breachesAt cX0_breachesAt 5 (some .int)]
def wsX0_canPut_r3 : List Cond := [Cond.methodLink RX0 90 yX0_wouldBreach, Cond.instanceMethod yX0_wouldBreach, Cond.selects RX0 yX0_wouldBreach yX0_wouldBreach, Cond.code yX0_wouldBreach cX0_wouldBreach 4 (some .boolean), Cond.fieldLink RX0 32 "DangerousGoods" "places" "[I", Cond.methodLink RX0 57 yX0_distanceBetween, Cond.static yX0_distanceBetween, Cond.code yX0_distanceBetween cX0_distanceBetween 4 (some .int), Cond.methodLink RX0 131 Lib.Math.abs.name, Cond.static Lib.Math.abs.name, Cond.initialized "java/lang/Math", Cond.code Lib.Math.abs.name Lib.Math.abs.code 1 (some .int), Cond.methodLink RX0 128 yX0_holdOf, Cond.static yX0_holdOf, Cond.code yX0_holdOf cX0_holdOf 1 (some .int), Cond.methodLink RX0 136 yX0_bayOf, Cond.static yX0_bayOf, Cond.code yX0_bayOf cX0_bayOf 1 (some .int), Cond.methodLink RX0 87 yX0_needOf, Cond.instanceMethod yX0_needOf, Cond.selects RX0 yX0_needOf yX0_needOf, Cond.code yX0_needOf cX0_needOf 4 (some .int), Cond.methodLink RX0 142 Lib.Math.max.name, Cond.static Lib.Math.max.name]
def wsX0_canPut_r4 : List Cond := [Cond.code Lib.Math.max.name Lib.Math.max.code 2 (some .int), Cond.methodLink RX0 149 yX0_greatestTableDistance, Cond.instanceMethod yX0_greatestTableDistance, Cond.selects RX0 yX0_greatestTableDistance yX0_greatestTableDistance, Cond.code yX0_greatestTableDistance cX0_greatestTableDistance 5 (some .int), Cond.methodLink RX0 50 yX0_tableDistance, Cond.instanceMethod yX0_tableDistance, Cond.selects RX0 yX0_tableDistance yX0_tableDistance, Cond.code yX0_tableDistance cX0_tableDistance 3 (some .int), Cond.fieldLink RX0 9 "DangerousGoods" "table" "[I", Cond.methodLink RX0 77 yX0_areLimited, Cond.instanceMethod yX0_areLimited, Cond.selects RX0 yX0_areLimited yX0_areLimited, Cond.code yX0_areLimited cX0_areLimited 2 (some .boolean), Cond.fieldLink RX0 13 "DangerousGoods" "limitedQuantities" "[I"]
def wsX0_canPut : List Cond := .code yX0_canPut cX0_canPut 3 (some .boolean) :: ((wsX0_canPut_r1 ++ (wsX0_canPut_r2 ++ (wsX0_canPut_r3 ++ wsX0_canPut_r4))) ++ wsX00 ++ (vx_atS RX0 125 "java/lang/IndexOutOfBoundsException" ["java/lang/RuntimeException", "java/lang/Exception"]).filter goodWord ++ (vx_atS RX0 118 "java/lang/IllegalArgumentException" ["java/lang/RuntimeException", "java/lang/Exception"]).filter goodWord)
def wsX0_placeFor_r1 : List Cond := [Cond.methodLink RX0 74 yX0_checkGoods, Cond.instanceMethod yX0_checkGoods, Cond.selects RX0 yX0_checkGoods yX0_checkGoods, Cond.initialized RX0, Cond.code yX0_checkGoods cX0_checkGoods 2 none, Cond.classLink RX0 121 "java/lang/IndexOutOfBoundsException", Cond.initialized "java/lang/IndexOutOfBoundsException", Cond.fieldLink RX0 35 "DangerousGoods" "count" "I", Cond.methodLink RX0 101 yX0_wouldBeClean, Cond.instanceMethod yX0_wouldBeClean, Cond.selects RX0 yX0_wouldBeClean yX0_wouldBeClean, Cond.code yX0_wouldBeClean cX0_wouldBeClean 3 (some .boolean), Cond.methodLink RX0 94 yX0_wouldBeMisplaced, Cond.instanceMethod yX0_wouldBeMisplaced, Cond.selects RX0 yX0_wouldBeMisplaced yX0_wouldBeMisplaced, Cond.code yX0_wouldBeMisplaced cX0_wouldBeMisplaced 4 (some .boolean), Cond.fieldLink RX0 23 "DangerousGoods" "classes" "[I", Cond.fieldLink RX0 26 "DangerousGoods" "subsidiaries" "[I", Cond.methodLink RX0 81 yX0_areExcepted, Cond.instanceMethod yX0_areExcepted, Cond.selects RX0 yX0_areExcepted yX0_areExcepted, Cond.code yX0_areExcepted cX0_areExcepted 2 (some .boolean), Cond.fieldLink RX0 16 "DangerousGoods" "exceptedQuantities" "[I", Cond.methodLink RX0 145 yX0_areWithin]
def wsX0_placeFor_r2 : List Cond := [Cond.instanceMethod yX0_areWithin, Cond.selects RX0 yX0_areWithin yX0_areWithin, Cond.code yX0_areWithin cX0_areWithin 5 (some .boolean), Cond.fieldLink RX0 29 "DangerousGoods" "quantities" "[I", Cond.methodLink RX0 139 yX0_deckOf, Cond.static yX0_deckOf, Cond.code yX0_deckOf cX0_deckOf 1 (some .int), Cond.methodLink RX0 152 yX0_isBarredFrom, Cond.instanceMethod yX0_isBarredFrom, Cond.selects RX0 yX0_isBarredFrom yX0_isBarredFrom, Cond.code yX0_isBarredFrom cX0_isBarredFrom 3 (some .boolean), Cond.fieldLink RX0 19 "DangerousGoods" "barred" "[Z", Cond.methodLink RX0 98 yX0_breachesAt, Cond.instanceMethod yX0_breachesAt, Cond.selects RX0 yX0_breachesAt yX0_breachesAt, Cond.code yX0_breachesAt cX0_breachesAt 5 (some .int), Cond.methodLink RX0 90 yX0_wouldBreach, Cond.instanceMethod yX0_wouldBreach, Cond.selects RX0 yX0_wouldBreach yX0_wouldBreach, Cond.code yX0_wouldBreach cX0_wouldBreach 4 (some .boolean), Cond.fieldLink RX0 32 "DangerousGoods" "places" "[I", Cond.methodLink RX0 57 yX0_distanceBetween, Cond.static yX0_distanceBetween, Cond.code yX0_distanceBetween cX0_distanceBetween 4 (some .int)]
def wsX0_placeFor_r3 : List Cond := [Cond.methodLink RX0 131 Lib.Math.abs.name, Cond.static Lib.Math.abs.name, Cond.initialized "java/lang/Math", Cond.code Lib.Math.abs.name Lib.Math.abs.code 1 (some .int), Cond.methodLink RX0 128 yX0_holdOf, Cond.static yX0_holdOf, Cond.code yX0_holdOf cX0_holdOf 1 (some .int), Cond.methodLink RX0 136 yX0_bayOf, Cond.static yX0_bayOf, Cond.code yX0_bayOf cX0_bayOf 1 (some .int), Cond.methodLink RX0 87 yX0_needOf, Cond.instanceMethod yX0_needOf, Cond.selects RX0 yX0_needOf yX0_needOf, Cond.code yX0_needOf cX0_needOf 4 (some .int), Cond.methodLink RX0 142 Lib.Math.max.name, Cond.static Lib.Math.max.name, Cond.code Lib.Math.max.name Lib.Math.max.code 2 (some .int), Cond.methodLink RX0 149 yX0_greatestTableDistance, Cond.instanceMethod yX0_greatestTableDistance, Cond.selects RX0 yX0_greatestTableDistance yX0_greatestTableDistance, Cond.code yX0_greatestTableDistance cX0_greatestTableDistance 5 (some .int), Cond.methodLink RX0 50 yX0_tableDistance, Cond.instanceMethod yX0_tableDistance, Cond.selects RX0 yX0_tableDistance yX0_tableDistance]
def wsX0_placeFor_r4 : List Cond := [Cond.code yX0_tableDistance cX0_tableDistance 3 (some .int), Cond.fieldLink RX0 9 "DangerousGoods" "table" "[I", Cond.methodLink RX0 77 yX0_areLimited, Cond.instanceMethod yX0_areLimited, Cond.selects RX0 yX0_areLimited yX0_areLimited, Cond.code yX0_areLimited cX0_areLimited 2 (some .boolean), Cond.fieldLink RX0 13 "DangerousGoods" "limitedQuantities" "[I"]
def wsX0_placeFor : List Cond := .code yX0_placeFor cX0_placeFor 3 (some .int) :: ((wsX0_placeFor_r1 ++ (wsX0_placeFor_r2 ++ (wsX0_placeFor_r3 ++ wsX0_placeFor_r4))) ++ wsX00 ++ (vx_atS RX0 125 "java/lang/IndexOutOfBoundsException" ["java/lang/RuntimeException", "java/lang/Exception"]).filter goodWord)
def wsJ6_bitCount_0f7a4 : List Cond := .code yJ6_bitCount_0f7a4 cJ6_bitCount_0f7a4 1 (some .int) :: ([.constant RJ6 265 (1431655765), .constant RJ6 266 (858993459), .constant RJ6 267 (252645135)])
def wsX0_searchLeaving : List Cond := .code yX0_searchLeaving cX0_searchLeaving 6 (some .int) :: ([.methodLink RX0 108 yJ6_bitCount_0f7a4, .static yJ6_bitCount_0f7a4, .initialized RJ6, .code yJ6_bitCount_0f7a4 cJ6_bitCount_0f7a4 1 (some .int), .constant RJ6 265 (1431655765), .constant RJ6 266 (858993459), .constant RJ6 267 (252645135), .methodLink RX0 155 yX0_searchLeaving, .static yX0_searchLeaving, .initialized RX0])
def wsX0_leastLeaving_r1 : List Cond := [Cond.fieldLink RX0 35 "DangerousGoods" "count" "I", Cond.fieldLink RX0 39 "DangerousGoods" "breachRows" "[I", Cond.fieldLink RX0 32 "DangerousGoods" "places" "[I", Cond.methodLink RX0 98 yX0_breachesAt, Cond.instanceMethod yX0_breachesAt, Cond.selects RX0 yX0_breachesAt yX0_breachesAt, Cond.initialized RX0, Cond.code yX0_breachesAt cX0_breachesAt 5 (some .int), Cond.methodLink RX0 90 yX0_wouldBreach, Cond.instanceMethod yX0_wouldBreach, Cond.selects RX0 yX0_wouldBreach yX0_wouldBreach, Cond.code yX0_wouldBreach cX0_wouldBreach 4 (some .boolean), Cond.methodLink RX0 57 yX0_distanceBetween, Cond.static yX0_distanceBetween, Cond.code yX0_distanceBetween cX0_distanceBetween 4 (some .int), Cond.methodLink RX0 131 Lib.Math.abs.name, Cond.static Lib.Math.abs.name, Cond.initialized "java/lang/Math", Cond.code Lib.Math.abs.name Lib.Math.abs.code 1 (some .int), Cond.methodLink RX0 128 yX0_holdOf, Cond.static yX0_holdOf, Cond.code yX0_holdOf cX0_holdOf 1 (some .int), Cond.methodLink RX0 136 yX0_bayOf, Cond.static yX0_bayOf]
def wsX0_leastLeaving_r2 : List Cond := [Cond.code yX0_bayOf cX0_bayOf 1 (some .int), Cond.methodLink RX0 139 yX0_deckOf, Cond.static yX0_deckOf, Cond.code yX0_deckOf cX0_deckOf 1 (some .int), Cond.methodLink RX0 87 yX0_needOf, Cond.instanceMethod yX0_needOf, Cond.selects RX0 yX0_needOf yX0_needOf, Cond.code yX0_needOf cX0_needOf 4 (some .int), Cond.methodLink RX0 142 Lib.Math.max.name, Cond.static Lib.Math.max.name, Cond.code Lib.Math.max.name Lib.Math.max.code 2 (some .int), Cond.methodLink RX0 81 yX0_areExcepted, Cond.instanceMethod yX0_areExcepted, Cond.selects RX0 yX0_areExcepted yX0_areExcepted, Cond.code yX0_areExcepted cX0_areExcepted 2 (some .boolean), Cond.fieldLink RX0 16 "DangerousGoods" "exceptedQuantities" "[I", Cond.methodLink RX0 145 yX0_areWithin, Cond.instanceMethod yX0_areWithin, Cond.selects RX0 yX0_areWithin yX0_areWithin, Cond.code yX0_areWithin cX0_areWithin 5 (some .boolean), Cond.fieldLink RX0 29 "DangerousGoods" "quantities" "[I", Cond.fieldLink RX0 26 "DangerousGoods" "subsidiaries" "[I", Cond.fieldLink RX0 23 "DangerousGoods" "classes" "[I", Cond.methodLink RX0 149 yX0_greatestTableDistance]
def wsX0_leastLeaving_r3 : List Cond := [Cond.instanceMethod yX0_greatestTableDistance, Cond.selects RX0 yX0_greatestTableDistance yX0_greatestTableDistance, Cond.code yX0_greatestTableDistance cX0_greatestTableDistance 5 (some .int), Cond.methodLink RX0 50 yX0_tableDistance, Cond.instanceMethod yX0_tableDistance, Cond.selects RX0 yX0_tableDistance yX0_tableDistance, Cond.code yX0_tableDistance cX0_tableDistance 3 (some .int), Cond.fieldLink RX0 9 "DangerousGoods" "table" "[I", Cond.methodLink RX0 77 yX0_areLimited, Cond.instanceMethod yX0_areLimited, Cond.selects RX0 yX0_areLimited yX0_areLimited, Cond.code yX0_areLimited cX0_areLimited 2 (some .boolean), Cond.fieldLink RX0 13 "DangerousGoods" "limitedQuantities" "[I", Cond.methodLink RX0 94 yX0_wouldBeMisplaced, Cond.instanceMethod yX0_wouldBeMisplaced, Cond.selects RX0 yX0_wouldBeMisplaced yX0_wouldBeMisplaced, Cond.code yX0_wouldBeMisplaced cX0_wouldBeMisplaced 4 (some .boolean), Cond.methodLink RX0 152 yX0_isBarredFrom, Cond.instanceMethod yX0_isBarredFrom, Cond.selects RX0 yX0_isBarredFrom yX0_isBarredFrom, Cond.code yX0_isBarredFrom cX0_isBarredFrom 3 (some .boolean), Cond.fieldLink RX0 19 "DangerousGoods" "barred" "[Z", Cond.methodLink RX0 155 yX0_searchLeaving, Cond.static yX0_searchLeaving]
def wsX0_leastLeaving_r4 : List Cond := [Cond.code yX0_searchLeaving cX0_searchLeaving 6 (some .int), Cond.methodLink RX0 108 yJ6_bitCount_0f7a4, Cond.static yJ6_bitCount_0f7a4, Cond.initialized RJ6, Cond.code yJ6_bitCount_0f7a4 cJ6_bitCount_0f7a4 1 (some .int), Cond.constant RJ6 265 (1431655765), Cond.constant RJ6 266 (858993459), Cond.constant RJ6 267 (252645135)]
def wsX0_leastLeaving : List Cond := .code yX0_leastLeaving cX0_leastLeaving 4 (some .int) :: ((wsX0_leastLeaving_r1 ++ (wsX0_leastLeaving_r2 ++ (wsX0_leastLeaving_r3 ++ wsX0_leastLeaving_r4))) ++ wsX00)
def wsX0_fewest_r1 : List Cond := [Cond.methodLink RX0 104 yX0_leastLeaving, Cond.instanceMethod yX0_leastLeaving, Cond.selects RX0 yX0_leastLeaving yX0_leastLeaving, Cond.initialized RX0, Cond.code yX0_leastLeaving cX0_leastLeaving 4 (some .int), Cond.fieldLink RX0 35 "DangerousGoods" "count" "I", Cond.fieldLink RX0 39 "DangerousGoods" "breachRows" "[I", Cond.fieldLink RX0 32 "DangerousGoods" "places" "[I", Cond.methodLink RX0 98 yX0_breachesAt, Cond.instanceMethod yX0_breachesAt, Cond.selects RX0 yX0_breachesAt yX0_breachesAt, Cond.code yX0_breachesAt cX0_breachesAt 5 (some .int), Cond.methodLink RX0 90 yX0_wouldBreach, Cond.instanceMethod yX0_wouldBreach, Cond.selects RX0 yX0_wouldBreach yX0_wouldBreach, Cond.code yX0_wouldBreach cX0_wouldBreach 4 (some .boolean), Cond.methodLink RX0 57 yX0_distanceBetween, Cond.static yX0_distanceBetween, Cond.code yX0_distanceBetween cX0_distanceBetween 4 (some .int), Cond.methodLink RX0 131 Lib.Math.abs.name, Cond.static Lib.Math.abs.name, Cond.initialized "java/lang/Math", Cond.code Lib.Math.abs.name Lib.Math.abs.code 1 (some .int), Cond.methodLink RX0 128 yX0_holdOf]
def wsX0_fewest_r2 : List Cond := [Cond.static yX0_holdOf, Cond.code yX0_holdOf cX0_holdOf 1 (some .int), Cond.methodLink RX0 136 yX0_bayOf, Cond.static yX0_bayOf, Cond.code yX0_bayOf cX0_bayOf 1 (some .int), Cond.methodLink RX0 139 yX0_deckOf, Cond.static yX0_deckOf, Cond.code yX0_deckOf cX0_deckOf 1 (some .int), Cond.methodLink RX0 87 yX0_needOf, Cond.instanceMethod yX0_needOf, Cond.selects RX0 yX0_needOf yX0_needOf, Cond.code yX0_needOf cX0_needOf 4 (some .int), Cond.methodLink RX0 142 Lib.Math.max.name, Cond.static Lib.Math.max.name, Cond.code Lib.Math.max.name Lib.Math.max.code 2 (some .int), Cond.methodLink RX0 81 yX0_areExcepted, Cond.instanceMethod yX0_areExcepted, Cond.selects RX0 yX0_areExcepted yX0_areExcepted, Cond.code yX0_areExcepted cX0_areExcepted 2 (some .boolean), Cond.fieldLink RX0 16 "DangerousGoods" "exceptedQuantities" "[I", Cond.methodLink RX0 145 yX0_areWithin, Cond.instanceMethod yX0_areWithin, Cond.selects RX0 yX0_areWithin yX0_areWithin, Cond.code yX0_areWithin cX0_areWithin 5 (some .boolean)]
def wsX0_fewest_r3 : List Cond := [Cond.fieldLink RX0 29 "DangerousGoods" "quantities" "[I", Cond.fieldLink RX0 26 "DangerousGoods" "subsidiaries" "[I", Cond.fieldLink RX0 23 "DangerousGoods" "classes" "[I", Cond.methodLink RX0 149 yX0_greatestTableDistance, Cond.instanceMethod yX0_greatestTableDistance, Cond.selects RX0 yX0_greatestTableDistance yX0_greatestTableDistance, Cond.code yX0_greatestTableDistance cX0_greatestTableDistance 5 (some .int), Cond.methodLink RX0 50 yX0_tableDistance, Cond.instanceMethod yX0_tableDistance, Cond.selects RX0 yX0_tableDistance yX0_tableDistance, Cond.code yX0_tableDistance cX0_tableDistance 3 (some .int), Cond.fieldLink RX0 9 "DangerousGoods" "table" "[I", Cond.methodLink RX0 77 yX0_areLimited, Cond.instanceMethod yX0_areLimited, Cond.selects RX0 yX0_areLimited yX0_areLimited, Cond.code yX0_areLimited cX0_areLimited 2 (some .boolean), Cond.fieldLink RX0 13 "DangerousGoods" "limitedQuantities" "[I", Cond.methodLink RX0 94 yX0_wouldBeMisplaced, Cond.instanceMethod yX0_wouldBeMisplaced, Cond.selects RX0 yX0_wouldBeMisplaced yX0_wouldBeMisplaced, Cond.code yX0_wouldBeMisplaced cX0_wouldBeMisplaced 4 (some .boolean), Cond.methodLink RX0 152 yX0_isBarredFrom, Cond.instanceMethod yX0_isBarredFrom, Cond.selects RX0 yX0_isBarredFrom yX0_isBarredFrom]
def wsX0_fewest_r4 : List Cond := [Cond.code yX0_isBarredFrom cX0_isBarredFrom 3 (some .boolean), Cond.fieldLink RX0 19 "DangerousGoods" "barred" "[Z", Cond.methodLink RX0 155 yX0_searchLeaving, Cond.static yX0_searchLeaving, Cond.code yX0_searchLeaving cX0_searchLeaving 6 (some .int), Cond.methodLink RX0 108 yJ6_bitCount_0f7a4, Cond.static yJ6_bitCount_0f7a4, Cond.initialized RJ6, Cond.code yJ6_bitCount_0f7a4 cJ6_bitCount_0f7a4 1 (some .int), Cond.constant RJ6 265 (1431655765), Cond.constant RJ6 266 (858993459), Cond.constant RJ6 267 (252645135)]
def wsX0_fewest : List Cond := .code yX0_fewest cX0_fewest 1 (some .int) :: ((wsX0_fewest_r1 ++ (wsX0_fewest_r2 ++ (wsX0_fewest_r3 ++ wsX0_fewest_r4))) ++ wsX00)
def wsX0_leaving_r1 : List Cond := [Cond.methodLink RX0 104 yX0_leastLeaving, Cond.instanceMethod yX0_leastLeaving, Cond.selects RX0 yX0_leastLeaving yX0_leastLeaving, Cond.initialized RX0, Cond.code yX0_leastLeaving cX0_leastLeaving 4 (some .int), Cond.fieldLink RX0 35 "DangerousGoods" "count" "I", Cond.fieldLink RX0 39 "DangerousGoods" "breachRows" "[I", Cond.fieldLink RX0 32 "DangerousGoods" "places" "[I", Cond.methodLink RX0 98 yX0_breachesAt, Cond.instanceMethod yX0_breachesAt, Cond.selects RX0 yX0_breachesAt yX0_breachesAt, Cond.code yX0_breachesAt cX0_breachesAt 5 (some .int), Cond.methodLink RX0 90 yX0_wouldBreach, Cond.instanceMethod yX0_wouldBreach, Cond.selects RX0 yX0_wouldBreach yX0_wouldBreach, Cond.code yX0_wouldBreach cX0_wouldBreach 4 (some .boolean), Cond.methodLink RX0 57 yX0_distanceBetween, Cond.static yX0_distanceBetween, Cond.code yX0_distanceBetween cX0_distanceBetween 4 (some .int), Cond.methodLink RX0 131 Lib.Math.abs.name, Cond.static Lib.Math.abs.name, Cond.initialized "java/lang/Math", Cond.code Lib.Math.abs.name Lib.Math.abs.code 1 (some .int), Cond.methodLink RX0 128 yX0_holdOf]
def wsX0_leaving_r2 : List Cond := [Cond.static yX0_holdOf, Cond.code yX0_holdOf cX0_holdOf 1 (some .int), Cond.methodLink RX0 136 yX0_bayOf, Cond.static yX0_bayOf, Cond.code yX0_bayOf cX0_bayOf 1 (some .int), Cond.methodLink RX0 139 yX0_deckOf, Cond.static yX0_deckOf, Cond.code yX0_deckOf cX0_deckOf 1 (some .int), Cond.methodLink RX0 87 yX0_needOf, Cond.instanceMethod yX0_needOf, Cond.selects RX0 yX0_needOf yX0_needOf, Cond.code yX0_needOf cX0_needOf 4 (some .int), Cond.methodLink RX0 142 Lib.Math.max.name, Cond.static Lib.Math.max.name, Cond.code Lib.Math.max.name Lib.Math.max.code 2 (some .int), Cond.methodLink RX0 81 yX0_areExcepted, Cond.instanceMethod yX0_areExcepted, Cond.selects RX0 yX0_areExcepted yX0_areExcepted, Cond.code yX0_areExcepted cX0_areExcepted 2 (some .boolean), Cond.fieldLink RX0 16 "DangerousGoods" "exceptedQuantities" "[I", Cond.methodLink RX0 145 yX0_areWithin, Cond.instanceMethod yX0_areWithin, Cond.selects RX0 yX0_areWithin yX0_areWithin, Cond.code yX0_areWithin cX0_areWithin 5 (some .boolean)]
def wsX0_leaving_r3 : List Cond := [Cond.fieldLink RX0 29 "DangerousGoods" "quantities" "[I", Cond.fieldLink RX0 26 "DangerousGoods" "subsidiaries" "[I", Cond.fieldLink RX0 23 "DangerousGoods" "classes" "[I", Cond.methodLink RX0 149 yX0_greatestTableDistance, Cond.instanceMethod yX0_greatestTableDistance, Cond.selects RX0 yX0_greatestTableDistance yX0_greatestTableDistance, Cond.code yX0_greatestTableDistance cX0_greatestTableDistance 5 (some .int), Cond.methodLink RX0 50 yX0_tableDistance, Cond.instanceMethod yX0_tableDistance, Cond.selects RX0 yX0_tableDistance yX0_tableDistance, Cond.code yX0_tableDistance cX0_tableDistance 3 (some .int), Cond.fieldLink RX0 9 "DangerousGoods" "table" "[I", Cond.methodLink RX0 77 yX0_areLimited, Cond.instanceMethod yX0_areLimited, Cond.selects RX0 yX0_areLimited yX0_areLimited, Cond.code yX0_areLimited cX0_areLimited 2 (some .boolean), Cond.fieldLink RX0 13 "DangerousGoods" "limitedQuantities" "[I", Cond.methodLink RX0 94 yX0_wouldBeMisplaced, Cond.instanceMethod yX0_wouldBeMisplaced, Cond.selects RX0 yX0_wouldBeMisplaced yX0_wouldBeMisplaced, Cond.code yX0_wouldBeMisplaced cX0_wouldBeMisplaced 4 (some .boolean), Cond.methodLink RX0 152 yX0_isBarredFrom, Cond.instanceMethod yX0_isBarredFrom, Cond.selects RX0 yX0_isBarredFrom yX0_isBarredFrom]
def wsX0_leaving_r4 : List Cond := [Cond.code yX0_isBarredFrom cX0_isBarredFrom 3 (some .boolean), Cond.fieldLink RX0 19 "DangerousGoods" "barred" "[Z", Cond.methodLink RX0 155 yX0_searchLeaving, Cond.static yX0_searchLeaving, Cond.code yX0_searchLeaving cX0_searchLeaving 6 (some .int), Cond.methodLink RX0 108 yJ6_bitCount_0f7a4, Cond.static yJ6_bitCount_0f7a4, Cond.initialized RJ6, Cond.code yJ6_bitCount_0f7a4 cJ6_bitCount_0f7a4 1 (some .int), Cond.constant RJ6 265 (1431655765), Cond.constant RJ6 266 (858993459), Cond.constant RJ6 267 (252645135)]
def wsX0_leaving : List Cond := .code yX0_leaving cX0_leaving 1 (some .int) :: ((wsX0_leaving_r1 ++ (wsX0_leaving_r2 ++ (wsX0_leaving_r3 ++ wsX0_leaving_r4))) ++ wsX00)
def wsX1_init : List Cond := .code yX1_init cX1_init 1 none :: ([.methodLink RX1 1 objectInit, .instanceMethod objectInit, .code objectInit ⟨#[0xb1]⟩ 1 none, .arrayClass .int, .fieldLink RX1 7 "DangerousGoodsModel" "table" "[I", .fieldLink RX1 13 "DangerousGoodsModel" "limits" "[I", .fieldLink RX1 16 "DangerousGoodsModel" "exceptions" "[I", .arrayClass .boolean, .fieldLink RX1 19 "DangerousGoodsModel" "isBarred" "[Z", .fieldLink RX1 23 "DangerousGoodsModel" "classes" "[I", .fieldLink RX1 26 "DangerousGoodsModel" "subsidiaries" "[I", .fieldLink RX1 29 "DangerousGoodsModel" "quantities" "[I", .fieldLink RX1 32 "DangerousGoodsModel" "places" "[I", .fieldLink RX1 35 "DangerousGoodsModel" "foes" "[I"] ++ wsX10)
def wsX1_thrown : List Cond := .code yX1_thrown cX1_thrown 1 (some .int) :: ([.fieldLink RX1 38 "DangerousGoodsModel" "thrown" "I"] ++ wsX10)
def wsX1_goes : List Cond := .code yX1_goes cX1_goes 2 (some .boolean) :: ([.fieldLink RX1 38 "DangerousGoodsModel" "thrown" "I"] ++ wsX10)
def wsX1_isIn : List Cond := .code yX1_isIn cX1_isIn 3 (some .boolean) :: ([])
def wsX1_isClass : List Cond := .code yX1_isClass cX1_isClass 1 (some .boolean) :: ([.methodLink RX1 42 yX1_isIn, .static yX1_isIn, .initialized RX1, .code yX1_isIn cX1_isIn 3 (some .boolean)])
def wsX1_isPlace : List Cond := .code yX1_isPlace cX1_isPlace 1 (some .boolean) :: ([.methodLink RX1 42 yX1_isIn, .static yX1_isIn, .initialized RX1, .code yX1_isIn cX1_isIn 3 (some .boolean)])
def wsX1_areGoods : List Cond := .code yX1_areGoods cX1_areGoods 2 (some .boolean) :: ([.fieldLink RX1 46 "DangerousGoodsModel" "goods" "I", .methodLink RX1 42 yX1_isIn, .static yX1_isIn, .initialized RX1, .code yX1_isIn cX1_isIn 3 (some .boolean)] ++ wsX10)
def wsX1_setDistance : List Cond := .code yX1_setDistance cX1_setDistance 5 (some .int) :: ([.fieldLink RX1 7 "DangerousGoodsModel" "table" "[I", .methodLink RX1 49 yX1_isClass, .static yX1_isClass, .initialized RX1, .code yX1_isClass cX1_isClass 1 (some .boolean), .methodLink RX1 42 yX1_isIn, .static yX1_isIn, .code yX1_isIn cX1_isIn 3 (some .boolean), .methodLink RX1 53 yX1_goes, .instanceMethod yX1_goes, .selects RX1 yX1_goes yX1_goes, .code yX1_goes cX1_goes 2 (some .boolean), .fieldLink RX1 38 "DangerousGoodsModel" "thrown" "I"] ++ wsX10)
def wsX1_setQuantities : List Cond := .code yX1_setQuantities cX1_setQuantities 4 none :: ([.fieldLink RX1 13 "DangerousGoodsModel" "limits" "[I", .fieldLink RX1 16 "DangerousGoodsModel" "exceptions" "[I", .methodLink RX1 49 yX1_isClass, .static yX1_isClass, .initialized RX1, .code yX1_isClass cX1_isClass 1 (some .boolean), .methodLink RX1 42 yX1_isIn, .static yX1_isIn, .code yX1_isIn cX1_isIn 3 (some .boolean), .methodLink RX1 53 yX1_goes, .instanceMethod yX1_goes, .selects RX1 yX1_goes yX1_goes, .code yX1_goes cX1_goes 2 (some .boolean), .fieldLink RX1 38 "DangerousGoodsModel" "thrown" "I"] ++ wsX10)
def wsX1_bar : List Cond := .code yX1_bar cX1_bar 5 (some .boolean) :: ([.fieldLink RX1 19 "DangerousGoodsModel" "isBarred" "[Z", .methodLink RX1 49 yX1_isClass, .static yX1_isClass, .initialized RX1, .code yX1_isClass cX1_isClass 1 (some .boolean), .methodLink RX1 42 yX1_isIn, .static yX1_isIn, .code yX1_isIn cX1_isIn 3 (some .boolean), .methodLink RX1 53 yX1_goes, .instanceMethod yX1_goes, .selects RX1 yX1_goes yX1_goes, .code yX1_goes cX1_goes 2 (some .boolean), .fieldLink RX1 38 "DangerousGoodsModel" "thrown" "I"] ++ wsX10)
def wsX1_apart : List Cond := .code yX1_apart cX1_apart 6 (some .int) :: ([])
def wsX1_distance : List Cond := .code yX1_distance cX1_distance 3 (some .int) :: ([.methodLink RX1 56 yX1_isPlace, .static yX1_isPlace, .initialized RX1, .code yX1_isPlace cX1_isPlace 1 (some .boolean), .methodLink RX1 42 yX1_isIn, .static yX1_isIn, .code yX1_isIn cX1_isIn 3 (some .boolean), .methodLink RX1 53 yX1_goes, .instanceMethod yX1_goes, .selects RX1 yX1_goes yX1_goes, .code yX1_goes cX1_goes 2 (some .boolean), .fieldLink RX1 38 "DangerousGoodsModel" "thrown" "I", .methodLink RX1 59 yX1_apart, .static yX1_apart, .code yX1_apart cX1_apart 6 (some .int)] ++ wsX10)
def wsX1_add : List Cond := .code yX1_add cX1_add 6 (some .int) :: ([.fieldLink RX1 46 "DangerousGoodsModel" "goods" "I", .fieldLink RX1 23 "DangerousGoodsModel" "classes" "[I", .fieldLink RX1 26 "DangerousGoodsModel" "subsidiaries" "[I", .fieldLink RX1 29 "DangerousGoodsModel" "quantities" "[I", .fieldLink RX1 32 "DangerousGoodsModel" "places" "[I", .methodLink RX1 49 yX1_isClass, .static yX1_isClass, .initialized RX1, .code yX1_isClass cX1_isClass 1 (some .boolean), .methodLink RX1 42 yX1_isIn, .static yX1_isIn, .code yX1_isIn cX1_isIn 3 (some .boolean), .methodLink RX1 53 yX1_goes, .instanceMethod yX1_goes, .selects RX1 yX1_goes yX1_goes, .code yX1_goes cX1_goes 2 (some .boolean), .fieldLink RX1 38 "DangerousGoodsModel" "thrown" "I"] ++ wsX10)
def wsX1_setQuantity : List Cond := .code yX1_setQuantity cX1_setQuantity 4 (some .int) :: ([.fieldLink RX1 29 "DangerousGoodsModel" "quantities" "[I", .methodLink RX1 63 yX1_areGoods, .instanceMethod yX1_areGoods, .selects RX1 yX1_areGoods yX1_areGoods, .initialized RX1, .code yX1_areGoods cX1_areGoods 2 (some .boolean), .fieldLink RX1 46 "DangerousGoodsModel" "goods" "I", .methodLink RX1 42 yX1_isIn, .static yX1_isIn, .code yX1_isIn cX1_isIn 3 (some .boolean), .methodLink RX1 53 yX1_goes, .instanceMethod yX1_goes, .selects RX1 yX1_goes yX1_goes, .code yX1_goes cX1_goes 2 (some .boolean), .fieldLink RX1 38 "DangerousGoodsModel" "thrown" "I"] ++ wsX10)
def wsX1_put : List Cond := .code yX1_put cX1_put 4 (some .int) :: ([.fieldLink RX1 32 "DangerousGoodsModel" "places" "[I", .methodLink RX1 63 yX1_areGoods, .instanceMethod yX1_areGoods, .selects RX1 yX1_areGoods yX1_areGoods, .initialized RX1, .code yX1_areGoods cX1_areGoods 2 (some .boolean), .fieldLink RX1 46 "DangerousGoodsModel" "goods" "I", .methodLink RX1 42 yX1_isIn, .static yX1_isIn, .code yX1_isIn cX1_isIn 3 (some .boolean), .methodLink RX1 56 yX1_isPlace, .static yX1_isPlace, .code yX1_isPlace cX1_isPlace 1 (some .boolean), .methodLink RX1 53 yX1_goes, .instanceMethod yX1_goes, .selects RX1 yX1_goes yX1_goes, .code yX1_goes cX1_goes 2 (some .boolean), .fieldLink RX1 38 "DangerousGoodsModel" "thrown" "I"] ++ wsX10)
def wsX1_goods : List Cond := .code yX1_goods cX1_goods 1 (some .int) :: ([.fieldLink RX1 38 "DangerousGoodsModel" "thrown" "I", .fieldLink RX1 46 "DangerousGoodsModel" "goods" "I"] ++ wsX10)
def wsX1_asks : List Cond := .code yX1_asks cX1_asks 2 (some .boolean) :: ([.methodLink RX1 63 yX1_areGoods, .instanceMethod yX1_areGoods, .selects RX1 yX1_areGoods yX1_areGoods, .initialized RX1, .code yX1_areGoods cX1_areGoods 2 (some .boolean), .fieldLink RX1 46 "DangerousGoodsModel" "goods" "I", .methodLink RX1 42 yX1_isIn, .static yX1_isIn, .code yX1_isIn cX1_isIn 3 (some .boolean), .methodLink RX1 53 yX1_goes, .instanceMethod yX1_goes, .selects RX1 yX1_goes yX1_goes, .code yX1_goes cX1_goes 2 (some .boolean), .fieldLink RX1 38 "DangerousGoodsModel" "thrown" "I"] ++ wsX10)
def wsX1_placeOf : List Cond := .code yX1_placeOf cX1_placeOf 2 (some .int) :: ([.fieldLink RX1 32 "DangerousGoodsModel" "places" "[I", .methodLink RX1 66 yX1_asks, .instanceMethod yX1_asks, .selects RX1 yX1_asks yX1_asks, .initialized RX1, .code yX1_asks cX1_asks 2 (some .boolean), .methodLink RX1 63 yX1_areGoods, .instanceMethod yX1_areGoods, .selects RX1 yX1_areGoods yX1_areGoods, .code yX1_areGoods cX1_areGoods 2 (some .boolean), .fieldLink RX1 46 "DangerousGoodsModel" "goods" "I", .methodLink RX1 42 yX1_isIn, .static yX1_isIn, .code yX1_isIn cX1_isIn 3 (some .boolean), .methodLink RX1 53 yX1_goes, .instanceMethod yX1_goes, .selects RX1 yX1_goes yX1_goes, .code yX1_goes cX1_goes 2 (some .boolean), .fieldLink RX1 38 "DangerousGoodsModel" "thrown" "I"] ++ wsX10)
def wsX1_isWithin : List Cond := .code yX1_isWithin cX1_isWithin 4 (some .boolean) :: ([.fieldLink RX1 26 "DangerousGoodsModel" "subsidiaries" "[I", .fieldLink RX1 29 "DangerousGoodsModel" "quantities" "[I", .fieldLink RX1 23 "DangerousGoodsModel" "classes" "[I"] ++ wsX10)
def wsX1_areExcepted : List Cond := .code yX1_areExcepted cX1_areExcepted 2 (some .boolean) :: ([.fieldLink RX1 16 "DangerousGoodsModel" "exceptions" "[I", .methodLink RX1 69 yX1_isWithin, .instanceMethod yX1_isWithin, .selects RX1 yX1_isWithin yX1_isWithin, .initialized RX1, .code yX1_isWithin cX1_isWithin 4 (some .boolean), .fieldLink RX1 26 "DangerousGoodsModel" "subsidiaries" "[I", .fieldLink RX1 29 "DangerousGoodsModel" "quantities" "[I", .fieldLink RX1 23 "DangerousGoodsModel" "classes" "[I"] ++ wsX10)
def wsX1_areLimited : List Cond := .code yX1_areLimited cX1_areLimited 2 (some .boolean) :: ([.fieldLink RX1 13 "DangerousGoodsModel" "limits" "[I", .methodLink RX1 73 yX1_areExcepted, .instanceMethod yX1_areExcepted, .selects RX1 yX1_areExcepted yX1_areExcepted, .initialized RX1, .code yX1_areExcepted cX1_areExcepted 2 (some .boolean), .fieldLink RX1 16 "DangerousGoodsModel" "exceptions" "[I", .methodLink RX1 69 yX1_isWithin, .instanceMethod yX1_isWithin, .selects RX1 yX1_isWithin yX1_isWithin, .code yX1_isWithin cX1_isWithin 4 (some .boolean), .fieldLink RX1 26 "DangerousGoodsModel" "subsidiaries" "[I", .fieldLink RX1 29 "DangerousGoodsModel" "quantities" "[I", .fieldLink RX1 23 "DangerousGoodsModel" "classes" "[I"] ++ wsX10)
def wsX1_isLimited_r1 : List Cond := [Cond.methodLink RX1 66 yX1_asks, Cond.instanceMethod yX1_asks, Cond.selects RX1 yX1_asks yX1_asks, Cond.initialized RX1, Cond.code yX1_asks cX1_asks 2 (some .boolean), Cond.methodLink RX1 63 yX1_areGoods, Cond.instanceMethod yX1_areGoods, Cond.selects RX1 yX1_areGoods yX1_areGoods, Cond.code yX1_areGoods cX1_areGoods 2 (some .boolean), Cond.fieldLink RX1 46 "DangerousGoodsModel" "goods" "I", Cond.methodLink RX1 42 yX1_isIn, Cond.static yX1_isIn, Cond.code yX1_isIn cX1_isIn 3 (some .boolean), Cond.methodLink RX1 53 yX1_goes, Cond.instanceMethod yX1_goes, Cond.selects RX1 yX1_goes yX1_goes, Cond.code yX1_goes cX1_goes 2 (some .boolean), Cond.fieldLink RX1 38 "DangerousGoodsModel" "thrown" "I", Cond.methodLink RX1 76 yX1_areLimited, Cond.instanceMethod yX1_areLimited, Cond.selects RX1 yX1_areLimited yX1_areLimited, Cond.code yX1_areLimited cX1_areLimited 2 (some .boolean), Cond.fieldLink RX1 13 "DangerousGoodsModel" "limits" "[I", Cond.methodLink RX1 73 yX1_areExcepted]
def wsX1_isLimited_r2 : List Cond := [Cond.instanceMethod yX1_areExcepted, Cond.selects RX1 yX1_areExcepted yX1_areExcepted, Cond.code yX1_areExcepted cX1_areExcepted 2 (some .boolean), Cond.fieldLink RX1 16 "DangerousGoodsModel" "exceptions" "[I", Cond.methodLink RX1 69 yX1_isWithin, Cond.instanceMethod yX1_isWithin, Cond.selects RX1 yX1_isWithin yX1_isWithin, Cond.code yX1_isWithin cX1_isWithin 4 (some .boolean), Cond.fieldLink RX1 26 "DangerousGoodsModel" "subsidiaries" "[I", Cond.fieldLink RX1 29 "DangerousGoodsModel" "quantities" "[I", Cond.fieldLink RX1 23 "DangerousGoodsModel" "classes" "[I"]
def wsX1_isLimited : List Cond := .code yX1_isLimited cX1_isLimited 2 (some .boolean) :: ((wsX1_isLimited_r1 ++ wsX1_isLimited_r2) ++ wsX10)
def wsX1_isExcepted_r1 : List Cond := [Cond.methodLink RX1 66 yX1_asks, Cond.instanceMethod yX1_asks, Cond.selects RX1 yX1_asks yX1_asks, Cond.initialized RX1, Cond.code yX1_asks cX1_asks 2 (some .boolean), Cond.methodLink RX1 63 yX1_areGoods, Cond.instanceMethod yX1_areGoods, Cond.selects RX1 yX1_areGoods yX1_areGoods, Cond.code yX1_areGoods cX1_areGoods 2 (some .boolean), Cond.fieldLink RX1 46 "DangerousGoodsModel" "goods" "I", Cond.methodLink RX1 42 yX1_isIn, Cond.static yX1_isIn, Cond.code yX1_isIn cX1_isIn 3 (some .boolean), Cond.methodLink RX1 53 yX1_goes, Cond.instanceMethod yX1_goes, Cond.selects RX1 yX1_goes yX1_goes, Cond.code yX1_goes cX1_goes 2 (some .boolean), Cond.fieldLink RX1 38 "DangerousGoodsModel" "thrown" "I", Cond.methodLink RX1 73 yX1_areExcepted, Cond.instanceMethod yX1_areExcepted, Cond.selects RX1 yX1_areExcepted yX1_areExcepted, Cond.code yX1_areExcepted cX1_areExcepted 2 (some .boolean), Cond.fieldLink RX1 16 "DangerousGoodsModel" "exceptions" "[I", Cond.methodLink RX1 69 yX1_isWithin]
def wsX1_isExcepted_r2 : List Cond := [Cond.instanceMethod yX1_isWithin, Cond.selects RX1 yX1_isWithin yX1_isWithin, Cond.code yX1_isWithin cX1_isWithin 4 (some .boolean), Cond.fieldLink RX1 26 "DangerousGoodsModel" "subsidiaries" "[I", Cond.fieldLink RX1 29 "DangerousGoodsModel" "quantities" "[I", Cond.fieldLink RX1 23 "DangerousGoodsModel" "classes" "[I"]
def wsX1_isExcepted : List Cond := .code yX1_isExcepted cX1_isExcepted 2 (some .boolean) :: ((wsX1_isExcepted_r1 ++ wsX1_isExcepted_r2) ++ wsX10)
def wsX1_ofTable : List Cond := .code yX1_ofTable cX1_ofTable 3 (some .int) :: ([.fieldLink RX1 7 "DangerousGoodsModel" "table" "[I"] ++ wsX10)
def wsX1_greater : List Cond := .code yX1_greater cX1_greater 2 (some .int) :: ([])
def wsX1_needs_r1 : List Cond := [Cond.fieldLink RX1 23 "DangerousGoodsModel" "classes" "[I", Cond.fieldLink RX1 26 "DangerousGoodsModel" "subsidiaries" "[I", Cond.methodLink RX1 79 yX1_ofTable, Cond.instanceMethod yX1_ofTable, Cond.selects RX1 yX1_ofTable yX1_ofTable, Cond.initialized RX1, Cond.code yX1_ofTable cX1_ofTable 3 (some .int), Cond.fieldLink RX1 7 "DangerousGoodsModel" "table" "[I", Cond.methodLink RX1 82 yX1_greater, Cond.static yX1_greater, Cond.code yX1_greater cX1_greater 2 (some .int), Cond.methodLink RX1 73 yX1_areExcepted, Cond.instanceMethod yX1_areExcepted, Cond.selects RX1 yX1_areExcepted yX1_areExcepted, Cond.code yX1_areExcepted cX1_areExcepted 2 (some .boolean), Cond.fieldLink RX1 16 "DangerousGoodsModel" "exceptions" "[I", Cond.methodLink RX1 69 yX1_isWithin, Cond.instanceMethod yX1_isWithin, Cond.selects RX1 yX1_isWithin yX1_isWithin, Cond.code yX1_isWithin cX1_isWithin 4 (some .boolean), Cond.fieldLink RX1 29 "DangerousGoodsModel" "quantities" "[I", Cond.methodLink RX1 76 yX1_areLimited, Cond.instanceMethod yX1_areLimited, Cond.selects RX1 yX1_areLimited yX1_areLimited]
def wsX1_needs_r2 : List Cond := [Cond.code yX1_areLimited cX1_areLimited 2 (some .boolean), Cond.fieldLink RX1 13 "DangerousGoodsModel" "limits" "[I"]
def wsX1_needs : List Cond := .code yX1_needs cX1_needs 6 (some .int) :: ((wsX1_needs_r1 ++ wsX1_needs_r2) ++ wsX10)
def wsX1_asksTwo : List Cond := .code yX1_asksTwo cX1_asksTwo 3 (some .boolean) :: ([.methodLink RX1 63 yX1_areGoods, .instanceMethod yX1_areGoods, .selects RX1 yX1_areGoods yX1_areGoods, .initialized RX1, .code yX1_areGoods cX1_areGoods 2 (some .boolean), .fieldLink RX1 46 "DangerousGoodsModel" "goods" "I", .methodLink RX1 42 yX1_isIn, .static yX1_isIn, .code yX1_isIn cX1_isIn 3 (some .boolean), .methodLink RX1 53 yX1_goes, .instanceMethod yX1_goes, .selects RX1 yX1_goes yX1_goes, .code yX1_goes cX1_goes 2 (some .boolean), .fieldLink RX1 38 "DangerousGoodsModel" "thrown" "I"] ++ wsX10)
def wsX1_need_r1 : List Cond := [Cond.methodLink RX1 85 yX1_asksTwo, Cond.instanceMethod yX1_asksTwo, Cond.selects RX1 yX1_asksTwo yX1_asksTwo, Cond.initialized RX1, Cond.code yX1_asksTwo cX1_asksTwo 3 (some .boolean), Cond.methodLink RX1 63 yX1_areGoods, Cond.instanceMethod yX1_areGoods, Cond.selects RX1 yX1_areGoods yX1_areGoods, Cond.code yX1_areGoods cX1_areGoods 2 (some .boolean), Cond.fieldLink RX1 46 "DangerousGoodsModel" "goods" "I", Cond.methodLink RX1 42 yX1_isIn, Cond.static yX1_isIn, Cond.code yX1_isIn cX1_isIn 3 (some .boolean), Cond.methodLink RX1 53 yX1_goes, Cond.instanceMethod yX1_goes, Cond.selects RX1 yX1_goes yX1_goes, Cond.code yX1_goes cX1_goes 2 (some .boolean), Cond.fieldLink RX1 38 "DangerousGoodsModel" "thrown" "I", Cond.methodLink RX1 89 yX1_needs, Cond.instanceMethod yX1_needs, Cond.selects RX1 yX1_needs yX1_needs, Cond.code yX1_needs cX1_needs 6 (some .int), Cond.fieldLink RX1 23 "DangerousGoodsModel" "classes" "[I", Cond.fieldLink RX1 26 "DangerousGoodsModel" "subsidiaries" "[I"]
def wsX1_need_r2 : List Cond := [Cond.methodLink RX1 79 yX1_ofTable, Cond.instanceMethod yX1_ofTable, Cond.selects RX1 yX1_ofTable yX1_ofTable, Cond.code yX1_ofTable cX1_ofTable 3 (some .int), Cond.fieldLink RX1 7 "DangerousGoodsModel" "table" "[I", Cond.methodLink RX1 82 yX1_greater, Cond.static yX1_greater, Cond.code yX1_greater cX1_greater 2 (some .int), Cond.methodLink RX1 73 yX1_areExcepted, Cond.instanceMethod yX1_areExcepted, Cond.selects RX1 yX1_areExcepted yX1_areExcepted, Cond.code yX1_areExcepted cX1_areExcepted 2 (some .boolean), Cond.fieldLink RX1 16 "DangerousGoodsModel" "exceptions" "[I", Cond.methodLink RX1 69 yX1_isWithin, Cond.instanceMethod yX1_isWithin, Cond.selects RX1 yX1_isWithin yX1_isWithin, Cond.code yX1_isWithin cX1_isWithin 4 (some .boolean), Cond.fieldLink RX1 29 "DangerousGoodsModel" "quantities" "[I", Cond.methodLink RX1 76 yX1_areLimited, Cond.instanceMethod yX1_areLimited, Cond.selects RX1 yX1_areLimited yX1_areLimited, Cond.code yX1_areLimited cX1_areLimited 2 (some .boolean), Cond.fieldLink RX1 13 "DangerousGoodsModel" "limits" "[I"]
def wsX1_need : List Cond := .code yX1_need cX1_need 3 (some .int) :: ((wsX1_need_r1 ++ wsX1_need_r2) ++ wsX10)
def wsX1_areFoes_r1 : List Cond := [Cond.fieldLink RX1 32 "DangerousGoodsModel" "places" "[I", Cond.methodLink RX1 59 yX1_apart, Cond.static yX1_apart, Cond.initialized RX1, Cond.code yX1_apart cX1_apart 6 (some .int), Cond.methodLink RX1 89 yX1_needs, Cond.instanceMethod yX1_needs, Cond.selects RX1 yX1_needs yX1_needs, Cond.code yX1_needs cX1_needs 6 (some .int), Cond.fieldLink RX1 23 "DangerousGoodsModel" "classes" "[I", Cond.fieldLink RX1 26 "DangerousGoodsModel" "subsidiaries" "[I", Cond.methodLink RX1 79 yX1_ofTable, Cond.instanceMethod yX1_ofTable, Cond.selects RX1 yX1_ofTable yX1_ofTable, Cond.code yX1_ofTable cX1_ofTable 3 (some .int), Cond.fieldLink RX1 7 "DangerousGoodsModel" "table" "[I", Cond.methodLink RX1 82 yX1_greater, Cond.static yX1_greater, Cond.code yX1_greater cX1_greater 2 (some .int), Cond.methodLink RX1 73 yX1_areExcepted, Cond.instanceMethod yX1_areExcepted, Cond.selects RX1 yX1_areExcepted yX1_areExcepted, Cond.code yX1_areExcepted cX1_areExcepted 2 (some .boolean), Cond.fieldLink RX1 16 "DangerousGoodsModel" "exceptions" "[I"]
def wsX1_areFoes_r2 : List Cond := [Cond.methodLink RX1 69 yX1_isWithin, Cond.instanceMethod yX1_isWithin, Cond.selects RX1 yX1_isWithin yX1_isWithin, Cond.code yX1_isWithin cX1_isWithin 4 (some .boolean), Cond.fieldLink RX1 29 "DangerousGoodsModel" "quantities" "[I", Cond.methodLink RX1 76 yX1_areLimited, Cond.instanceMethod yX1_areLimited, Cond.selects RX1 yX1_areLimited yX1_areLimited, Cond.code yX1_areLimited cX1_areLimited 2 (some .boolean), Cond.fieldLink RX1 13 "DangerousGoodsModel" "limits" "[I"]
def wsX1_areFoes : List Cond := .code yX1_areFoes cX1_areFoes 4 (some .boolean) :: ((wsX1_areFoes_r1 ++ wsX1_areFoes_r2) ++ wsX10)
def wsX1_areWrong : List Cond := .code yX1_areWrong cX1_areWrong 5 (some .boolean) :: ([.fieldLink RX1 26 "DangerousGoodsModel" "subsidiaries" "[I", .fieldLink RX1 19 "DangerousGoodsModel" "isBarred" "[Z", .fieldLink RX1 23 "DangerousGoodsModel" "classes" "[I", .methodLink RX1 73 yX1_areExcepted, .instanceMethod yX1_areExcepted, .selects RX1 yX1_areExcepted yX1_areExcepted, .initialized RX1, .code yX1_areExcepted cX1_areExcepted 2 (some .boolean), .fieldLink RX1 16 "DangerousGoodsModel" "exceptions" "[I", .methodLink RX1 69 yX1_isWithin, .instanceMethod yX1_isWithin, .selects RX1 yX1_isWithin yX1_isWithin, .code yX1_isWithin cX1_isWithin 4 (some .boolean), .fieldLink RX1 29 "DangerousGoodsModel" "quantities" "[I"] ++ wsX10)
def wsX1_areInBreach_r1 : List Cond := [Cond.fieldLink RX1 32 "DangerousGoodsModel" "places" "[I", Cond.methodLink RX1 85 yX1_asksTwo, Cond.instanceMethod yX1_asksTwo, Cond.selects RX1 yX1_asksTwo yX1_asksTwo, Cond.initialized RX1, Cond.code yX1_asksTwo cX1_asksTwo 3 (some .boolean), Cond.methodLink RX1 63 yX1_areGoods, Cond.instanceMethod yX1_areGoods, Cond.selects RX1 yX1_areGoods yX1_areGoods, Cond.code yX1_areGoods cX1_areGoods 2 (some .boolean), Cond.fieldLink RX1 46 "DangerousGoodsModel" "goods" "I", Cond.methodLink RX1 42 yX1_isIn, Cond.static yX1_isIn, Cond.code yX1_isIn cX1_isIn 3 (some .boolean), Cond.methodLink RX1 53 yX1_goes, Cond.instanceMethod yX1_goes, Cond.selects RX1 yX1_goes yX1_goes, Cond.code yX1_goes cX1_goes 2 (some .boolean), Cond.fieldLink RX1 38 "DangerousGoodsModel" "thrown" "I", Cond.methodLink RX1 92 yX1_areFoes, Cond.instanceMethod yX1_areFoes, Cond.selects RX1 yX1_areFoes yX1_areFoes, Cond.code yX1_areFoes cX1_areFoes 4 (some .boolean), Cond.methodLink RX1 59 yX1_apart]
def wsX1_areInBreach_r2 : List Cond := [Cond.static yX1_apart, Cond.code yX1_apart cX1_apart 6 (some .int), Cond.methodLink RX1 89 yX1_needs, Cond.instanceMethod yX1_needs, Cond.selects RX1 yX1_needs yX1_needs, Cond.code yX1_needs cX1_needs 6 (some .int), Cond.fieldLink RX1 23 "DangerousGoodsModel" "classes" "[I", Cond.fieldLink RX1 26 "DangerousGoodsModel" "subsidiaries" "[I", Cond.methodLink RX1 79 yX1_ofTable, Cond.instanceMethod yX1_ofTable, Cond.selects RX1 yX1_ofTable yX1_ofTable, Cond.code yX1_ofTable cX1_ofTable 3 (some .int), Cond.fieldLink RX1 7 "DangerousGoodsModel" "table" "[I", Cond.methodLink RX1 82 yX1_greater, Cond.static yX1_greater, Cond.code yX1_greater cX1_greater 2 (some .int), Cond.methodLink RX1 73 yX1_areExcepted, Cond.instanceMethod yX1_areExcepted, Cond.selects RX1 yX1_areExcepted yX1_areExcepted, Cond.code yX1_areExcepted cX1_areExcepted 2 (some .boolean), Cond.fieldLink RX1 16 "DangerousGoodsModel" "exceptions" "[I", Cond.methodLink RX1 69 yX1_isWithin, Cond.instanceMethod yX1_isWithin, Cond.selects RX1 yX1_isWithin yX1_isWithin]
def wsX1_areInBreach_r3 : List Cond := [Cond.code yX1_isWithin cX1_isWithin 4 (some .boolean), Cond.fieldLink RX1 29 "DangerousGoodsModel" "quantities" "[I", Cond.methodLink RX1 76 yX1_areLimited, Cond.instanceMethod yX1_areLimited, Cond.selects RX1 yX1_areLimited yX1_areLimited, Cond.code yX1_areLimited cX1_areLimited 2 (some .boolean), Cond.fieldLink RX1 13 "DangerousGoodsModel" "limits" "[I"]
def wsX1_areInBreach : List Cond := .code yX1_areInBreach cX1_areInBreach 3 (some .boolean) :: ((wsX1_areInBreach_r1 ++ (wsX1_areInBreach_r2 ++ wsX1_areInBreach_r3)) ++ wsX10)
def wsX1_isMisplaced_r1 : List Cond := [Cond.fieldLink RX1 32 "DangerousGoodsModel" "places" "[I", Cond.methodLink RX1 66 yX1_asks, Cond.instanceMethod yX1_asks, Cond.selects RX1 yX1_asks yX1_asks, Cond.initialized RX1, Cond.code yX1_asks cX1_asks 2 (some .boolean), Cond.methodLink RX1 63 yX1_areGoods, Cond.instanceMethod yX1_areGoods, Cond.selects RX1 yX1_areGoods yX1_areGoods, Cond.code yX1_areGoods cX1_areGoods 2 (some .boolean), Cond.fieldLink RX1 46 "DangerousGoodsModel" "goods" "I", Cond.methodLink RX1 42 yX1_isIn, Cond.static yX1_isIn, Cond.code yX1_isIn cX1_isIn 3 (some .boolean), Cond.methodLink RX1 53 yX1_goes, Cond.instanceMethod yX1_goes, Cond.selects RX1 yX1_goes yX1_goes, Cond.code yX1_goes cX1_goes 2 (some .boolean), Cond.fieldLink RX1 38 "DangerousGoodsModel" "thrown" "I", Cond.methodLink RX1 95 yX1_areWrong, Cond.instanceMethod yX1_areWrong, Cond.selects RX1 yX1_areWrong yX1_areWrong, Cond.code yX1_areWrong cX1_areWrong 5 (some .boolean), Cond.fieldLink RX1 26 "DangerousGoodsModel" "subsidiaries" "[I"]
def wsX1_isMisplaced_r2 : List Cond := [Cond.fieldLink RX1 19 "DangerousGoodsModel" "isBarred" "[Z", Cond.fieldLink RX1 23 "DangerousGoodsModel" "classes" "[I", Cond.methodLink RX1 73 yX1_areExcepted, Cond.instanceMethod yX1_areExcepted, Cond.selects RX1 yX1_areExcepted yX1_areExcepted, Cond.code yX1_areExcepted cX1_areExcepted 2 (some .boolean), Cond.fieldLink RX1 16 "DangerousGoodsModel" "exceptions" "[I", Cond.methodLink RX1 69 yX1_isWithin, Cond.instanceMethod yX1_isWithin, Cond.selects RX1 yX1_isWithin yX1_isWithin, Cond.code yX1_isWithin cX1_isWithin 4 (some .boolean), Cond.fieldLink RX1 29 "DangerousGoodsModel" "quantities" "[I"]
def wsX1_isMisplaced : List Cond := .code yX1_isMisplaced cX1_isMisplaced 2 (some .boolean) :: ((wsX1_isMisplaced_r1 ++ wsX1_isMisplaced_r2) ++ wsX10)
def wsX1_foesOf_r1 : List Cond := [Cond.fieldLink RX1 46 "DangerousGoodsModel" "goods" "I", Cond.fieldLink RX1 32 "DangerousGoodsModel" "places" "[I", Cond.methodLink RX1 92 yX1_areFoes, Cond.instanceMethod yX1_areFoes, Cond.selects RX1 yX1_areFoes yX1_areFoes, Cond.initialized RX1, Cond.code yX1_areFoes cX1_areFoes 4 (some .boolean), Cond.methodLink RX1 59 yX1_apart, Cond.static yX1_apart, Cond.code yX1_apart cX1_apart 6 (some .int), Cond.methodLink RX1 89 yX1_needs, Cond.instanceMethod yX1_needs, Cond.selects RX1 yX1_needs yX1_needs, Cond.code yX1_needs cX1_needs 6 (some .int), Cond.fieldLink RX1 23 "DangerousGoodsModel" "classes" "[I", Cond.fieldLink RX1 26 "DangerousGoodsModel" "subsidiaries" "[I", Cond.methodLink RX1 79 yX1_ofTable, Cond.instanceMethod yX1_ofTable, Cond.selects RX1 yX1_ofTable yX1_ofTable, Cond.code yX1_ofTable cX1_ofTable 3 (some .int), Cond.fieldLink RX1 7 "DangerousGoodsModel" "table" "[I", Cond.methodLink RX1 82 yX1_greater, Cond.static yX1_greater, Cond.code yX1_greater cX1_greater 2 (some .int)]
def wsX1_foesOf_r2 : List Cond := [Cond.methodLink RX1 73 yX1_areExcepted, Cond.instanceMethod yX1_areExcepted, Cond.selects RX1 yX1_areExcepted yX1_areExcepted, Cond.code yX1_areExcepted cX1_areExcepted 2 (some .boolean), Cond.fieldLink RX1 16 "DangerousGoodsModel" "exceptions" "[I", Cond.methodLink RX1 69 yX1_isWithin, Cond.instanceMethod yX1_isWithin, Cond.selects RX1 yX1_isWithin yX1_isWithin, Cond.code yX1_isWithin cX1_isWithin 4 (some .boolean), Cond.fieldLink RX1 29 "DangerousGoodsModel" "quantities" "[I", Cond.methodLink RX1 76 yX1_areLimited, Cond.instanceMethod yX1_areLimited, Cond.selects RX1 yX1_areLimited yX1_areLimited, Cond.code yX1_areLimited cX1_areLimited 2 (some .boolean), Cond.fieldLink RX1 13 "DangerousGoodsModel" "limits" "[I"]
def wsX1_foesOf : List Cond := .code yX1_foesOf cX1_foesOf 4 (some .int) :: ((wsX1_foesOf_r1 ++ wsX1_foesOf_r2) ++ wsX10)
def wsX1_breaches_r1 : List Cond := [Cond.fieldLink RX1 38 "DangerousGoodsModel" "thrown" "I", Cond.fieldLink RX1 46 "DangerousGoodsModel" "goods" "I", Cond.methodLink RX1 98 yX1_foesOf, Cond.instanceMethod yX1_foesOf, Cond.selects RX1 yX1_foesOf yX1_foesOf, Cond.initialized RX1, Cond.code yX1_foesOf cX1_foesOf 4 (some .int), Cond.fieldLink RX1 32 "DangerousGoodsModel" "places" "[I", Cond.methodLink RX1 92 yX1_areFoes, Cond.instanceMethod yX1_areFoes, Cond.selects RX1 yX1_areFoes yX1_areFoes, Cond.code yX1_areFoes cX1_areFoes 4 (some .boolean), Cond.methodLink RX1 59 yX1_apart, Cond.static yX1_apart, Cond.code yX1_apart cX1_apart 6 (some .int), Cond.methodLink RX1 89 yX1_needs, Cond.instanceMethod yX1_needs, Cond.selects RX1 yX1_needs yX1_needs, Cond.code yX1_needs cX1_needs 6 (some .int), Cond.fieldLink RX1 23 "DangerousGoodsModel" "classes" "[I", Cond.fieldLink RX1 26 "DangerousGoodsModel" "subsidiaries" "[I", Cond.methodLink RX1 79 yX1_ofTable, Cond.instanceMethod yX1_ofTable, Cond.selects RX1 yX1_ofTable yX1_ofTable]
def wsX1_breaches_r2 : List Cond := [Cond.code yX1_ofTable cX1_ofTable 3 (some .int), Cond.fieldLink RX1 7 "DangerousGoodsModel" "table" "[I", Cond.methodLink RX1 82 yX1_greater, Cond.static yX1_greater, Cond.code yX1_greater cX1_greater 2 (some .int), Cond.methodLink RX1 73 yX1_areExcepted, Cond.instanceMethod yX1_areExcepted, Cond.selects RX1 yX1_areExcepted yX1_areExcepted, Cond.code yX1_areExcepted cX1_areExcepted 2 (some .boolean), Cond.fieldLink RX1 16 "DangerousGoodsModel" "exceptions" "[I", Cond.methodLink RX1 69 yX1_isWithin, Cond.instanceMethod yX1_isWithin, Cond.selects RX1 yX1_isWithin yX1_isWithin, Cond.code yX1_isWithin cX1_isWithin 4 (some .boolean), Cond.fieldLink RX1 29 "DangerousGoodsModel" "quantities" "[I", Cond.methodLink RX1 76 yX1_areLimited, Cond.instanceMethod yX1_areLimited, Cond.selects RX1 yX1_areLimited yX1_areLimited, Cond.code yX1_areLimited cX1_areLimited 2 (some .boolean), Cond.fieldLink RX1 13 "DangerousGoodsModel" "limits" "[I"]
def wsX1_breaches : List Cond := .code yX1_breaches cX1_breaches 3 (some .int) :: ((wsX1_breaches_r1 ++ wsX1_breaches_r2) ++ wsX10)
def wsX1_inBreachWith_r1 : List Cond := [Cond.methodLink RX1 66 yX1_asks, Cond.instanceMethod yX1_asks, Cond.selects RX1 yX1_asks yX1_asks, Cond.initialized RX1, Cond.code yX1_asks cX1_asks 2 (some .boolean), Cond.methodLink RX1 63 yX1_areGoods, Cond.instanceMethod yX1_areGoods, Cond.selects RX1 yX1_areGoods yX1_areGoods, Cond.code yX1_areGoods cX1_areGoods 2 (some .boolean), Cond.fieldLink RX1 46 "DangerousGoodsModel" "goods" "I", Cond.methodLink RX1 42 yX1_isIn, Cond.static yX1_isIn, Cond.code yX1_isIn cX1_isIn 3 (some .boolean), Cond.methodLink RX1 53 yX1_goes, Cond.instanceMethod yX1_goes, Cond.selects RX1 yX1_goes yX1_goes, Cond.code yX1_goes cX1_goes 2 (some .boolean), Cond.fieldLink RX1 38 "DangerousGoodsModel" "thrown" "I", Cond.methodLink RX1 98 yX1_foesOf, Cond.instanceMethod yX1_foesOf, Cond.selects RX1 yX1_foesOf yX1_foesOf, Cond.code yX1_foesOf cX1_foesOf 4 (some .int), Cond.fieldLink RX1 32 "DangerousGoodsModel" "places" "[I", Cond.methodLink RX1 92 yX1_areFoes]
def wsX1_inBreachWith_r2 : List Cond := [Cond.instanceMethod yX1_areFoes, Cond.selects RX1 yX1_areFoes yX1_areFoes, Cond.code yX1_areFoes cX1_areFoes 4 (some .boolean), Cond.methodLink RX1 59 yX1_apart, Cond.static yX1_apart, Cond.code yX1_apart cX1_apart 6 (some .int), Cond.methodLink RX1 89 yX1_needs, Cond.instanceMethod yX1_needs, Cond.selects RX1 yX1_needs yX1_needs, Cond.code yX1_needs cX1_needs 6 (some .int), Cond.fieldLink RX1 23 "DangerousGoodsModel" "classes" "[I", Cond.fieldLink RX1 26 "DangerousGoodsModel" "subsidiaries" "[I", Cond.methodLink RX1 79 yX1_ofTable, Cond.instanceMethod yX1_ofTable, Cond.selects RX1 yX1_ofTable yX1_ofTable, Cond.code yX1_ofTable cX1_ofTable 3 (some .int), Cond.fieldLink RX1 7 "DangerousGoodsModel" "table" "[I", Cond.methodLink RX1 82 yX1_greater, Cond.static yX1_greater, Cond.code yX1_greater cX1_greater 2 (some .int), Cond.methodLink RX1 73 yX1_areExcepted, Cond.instanceMethod yX1_areExcepted, Cond.selects RX1 yX1_areExcepted yX1_areExcepted, Cond.code yX1_areExcepted cX1_areExcepted 2 (some .boolean)]
def wsX1_inBreachWith_r3 : List Cond := [Cond.fieldLink RX1 16 "DangerousGoodsModel" "exceptions" "[I", Cond.methodLink RX1 69 yX1_isWithin, Cond.instanceMethod yX1_isWithin, Cond.selects RX1 yX1_isWithin yX1_isWithin, Cond.code yX1_isWithin cX1_isWithin 4 (some .boolean), Cond.fieldLink RX1 29 "DangerousGoodsModel" "quantities" "[I", Cond.methodLink RX1 76 yX1_areLimited, Cond.instanceMethod yX1_areLimited, Cond.selects RX1 yX1_areLimited yX1_areLimited, Cond.code yX1_areLimited cX1_areLimited 2 (some .boolean), Cond.fieldLink RX1 13 "DangerousGoodsModel" "limits" "[I"]
def wsX1_inBreachWith : List Cond := .code yX1_inBreachWith cX1_inBreachWith 2 (some .int) :: ((wsX1_inBreachWith_r1 ++ (wsX1_inBreachWith_r2 ++ wsX1_inBreachWith_r3)) ++ wsX10)
def wsX1_wrongs : List Cond := .code yX1_wrongs cX1_wrongs 3 (some .int) :: ([.fieldLink RX1 46 "DangerousGoodsModel" "goods" "I", .fieldLink RX1 32 "DangerousGoodsModel" "places" "[I", .methodLink RX1 95 yX1_areWrong, .instanceMethod yX1_areWrong, .selects RX1 yX1_areWrong yX1_areWrong, .initialized RX1, .code yX1_areWrong cX1_areWrong 5 (some .boolean), .fieldLink RX1 26 "DangerousGoodsModel" "subsidiaries" "[I", .fieldLink RX1 19 "DangerousGoodsModel" "isBarred" "[Z", .fieldLink RX1 23 "DangerousGoodsModel" "classes" "[I", .methodLink RX1 73 yX1_areExcepted, .instanceMethod yX1_areExcepted, .selects RX1 yX1_areExcepted yX1_areExcepted, .code yX1_areExcepted cX1_areExcepted 2 (some .boolean), .fieldLink RX1 16 "DangerousGoodsModel" "exceptions" "[I", .methodLink RX1 69 yX1_isWithin, .instanceMethod yX1_isWithin, .selects RX1 yX1_isWithin yX1_isWithin, .code yX1_isWithin cX1_isWithin 4 (some .boolean), .fieldLink RX1 29 "DangerousGoodsModel" "quantities" "[I"] ++ wsX10)
def wsX1_isCleanWithout : List Cond := .code yX1_isCleanWithout cX1_isCleanWithout 5 (some .boolean) :: ([.fieldLink RX1 46 "DangerousGoodsModel" "goods" "I", .fieldLink RX1 35 "DangerousGoodsModel" "foes" "[I"] ++ wsX10)
def wsX1_laysFoes_r1 : List Cond := [Cond.fieldLink RX1 46 "DangerousGoodsModel" "goods" "I", Cond.fieldLink RX1 35 "DangerousGoodsModel" "foes" "[I", Cond.methodLink RX1 98 yX1_foesOf, Cond.instanceMethod yX1_foesOf, Cond.selects RX1 yX1_foesOf yX1_foesOf, Cond.initialized RX1, Cond.code yX1_foesOf cX1_foesOf 4 (some .int), Cond.fieldLink RX1 32 "DangerousGoodsModel" "places" "[I", Cond.methodLink RX1 92 yX1_areFoes, Cond.instanceMethod yX1_areFoes, Cond.selects RX1 yX1_areFoes yX1_areFoes, Cond.code yX1_areFoes cX1_areFoes 4 (some .boolean), Cond.methodLink RX1 59 yX1_apart, Cond.static yX1_apart, Cond.code yX1_apart cX1_apart 6 (some .int), Cond.methodLink RX1 89 yX1_needs, Cond.instanceMethod yX1_needs, Cond.selects RX1 yX1_needs yX1_needs, Cond.code yX1_needs cX1_needs 6 (some .int), Cond.fieldLink RX1 23 "DangerousGoodsModel" "classes" "[I", Cond.fieldLink RX1 26 "DangerousGoodsModel" "subsidiaries" "[I", Cond.methodLink RX1 79 yX1_ofTable, Cond.instanceMethod yX1_ofTable, Cond.selects RX1 yX1_ofTable yX1_ofTable]
def wsX1_laysFoes_r2 : List Cond := [Cond.code yX1_ofTable cX1_ofTable 3 (some .int), Cond.fieldLink RX1 7 "DangerousGoodsModel" "table" "[I", Cond.methodLink RX1 82 yX1_greater, Cond.static yX1_greater, Cond.code yX1_greater cX1_greater 2 (some .int), Cond.methodLink RX1 73 yX1_areExcepted, Cond.instanceMethod yX1_areExcepted, Cond.selects RX1 yX1_areExcepted yX1_areExcepted, Cond.code yX1_areExcepted cX1_areExcepted 2 (some .boolean), Cond.fieldLink RX1 16 "DangerousGoodsModel" "exceptions" "[I", Cond.methodLink RX1 69 yX1_isWithin, Cond.instanceMethod yX1_isWithin, Cond.selects RX1 yX1_isWithin yX1_isWithin, Cond.code yX1_isWithin cX1_isWithin 4 (some .boolean), Cond.fieldLink RX1 29 "DangerousGoodsModel" "quantities" "[I", Cond.methodLink RX1 76 yX1_areLimited, Cond.instanceMethod yX1_areLimited, Cond.selects RX1 yX1_areLimited yX1_areLimited, Cond.code yX1_areLimited cX1_areLimited 2 (some .boolean), Cond.fieldLink RX1 13 "DangerousGoodsModel" "limits" "[I"]
def wsX1_laysFoes : List Cond := .code yX1_laysFoes cX1_laysFoes 2 none :: ((wsX1_laysFoes_r1 ++ wsX1_laysFoes_r2) ++ wsX10)
def wsX1_isClean_r1 : List Cond := [Cond.fieldLink RX1 38 "DangerousGoodsModel" "thrown" "I", Cond.methodLink RX1 102 yX1_laysFoes, Cond.instanceMethod yX1_laysFoes, Cond.selects RX1 yX1_laysFoes yX1_laysFoes, Cond.initialized RX1, Cond.code yX1_laysFoes cX1_laysFoes 2 none, Cond.fieldLink RX1 46 "DangerousGoodsModel" "goods" "I", Cond.fieldLink RX1 35 "DangerousGoodsModel" "foes" "[I", Cond.methodLink RX1 98 yX1_foesOf, Cond.instanceMethod yX1_foesOf, Cond.selects RX1 yX1_foesOf yX1_foesOf, Cond.code yX1_foesOf cX1_foesOf 4 (some .int), Cond.fieldLink RX1 32 "DangerousGoodsModel" "places" "[I", Cond.methodLink RX1 92 yX1_areFoes, Cond.instanceMethod yX1_areFoes, Cond.selects RX1 yX1_areFoes yX1_areFoes, Cond.code yX1_areFoes cX1_areFoes 4 (some .boolean), Cond.methodLink RX1 59 yX1_apart, Cond.static yX1_apart, Cond.code yX1_apart cX1_apart 6 (some .int), Cond.methodLink RX1 89 yX1_needs, Cond.instanceMethod yX1_needs, Cond.selects RX1 yX1_needs yX1_needs, Cond.code yX1_needs cX1_needs 6 (some .int)]
def wsX1_isClean_r2 : List Cond := [Cond.fieldLink RX1 23 "DangerousGoodsModel" "classes" "[I", Cond.fieldLink RX1 26 "DangerousGoodsModel" "subsidiaries" "[I", Cond.methodLink RX1 79 yX1_ofTable, Cond.instanceMethod yX1_ofTable, Cond.selects RX1 yX1_ofTable yX1_ofTable, Cond.code yX1_ofTable cX1_ofTable 3 (some .int), Cond.fieldLink RX1 7 "DangerousGoodsModel" "table" "[I", Cond.methodLink RX1 82 yX1_greater, Cond.static yX1_greater, Cond.code yX1_greater cX1_greater 2 (some .int), Cond.methodLink RX1 73 yX1_areExcepted, Cond.instanceMethod yX1_areExcepted, Cond.selects RX1 yX1_areExcepted yX1_areExcepted, Cond.code yX1_areExcepted cX1_areExcepted 2 (some .boolean), Cond.fieldLink RX1 16 "DangerousGoodsModel" "exceptions" "[I", Cond.methodLink RX1 69 yX1_isWithin, Cond.instanceMethod yX1_isWithin, Cond.selects RX1 yX1_isWithin yX1_isWithin, Cond.code yX1_isWithin cX1_isWithin 4 (some .boolean), Cond.fieldLink RX1 29 "DangerousGoodsModel" "quantities" "[I", Cond.methodLink RX1 76 yX1_areLimited, Cond.instanceMethod yX1_areLimited, Cond.selects RX1 yX1_areLimited yX1_areLimited, Cond.code yX1_areLimited cX1_areLimited 2 (some .boolean)]
def wsX1_isClean_r3 : List Cond := [Cond.fieldLink RX1 13 "DangerousGoodsModel" "limits" "[I", Cond.methodLink RX1 105 yX1_wrongs, Cond.instanceMethod yX1_wrongs, Cond.selects RX1 yX1_wrongs yX1_wrongs, Cond.code yX1_wrongs cX1_wrongs 3 (some .int), Cond.methodLink RX1 95 yX1_areWrong, Cond.instanceMethod yX1_areWrong, Cond.selects RX1 yX1_areWrong yX1_areWrong, Cond.code yX1_areWrong cX1_areWrong 5 (some .boolean), Cond.fieldLink RX1 19 "DangerousGoodsModel" "isBarred" "[Z", Cond.methodLink RX1 109 yX1_isCleanWithout, Cond.instanceMethod yX1_isCleanWithout, Cond.selects RX1 yX1_isCleanWithout yX1_isCleanWithout, Cond.code yX1_isCleanWithout cX1_isCleanWithout 5 (some .boolean)]
def wsX1_isClean : List Cond := .code yX1_isClean cX1_isClean 1 (some .boolean) :: ((wsX1_isClean_r1 ++ (wsX1_isClean_r2 ++ wsX1_isClean_r3)) ++ wsX10)
def wsX1_isGood_r1 : List Cond := [Cond.fieldLink RX1 46 "DangerousGoodsModel" "goods" "I", Cond.methodLink RX1 95 yX1_areWrong, Cond.instanceMethod yX1_areWrong, Cond.selects RX1 yX1_areWrong yX1_areWrong, Cond.initialized RX1, Cond.code yX1_areWrong cX1_areWrong 5 (some .boolean), Cond.fieldLink RX1 26 "DangerousGoodsModel" "subsidiaries" "[I", Cond.fieldLink RX1 19 "DangerousGoodsModel" "isBarred" "[Z", Cond.fieldLink RX1 23 "DangerousGoodsModel" "classes" "[I", Cond.methodLink RX1 73 yX1_areExcepted, Cond.instanceMethod yX1_areExcepted, Cond.selects RX1 yX1_areExcepted yX1_areExcepted, Cond.code yX1_areExcepted cX1_areExcepted 2 (some .boolean), Cond.fieldLink RX1 16 "DangerousGoodsModel" "exceptions" "[I", Cond.methodLink RX1 69 yX1_isWithin, Cond.instanceMethod yX1_isWithin, Cond.selects RX1 yX1_isWithin yX1_isWithin, Cond.code yX1_isWithin cX1_isWithin 4 (some .boolean), Cond.fieldLink RX1 29 "DangerousGoodsModel" "quantities" "[I", Cond.methodLink RX1 92 yX1_areFoes, Cond.instanceMethod yX1_areFoes, Cond.selects RX1 yX1_areFoes yX1_areFoes, Cond.code yX1_areFoes cX1_areFoes 4 (some .boolean), Cond.fieldLink RX1 32 "DangerousGoodsModel" "places" "[I"]
def wsX1_isGood_r2 : List Cond := [Cond.methodLink RX1 59 yX1_apart, Cond.static yX1_apart, Cond.code yX1_apart cX1_apart 6 (some .int), Cond.methodLink RX1 89 yX1_needs, Cond.instanceMethod yX1_needs, Cond.selects RX1 yX1_needs yX1_needs, Cond.code yX1_needs cX1_needs 6 (some .int), Cond.methodLink RX1 79 yX1_ofTable, Cond.instanceMethod yX1_ofTable, Cond.selects RX1 yX1_ofTable yX1_ofTable, Cond.code yX1_ofTable cX1_ofTable 3 (some .int), Cond.fieldLink RX1 7 "DangerousGoodsModel" "table" "[I", Cond.methodLink RX1 82 yX1_greater, Cond.static yX1_greater, Cond.code yX1_greater cX1_greater 2 (some .int), Cond.methodLink RX1 76 yX1_areLimited, Cond.instanceMethod yX1_areLimited, Cond.selects RX1 yX1_areLimited yX1_areLimited, Cond.code yX1_areLimited cX1_areLimited 2 (some .boolean), Cond.fieldLink RX1 13 "DangerousGoodsModel" "limits" "[I"]
def wsX1_isGood : List Cond := .code yX1_isGood cX1_isGood 5 (some .boolean) :: ((wsX1_isGood_r1 ++ wsX1_isGood_r2) ++ wsX10)
def wsX1_canPut_r1 : List Cond := [Cond.methodLink RX1 63 yX1_areGoods, Cond.instanceMethod yX1_areGoods, Cond.selects RX1 yX1_areGoods yX1_areGoods, Cond.initialized RX1, Cond.code yX1_areGoods cX1_areGoods 2 (some .boolean), Cond.fieldLink RX1 46 "DangerousGoodsModel" "goods" "I", Cond.methodLink RX1 42 yX1_isIn, Cond.static yX1_isIn, Cond.code yX1_isIn cX1_isIn 3 (some .boolean), Cond.methodLink RX1 56 yX1_isPlace, Cond.static yX1_isPlace, Cond.code yX1_isPlace cX1_isPlace 1 (some .boolean), Cond.methodLink RX1 53 yX1_goes, Cond.instanceMethod yX1_goes, Cond.selects RX1 yX1_goes yX1_goes, Cond.code yX1_goes cX1_goes 2 (some .boolean), Cond.fieldLink RX1 38 "DangerousGoodsModel" "thrown" "I", Cond.methodLink RX1 112 yX1_isGood, Cond.instanceMethod yX1_isGood, Cond.selects RX1 yX1_isGood yX1_isGood, Cond.code yX1_isGood cX1_isGood 5 (some .boolean), Cond.methodLink RX1 95 yX1_areWrong, Cond.instanceMethod yX1_areWrong, Cond.selects RX1 yX1_areWrong yX1_areWrong]
def wsX1_canPut_r2 : List Cond := [Cond.code yX1_areWrong cX1_areWrong 5 (some .boolean), Cond.fieldLink RX1 26 "DangerousGoodsModel" "subsidiaries" "[I", Cond.fieldLink RX1 19 "DangerousGoodsModel" "isBarred" "[Z", Cond.fieldLink RX1 23 "DangerousGoodsModel" "classes" "[I", Cond.methodLink RX1 73 yX1_areExcepted, Cond.instanceMethod yX1_areExcepted, Cond.selects RX1 yX1_areExcepted yX1_areExcepted, Cond.code yX1_areExcepted cX1_areExcepted 2 (some .boolean), Cond.fieldLink RX1 16 "DangerousGoodsModel" "exceptions" "[I", Cond.methodLink RX1 69 yX1_isWithin, Cond.instanceMethod yX1_isWithin, Cond.selects RX1 yX1_isWithin yX1_isWithin, Cond.code yX1_isWithin cX1_isWithin 4 (some .boolean), Cond.fieldLink RX1 29 "DangerousGoodsModel" "quantities" "[I", Cond.methodLink RX1 92 yX1_areFoes, Cond.instanceMethod yX1_areFoes, Cond.selects RX1 yX1_areFoes yX1_areFoes, Cond.code yX1_areFoes cX1_areFoes 4 (some .boolean), Cond.fieldLink RX1 32 "DangerousGoodsModel" "places" "[I", Cond.methodLink RX1 59 yX1_apart, Cond.static yX1_apart, Cond.code yX1_apart cX1_apart 6 (some .int), Cond.methodLink RX1 89 yX1_needs, Cond.instanceMethod yX1_needs]
def wsX1_canPut_r3 : List Cond := [Cond.selects RX1 yX1_needs yX1_needs, Cond.code yX1_needs cX1_needs 6 (some .int), Cond.methodLink RX1 79 yX1_ofTable, Cond.instanceMethod yX1_ofTable, Cond.selects RX1 yX1_ofTable yX1_ofTable, Cond.code yX1_ofTable cX1_ofTable 3 (some .int), Cond.fieldLink RX1 7 "DangerousGoodsModel" "table" "[I", Cond.methodLink RX1 82 yX1_greater, Cond.static yX1_greater, Cond.code yX1_greater cX1_greater 2 (some .int), Cond.methodLink RX1 76 yX1_areLimited, Cond.instanceMethod yX1_areLimited, Cond.selects RX1 yX1_areLimited yX1_areLimited, Cond.code yX1_areLimited cX1_areLimited 2 (some .boolean), Cond.fieldLink RX1 13 "DangerousGoodsModel" "limits" "[I"]
def wsX1_canPut : List Cond := .code yX1_canPut cX1_canPut 3 (some .boolean) :: ((wsX1_canPut_r1 ++ (wsX1_canPut_r2 ++ wsX1_canPut_r3)) ++ wsX10)
def wsX1_placeFor_r1 : List Cond := [Cond.methodLink RX1 66 yX1_asks, Cond.instanceMethod yX1_asks, Cond.selects RX1 yX1_asks yX1_asks, Cond.initialized RX1, Cond.code yX1_asks cX1_asks 2 (some .boolean), Cond.methodLink RX1 63 yX1_areGoods, Cond.instanceMethod yX1_areGoods, Cond.selects RX1 yX1_areGoods yX1_areGoods, Cond.code yX1_areGoods cX1_areGoods 2 (some .boolean), Cond.fieldLink RX1 46 "DangerousGoodsModel" "goods" "I", Cond.methodLink RX1 42 yX1_isIn, Cond.static yX1_isIn, Cond.code yX1_isIn cX1_isIn 3 (some .boolean), Cond.methodLink RX1 53 yX1_goes, Cond.instanceMethod yX1_goes, Cond.selects RX1 yX1_goes yX1_goes, Cond.code yX1_goes cX1_goes 2 (some .boolean), Cond.fieldLink RX1 38 "DangerousGoodsModel" "thrown" "I", Cond.methodLink RX1 112 yX1_isGood, Cond.instanceMethod yX1_isGood, Cond.selects RX1 yX1_isGood yX1_isGood, Cond.code yX1_isGood cX1_isGood 5 (some .boolean), Cond.methodLink RX1 95 yX1_areWrong, Cond.instanceMethod yX1_areWrong]
def wsX1_placeFor_r2 : List Cond := [Cond.selects RX1 yX1_areWrong yX1_areWrong, Cond.code yX1_areWrong cX1_areWrong 5 (some .boolean), Cond.fieldLink RX1 26 "DangerousGoodsModel" "subsidiaries" "[I", Cond.fieldLink RX1 19 "DangerousGoodsModel" "isBarred" "[Z", Cond.fieldLink RX1 23 "DangerousGoodsModel" "classes" "[I", Cond.methodLink RX1 73 yX1_areExcepted, Cond.instanceMethod yX1_areExcepted, Cond.selects RX1 yX1_areExcepted yX1_areExcepted, Cond.code yX1_areExcepted cX1_areExcepted 2 (some .boolean), Cond.fieldLink RX1 16 "DangerousGoodsModel" "exceptions" "[I", Cond.methodLink RX1 69 yX1_isWithin, Cond.instanceMethod yX1_isWithin, Cond.selects RX1 yX1_isWithin yX1_isWithin, Cond.code yX1_isWithin cX1_isWithin 4 (some .boolean), Cond.fieldLink RX1 29 "DangerousGoodsModel" "quantities" "[I", Cond.methodLink RX1 92 yX1_areFoes, Cond.instanceMethod yX1_areFoes, Cond.selects RX1 yX1_areFoes yX1_areFoes, Cond.code yX1_areFoes cX1_areFoes 4 (some .boolean), Cond.fieldLink RX1 32 "DangerousGoodsModel" "places" "[I", Cond.methodLink RX1 59 yX1_apart, Cond.static yX1_apart, Cond.code yX1_apart cX1_apart 6 (some .int), Cond.methodLink RX1 89 yX1_needs]
def wsX1_placeFor_r3 : List Cond := [Cond.instanceMethod yX1_needs, Cond.selects RX1 yX1_needs yX1_needs, Cond.code yX1_needs cX1_needs 6 (some .int), Cond.methodLink RX1 79 yX1_ofTable, Cond.instanceMethod yX1_ofTable, Cond.selects RX1 yX1_ofTable yX1_ofTable, Cond.code yX1_ofTable cX1_ofTable 3 (some .int), Cond.fieldLink RX1 7 "DangerousGoodsModel" "table" "[I", Cond.methodLink RX1 82 yX1_greater, Cond.static yX1_greater, Cond.code yX1_greater cX1_greater 2 (some .int), Cond.methodLink RX1 76 yX1_areLimited, Cond.instanceMethod yX1_areLimited, Cond.selects RX1 yX1_areLimited yX1_areLimited, Cond.code yX1_areLimited cX1_areLimited 2 (some .boolean), Cond.fieldLink RX1 13 "DangerousGoodsModel" "limits" "[I"]
def wsX1_placeFor : List Cond := .code yX1_placeFor cX1_placeFor 4 (some .int) :: ((wsX1_placeFor_r1 ++ (wsX1_placeFor_r2 ++ wsX1_placeFor_r3)) ++ wsX10)
def wsX1_count : List Cond := .code yX1_count cX1_count 3 (some .int) :: ([])
def wsX1_least_r1 : List Cond := [Cond.fieldLink RX1 46 "DangerousGoodsModel" "goods" "I", Cond.fieldLink RX1 32 "DangerousGoodsModel" "places" "[I", Cond.methodLink RX1 102 yX1_laysFoes, Cond.instanceMethod yX1_laysFoes, Cond.selects RX1 yX1_laysFoes yX1_laysFoes, Cond.initialized RX1, Cond.code yX1_laysFoes cX1_laysFoes 2 none, Cond.fieldLink RX1 35 "DangerousGoodsModel" "foes" "[I", Cond.methodLink RX1 98 yX1_foesOf, Cond.instanceMethod yX1_foesOf, Cond.selects RX1 yX1_foesOf yX1_foesOf, Cond.code yX1_foesOf cX1_foesOf 4 (some .int), Cond.methodLink RX1 92 yX1_areFoes, Cond.instanceMethod yX1_areFoes, Cond.selects RX1 yX1_areFoes yX1_areFoes, Cond.code yX1_areFoes cX1_areFoes 4 (some .boolean), Cond.methodLink RX1 59 yX1_apart, Cond.static yX1_apart, Cond.code yX1_apart cX1_apart 6 (some .int), Cond.methodLink RX1 89 yX1_needs, Cond.instanceMethod yX1_needs, Cond.selects RX1 yX1_needs yX1_needs, Cond.code yX1_needs cX1_needs 6 (some .int), Cond.fieldLink RX1 23 "DangerousGoodsModel" "classes" "[I"]
def wsX1_least_r2 : List Cond := [Cond.fieldLink RX1 26 "DangerousGoodsModel" "subsidiaries" "[I", Cond.methodLink RX1 79 yX1_ofTable, Cond.instanceMethod yX1_ofTable, Cond.selects RX1 yX1_ofTable yX1_ofTable, Cond.code yX1_ofTable cX1_ofTable 3 (some .int), Cond.fieldLink RX1 7 "DangerousGoodsModel" "table" "[I", Cond.methodLink RX1 82 yX1_greater, Cond.static yX1_greater, Cond.code yX1_greater cX1_greater 2 (some .int), Cond.methodLink RX1 73 yX1_areExcepted, Cond.instanceMethod yX1_areExcepted, Cond.selects RX1 yX1_areExcepted yX1_areExcepted, Cond.code yX1_areExcepted cX1_areExcepted 2 (some .boolean), Cond.fieldLink RX1 16 "DangerousGoodsModel" "exceptions" "[I", Cond.methodLink RX1 69 yX1_isWithin, Cond.instanceMethod yX1_isWithin, Cond.selects RX1 yX1_isWithin yX1_isWithin, Cond.code yX1_isWithin cX1_isWithin 4 (some .boolean), Cond.fieldLink RX1 29 "DangerousGoodsModel" "quantities" "[I", Cond.methodLink RX1 76 yX1_areLimited, Cond.instanceMethod yX1_areLimited, Cond.selects RX1 yX1_areLimited yX1_areLimited, Cond.code yX1_areLimited cX1_areLimited 2 (some .boolean), Cond.fieldLink RX1 13 "DangerousGoodsModel" "limits" "[I"]
def wsX1_least_r3 : List Cond := [Cond.methodLink RX1 105 yX1_wrongs, Cond.instanceMethod yX1_wrongs, Cond.selects RX1 yX1_wrongs yX1_wrongs, Cond.code yX1_wrongs cX1_wrongs 3 (some .int), Cond.methodLink RX1 95 yX1_areWrong, Cond.instanceMethod yX1_areWrong, Cond.selects RX1 yX1_areWrong yX1_areWrong, Cond.code yX1_areWrong cX1_areWrong 5 (some .boolean), Cond.fieldLink RX1 19 "DangerousGoodsModel" "isBarred" "[Z", Cond.methodLink RX1 115 yX1_count, Cond.static yX1_count, Cond.code yX1_count cX1_count 3 (some .int), Cond.methodLink RX1 109 yX1_isCleanWithout, Cond.instanceMethod yX1_isCleanWithout, Cond.selects RX1 yX1_isCleanWithout yX1_isCleanWithout, Cond.code yX1_isCleanWithout cX1_isCleanWithout 5 (some .boolean)]
def wsX1_least : List Cond := .code yX1_least cX1_least 6 (some .int) :: ((wsX1_least_r1 ++ (wsX1_least_r2 ++ wsX1_least_r3)) ++ wsX10)
def wsX1_fewest_r1 : List Cond := [Cond.fieldLink RX1 38 "DangerousGoodsModel" "thrown" "I", Cond.methodLink RX1 118 yX1_least, Cond.instanceMethod yX1_least, Cond.selects RX1 yX1_least yX1_least, Cond.initialized RX1, Cond.code yX1_least cX1_least 6 (some .int), Cond.fieldLink RX1 46 "DangerousGoodsModel" "goods" "I", Cond.fieldLink RX1 32 "DangerousGoodsModel" "places" "[I", Cond.methodLink RX1 102 yX1_laysFoes, Cond.instanceMethod yX1_laysFoes, Cond.selects RX1 yX1_laysFoes yX1_laysFoes, Cond.code yX1_laysFoes cX1_laysFoes 2 none, Cond.fieldLink RX1 35 "DangerousGoodsModel" "foes" "[I", Cond.methodLink RX1 98 yX1_foesOf, Cond.instanceMethod yX1_foesOf, Cond.selects RX1 yX1_foesOf yX1_foesOf, Cond.code yX1_foesOf cX1_foesOf 4 (some .int), Cond.methodLink RX1 92 yX1_areFoes, Cond.instanceMethod yX1_areFoes, Cond.selects RX1 yX1_areFoes yX1_areFoes, Cond.code yX1_areFoes cX1_areFoes 4 (some .boolean), Cond.methodLink RX1 59 yX1_apart, Cond.static yX1_apart, Cond.code yX1_apart cX1_apart 6 (some .int)]
def wsX1_fewest_r2 : List Cond := [Cond.methodLink RX1 89 yX1_needs, Cond.instanceMethod yX1_needs, Cond.selects RX1 yX1_needs yX1_needs, Cond.code yX1_needs cX1_needs 6 (some .int), Cond.fieldLink RX1 23 "DangerousGoodsModel" "classes" "[I", Cond.fieldLink RX1 26 "DangerousGoodsModel" "subsidiaries" "[I", Cond.methodLink RX1 79 yX1_ofTable, Cond.instanceMethod yX1_ofTable, Cond.selects RX1 yX1_ofTable yX1_ofTable, Cond.code yX1_ofTable cX1_ofTable 3 (some .int), Cond.fieldLink RX1 7 "DangerousGoodsModel" "table" "[I", Cond.methodLink RX1 82 yX1_greater, Cond.static yX1_greater, Cond.code yX1_greater cX1_greater 2 (some .int), Cond.methodLink RX1 73 yX1_areExcepted, Cond.instanceMethod yX1_areExcepted, Cond.selects RX1 yX1_areExcepted yX1_areExcepted, Cond.code yX1_areExcepted cX1_areExcepted 2 (some .boolean), Cond.fieldLink RX1 16 "DangerousGoodsModel" "exceptions" "[I", Cond.methodLink RX1 69 yX1_isWithin, Cond.instanceMethod yX1_isWithin, Cond.selects RX1 yX1_isWithin yX1_isWithin, Cond.code yX1_isWithin cX1_isWithin 4 (some .boolean), Cond.fieldLink RX1 29 "DangerousGoodsModel" "quantities" "[I"]
def wsX1_fewest_r3 : List Cond := [Cond.methodLink RX1 76 yX1_areLimited, Cond.instanceMethod yX1_areLimited, Cond.selects RX1 yX1_areLimited yX1_areLimited, Cond.code yX1_areLimited cX1_areLimited 2 (some .boolean), Cond.fieldLink RX1 13 "DangerousGoodsModel" "limits" "[I", Cond.methodLink RX1 105 yX1_wrongs, Cond.instanceMethod yX1_wrongs, Cond.selects RX1 yX1_wrongs yX1_wrongs, Cond.code yX1_wrongs cX1_wrongs 3 (some .int), Cond.methodLink RX1 95 yX1_areWrong, Cond.instanceMethod yX1_areWrong, Cond.selects RX1 yX1_areWrong yX1_areWrong, Cond.code yX1_areWrong cX1_areWrong 5 (some .boolean), Cond.fieldLink RX1 19 "DangerousGoodsModel" "isBarred" "[Z", Cond.methodLink RX1 115 yX1_count, Cond.static yX1_count, Cond.code yX1_count cX1_count 3 (some .int), Cond.methodLink RX1 109 yX1_isCleanWithout, Cond.instanceMethod yX1_isCleanWithout, Cond.selects RX1 yX1_isCleanWithout yX1_isCleanWithout, Cond.code yX1_isCleanWithout cX1_isCleanWithout 5 (some .boolean)]
def wsX1_fewest : List Cond := .code yX1_fewest cX1_fewest 1 (some .int) :: ((wsX1_fewest_r1 ++ (wsX1_fewest_r2 ++ wsX1_fewest_r3)) ++ wsX10)
def wsX1_leaving_r1 : List Cond := [Cond.fieldLink RX1 38 "DangerousGoodsModel" "thrown" "I", Cond.methodLink RX1 118 yX1_least, Cond.instanceMethod yX1_least, Cond.selects RX1 yX1_least yX1_least, Cond.initialized RX1, Cond.code yX1_least cX1_least 6 (some .int), Cond.fieldLink RX1 46 "DangerousGoodsModel" "goods" "I", Cond.fieldLink RX1 32 "DangerousGoodsModel" "places" "[I", Cond.methodLink RX1 102 yX1_laysFoes, Cond.instanceMethod yX1_laysFoes, Cond.selects RX1 yX1_laysFoes yX1_laysFoes, Cond.code yX1_laysFoes cX1_laysFoes 2 none, Cond.fieldLink RX1 35 "DangerousGoodsModel" "foes" "[I", Cond.methodLink RX1 98 yX1_foesOf, Cond.instanceMethod yX1_foesOf, Cond.selects RX1 yX1_foesOf yX1_foesOf, Cond.code yX1_foesOf cX1_foesOf 4 (some .int), Cond.methodLink RX1 92 yX1_areFoes, Cond.instanceMethod yX1_areFoes, Cond.selects RX1 yX1_areFoes yX1_areFoes, Cond.code yX1_areFoes cX1_areFoes 4 (some .boolean), Cond.methodLink RX1 59 yX1_apart, Cond.static yX1_apart, Cond.code yX1_apart cX1_apart 6 (some .int)]
def wsX1_leaving_r2 : List Cond := [Cond.methodLink RX1 89 yX1_needs, Cond.instanceMethod yX1_needs, Cond.selects RX1 yX1_needs yX1_needs, Cond.code yX1_needs cX1_needs 6 (some .int), Cond.fieldLink RX1 23 "DangerousGoodsModel" "classes" "[I", Cond.fieldLink RX1 26 "DangerousGoodsModel" "subsidiaries" "[I", Cond.methodLink RX1 79 yX1_ofTable, Cond.instanceMethod yX1_ofTable, Cond.selects RX1 yX1_ofTable yX1_ofTable, Cond.code yX1_ofTable cX1_ofTable 3 (some .int), Cond.fieldLink RX1 7 "DangerousGoodsModel" "table" "[I", Cond.methodLink RX1 82 yX1_greater, Cond.static yX1_greater, Cond.code yX1_greater cX1_greater 2 (some .int), Cond.methodLink RX1 73 yX1_areExcepted, Cond.instanceMethod yX1_areExcepted, Cond.selects RX1 yX1_areExcepted yX1_areExcepted, Cond.code yX1_areExcepted cX1_areExcepted 2 (some .boolean), Cond.fieldLink RX1 16 "DangerousGoodsModel" "exceptions" "[I", Cond.methodLink RX1 69 yX1_isWithin, Cond.instanceMethod yX1_isWithin, Cond.selects RX1 yX1_isWithin yX1_isWithin, Cond.code yX1_isWithin cX1_isWithin 4 (some .boolean), Cond.fieldLink RX1 29 "DangerousGoodsModel" "quantities" "[I"]
def wsX1_leaving_r3 : List Cond := [Cond.methodLink RX1 76 yX1_areLimited, Cond.instanceMethod yX1_areLimited, Cond.selects RX1 yX1_areLimited yX1_areLimited, Cond.code yX1_areLimited cX1_areLimited 2 (some .boolean), Cond.fieldLink RX1 13 "DangerousGoodsModel" "limits" "[I", Cond.methodLink RX1 105 yX1_wrongs, Cond.instanceMethod yX1_wrongs, Cond.selects RX1 yX1_wrongs yX1_wrongs, Cond.code yX1_wrongs cX1_wrongs 3 (some .int), Cond.methodLink RX1 95 yX1_areWrong, Cond.instanceMethod yX1_areWrong, Cond.selects RX1 yX1_areWrong yX1_areWrong, Cond.code yX1_areWrong cX1_areWrong 5 (some .boolean), Cond.fieldLink RX1 19 "DangerousGoodsModel" "isBarred" "[Z", Cond.methodLink RX1 115 yX1_count, Cond.static yX1_count, Cond.code yX1_count cX1_count 3 (some .int), Cond.methodLink RX1 109 yX1_isCleanWithout, Cond.instanceMethod yX1_isCleanWithout, Cond.selects RX1 yX1_isCleanWithout yX1_isCleanWithout, Cond.code yX1_isCleanWithout cX1_isCleanWithout 5 (some .boolean)]
def wsX1_leaving : List Cond := .code yX1_leaving cX1_leaving 1 (some .int) :: ((wsX1_leaving_r1 ++ (wsX1_leaving_r2 ++ wsX1_leaving_r3)) ++ wsX10)
def wsJ9_abs_0f7a4 : List Cond := .code yJ9_abs_0f7a4 cJ9_abs_0f7a4 1 (some .int) :: ([])
def wsJ9_max_7cf53 : List Cond := .code yJ9_max_7cf53 cJ9_max_7cf53 2 (some .int) :: ([])
def wsL_setDistance : List Cond := .codeWith yL_setDistance cL_setDistance 6 (some .int) [(0, 12, 15, 13)] :: ([.classLink RL 13 "java/lang/IllegalArgumentException", .methodLink RL 7 yX0_setDistance, .instanceMethod yX0_setDistance, .selects RX0 yX0_setDistance yX0_setDistance, .initialized RX0, .code yX0_setDistance cX0_setDistance 5 (some .int), .fieldLink RX0 9 "DangerousGoods" "table" "[I", .methodLink RX0 42 yX0_checkClass, .static yX0_checkClass, .code yX0_checkClass cX0_checkClass 1 none, .methodLink RX0 46 yX0_checkRange, .static yX0_checkRange, .code yX0_checkRange cX0_checkRange 3 none, .classLink RX0 114 "java/lang/IllegalArgumentException", .initialized "java/lang/IllegalArgumentException", .methodLink RX0 50 yX0_tableDistance, .instanceMethod yX0_tableDistance, .selects RX0 yX0_tableDistance yX0_tableDistance, .code yX0_tableDistance cX0_tableDistance 3 (some .int)] ++ wsX00 ++ (vx_atS RX0 118 "java/lang/IllegalArgumentException" ["java/lang/RuntimeException", "java/lang/Exception"]).filter goodWord)
def wsL_setQuantities : List Cond := .codeWith yL_setQuantities cL_setQuantities 5 (some .int) [(0, 7, 10, 13)] :: ([.classLink RL 13 "java/lang/IllegalArgumentException", .methodLink RL 15 yX0_setQuantities, .instanceMethod yX0_setQuantities, .selects RX0 yX0_setQuantities yX0_setQuantities, .initialized RX0, .code yX0_setQuantities cX0_setQuantities 4 none, .fieldLink RX0 13 "DangerousGoods" "limitedQuantities" "[I", .fieldLink RX0 16 "DangerousGoods" "exceptedQuantities" "[I", .methodLink RX0 42 yX0_checkClass, .static yX0_checkClass, .code yX0_checkClass cX0_checkClass 1 none, .methodLink RX0 46 yX0_checkRange, .static yX0_checkRange, .code yX0_checkRange cX0_checkRange 3 none, .classLink RX0 114 "java/lang/IllegalArgumentException", .initialized "java/lang/IllegalArgumentException"] ++ wsX00 ++ (vx_atS RX0 118 "java/lang/IllegalArgumentException" ["java/lang/RuntimeException", "java/lang/Exception"]).filter goodWord)
def wsL_bar : List Cond := .codeWith yL_bar cL_bar 6 (some .int) [(0, 19, 22, 13)] :: ([.classLink RL 13 "java/lang/IllegalArgumentException", .methodLink RL 19 yX0_bar, .instanceMethod yX0_bar, .selects RX0 yX0_bar yX0_bar, .initialized RX0, .code yX0_bar cX0_bar 6 (some .boolean), .fieldLink RX0 19 "DangerousGoods" "barred" "[Z", .methodLink RX0 42 yX0_checkClass, .static yX0_checkClass, .code yX0_checkClass cX0_checkClass 1 none, .methodLink RX0 46 yX0_checkRange, .static yX0_checkRange, .code yX0_checkRange cX0_checkRange 3 none, .classLink RX0 114 "java/lang/IllegalArgumentException", .initialized "java/lang/IllegalArgumentException"] ++ wsX00 ++ (vx_atS RX0 118 "java/lang/IllegalArgumentException" ["java/lang/RuntimeException", "java/lang/Exception"]).filter goodWord)
def wsL_distance_r1 : List Cond := [Cond.classLink RL 13 "java/lang/IllegalArgumentException", Cond.methodLink RL 23 yX0_distance, Cond.instanceMethod yX0_distance, Cond.selects RX0 yX0_distance yX0_distance, Cond.initialized RX0, Cond.code yX0_distance cX0_distance 3 (some .int), Cond.methodLink RX0 54 yX0_checkPlace, Cond.static yX0_checkPlace, Cond.code yX0_checkPlace cX0_checkPlace 1 none, Cond.methodLink RX0 46 yX0_checkRange, Cond.static yX0_checkRange, Cond.code yX0_checkRange cX0_checkRange 3 none, Cond.classLink RX0 114 "java/lang/IllegalArgumentException", Cond.initialized "java/lang/IllegalArgumentException", Cond.methodLink RX0 57 yX0_distanceBetween, Cond.static yX0_distanceBetween, Cond.code yX0_distanceBetween cX0_distanceBetween 4 (some .int), Cond.methodLink RX0 131 Lib.Math.abs.name, Cond.static Lib.Math.abs.name, Cond.initialized "java/lang/Math", Cond.code Lib.Math.abs.name Lib.Math.abs.code 1 (some .int), Cond.methodLink RX0 128 yX0_holdOf, Cond.static yX0_holdOf, Cond.code yX0_holdOf cX0_holdOf 1 (some .int)]
def wsL_distance_r2 : List Cond := [Cond.methodLink RX0 136 yX0_bayOf, Cond.static yX0_bayOf, Cond.code yX0_bayOf cX0_bayOf 1 (some .int), Cond.methodLink RX0 139 yX0_deckOf, Cond.static yX0_deckOf, Cond.code yX0_deckOf cX0_deckOf 1 (some .int)]
def wsL_distance : List Cond := .codeWith yL_distance cL_distance 5 (some .int) [(0, 10, 13, 13)] :: ((wsL_distance_r1 ++ wsL_distance_r2) ++ (vx_atS RX0 118 "java/lang/IllegalArgumentException" ["java/lang/RuntimeException", "java/lang/Exception"]).filter goodWord)
def wsL_add_r1 : List Cond := [Cond.classLink RL 13 "java/lang/IllegalArgumentException", Cond.classLink RL 30 "java/lang/IllegalStateException", Cond.methodLink RL 27 yX0_add, Cond.instanceMethod yX0_add, Cond.selects RX0 yX0_add yX0_add, Cond.initialized RX0, Cond.code yX0_add cX0_add 5 (some .int), Cond.classLink RX0 67 "java/lang/IllegalStateException", Cond.initialized "java/lang/IllegalStateException", Cond.fieldLink RX0 35 "DangerousGoods" "count" "I", Cond.fieldLink RX0 23 "DangerousGoods" "classes" "[I", Cond.fieldLink RX0 26 "DangerousGoods" "subsidiaries" "[I", Cond.fieldLink RX0 29 "DangerousGoods" "quantities" "[I", Cond.fieldLink RX0 32 "DangerousGoods" "places" "[I", Cond.methodLink RX0 42 yX0_checkClass, Cond.static yX0_checkClass, Cond.code yX0_checkClass cX0_checkClass 1 none, Cond.methodLink RX0 46 yX0_checkRange, Cond.static yX0_checkRange, Cond.code yX0_checkRange cX0_checkRange 3 none, Cond.classLink RX0 114 "java/lang/IllegalArgumentException", Cond.initialized "java/lang/IllegalArgumentException", Cond.methodLink RX0 60 yX0_checkSubsidiary, Cond.static yX0_checkSubsidiary]
def wsL_add_r2 : List Cond := [Cond.code yX0_checkSubsidiary cX0_checkSubsidiary 2 none, Cond.methodLink RX0 64 yX0_checkQuantity, Cond.static yX0_checkQuantity, Cond.code yX0_checkQuantity cX0_checkQuantity 1 none]
def wsL_add : List Cond := .codeWith yL_add cL_add 6 (some .int) [(0, 12, 15, 13), (0, 12, 19, 30)] :: ((wsL_add_r1 ++ wsL_add_r2) ++ wsX00 ++ (vx_atS RX0 71 "java/lang/IllegalStateException" ["java/lang/RuntimeException", "java/lang/Exception"]).filter goodWord ++ (vx_atS RX0 118 "java/lang/IllegalArgumentException" ["java/lang/RuntimeException", "java/lang/Exception"]).filter goodWord)
def wsL_setQuantity : List Cond := .codeWith yL_setQuantity cL_setQuantity 5 (some .int) [(0, 10, 13, 35), (0, 10, 17, 13)] :: ([.classLink RL 35 "java/lang/IndexOutOfBoundsException", .classLink RL 13 "java/lang/IllegalArgumentException", .methodLink RL 32 yX0_setQuantity, .instanceMethod yX0_setQuantity, .selects RX0 yX0_setQuantity yX0_setQuantity, .initialized RX0, .code yX0_setQuantity cX0_setQuantity 4 (some .int), .fieldLink RX0 29 "DangerousGoods" "quantities" "[I", .methodLink RX0 74 yX0_checkGoods, .instanceMethod yX0_checkGoods, .selects RX0 yX0_checkGoods yX0_checkGoods, .code yX0_checkGoods cX0_checkGoods 2 none, .classLink RX0 121 "java/lang/IndexOutOfBoundsException", .initialized "java/lang/IndexOutOfBoundsException", .fieldLink RX0 35 "DangerousGoods" "count" "I", .methodLink RX0 64 yX0_checkQuantity, .static yX0_checkQuantity, .code yX0_checkQuantity cX0_checkQuantity 1 none, .methodLink RX0 46 yX0_checkRange, .static yX0_checkRange, .code yX0_checkRange cX0_checkRange 3 none, .classLink RX0 114 "java/lang/IllegalArgumentException", .initialized "java/lang/IllegalArgumentException"] ++ wsX00 ++ (vx_atS RX0 125 "java/lang/IndexOutOfBoundsException" ["java/lang/RuntimeException", "java/lang/Exception"]).filter goodWord ++ (vx_atS RX0 118 "java/lang/IllegalArgumentException" ["java/lang/RuntimeException", "java/lang/Exception"]).filter goodWord)
def wsL_put : List Cond := .codeWith yL_put cL_put 5 (some .int) [(0, 10, 13, 35), (0, 10, 17, 13)] :: ([.classLink RL 35 "java/lang/IndexOutOfBoundsException", .classLink RL 13 "java/lang/IllegalArgumentException", .methodLink RL 37 yX0_put, .instanceMethod yX0_put, .selects RX0 yX0_put yX0_put, .initialized RX0, .code yX0_put cX0_put 4 (some .int), .fieldLink RX0 32 "DangerousGoods" "places" "[I", .methodLink RX0 74 yX0_checkGoods, .instanceMethod yX0_checkGoods, .selects RX0 yX0_checkGoods yX0_checkGoods, .code yX0_checkGoods cX0_checkGoods 2 none, .classLink RX0 121 "java/lang/IndexOutOfBoundsException", .initialized "java/lang/IndexOutOfBoundsException", .fieldLink RX0 35 "DangerousGoods" "count" "I", .methodLink RX0 54 yX0_checkPlace, .static yX0_checkPlace, .code yX0_checkPlace cX0_checkPlace 1 none, .methodLink RX0 46 yX0_checkRange, .static yX0_checkRange, .code yX0_checkRange cX0_checkRange 3 none, .classLink RX0 114 "java/lang/IllegalArgumentException", .initialized "java/lang/IllegalArgumentException"] ++ wsX00 ++ (vx_atS RX0 125 "java/lang/IndexOutOfBoundsException" ["java/lang/RuntimeException", "java/lang/Exception"]).filter goodWord ++ (vx_atS RX0 118 "java/lang/IllegalArgumentException" ["java/lang/RuntimeException", "java/lang/Exception"]).filter goodWord)
def wsL_placeOf : List Cond := .codeWith yL_placeOf cL_placeOf 4 (some .int) [(0, 9, 12, 35)] :: ([.classLink RL 35 "java/lang/IndexOutOfBoundsException", .methodLink RL 40 yX0_placeOf, .instanceMethod yX0_placeOf, .selects RX0 yX0_placeOf yX0_placeOf, .initialized RX0, .code yX0_placeOf cX0_placeOf 2 (some .int), .fieldLink RX0 32 "DangerousGoods" "places" "[I", .methodLink RX0 74 yX0_checkGoods, .instanceMethod yX0_checkGoods, .selects RX0 yX0_checkGoods yX0_checkGoods, .code yX0_checkGoods cX0_checkGoods 2 none, .classLink RX0 121 "java/lang/IndexOutOfBoundsException", .initialized "java/lang/IndexOutOfBoundsException", .fieldLink RX0 35 "DangerousGoods" "count" "I"] ++ wsX00 ++ (vx_atS RX0 125 "java/lang/IndexOutOfBoundsException" ["java/lang/RuntimeException", "java/lang/Exception"]).filter goodWord)
def wsL_isLimited_r1 : List Cond := [Cond.classLink RL 35 "java/lang/IndexOutOfBoundsException", Cond.methodLink RL 44 yX0_isLimited, Cond.instanceMethod yX0_isLimited, Cond.selects RX0 yX0_isLimited yX0_isLimited, Cond.initialized RX0, Cond.code yX0_isLimited cX0_isLimited 2 (some .boolean), Cond.methodLink RX0 74 yX0_checkGoods, Cond.instanceMethod yX0_checkGoods, Cond.selects RX0 yX0_checkGoods yX0_checkGoods, Cond.code yX0_checkGoods cX0_checkGoods 2 none, Cond.classLink RX0 121 "java/lang/IndexOutOfBoundsException", Cond.initialized "java/lang/IndexOutOfBoundsException", Cond.fieldLink RX0 35 "DangerousGoods" "count" "I", Cond.methodLink RX0 77 yX0_areLimited, Cond.instanceMethod yX0_areLimited, Cond.selects RX0 yX0_areLimited yX0_areLimited, Cond.code yX0_areLimited cX0_areLimited 2 (some .boolean), Cond.fieldLink RX0 16 "DangerousGoods" "exceptedQuantities" "[I", Cond.fieldLink RX0 13 "DangerousGoods" "limitedQuantities" "[I", Cond.methodLink RX0 145 yX0_areWithin, Cond.instanceMethod yX0_areWithin, Cond.selects RX0 yX0_areWithin yX0_areWithin, Cond.code yX0_areWithin cX0_areWithin 5 (some .boolean), Cond.fieldLink RX0 29 "DangerousGoods" "quantities" "[I"]
def wsL_isLimited_r2 : List Cond := [Cond.fieldLink RX0 26 "DangerousGoods" "subsidiaries" "[I", Cond.fieldLink RX0 23 "DangerousGoods" "classes" "[I"]
def wsL_isLimited : List Cond := .codeWith yL_isLimited cL_isLimited 4 (some .int) [(0, 16, 19, 35)] :: ((wsL_isLimited_r1 ++ wsL_isLimited_r2) ++ wsX00 ++ (vx_atS RX0 125 "java/lang/IndexOutOfBoundsException" ["java/lang/RuntimeException", "java/lang/Exception"]).filter goodWord)
def wsL_isExcepted_r1 : List Cond := [Cond.classLink RL 35 "java/lang/IndexOutOfBoundsException", Cond.methodLink RL 48 yX0_isExcepted, Cond.instanceMethod yX0_isExcepted, Cond.selects RX0 yX0_isExcepted yX0_isExcepted, Cond.initialized RX0, Cond.code yX0_isExcepted cX0_isExcepted 2 (some .boolean), Cond.methodLink RX0 74 yX0_checkGoods, Cond.instanceMethod yX0_checkGoods, Cond.selects RX0 yX0_checkGoods yX0_checkGoods, Cond.code yX0_checkGoods cX0_checkGoods 2 none, Cond.classLink RX0 121 "java/lang/IndexOutOfBoundsException", Cond.initialized "java/lang/IndexOutOfBoundsException", Cond.fieldLink RX0 35 "DangerousGoods" "count" "I", Cond.methodLink RX0 81 yX0_areExcepted, Cond.instanceMethod yX0_areExcepted, Cond.selects RX0 yX0_areExcepted yX0_areExcepted, Cond.code yX0_areExcepted cX0_areExcepted 2 (some .boolean), Cond.fieldLink RX0 16 "DangerousGoods" "exceptedQuantities" "[I", Cond.methodLink RX0 145 yX0_areWithin, Cond.instanceMethod yX0_areWithin, Cond.selects RX0 yX0_areWithin yX0_areWithin, Cond.code yX0_areWithin cX0_areWithin 5 (some .boolean), Cond.fieldLink RX0 29 "DangerousGoods" "quantities" "[I", Cond.fieldLink RX0 26 "DangerousGoods" "subsidiaries" "[I"]
def wsL_isExcepted_r2 : List Cond := [Cond.fieldLink RX0 23 "DangerousGoods" "classes" "[I"]
def wsL_isExcepted : List Cond := .codeWith yL_isExcepted cL_isExcepted 4 (some .int) [(0, 16, 19, 35)] :: ((wsL_isExcepted_r1 ++ wsL_isExcepted_r2) ++ wsX00 ++ (vx_atS RX0 125 "java/lang/IndexOutOfBoundsException" ["java/lang/RuntimeException", "java/lang/Exception"]).filter goodWord)
def wsL_need_r1 : List Cond := [Cond.classLink RL 35 "java/lang/IndexOutOfBoundsException", Cond.classLink RL 13 "java/lang/IllegalArgumentException", Cond.methodLink RL 51 yX0_need, Cond.instanceMethod yX0_need, Cond.selects RX0 yX0_need yX0_need, Cond.initialized RX0, Cond.code yX0_need cX0_need 3 (some .int), Cond.methodLink RX0 84 yX0_checkPair, Cond.instanceMethod yX0_checkPair, Cond.selects RX0 yX0_checkPair yX0_checkPair, Cond.code yX0_checkPair cX0_checkPair 3 none, Cond.classLink RX0 114 "java/lang/IllegalArgumentException", Cond.initialized "java/lang/IllegalArgumentException", Cond.methodLink RX0 74 yX0_checkGoods, Cond.instanceMethod yX0_checkGoods, Cond.selects RX0 yX0_checkGoods yX0_checkGoods, Cond.code yX0_checkGoods cX0_checkGoods 2 none, Cond.classLink RX0 121 "java/lang/IndexOutOfBoundsException", Cond.initialized "java/lang/IndexOutOfBoundsException", Cond.fieldLink RX0 35 "DangerousGoods" "count" "I", Cond.methodLink RX0 87 yX0_needOf, Cond.instanceMethod yX0_needOf, Cond.selects RX0 yX0_needOf yX0_needOf, Cond.code yX0_needOf cX0_needOf 4 (some .int)]
def wsL_need_r2 : List Cond := [Cond.methodLink RX0 142 Lib.Math.max.name, Cond.static Lib.Math.max.name, Cond.initialized "java/lang/Math", Cond.code Lib.Math.max.name Lib.Math.max.code 2 (some .int), Cond.methodLink RX0 81 yX0_areExcepted, Cond.instanceMethod yX0_areExcepted, Cond.selects RX0 yX0_areExcepted yX0_areExcepted, Cond.code yX0_areExcepted cX0_areExcepted 2 (some .boolean), Cond.fieldLink RX0 16 "DangerousGoods" "exceptedQuantities" "[I", Cond.methodLink RX0 145 yX0_areWithin, Cond.instanceMethod yX0_areWithin, Cond.selects RX0 yX0_areWithin yX0_areWithin, Cond.code yX0_areWithin cX0_areWithin 5 (some .boolean), Cond.fieldLink RX0 29 "DangerousGoods" "quantities" "[I", Cond.fieldLink RX0 26 "DangerousGoods" "subsidiaries" "[I", Cond.fieldLink RX0 23 "DangerousGoods" "classes" "[I", Cond.methodLink RX0 149 yX0_greatestTableDistance, Cond.instanceMethod yX0_greatestTableDistance, Cond.selects RX0 yX0_greatestTableDistance yX0_greatestTableDistance, Cond.code yX0_greatestTableDistance cX0_greatestTableDistance 5 (some .int), Cond.methodLink RX0 50 yX0_tableDistance, Cond.instanceMethod yX0_tableDistance, Cond.selects RX0 yX0_tableDistance yX0_tableDistance, Cond.code yX0_tableDistance cX0_tableDistance 3 (some .int)]
def wsL_need_r3 : List Cond := [Cond.fieldLink RX0 9 "DangerousGoods" "table" "[I", Cond.methodLink RX0 77 yX0_areLimited, Cond.instanceMethod yX0_areLimited, Cond.selects RX0 yX0_areLimited yX0_areLimited, Cond.code yX0_areLimited cX0_areLimited 2 (some .boolean), Cond.fieldLink RX0 13 "DangerousGoods" "limitedQuantities" "[I"]
def wsL_need : List Cond := .codeWith yL_need cL_need 5 (some .int) [(0, 10, 13, 35), (0, 10, 17, 13)] :: ((wsL_need_r1 ++ (wsL_need_r2 ++ wsL_need_r3)) ++ wsX00 ++ (vx_atS RX0 118 "java/lang/IllegalArgumentException" ["java/lang/RuntimeException", "java/lang/Exception"]).filter goodWord ++ (vx_atS RX0 125 "java/lang/IndexOutOfBoundsException" ["java/lang/RuntimeException", "java/lang/Exception"]).filter goodWord)
def wsL_areInBreach_r1 : List Cond := [Cond.classLink RL 35 "java/lang/IndexOutOfBoundsException", Cond.classLink RL 13 "java/lang/IllegalArgumentException", Cond.methodLink RL 54 yX0_areInBreach, Cond.instanceMethod yX0_areInBreach, Cond.selects RX0 yX0_areInBreach yX0_areInBreach, Cond.initialized RX0, Cond.code yX0_areInBreach cX0_areInBreach 3 (some .boolean), Cond.fieldLink RX0 32 "DangerousGoods" "places" "[I", Cond.methodLink RX0 84 yX0_checkPair, Cond.instanceMethod yX0_checkPair, Cond.selects RX0 yX0_checkPair yX0_checkPair, Cond.code yX0_checkPair cX0_checkPair 3 none, Cond.classLink RX0 114 "java/lang/IllegalArgumentException", Cond.initialized "java/lang/IllegalArgumentException", Cond.methodLink RX0 74 yX0_checkGoods, Cond.instanceMethod yX0_checkGoods, Cond.selects RX0 yX0_checkGoods yX0_checkGoods, Cond.code yX0_checkGoods cX0_checkGoods 2 none, Cond.classLink RX0 121 "java/lang/IndexOutOfBoundsException", Cond.initialized "java/lang/IndexOutOfBoundsException", Cond.fieldLink RX0 35 "DangerousGoods" "count" "I", Cond.methodLink RX0 90 yX0_wouldBreach, Cond.instanceMethod yX0_wouldBreach, Cond.selects RX0 yX0_wouldBreach yX0_wouldBreach]
def wsL_areInBreach_r2 : List Cond := [Cond.code yX0_wouldBreach cX0_wouldBreach 4 (some .boolean), Cond.methodLink RX0 57 yX0_distanceBetween, Cond.static yX0_distanceBetween, Cond.code yX0_distanceBetween cX0_distanceBetween 4 (some .int), Cond.methodLink RX0 131 Lib.Math.abs.name, Cond.static Lib.Math.abs.name, Cond.initialized "java/lang/Math", Cond.code Lib.Math.abs.name Lib.Math.abs.code 1 (some .int), Cond.methodLink RX0 128 yX0_holdOf, Cond.static yX0_holdOf, Cond.code yX0_holdOf cX0_holdOf 1 (some .int), Cond.methodLink RX0 136 yX0_bayOf, Cond.static yX0_bayOf, Cond.code yX0_bayOf cX0_bayOf 1 (some .int), Cond.methodLink RX0 139 yX0_deckOf, Cond.static yX0_deckOf, Cond.code yX0_deckOf cX0_deckOf 1 (some .int), Cond.methodLink RX0 87 yX0_needOf, Cond.instanceMethod yX0_needOf, Cond.selects RX0 yX0_needOf yX0_needOf, Cond.code yX0_needOf cX0_needOf 4 (some .int), Cond.methodLink RX0 142 Lib.Math.max.name, Cond.static Lib.Math.max.name, Cond.code Lib.Math.max.name Lib.Math.max.code 2 (some .int)]
def wsL_areInBreach_r3 : List Cond := [Cond.methodLink RX0 81 yX0_areExcepted, Cond.instanceMethod yX0_areExcepted, Cond.selects RX0 yX0_areExcepted yX0_areExcepted, Cond.code yX0_areExcepted cX0_areExcepted 2 (some .boolean), Cond.fieldLink RX0 16 "DangerousGoods" "exceptedQuantities" "[I", Cond.methodLink RX0 145 yX0_areWithin, Cond.instanceMethod yX0_areWithin, Cond.selects RX0 yX0_areWithin yX0_areWithin, Cond.code yX0_areWithin cX0_areWithin 5 (some .boolean), Cond.fieldLink RX0 29 "DangerousGoods" "quantities" "[I", Cond.fieldLink RX0 26 "DangerousGoods" "subsidiaries" "[I", Cond.fieldLink RX0 23 "DangerousGoods" "classes" "[I", Cond.methodLink RX0 149 yX0_greatestTableDistance, Cond.instanceMethod yX0_greatestTableDistance, Cond.selects RX0 yX0_greatestTableDistance yX0_greatestTableDistance, Cond.code yX0_greatestTableDistance cX0_greatestTableDistance 5 (some .int), Cond.methodLink RX0 50 yX0_tableDistance, Cond.instanceMethod yX0_tableDistance, Cond.selects RX0 yX0_tableDistance yX0_tableDistance, Cond.code yX0_tableDistance cX0_tableDistance 3 (some .int), Cond.fieldLink RX0 9 "DangerousGoods" "table" "[I", Cond.methodLink RX0 77 yX0_areLimited, Cond.instanceMethod yX0_areLimited, Cond.selects RX0 yX0_areLimited yX0_areLimited]
def wsL_areInBreach_r4 : List Cond := [Cond.code yX0_areLimited cX0_areLimited 2 (some .boolean), Cond.fieldLink RX0 13 "DangerousGoods" "limitedQuantities" "[I"]
def wsL_areInBreach : List Cond := .codeWith yL_areInBreach cL_areInBreach 5 (some .int) [(0, 17, 20, 35), (0, 17, 24, 13)] :: ((wsL_areInBreach_r1 ++ (wsL_areInBreach_r2 ++ (wsL_areInBreach_r3 ++ wsL_areInBreach_r4))) ++ wsX00 ++ (vx_atS RX0 118 "java/lang/IllegalArgumentException" ["java/lang/RuntimeException", "java/lang/Exception"]).filter goodWord ++ (vx_atS RX0 125 "java/lang/IndexOutOfBoundsException" ["java/lang/RuntimeException", "java/lang/Exception"]).filter goodWord)
def wsL_isMisplaced_r1 : List Cond := [Cond.classLink RL 35 "java/lang/IndexOutOfBoundsException", Cond.methodLink RL 58 yX0_isMisplaced, Cond.instanceMethod yX0_isMisplaced, Cond.selects RX0 yX0_isMisplaced yX0_isMisplaced, Cond.initialized RX0, Cond.code yX0_isMisplaced cX0_isMisplaced 2 (some .boolean), Cond.fieldLink RX0 32 "DangerousGoods" "places" "[I", Cond.methodLink RX0 74 yX0_checkGoods, Cond.instanceMethod yX0_checkGoods, Cond.selects RX0 yX0_checkGoods yX0_checkGoods, Cond.code yX0_checkGoods cX0_checkGoods 2 none, Cond.classLink RX0 121 "java/lang/IndexOutOfBoundsException", Cond.initialized "java/lang/IndexOutOfBoundsException", Cond.fieldLink RX0 35 "DangerousGoods" "count" "I", Cond.methodLink RX0 94 yX0_wouldBeMisplaced, Cond.instanceMethod yX0_wouldBeMisplaced, Cond.selects RX0 yX0_wouldBeMisplaced yX0_wouldBeMisplaced, Cond.code yX0_wouldBeMisplaced cX0_wouldBeMisplaced 4 (some .boolean), Cond.fieldLink RX0 23 "DangerousGoods" "classes" "[I", Cond.fieldLink RX0 26 "DangerousGoods" "subsidiaries" "[I", Cond.methodLink RX0 81 yX0_areExcepted, Cond.instanceMethod yX0_areExcepted, Cond.selects RX0 yX0_areExcepted yX0_areExcepted, Cond.code yX0_areExcepted cX0_areExcepted 2 (some .boolean)]
def wsL_isMisplaced_r2 : List Cond := [Cond.fieldLink RX0 16 "DangerousGoods" "exceptedQuantities" "[I", Cond.methodLink RX0 145 yX0_areWithin, Cond.instanceMethod yX0_areWithin, Cond.selects RX0 yX0_areWithin yX0_areWithin, Cond.code yX0_areWithin cX0_areWithin 5 (some .boolean), Cond.fieldLink RX0 29 "DangerousGoods" "quantities" "[I", Cond.methodLink RX0 139 yX0_deckOf, Cond.static yX0_deckOf, Cond.code yX0_deckOf cX0_deckOf 1 (some .int), Cond.methodLink RX0 152 yX0_isBarredFrom, Cond.instanceMethod yX0_isBarredFrom, Cond.selects RX0 yX0_isBarredFrom yX0_isBarredFrom, Cond.code yX0_isBarredFrom cX0_isBarredFrom 3 (some .boolean), Cond.fieldLink RX0 19 "DangerousGoods" "barred" "[Z"]
def wsL_isMisplaced : List Cond := .codeWith yL_isMisplaced cL_isMisplaced 4 (some .int) [(0, 16, 19, 35)] :: ((wsL_isMisplaced_r1 ++ wsL_isMisplaced_r2) ++ wsX00 ++ (vx_atS RX0 125 "java/lang/IndexOutOfBoundsException" ["java/lang/RuntimeException", "java/lang/Exception"]).filter goodWord)
def wsL_inBreachWith_r1 : List Cond := [Cond.classLink RL 35 "java/lang/IndexOutOfBoundsException", Cond.methodLink RL 61 yX0_inBreachWith, Cond.instanceMethod yX0_inBreachWith, Cond.selects RX0 yX0_inBreachWith yX0_inBreachWith, Cond.initialized RX0, Cond.code yX0_inBreachWith cX0_inBreachWith 2 (some .int), Cond.fieldLink RX0 32 "DangerousGoods" "places" "[I", Cond.methodLink RX0 74 yX0_checkGoods, Cond.instanceMethod yX0_checkGoods, Cond.selects RX0 yX0_checkGoods yX0_checkGoods, Cond.code yX0_checkGoods cX0_checkGoods 2 none, Cond.classLink RX0 121 "java/lang/IndexOutOfBoundsException", Cond.initialized "java/lang/IndexOutOfBoundsException", Cond.fieldLink RX0 35 "DangerousGoods" "count" "I", Cond.methodLink RX0 98 yX0_breachesAt, Cond.instanceMethod yX0_breachesAt, Cond.selects RX0 yX0_breachesAt yX0_breachesAt, Cond.code yX0_breachesAt cX0_breachesAt 5 (some .int), Cond.methodLink RX0 90 yX0_wouldBreach, Cond.instanceMethod yX0_wouldBreach, Cond.selects RX0 yX0_wouldBreach yX0_wouldBreach, Cond.code yX0_wouldBreach cX0_wouldBreach 4 (some .boolean), Cond.methodLink RX0 57 yX0_distanceBetween, Cond.static yX0_distanceBetween]
def wsL_inBreachWith_r2 : List Cond := [Cond.code yX0_distanceBetween cX0_distanceBetween 4 (some .int), Cond.methodLink RX0 131 Lib.Math.abs.name, Cond.static Lib.Math.abs.name, Cond.initialized "java/lang/Math", Cond.code Lib.Math.abs.name Lib.Math.abs.code 1 (some .int), Cond.methodLink RX0 128 yX0_holdOf, Cond.static yX0_holdOf, Cond.code yX0_holdOf cX0_holdOf 1 (some .int), Cond.methodLink RX0 136 yX0_bayOf, Cond.static yX0_bayOf, Cond.code yX0_bayOf cX0_bayOf 1 (some .int), Cond.methodLink RX0 139 yX0_deckOf, Cond.static yX0_deckOf, Cond.code yX0_deckOf cX0_deckOf 1 (some .int), Cond.methodLink RX0 87 yX0_needOf, Cond.instanceMethod yX0_needOf, Cond.selects RX0 yX0_needOf yX0_needOf, Cond.code yX0_needOf cX0_needOf 4 (some .int), Cond.methodLink RX0 142 Lib.Math.max.name, Cond.static Lib.Math.max.name, Cond.code Lib.Math.max.name Lib.Math.max.code 2 (some .int), Cond.methodLink RX0 81 yX0_areExcepted, Cond.instanceMethod yX0_areExcepted, Cond.selects RX0 yX0_areExcepted yX0_areExcepted]
def wsL_inBreachWith_r3 : List Cond := [Cond.code yX0_areExcepted cX0_areExcepted 2 (some .boolean), Cond.fieldLink RX0 16 "DangerousGoods" "exceptedQuantities" "[I", Cond.methodLink RX0 145 yX0_areWithin, Cond.instanceMethod yX0_areWithin, Cond.selects RX0 yX0_areWithin yX0_areWithin, Cond.code yX0_areWithin cX0_areWithin 5 (some .boolean), Cond.fieldLink RX0 29 "DangerousGoods" "quantities" "[I", Cond.fieldLink RX0 26 "DangerousGoods" "subsidiaries" "[I", Cond.fieldLink RX0 23 "DangerousGoods" "classes" "[I", Cond.methodLink RX0 149 yX0_greatestTableDistance, Cond.instanceMethod yX0_greatestTableDistance, Cond.selects RX0 yX0_greatestTableDistance yX0_greatestTableDistance, Cond.code yX0_greatestTableDistance cX0_greatestTableDistance 5 (some .int), Cond.methodLink RX0 50 yX0_tableDistance, Cond.instanceMethod yX0_tableDistance, Cond.selects RX0 yX0_tableDistance yX0_tableDistance, Cond.code yX0_tableDistance cX0_tableDistance 3 (some .int), Cond.fieldLink RX0 9 "DangerousGoods" "table" "[I", Cond.methodLink RX0 77 yX0_areLimited, Cond.instanceMethod yX0_areLimited, Cond.selects RX0 yX0_areLimited yX0_areLimited, Cond.code yX0_areLimited cX0_areLimited 2 (some .boolean), Cond.fieldLink RX0 13 "DangerousGoods" "limitedQuantities" "[I"]
def wsL_inBreachWith : List Cond := .codeWith yL_inBreachWith cL_inBreachWith 4 (some .int) [(0, 9, 12, 35)] :: ((wsL_inBreachWith_r1 ++ (wsL_inBreachWith_r2 ++ wsL_inBreachWith_r3)) ++ wsX00 ++ (vx_atS RX0 125 "java/lang/IndexOutOfBoundsException" ["java/lang/RuntimeException", "java/lang/Exception"]).filter goodWord)
def wsL_canPut_r1 : List Cond := [Cond.classLink RL 35 "java/lang/IndexOutOfBoundsException", Cond.classLink RL 13 "java/lang/IllegalArgumentException", Cond.methodLink RL 64 yX0_canPut, Cond.instanceMethod yX0_canPut, Cond.selects RX0 yX0_canPut yX0_canPut, Cond.initialized RX0, Cond.code yX0_canPut cX0_canPut 3 (some .boolean), Cond.methodLink RX0 74 yX0_checkGoods, Cond.instanceMethod yX0_checkGoods, Cond.selects RX0 yX0_checkGoods yX0_checkGoods, Cond.code yX0_checkGoods cX0_checkGoods 2 none, Cond.classLink RX0 121 "java/lang/IndexOutOfBoundsException", Cond.initialized "java/lang/IndexOutOfBoundsException", Cond.fieldLink RX0 35 "DangerousGoods" "count" "I", Cond.methodLink RX0 54 yX0_checkPlace, Cond.static yX0_checkPlace, Cond.code yX0_checkPlace cX0_checkPlace 1 none, Cond.methodLink RX0 46 yX0_checkRange, Cond.static yX0_checkRange, Cond.code yX0_checkRange cX0_checkRange 3 none, Cond.classLink RX0 114 "java/lang/IllegalArgumentException", Cond.initialized "java/lang/IllegalArgumentException", Cond.methodLink RX0 101 yX0_wouldBeClean, Cond.instanceMethod yX0_wouldBeClean]
def wsL_canPut_r2 : List Cond := [Cond.selects RX0 yX0_wouldBeClean yX0_wouldBeClean, Cond.code yX0_wouldBeClean cX0_wouldBeClean 3 (some .boolean), Cond.methodLink RX0 94 yX0_wouldBeMisplaced, Cond.instanceMethod yX0_wouldBeMisplaced, Cond.selects RX0 yX0_wouldBeMisplaced yX0_wouldBeMisplaced, Cond.code yX0_wouldBeMisplaced cX0_wouldBeMisplaced 4 (some .boolean), Cond.fieldLink RX0 23 "DangerousGoods" "classes" "[I", Cond.fieldLink RX0 26 "DangerousGoods" "subsidiaries" "[I", Cond.methodLink RX0 81 yX0_areExcepted, Cond.instanceMethod yX0_areExcepted, Cond.selects RX0 yX0_areExcepted yX0_areExcepted, Cond.code yX0_areExcepted cX0_areExcepted 2 (some .boolean), Cond.fieldLink RX0 16 "DangerousGoods" "exceptedQuantities" "[I", Cond.methodLink RX0 145 yX0_areWithin, Cond.instanceMethod yX0_areWithin, Cond.selects RX0 yX0_areWithin yX0_areWithin, Cond.code yX0_areWithin cX0_areWithin 5 (some .boolean), Cond.fieldLink RX0 29 "DangerousGoods" "quantities" "[I", Cond.methodLink RX0 139 yX0_deckOf, Cond.static yX0_deckOf, Cond.code yX0_deckOf cX0_deckOf 1 (some .int), Cond.methodLink RX0 152 yX0_isBarredFrom, Cond.instanceMethod yX0_isBarredFrom, Cond.selects RX0 yX0_isBarredFrom yX0_isBarredFrom]
def wsL_canPut_r3 : List Cond := [Cond.code yX0_isBarredFrom cX0_isBarredFrom 3 (some .boolean), Cond.fieldLink RX0 19 "DangerousGoods" "barred" "[Z", Cond.methodLink RX0 98 yX0_breachesAt, Cond.instanceMethod yX0_breachesAt, Cond.selects RX0 yX0_breachesAt yX0_breachesAt, Cond.code yX0_breachesAt cX0_breachesAt 5 (some .int), Cond.methodLink RX0 90 yX0_wouldBreach, Cond.instanceMethod yX0_wouldBreach, Cond.selects RX0 yX0_wouldBreach yX0_wouldBreach, Cond.code yX0_wouldBreach cX0_wouldBreach 4 (some .boolean), Cond.fieldLink RX0 32 "DangerousGoods" "places" "[I", Cond.methodLink RX0 57 yX0_distanceBetween, Cond.static yX0_distanceBetween, Cond.code yX0_distanceBetween cX0_distanceBetween 4 (some .int), Cond.methodLink RX0 131 Lib.Math.abs.name, Cond.static Lib.Math.abs.name, Cond.initialized "java/lang/Math", Cond.code Lib.Math.abs.name Lib.Math.abs.code 1 (some .int), Cond.methodLink RX0 128 yX0_holdOf, Cond.static yX0_holdOf, Cond.code yX0_holdOf cX0_holdOf 1 (some .int), Cond.methodLink RX0 136 yX0_bayOf, Cond.static yX0_bayOf, Cond.code yX0_bayOf cX0_bayOf 1 (some .int)]
def wsL_canPut_r4 : List Cond := [Cond.methodLink RX0 87 yX0_needOf, Cond.instanceMethod yX0_needOf, Cond.selects RX0 yX0_needOf yX0_needOf, Cond.code yX0_needOf cX0_needOf 4 (some .int), Cond.methodLink RX0 142 Lib.Math.max.name, Cond.static Lib.Math.max.name, Cond.code Lib.Math.max.name Lib.Math.max.code 2 (some .int), Cond.methodLink RX0 149 yX0_greatestTableDistance, Cond.instanceMethod yX0_greatestTableDistance, Cond.selects RX0 yX0_greatestTableDistance yX0_greatestTableDistance, Cond.code yX0_greatestTableDistance cX0_greatestTableDistance 5 (some .int), Cond.methodLink RX0 50 yX0_tableDistance, Cond.instanceMethod yX0_tableDistance, Cond.selects RX0 yX0_tableDistance yX0_tableDistance, Cond.code yX0_tableDistance cX0_tableDistance 3 (some .int), Cond.fieldLink RX0 9 "DangerousGoods" "table" "[I", Cond.methodLink RX0 77 yX0_areLimited, Cond.instanceMethod yX0_areLimited, Cond.selects RX0 yX0_areLimited yX0_areLimited, Cond.code yX0_areLimited cX0_areLimited 2 (some .boolean), Cond.fieldLink RX0 13 "DangerousGoods" "limitedQuantities" "[I"]
def wsL_canPut : List Cond := .codeWith yL_canPut cL_canPut 5 (some .int) [(0, 17, 20, 35), (0, 17, 24, 13)] :: ((wsL_canPut_r1 ++ (wsL_canPut_r2 ++ (wsL_canPut_r3 ++ wsL_canPut_r4))) ++ wsX00 ++ (vx_atS RX0 125 "java/lang/IndexOutOfBoundsException" ["java/lang/RuntimeException", "java/lang/Exception"]).filter goodWord ++ (vx_atS RX0 118 "java/lang/IllegalArgumentException" ["java/lang/RuntimeException", "java/lang/Exception"]).filter goodWord)
def wsL_placeFor_r1 : List Cond := [Cond.classLink RL 35 "java/lang/IndexOutOfBoundsException", Cond.methodLink RL 67 yX0_placeFor, Cond.instanceMethod yX0_placeFor, Cond.selects RX0 yX0_placeFor yX0_placeFor, Cond.initialized RX0, Cond.code yX0_placeFor cX0_placeFor 3 (some .int), Cond.methodLink RX0 74 yX0_checkGoods, Cond.instanceMethod yX0_checkGoods, Cond.selects RX0 yX0_checkGoods yX0_checkGoods, Cond.code yX0_checkGoods cX0_checkGoods 2 none, Cond.classLink RX0 121 "java/lang/IndexOutOfBoundsException", Cond.initialized "java/lang/IndexOutOfBoundsException", Cond.fieldLink RX0 35 "DangerousGoods" "count" "I", Cond.methodLink RX0 101 yX0_wouldBeClean, Cond.instanceMethod yX0_wouldBeClean, Cond.selects RX0 yX0_wouldBeClean yX0_wouldBeClean, Cond.code yX0_wouldBeClean cX0_wouldBeClean 3 (some .boolean), Cond.methodLink RX0 94 yX0_wouldBeMisplaced, Cond.instanceMethod yX0_wouldBeMisplaced, Cond.selects RX0 yX0_wouldBeMisplaced yX0_wouldBeMisplaced, Cond.code yX0_wouldBeMisplaced cX0_wouldBeMisplaced 4 (some .boolean), Cond.fieldLink RX0 23 "DangerousGoods" "classes" "[I", Cond.fieldLink RX0 26 "DangerousGoods" "subsidiaries" "[I", Cond.methodLink RX0 81 yX0_areExcepted]
def wsL_placeFor_r2 : List Cond := [Cond.instanceMethod yX0_areExcepted, Cond.selects RX0 yX0_areExcepted yX0_areExcepted, Cond.code yX0_areExcepted cX0_areExcepted 2 (some .boolean), Cond.fieldLink RX0 16 "DangerousGoods" "exceptedQuantities" "[I", Cond.methodLink RX0 145 yX0_areWithin, Cond.instanceMethod yX0_areWithin, Cond.selects RX0 yX0_areWithin yX0_areWithin, Cond.code yX0_areWithin cX0_areWithin 5 (some .boolean), Cond.fieldLink RX0 29 "DangerousGoods" "quantities" "[I", Cond.methodLink RX0 139 yX0_deckOf, Cond.static yX0_deckOf, Cond.code yX0_deckOf cX0_deckOf 1 (some .int), Cond.methodLink RX0 152 yX0_isBarredFrom, Cond.instanceMethod yX0_isBarredFrom, Cond.selects RX0 yX0_isBarredFrom yX0_isBarredFrom, Cond.code yX0_isBarredFrom cX0_isBarredFrom 3 (some .boolean), Cond.fieldLink RX0 19 "DangerousGoods" "barred" "[Z", Cond.methodLink RX0 98 yX0_breachesAt, Cond.instanceMethod yX0_breachesAt, Cond.selects RX0 yX0_breachesAt yX0_breachesAt, Cond.code yX0_breachesAt cX0_breachesAt 5 (some .int), Cond.methodLink RX0 90 yX0_wouldBreach, Cond.instanceMethod yX0_wouldBreach, Cond.selects RX0 yX0_wouldBreach yX0_wouldBreach]
def wsL_placeFor_r3 : List Cond := [Cond.code yX0_wouldBreach cX0_wouldBreach 4 (some .boolean), Cond.fieldLink RX0 32 "DangerousGoods" "places" "[I", Cond.methodLink RX0 57 yX0_distanceBetween, Cond.static yX0_distanceBetween, Cond.code yX0_distanceBetween cX0_distanceBetween 4 (some .int), Cond.methodLink RX0 131 Lib.Math.abs.name, Cond.static Lib.Math.abs.name, Cond.initialized "java/lang/Math", Cond.code Lib.Math.abs.name Lib.Math.abs.code 1 (some .int), Cond.methodLink RX0 128 yX0_holdOf, Cond.static yX0_holdOf, Cond.code yX0_holdOf cX0_holdOf 1 (some .int), Cond.methodLink RX0 136 yX0_bayOf, Cond.static yX0_bayOf, Cond.code yX0_bayOf cX0_bayOf 1 (some .int), Cond.methodLink RX0 87 yX0_needOf, Cond.instanceMethod yX0_needOf, Cond.selects RX0 yX0_needOf yX0_needOf, Cond.code yX0_needOf cX0_needOf 4 (some .int), Cond.methodLink RX0 142 Lib.Math.max.name, Cond.static Lib.Math.max.name, Cond.code Lib.Math.max.name Lib.Math.max.code 2 (some .int), Cond.methodLink RX0 149 yX0_greatestTableDistance, Cond.instanceMethod yX0_greatestTableDistance]
def wsL_placeFor_r4 : List Cond := [Cond.selects RX0 yX0_greatestTableDistance yX0_greatestTableDistance, Cond.code yX0_greatestTableDistance cX0_greatestTableDistance 5 (some .int), Cond.methodLink RX0 50 yX0_tableDistance, Cond.instanceMethod yX0_tableDistance, Cond.selects RX0 yX0_tableDistance yX0_tableDistance, Cond.code yX0_tableDistance cX0_tableDistance 3 (some .int), Cond.fieldLink RX0 9 "DangerousGoods" "table" "[I", Cond.methodLink RX0 77 yX0_areLimited, Cond.instanceMethod yX0_areLimited, Cond.selects RX0 yX0_areLimited yX0_areLimited, Cond.code yX0_areLimited cX0_areLimited 2 (some .boolean), Cond.fieldLink RX0 13 "DangerousGoods" "limitedQuantities" "[I"]
def wsL_placeFor : List Cond := .codeWith yL_placeFor cL_placeFor 4 (some .int) [(0, 9, 12, 35)] :: ((wsL_placeFor_r1 ++ (wsL_placeFor_r2 ++ (wsL_placeFor_r3 ++ wsL_placeFor_r4))) ++ wsX00 ++ (vx_atS RX0 125 "java/lang/IndexOutOfBoundsException" ["java/lang/RuntimeException", "java/lang/Exception"]).filter goodWord)
def wsL_law0_r1 : List Cond := [Cond.classLink RL 8 RX0, Cond.instantiable RX0 10, Cond.initialized RX0, Cond.classLink RL 71 RX1, Cond.instantiable RX1 11, Cond.initialized RX1, Cond.arrayClass .long, Cond.methodLink RL 70 yX0_init, Cond.instanceMethod yX0_init, Cond.code yX0_init cX0_init 1 none, Cond.methodLink RX0 3 objectInit, Cond.instanceMethod objectInit, Cond.code objectInit ⟨#[0xb1]⟩ 1 none, Cond.arrayClass .int, Cond.fieldLink RX0 9 "DangerousGoods" "table" "[I", Cond.fieldLink RX0 13 "DangerousGoods" "limitedQuantities" "[I", Cond.fieldLink RX0 16 "DangerousGoods" "exceptedQuantities" "[I", Cond.arrayClass .boolean, Cond.fieldLink RX0 19 "DangerousGoods" "barred" "[Z", Cond.fieldLink RX0 23 "DangerousGoods" "classes" "[I", Cond.fieldLink RX0 26 "DangerousGoods" "subsidiaries" "[I", Cond.fieldLink RX0 29 "DangerousGoods" "quantities" "[I", Cond.fieldLink RX0 32 "DangerousGoods" "places" "[I", Cond.fieldLink RX0 35 "DangerousGoods" "count" "I"]
def wsL_law0_r2 : List Cond := [Cond.fieldLink RX0 39 "DangerousGoods" "breachRows" "[I", Cond.methodLink RL 73 yX1_init, Cond.instanceMethod yX1_init, Cond.code yX1_init cX1_init 1 none, Cond.methodLink RX1 1 objectInit, Cond.fieldLink RX1 7 "DangerousGoodsModel" "table" "[I", Cond.fieldLink RX1 13 "DangerousGoodsModel" "limits" "[I", Cond.fieldLink RX1 16 "DangerousGoodsModel" "exceptions" "[I", Cond.fieldLink RX1 19 "DangerousGoodsModel" "isBarred" "[Z", Cond.fieldLink RX1 23 "DangerousGoodsModel" "classes" "[I", Cond.fieldLink RX1 26 "DangerousGoodsModel" "subsidiaries" "[I", Cond.fieldLink RX1 29 "DangerousGoodsModel" "quantities" "[I", Cond.fieldLink RX1 32 "DangerousGoodsModel" "places" "[I", Cond.fieldLink RX1 35 "DangerousGoodsModel" "foes" "[I", Cond.methodLink RL 74 yL_setDistance, Cond.static yL_setDistance, Cond.initialized RL, Cond.codeWith yL_setDistance cL_setDistance 6 (some .int) [(0, 12, 15, 13)], Cond.classLink RL 13 "java/lang/IllegalArgumentException", Cond.methodLink RL 7 yX0_setDistance, Cond.instanceMethod yX0_setDistance, Cond.selects RX0 yX0_setDistance yX0_setDistance, Cond.code yX0_setDistance cX0_setDistance 5 (some .int), Cond.methodLink RX0 42 yX0_checkClass]
def wsL_law0_r3 : List Cond := [Cond.static yX0_checkClass, Cond.code yX0_checkClass cX0_checkClass 1 none, Cond.methodLink RX0 46 yX0_checkRange, Cond.static yX0_checkRange, Cond.code yX0_checkRange cX0_checkRange 3 none, Cond.classLink RX0 114 "java/lang/IllegalArgumentException", Cond.initialized "java/lang/IllegalArgumentException", Cond.methodLink RX0 50 yX0_tableDistance, Cond.instanceMethod yX0_tableDistance, Cond.selects RX0 yX0_tableDistance yX0_tableDistance, Cond.code yX0_tableDistance cX0_tableDistance 3 (some .int), Cond.methodLink RL 79 yX1_setDistance, Cond.instanceMethod yX1_setDistance, Cond.selects RX1 yX1_setDistance yX1_setDistance, Cond.code yX1_setDistance cX1_setDistance 5 (some .int), Cond.methodLink RX1 49 yX1_isClass, Cond.static yX1_isClass, Cond.code yX1_isClass cX1_isClass 1 (some .boolean), Cond.methodLink RX1 42 yX1_isIn, Cond.static yX1_isIn, Cond.code yX1_isIn cX1_isIn 3 (some .boolean), Cond.methodLink RX1 53 yX1_goes, Cond.instanceMethod yX1_goes, Cond.selects RX1 yX1_goes yX1_goes]
def wsL_law0_r4 : List Cond := [Cond.code yX1_goes cX1_goes 2 (some .boolean), Cond.fieldLink RX1 38 "DangerousGoodsModel" "thrown" "I", Cond.methodLink RL 80 yX1_thrown, Cond.instanceMethod yX1_thrown, Cond.selects RX1 yX1_thrown yX1_thrown, Cond.code yX1_thrown cX1_thrown 1 (some .int), Cond.methodLink RL 84 yL_setQuantities, Cond.static yL_setQuantities, Cond.codeWith yL_setQuantities cL_setQuantities 5 (some .int) [(0, 7, 10, 13)], Cond.methodLink RL 15 yX0_setQuantities, Cond.instanceMethod yX0_setQuantities, Cond.selects RX0 yX0_setQuantities yX0_setQuantities, Cond.code yX0_setQuantities cX0_setQuantities 4 none, Cond.methodLink RL 87 yX1_setQuantities, Cond.instanceMethod yX1_setQuantities, Cond.selects RX1 yX1_setQuantities yX1_setQuantities, Cond.code yX1_setQuantities cX1_setQuantities 4 none, Cond.methodLink RL 88 yL_bar, Cond.static yL_bar, Cond.codeWith yL_bar cL_bar 6 (some .int) [(0, 19, 22, 13)], Cond.methodLink RL 19 yX0_bar, Cond.instanceMethod yX0_bar, Cond.selects RX0 yX0_bar yX0_bar, Cond.code yX0_bar cX0_bar 6 (some .boolean)]
def wsL_law0_r5 : List Cond := [Cond.methodLink RL 91 yX1_bar, Cond.instanceMethod yX1_bar, Cond.selects RX1 yX1_bar yX1_bar, Cond.code yX1_bar cX1_bar 5 (some .boolean), Cond.methodLink RL 92 yL_distance, Cond.static yL_distance, Cond.codeWith yL_distance cL_distance 5 (some .int) [(0, 10, 13, 13)], Cond.methodLink RL 23 yX0_distance, Cond.instanceMethod yX0_distance, Cond.selects RX0 yX0_distance yX0_distance, Cond.code yX0_distance cX0_distance 3 (some .int), Cond.methodLink RX0 54 yX0_checkPlace, Cond.static yX0_checkPlace, Cond.code yX0_checkPlace cX0_checkPlace 1 none, Cond.methodLink RX0 57 yX0_distanceBetween, Cond.static yX0_distanceBetween, Cond.code yX0_distanceBetween cX0_distanceBetween 4 (some .int), Cond.methodLink RX0 131 Lib.Math.abs.name, Cond.static Lib.Math.abs.name, Cond.initialized "java/lang/Math", Cond.code Lib.Math.abs.name Lib.Math.abs.code 1 (some .int), Cond.methodLink RX0 128 yX0_holdOf, Cond.static yX0_holdOf, Cond.code yX0_holdOf cX0_holdOf 1 (some .int)]
def wsL_law0_r6 : List Cond := [Cond.methodLink RX0 136 yX0_bayOf, Cond.static yX0_bayOf, Cond.code yX0_bayOf cX0_bayOf 1 (some .int), Cond.methodLink RX0 139 yX0_deckOf, Cond.static yX0_deckOf, Cond.code yX0_deckOf cX0_deckOf 1 (some .int), Cond.methodLink RL 95 yX1_distance, Cond.instanceMethod yX1_distance, Cond.selects RX1 yX1_distance yX1_distance, Cond.code yX1_distance cX1_distance 3 (some .int), Cond.methodLink RX1 56 yX1_isPlace, Cond.static yX1_isPlace, Cond.code yX1_isPlace cX1_isPlace 1 (some .boolean), Cond.methodLink RX1 59 yX1_apart, Cond.static yX1_apart, Cond.code yX1_apart cX1_apart 6 (some .int), Cond.methodLink RL 96 yL_add, Cond.static yL_add, Cond.codeWith yL_add cL_add 6 (some .int) [(0, 12, 15, 13), (0, 12, 19, 30)], Cond.classLink RL 30 "java/lang/IllegalStateException", Cond.methodLink RL 27 yX0_add, Cond.instanceMethod yX0_add, Cond.selects RX0 yX0_add yX0_add, Cond.code yX0_add cX0_add 5 (some .int)]
def wsL_law0_r7 : List Cond := [Cond.classLink RX0 67 "java/lang/IllegalStateException", Cond.initialized "java/lang/IllegalStateException", Cond.methodLink RX0 60 yX0_checkSubsidiary, Cond.static yX0_checkSubsidiary, Cond.code yX0_checkSubsidiary cX0_checkSubsidiary 2 none, Cond.methodLink RX0 64 yX0_checkQuantity, Cond.static yX0_checkQuantity, Cond.code yX0_checkQuantity cX0_checkQuantity 1 none, Cond.methodLink RL 98 yX1_add, Cond.instanceMethod yX1_add, Cond.selects RX1 yX1_add yX1_add, Cond.code yX1_add cX1_add 6 (some .int), Cond.fieldLink RX1 46 "DangerousGoodsModel" "goods" "I", Cond.methodLink RL 99 yL_setQuantity, Cond.static yL_setQuantity, Cond.codeWith yL_setQuantity cL_setQuantity 5 (some .int) [(0, 10, 13, 35), (0, 10, 17, 13)], Cond.classLink RL 35 "java/lang/IndexOutOfBoundsException", Cond.methodLink RL 32 yX0_setQuantity, Cond.instanceMethod yX0_setQuantity, Cond.selects RX0 yX0_setQuantity yX0_setQuantity, Cond.code yX0_setQuantity cX0_setQuantity 4 (some .int), Cond.methodLink RX0 74 yX0_checkGoods, Cond.instanceMethod yX0_checkGoods, Cond.selects RX0 yX0_checkGoods yX0_checkGoods]
def wsL_law0_r8 : List Cond := [Cond.code yX0_checkGoods cX0_checkGoods 2 none, Cond.classLink RX0 121 "java/lang/IndexOutOfBoundsException", Cond.initialized "java/lang/IndexOutOfBoundsException", Cond.methodLink RL 101 yX1_setQuantity, Cond.instanceMethod yX1_setQuantity, Cond.selects RX1 yX1_setQuantity yX1_setQuantity, Cond.code yX1_setQuantity cX1_setQuantity 4 (some .int), Cond.methodLink RX1 63 yX1_areGoods, Cond.instanceMethod yX1_areGoods, Cond.selects RX1 yX1_areGoods yX1_areGoods, Cond.code yX1_areGoods cX1_areGoods 2 (some .boolean), Cond.methodLink RL 102 yL_put, Cond.static yL_put, Cond.codeWith yL_put cL_put 5 (some .int) [(0, 10, 13, 35), (0, 10, 17, 13)], Cond.methodLink RL 37 yX0_put, Cond.instanceMethod yX0_put, Cond.selects RX0 yX0_put yX0_put, Cond.code yX0_put cX0_put 4 (some .int), Cond.methodLink RL 104 yX1_put, Cond.instanceMethod yX1_put, Cond.selects RX1 yX1_put yX1_put, Cond.code yX1_put cX1_put 4 (some .int), Cond.methodLink RL 105 yX0_goods, Cond.instanceMethod yX0_goods]
def wsL_law0_r9 : List Cond := [Cond.selects RX0 yX0_goods yX0_goods, Cond.code yX0_goods cX0_goods 1 (some .int), Cond.methodLink RL 108 yX1_goods, Cond.instanceMethod yX1_goods, Cond.selects RX1 yX1_goods yX1_goods, Cond.code yX1_goods cX1_goods 1 (some .int), Cond.methodLink RL 109 yL_placeOf, Cond.static yL_placeOf, Cond.codeWith yL_placeOf cL_placeOf 4 (some .int) [(0, 9, 12, 35)], Cond.methodLink RL 40 yX0_placeOf, Cond.instanceMethod yX0_placeOf, Cond.selects RX0 yX0_placeOf yX0_placeOf, Cond.code yX0_placeOf cX0_placeOf 2 (some .int), Cond.methodLink RL 112 yX1_placeOf, Cond.instanceMethod yX1_placeOf, Cond.selects RX1 yX1_placeOf yX1_placeOf, Cond.code yX1_placeOf cX1_placeOf 2 (some .int), Cond.methodLink RX1 66 yX1_asks, Cond.instanceMethod yX1_asks, Cond.selects RX1 yX1_asks yX1_asks, Cond.code yX1_asks cX1_asks 2 (some .boolean), Cond.methodLink RL 113 yL_isLimited, Cond.static yL_isLimited, Cond.codeWith yL_isLimited cL_isLimited 4 (some .int) [(0, 16, 19, 35)]]
def wsL_law0_r10 : List Cond := [Cond.methodLink RL 44 yX0_isLimited, Cond.instanceMethod yX0_isLimited, Cond.selects RX0 yX0_isLimited yX0_isLimited, Cond.code yX0_isLimited cX0_isLimited 2 (some .boolean), Cond.methodLink RX0 77 yX0_areLimited, Cond.instanceMethod yX0_areLimited, Cond.selects RX0 yX0_areLimited yX0_areLimited, Cond.code yX0_areLimited cX0_areLimited 2 (some .boolean), Cond.methodLink RX0 145 yX0_areWithin, Cond.instanceMethod yX0_areWithin, Cond.selects RX0 yX0_areWithin yX0_areWithin, Cond.code yX0_areWithin cX0_areWithin 5 (some .boolean), Cond.methodLink RL 115 yX1_isLimited, Cond.instanceMethod yX1_isLimited, Cond.selects RX1 yX1_isLimited yX1_isLimited, Cond.code yX1_isLimited cX1_isLimited 2 (some .boolean), Cond.methodLink RX1 76 yX1_areLimited, Cond.instanceMethod yX1_areLimited, Cond.selects RX1 yX1_areLimited yX1_areLimited, Cond.code yX1_areLimited cX1_areLimited 2 (some .boolean), Cond.methodLink RX1 73 yX1_areExcepted, Cond.instanceMethod yX1_areExcepted, Cond.selects RX1 yX1_areExcepted yX1_areExcepted, Cond.code yX1_areExcepted cX1_areExcepted 2 (some .boolean)]
def wsL_law0_r11 : List Cond := [Cond.methodLink RX1 69 yX1_isWithin, Cond.instanceMethod yX1_isWithin, Cond.selects RX1 yX1_isWithin yX1_isWithin, Cond.code yX1_isWithin cX1_isWithin 4 (some .boolean), Cond.methodLink RL 116 yL_isExcepted, Cond.static yL_isExcepted, Cond.codeWith yL_isExcepted cL_isExcepted 4 (some .int) [(0, 16, 19, 35)], Cond.methodLink RL 48 yX0_isExcepted, Cond.instanceMethod yX0_isExcepted, Cond.selects RX0 yX0_isExcepted yX0_isExcepted, Cond.code yX0_isExcepted cX0_isExcepted 2 (some .boolean), Cond.methodLink RX0 81 yX0_areExcepted, Cond.instanceMethod yX0_areExcepted, Cond.selects RX0 yX0_areExcepted yX0_areExcepted, Cond.code yX0_areExcepted cX0_areExcepted 2 (some .boolean), Cond.methodLink RL 118 yX1_isExcepted, Cond.instanceMethod yX1_isExcepted, Cond.selects RX1 yX1_isExcepted yX1_isExcepted, Cond.code yX1_isExcepted cX1_isExcepted 2 (some .boolean), Cond.methodLink RL 119 yL_need, Cond.static yL_need, Cond.codeWith yL_need cL_need 5 (some .int) [(0, 10, 13, 35), (0, 10, 17, 13)], Cond.methodLink RL 51 yX0_need, Cond.instanceMethod yX0_need]
def wsL_law0_r12 : List Cond := [Cond.selects RX0 yX0_need yX0_need, Cond.code yX0_need cX0_need 3 (some .int), Cond.methodLink RX0 84 yX0_checkPair, Cond.instanceMethod yX0_checkPair, Cond.selects RX0 yX0_checkPair yX0_checkPair, Cond.code yX0_checkPair cX0_checkPair 3 none, Cond.methodLink RX0 87 yX0_needOf, Cond.instanceMethod yX0_needOf, Cond.selects RX0 yX0_needOf yX0_needOf, Cond.code yX0_needOf cX0_needOf 4 (some .int), Cond.methodLink RX0 142 Lib.Math.max.name, Cond.static Lib.Math.max.name, Cond.code Lib.Math.max.name Lib.Math.max.code 2 (some .int), Cond.methodLink RX0 149 yX0_greatestTableDistance, Cond.instanceMethod yX0_greatestTableDistance, Cond.selects RX0 yX0_greatestTableDistance yX0_greatestTableDistance, Cond.code yX0_greatestTableDistance cX0_greatestTableDistance 5 (some .int), Cond.methodLink RL 121 yX1_need, Cond.instanceMethod yX1_need, Cond.selects RX1 yX1_need yX1_need, Cond.code yX1_need cX1_need 3 (some .int), Cond.methodLink RX1 85 yX1_asksTwo, Cond.instanceMethod yX1_asksTwo, Cond.selects RX1 yX1_asksTwo yX1_asksTwo]
def wsL_law0_r13 : List Cond := [Cond.code yX1_asksTwo cX1_asksTwo 3 (some .boolean), Cond.methodLink RX1 89 yX1_needs, Cond.instanceMethod yX1_needs, Cond.selects RX1 yX1_needs yX1_needs, Cond.code yX1_needs cX1_needs 6 (some .int), Cond.methodLink RX1 79 yX1_ofTable, Cond.instanceMethod yX1_ofTable, Cond.selects RX1 yX1_ofTable yX1_ofTable, Cond.code yX1_ofTable cX1_ofTable 3 (some .int), Cond.methodLink RX1 82 yX1_greater, Cond.static yX1_greater, Cond.code yX1_greater cX1_greater 2 (some .int), Cond.methodLink RL 122 yL_areInBreach, Cond.static yL_areInBreach, Cond.codeWith yL_areInBreach cL_areInBreach 5 (some .int) [(0, 17, 20, 35), (0, 17, 24, 13)], Cond.methodLink RL 54 yX0_areInBreach, Cond.instanceMethod yX0_areInBreach, Cond.selects RX0 yX0_areInBreach yX0_areInBreach, Cond.code yX0_areInBreach cX0_areInBreach 3 (some .boolean), Cond.methodLink RX0 90 yX0_wouldBreach, Cond.instanceMethod yX0_wouldBreach, Cond.selects RX0 yX0_wouldBreach yX0_wouldBreach, Cond.code yX0_wouldBreach cX0_wouldBreach 4 (some .boolean), Cond.methodLink RL 124 yX1_areInBreach]
def wsL_law0_r14 : List Cond := [Cond.instanceMethod yX1_areInBreach, Cond.selects RX1 yX1_areInBreach yX1_areInBreach, Cond.code yX1_areInBreach cX1_areInBreach 3 (some .boolean), Cond.methodLink RX1 92 yX1_areFoes, Cond.instanceMethod yX1_areFoes, Cond.selects RX1 yX1_areFoes yX1_areFoes, Cond.code yX1_areFoes cX1_areFoes 4 (some .boolean), Cond.methodLink RL 125 yL_isMisplaced, Cond.static yL_isMisplaced, Cond.codeWith yL_isMisplaced cL_isMisplaced 4 (some .int) [(0, 16, 19, 35)], Cond.methodLink RL 58 yX0_isMisplaced, Cond.instanceMethod yX0_isMisplaced, Cond.selects RX0 yX0_isMisplaced yX0_isMisplaced, Cond.code yX0_isMisplaced cX0_isMisplaced 2 (some .boolean), Cond.methodLink RX0 94 yX0_wouldBeMisplaced, Cond.instanceMethod yX0_wouldBeMisplaced, Cond.selects RX0 yX0_wouldBeMisplaced yX0_wouldBeMisplaced, Cond.code yX0_wouldBeMisplaced cX0_wouldBeMisplaced 4 (some .boolean), Cond.methodLink RX0 152 yX0_isBarredFrom, Cond.instanceMethod yX0_isBarredFrom, Cond.selects RX0 yX0_isBarredFrom yX0_isBarredFrom, Cond.code yX0_isBarredFrom cX0_isBarredFrom 3 (some .boolean), Cond.methodLink RL 127 yX1_isMisplaced, Cond.instanceMethod yX1_isMisplaced]
def wsL_law0_r15 : List Cond := [Cond.selects RX1 yX1_isMisplaced yX1_isMisplaced, Cond.code yX1_isMisplaced cX1_isMisplaced 2 (some .boolean), Cond.methodLink RX1 95 yX1_areWrong, Cond.instanceMethod yX1_areWrong, Cond.selects RX1 yX1_areWrong yX1_areWrong, Cond.code yX1_areWrong cX1_areWrong 5 (some .boolean), Cond.methodLink RL 128 yX0_breaches, Cond.instanceMethod yX0_breaches, Cond.selects RX0 yX0_breaches yX0_breaches, Cond.code yX0_breaches cX0_breaches 4 (some .int), Cond.methodLink RL 131 yX1_breaches, Cond.instanceMethod yX1_breaches, Cond.selects RX1 yX1_breaches yX1_breaches, Cond.code yX1_breaches cX1_breaches 3 (some .int), Cond.methodLink RX1 98 yX1_foesOf, Cond.instanceMethod yX1_foesOf, Cond.selects RX1 yX1_foesOf yX1_foesOf, Cond.code yX1_foesOf cX1_foesOf 4 (some .int), Cond.methodLink RL 132 yL_inBreachWith, Cond.static yL_inBreachWith, Cond.codeWith yL_inBreachWith cL_inBreachWith 4 (some .int) [(0, 9, 12, 35)], Cond.methodLink RL 61 yX0_inBreachWith, Cond.instanceMethod yX0_inBreachWith, Cond.selects RX0 yX0_inBreachWith yX0_inBreachWith]
def wsL_law0_r16 : List Cond := [Cond.code yX0_inBreachWith cX0_inBreachWith 2 (some .int), Cond.methodLink RX0 98 yX0_breachesAt, Cond.instanceMethod yX0_breachesAt, Cond.selects RX0 yX0_breachesAt yX0_breachesAt, Cond.code yX0_breachesAt cX0_breachesAt 5 (some .int), Cond.methodLink RL 134 yX1_inBreachWith, Cond.instanceMethod yX1_inBreachWith, Cond.selects RX1 yX1_inBreachWith yX1_inBreachWith, Cond.code yX1_inBreachWith cX1_inBreachWith 2 (some .int), Cond.methodLink RL 135 yX0_isClean, Cond.instanceMethod yX0_isClean, Cond.selects RX0 yX0_isClean yX0_isClean, Cond.code yX0_isClean cX0_isClean 2 (some .boolean), Cond.methodLink RX0 101 yX0_wouldBeClean, Cond.instanceMethod yX0_wouldBeClean, Cond.selects RX0 yX0_wouldBeClean yX0_wouldBeClean, Cond.code yX0_wouldBeClean cX0_wouldBeClean 3 (some .boolean), Cond.methodLink RL 139 yX1_isClean, Cond.instanceMethod yX1_isClean, Cond.selects RX1 yX1_isClean yX1_isClean, Cond.code yX1_isClean cX1_isClean 1 (some .boolean), Cond.methodLink RX1 102 yX1_laysFoes, Cond.instanceMethod yX1_laysFoes, Cond.selects RX1 yX1_laysFoes yX1_laysFoes]
def wsL_law0_r17 : List Cond := [Cond.code yX1_laysFoes cX1_laysFoes 2 none, Cond.methodLink RX1 105 yX1_wrongs, Cond.instanceMethod yX1_wrongs, Cond.selects RX1 yX1_wrongs yX1_wrongs, Cond.code yX1_wrongs cX1_wrongs 3 (some .int), Cond.methodLink RX1 109 yX1_isCleanWithout, Cond.instanceMethod yX1_isCleanWithout, Cond.selects RX1 yX1_isCleanWithout yX1_isCleanWithout, Cond.code yX1_isCleanWithout cX1_isCleanWithout 5 (some .boolean), Cond.methodLink RL 140 yL_canPut, Cond.static yL_canPut, Cond.codeWith yL_canPut cL_canPut 5 (some .int) [(0, 17, 20, 35), (0, 17, 24, 13)], Cond.methodLink RL 64 yX0_canPut, Cond.instanceMethod yX0_canPut, Cond.selects RX0 yX0_canPut yX0_canPut, Cond.code yX0_canPut cX0_canPut 3 (some .boolean), Cond.methodLink RL 142 yX1_canPut, Cond.instanceMethod yX1_canPut, Cond.selects RX1 yX1_canPut yX1_canPut, Cond.code yX1_canPut cX1_canPut 3 (some .boolean), Cond.methodLink RX1 112 yX1_isGood, Cond.instanceMethod yX1_isGood, Cond.selects RX1 yX1_isGood yX1_isGood, Cond.code yX1_isGood cX1_isGood 5 (some .boolean)]
def wsL_law0_r18 : List Cond := [Cond.methodLink RL 143 yL_placeFor, Cond.static yL_placeFor, Cond.codeWith yL_placeFor cL_placeFor 4 (some .int) [(0, 9, 12, 35)], Cond.methodLink RL 67 yX0_placeFor, Cond.instanceMethod yX0_placeFor, Cond.selects RX0 yX0_placeFor yX0_placeFor, Cond.code yX0_placeFor cX0_placeFor 3 (some .int), Cond.methodLink RL 145 yX1_placeFor, Cond.instanceMethod yX1_placeFor, Cond.selects RX1 yX1_placeFor yX1_placeFor, Cond.code yX1_placeFor cX1_placeFor 4 (some .int), Cond.methodLink RL 146 yX0_fewest, Cond.instanceMethod yX0_fewest, Cond.selects RX0 yX0_fewest yX0_fewest, Cond.code yX0_fewest cX0_fewest 1 (some .int), Cond.methodLink RX0 104 yX0_leastLeaving, Cond.instanceMethod yX0_leastLeaving, Cond.selects RX0 yX0_leastLeaving yX0_leastLeaving, Cond.code yX0_leastLeaving cX0_leastLeaving 4 (some .int), Cond.methodLink RX0 155 yX0_searchLeaving, Cond.static yX0_searchLeaving, Cond.code yX0_searchLeaving cX0_searchLeaving 6 (some .int), Cond.methodLink RX0 108 yJ6_bitCount_0f7a4, Cond.static yJ6_bitCount_0f7a4]
def wsL_law0_r19 : List Cond := [Cond.initialized RJ6, Cond.code yJ6_bitCount_0f7a4 cJ6_bitCount_0f7a4 1 (some .int), Cond.constant RJ6 265 (1431655765), Cond.constant RJ6 266 (858993459), Cond.constant RJ6 267 (252645135), Cond.methodLink RL 149 yX1_fewest, Cond.instanceMethod yX1_fewest, Cond.selects RX1 yX1_fewest yX1_fewest, Cond.code yX1_fewest cX1_fewest 1 (some .int), Cond.methodLink RX1 118 yX1_least, Cond.instanceMethod yX1_least, Cond.selects RX1 yX1_least yX1_least, Cond.code yX1_least cX1_least 6 (some .int), Cond.methodLink RX1 115 yX1_count, Cond.static yX1_count, Cond.code yX1_count cX1_count 3 (some .int), Cond.methodLink RL 150 yX0_leaving, Cond.instanceMethod yX0_leaving, Cond.selects RX0 yX0_leaving yX0_leaving, Cond.code yX0_leaving cX0_leaving 1 (some .int), Cond.methodLink RL 153 yX1_leaving, Cond.instanceMethod yX1_leaving, Cond.selects RX1 yX1_leaving yX1_leaving, Cond.code yX1_leaving cX1_leaving 1 (some .int)]
def wsL_law0 : List Cond := (wsL_law0_r1 ++ (wsL_law0_r2 ++ (wsL_law0_r3 ++ (wsL_law0_r4 ++ (wsL_law0_r5 ++ (wsL_law0_r6 ++ (wsL_law0_r7 ++ (wsL_law0_r8 ++ (wsL_law0_r9 ++ (wsL_law0_r10 ++ (wsL_law0_r11 ++ (wsL_law0_r12 ++ (wsL_law0_r13 ++ (wsL_law0_r14 ++ (wsL_law0_r15 ++ (wsL_law0_r16 ++ (wsL_law0_r17 ++ (wsL_law0_r18 ++ wsL_law0_r19)))))))))))))))))) ++ wsX00 ++ wsX10 ++ ([] : List Cond)
def wsL_law : List Cond := wsL_law0 ++ (vx_atS RX0 118 "java/lang/IllegalArgumentException" ["java/lang/RuntimeException", "java/lang/Exception"]).filter goodWord ++ (vx_atS RX0 71 "java/lang/IllegalStateException" ["java/lang/RuntimeException", "java/lang/Exception"]).filter goodWord ++ (vx_atS RX0 125 "java/lang/IndexOutOfBoundsException" ["java/lang/RuntimeException", "java/lang/Exception"]).filter goodWord
abbrev vwCl : List vw_C := [(RX0, TX0, 10), (RX1, TX1, 11)]
end
section
set_option maxRecDepth 20000 in
theorem wsL_law0_r1_in : ∀ w ∈ wsL_law0_r1, w ∈ lw_tbl := fun w h => (goodIn_p wsL_law0_r1 [47, 50] (by decide +kernel) (by decide +kernel) w h).1
set_option maxRecDepth 20000 in
theorem wsL_law0_r2_in : ∀ w ∈ wsL_law0_r2, w ∈ lw_tbl := fun w h => (goodIn_p wsL_law0_r2 [423, 186] (by decide +kernel) (by decide +kernel) w h).1
end
section
set_option maxRecDepth 20000 in
theorem wsL_law0_r3_in : ∀ w ∈ wsL_law0_r3, w ∈ lw_tbl := fun w h => (goodIn_p wsL_law0_r3 [189, 192, 130, 466, 469, 472] (by decide +kernel) (by decide +kernel) w h).1
set_option maxRecDepth 20000 in
theorem wsL_law0_r4_in : ∀ w ∈ wsL_law0_r4, w ∈ lw_tbl := fun w h => (goodIn_p wsL_law0_r4 [476, 462, 267, 480, 274] (by decide +kernel) (by decide +kernel) w h).1
end
section
set_option maxRecDepth 20000 in
theorem wsL_law0_r5_in : ∀ w ∈ wsL_law0_r5, w ∈ lw_tbl := fun w h => (goodIn_p wsL_law0_r5 [484, 281, 284, 98, 104, 101] (by decide +kernel) (by decide +kernel) w h).1
set_option maxRecDepth 20000 in
theorem wsL_law0_r6_in : ∀ w ∈ wsL_law0_r6, w ∈ lw_tbl := fun w h => (goodIn_p wsL_law0_r6 [107, 110, 488, 491, 494, 292] (by decide +kernel) (by decide +kernel) w h).1
end
section
set_option maxRecDepth 20000 in
theorem wsL_law0_r7_in : ∀ w ∈ wsL_law0_r7, w ∈ lw_tbl := fun w h => (goodIn_p wsL_law0_r7 [295, 299, 498, 323] (by decide +kernel) (by decide +kernel) w h).1
set_option maxRecDepth 20000 in
theorem wsL_law0_r8_in : ∀ w ∈ wsL_law0_r8, w ∈ lw_tbl := fun w h => (goodIn_p wsL_law0_r8 [327, 502, 506, 350, 510] (by decide +kernel) (by decide +kernel) w h).1
end
section
set_option maxRecDepth 20000 in
theorem wsL_law0_r9_in : ∀ w ∈ wsL_law0_r9, w ∈ lw_tbl := fun w h => (goodIn_p wsL_law0_r9 [87, 514, 357, 518, 522] (by decide +kernel) (by decide +kernel) w h).1
set_option maxRecDepth 20000 in
theorem wsL_law0_r10_in : ∀ w ∈ wsL_law0_r10, w ∈ lw_tbl := fun w h => (goodIn_p wsL_law0_r10 [364, 137, 122, 526, 530, 534] (by decide +kernel) (by decide +kernel) w h).1
end
section
set_option maxRecDepth 20000 in
theorem wsL_law0_r11_in : ∀ w ∈ wsL_law0_r11, w ∈ lw_tbl := fun w h => (goodIn_p wsL_law0_r11 [538, 371, 118, 542] (by decide +kernel) (by decide +kernel) w h).1
set_option maxRecDepth 20000 in
theorem wsL_law0_r12_in : ∀ w ∈ wsL_law0_r12, w ∈ lw_tbl := fun w h => (goodIn_p wsL_law0_r12 [378, 382, 114, 133, 126, 546] (by decide +kernel) (by decide +kernel) w h).1
end
section
set_option maxRecDepth 20000 in
theorem wsL_law0_r13_in : ∀ w ∈ wsL_law0_r13, w ∈ lw_tbl := fun w h => (goodIn_p wsL_law0_r13 [550, 554, 558, 561, 390, 95] (by decide +kernel) (by decide +kernel) w h).1
set_option maxRecDepth 20000 in
theorem wsL_law0_r14_in : ∀ w ∈ wsL_law0_r14, w ∈ lw_tbl := fun w h => (goodIn_p wsL_law0_r14 [565, 569, 397, 149, 153] (by decide +kernel) (by decide +kernel) w h).1
end
section
set_option maxRecDepth 20000 in
theorem wsL_law0_r15_in : ∀ w ∈ wsL_law0_r15, w ∈ lw_tbl := fun w h => (goodIn_p wsL_law0_r15 [573, 577, 91, 581, 585] (by decide +kernel) (by decide +kernel) w h).1
set_option maxRecDepth 20000 in
theorem wsL_law0_r16_in : ∀ w ∈ wsL_law0_r16, w ∈ lw_tbl := fun w h => (goodIn_p wsL_law0_r16 [404, 157, 589, 141, 145, 593] (by decide +kernel) (by decide +kernel) w h).1
end
section
set_option maxRecDepth 20000 in
theorem wsL_law0_r17_in : ∀ w ∈ wsL_law0_r17, w ∈ lw_tbl := fun w h => (goodIn_p wsL_law0_r17 [597, 601, 605, 411, 609, 613] (by decide +kernel) (by decide +kernel) w h).1
set_option maxRecDepth 20000 in
theorem wsL_law0_r18_in : ∀ w ∈ wsL_law0_r18, w ∈ lw_tbl := fun w h => (goodIn_p wsL_law0_r18 [418, 617, 161, 165, 168] (by decide +kernel) (by decide +kernel) w h).1
end
section
set_option maxRecDepth 20000 in
theorem wsL_law0_r19_in : ∀ w ∈ wsL_law0_r19, w ∈ lw_tbl := fun w h => (goodIn_p wsL_law0_r19 [171, 621, 625, 628, 178, 632] (by decide +kernel) (by decide +kernel) w h).1
end
section
theorem wsL_law0_x0_in : ∀ w ∈ wsX00, w ∈ lw_tbl := by decide +kernel
theorem wsL_law0_x1_in : ∀ w ∈ wsX10, w ∈ lw_tbl := by decide +kernel
theorem wsL_law_in0 : ∀ w ∈ wsL_law0, w ∈ lw_tbl := fun w h => (List.mem_append.mp h).elim (fun h => (List.mem_append.mp h).elim (fun h => (List.mem_append.mp h).elim (fun h => (List.mem_append.mp h).elim (fun h => wsL_law0_r1_in w h) (fun h => (List.mem_append.mp h).elim (fun h => wsL_law0_r2_in w h) (fun h => (List.mem_append.mp h).elim (fun h => wsL_law0_r3_in w h) (fun h => (List.mem_append.mp h).elim (fun h => wsL_law0_r4_in w h) (fun h => (List.mem_append.mp h).elim (fun h => wsL_law0_r5_in w h) (fun h => (List.mem_append.mp h).elim (fun h => wsL_law0_r6_in w h) (fun h => (List.mem_append.mp h).elim (fun h => wsL_law0_r7_in w h) (fun h => (List.mem_append.mp h).elim (fun h => wsL_law0_r8_in w h) (fun h => (List.mem_append.mp h).elim (fun h => wsL_law0_r9_in w h) (fun h => (List.mem_append.mp h).elim (fun h => wsL_law0_r10_in w h) (fun h => (List.mem_append.mp h).elim (fun h => wsL_law0_r11_in w h) (fun h => (List.mem_append.mp h).elim (fun h => wsL_law0_r12_in w h) (fun h => (List.mem_append.mp h).elim (fun h => wsL_law0_r13_in w h) (fun h => (List.mem_append.mp h).elim (fun h => wsL_law0_r14_in w h) (fun h => (List.mem_append.mp h).elim (fun h => wsL_law0_r15_in w h) (fun h => (List.mem_append.mp h).elim (fun h => wsL_law0_r16_in w h) (fun h => (List.mem_append.mp h).elim (fun h => wsL_law0_r17_in w h) (fun h => (List.mem_append.mp h).elim (fun h => wsL_law0_r18_in w h) (fun h => wsL_law0_r19_in w h))))))))))))))))))) (fun h => wsL_law0_x0_in w h)) (fun h => wsL_law0_x1_in w h)) (fun h => absurd h List.not_mem_nil)
theorem wsL_law_x0 : ∀ w ∈ (vx_atS RX0 118 "java/lang/IllegalArgumentException" ["java/lang/RuntimeException", "java/lang/Exception"]).filter goodWord, w ∈ lw_tbl := by decide +kernel
theorem wsL_law_x1 : ∀ w ∈ (vx_atS RX0 71 "java/lang/IllegalStateException" ["java/lang/RuntimeException", "java/lang/Exception"]).filter goodWord, w ∈ lw_tbl := by decide +kernel
theorem wsL_law_x2 : ∀ w ∈ (vx_atS RX0 125 "java/lang/IndexOutOfBoundsException" ["java/lang/RuntimeException", "java/lang/Exception"]).filter goodWord, w ∈ lw_tbl := by decide +kernel
theorem wsL_law_in : ∀ w ∈ wsL_law, w ∈ lw_tbl := fun w h => (List.mem_append.mp h).elim (fun h => (List.mem_append.mp h).elim (fun h => (List.mem_append.mp h).elim (fun h => wsL_law_in0 w h) (fun h => wsL_law_x0 w h)) (fun h => wsL_law_x1 w h)) (fun h => wsL_law_x2 w h)
theorem inlX0 : ∀ w ∈ wsX00, w ∈ wsL_law := fun _ h => List.mem_append_left _ (List.mem_append_left _ (List.mem_append_left _ (List.mem_append_left _ (List.mem_append_left _ (List.mem_append_right _ h)))))
theorem inX0 : ∀ w ∈ wsX00, w ∈ lw_tbl := fun w h => wsL_law_in w (inlX0 w h)
theorem inlX1 : ∀ w ∈ wsX10, w ∈ wsL_law := fun _ h => List.mem_append_left _ (List.mem_append_left _ (List.mem_append_left _ (List.mem_append_left _ (List.mem_append_right _ h))))
theorem inX1 : ∀ w ∈ wsX10, w ∈ lw_tbl := fun w h => wsL_law_in w (inlX1 w h)
theorem inJ6 : ∀ w ∈ wsJ60, w ∈ lw_tbl := by decide +kernel
theorem inJ9 : ∀ w ∈ wsJ90, w ∈ lw_tbl := by decide +kernel
theorem inJ0 : ∀ w ∈ wsJ00, w ∈ lw_tbl := by decide +kernel
end
section
set_option maxRecDepth 20000 in
theorem ggX0_setDistance_X0_checkClass : GoodIn wsX0_setDistance wsX0_checkClass := goodIn_ca (goodIn_r _ [5, 6, 7, 4, 8, 9, 10] (by decide +kernel) (by decide +kernel)) (goodIn_sub (fun _ h => List.mem_cons_of_mem _ (List.mem_append_right _ h)) (by decide +kernel))
set_option maxRecDepth 20000 in
theorem gX0_setDistance_X0_checkClass : GoodIn wsX0_setDistance (va_wsS RX0 42 yX0_checkClass wsX0_checkClass) := goodIn_app (goodIn_of _ (by decide +kernel)) ggX0_setDistance_X0_checkClass
set_option maxRecDepth 20000 in
theorem ggX0_setDistance_X0_checkRange : GoodIn wsX0_setDistance wsX0_checkRange := goodIn_ca (goodIn_r _ [8, 9, 10] (by decide +kernel) (by decide +kernel)) (goodIn_sub (fun _ h => List.mem_cons_of_mem _ (List.mem_append_right _ h)) (by decide +kernel))
set_option maxRecDepth 20000 in
theorem gX0_setDistance_X0_checkRange : GoodIn wsX0_setDistance (va_wsS RX0 46 yX0_checkRange wsX0_checkRange) := goodIn_app (goodIn_of _ (by decide +kernel)) ggX0_setDistance_X0_checkRange
set_option maxRecDepth 20000 in
theorem ggX0_setDistance_X0_tableDistance : GoodIn wsX0_setDistance wsX0_tableDistance := goodIn_r _ [14, 1, 15, 16, 17, 18, 19, 20, 21, 22, 23, 24] (by decide +kernel) (by decide +kernel)
set_option maxRecDepth 20000 in
theorem gX0_setDistance_X0_tableDistance : GoodIn wsX0_setDistance (wsV RX0 50 RX0 yX0_tableDistance wsX0_tableDistance) := goodIn_app (goodIn_of _ (by decide +kernel)) ggX0_setDistance_X0_tableDistance
set_option maxRecDepth 20000 in
theorem ggX0_setQuantities_X0_checkClass : GoodIn wsX0_setQuantities wsX0_checkClass := goodIn_ca (goodIn_r _ [6, 7, 8, 5, 9, 10, 11] (by decide +kernel) (by decide +kernel)) (goodIn_sub (fun _ h => List.mem_cons_of_mem _ (List.mem_append_right _ h)) (by decide +kernel))
set_option maxRecDepth 20000 in
theorem gX0_setQuantities_X0_checkClass : GoodIn wsX0_setQuantities (va_wsS RX0 42 yX0_checkClass wsX0_checkClass) := goodIn_app (goodIn_of _ (by decide +kernel)) ggX0_setQuantities_X0_checkClass
set_option maxRecDepth 20000 in
theorem ggX0_setQuantities_X0_checkRange : GoodIn wsX0_setQuantities wsX0_checkRange := goodIn_ca (goodIn_r _ [9, 10, 11] (by decide +kernel) (by decide +kernel)) (goodIn_sub (fun _ h => List.mem_cons_of_mem _ (List.mem_append_right _ h)) (by decide +kernel))
set_option maxRecDepth 20000 in
theorem gX0_setQuantities_X0_checkRange : GoodIn wsX0_setQuantities (va_wsS RX0 46 yX0_checkRange wsX0_checkRange) := goodIn_app (goodIn_of _ (by decide +kernel)) ggX0_setQuantities_X0_checkRange
set_option maxRecDepth 20000 in
theorem ggX0_bar_X0_checkClass : GoodIn wsX0_bar wsX0_checkClass := goodIn_ca (goodIn_r _ [5, 6, 7, 4, 8, 9, 10] (by decide +kernel) (by decide +kernel)) (goodIn_sub (fun _ h => List.mem_cons_of_mem _ (List.mem_append_right _ h)) (by decide +kernel))
set_option maxRecDepth 20000 in
theorem gX0_bar_X0_checkClass : GoodIn wsX0_bar (va_wsS RX0 42 yX0_checkClass wsX0_checkClass) := goodIn_app (goodIn_of _ (by decide +kernel)) ggX0_bar_X0_checkClass
set_option maxRecDepth 20000 in
theorem ggX0_bar_X0_checkRange : GoodIn wsX0_bar wsX0_checkRange := goodIn_ca (goodIn_r _ [8, 9, 10] (by decide +kernel) (by decide +kernel)) (goodIn_sub (fun _ h => List.mem_cons_of_mem _ (List.mem_append_right _ h)) (by decide +kernel))
set_option maxRecDepth 20000 in
theorem gX0_bar_X0_checkRange : GoodIn wsX0_bar (va_wsS RX0 46 yX0_checkRange wsX0_checkRange) := goodIn_app (goodIn_of _ (by decide +kernel)) ggX0_bar_X0_checkRange
set_option maxRecDepth 20000 in
theorem ggX0_distance_X0_checkPlace : GoodIn wsX0_distance wsX0_checkPlace := goodIn_ca (goodIn_r _ [4, 5, 6, 3, 7, 8, 9] (by decide +kernel) (by decide +kernel)) (goodIn_sub (fun _ h => List.mem_cons_of_mem _ (List.mem_append_right _ h)) (by decide +kernel))
set_option maxRecDepth 20000 in
theorem gX0_distance_X0_checkPlace : GoodIn wsX0_distance (va_wsS RX0 54 yX0_checkPlace wsX0_checkPlace) := goodIn_app (goodIn_of _ (by decide +kernel)) ggX0_distance_X0_checkPlace
set_option maxRecDepth 20000 in
theorem ggX0_distance_X0_distanceBetween : GoodIn wsX0_distance wsX0_distanceBetween := goodIn_r _ [12, 13, 14, 15, 16, 17, 18, 3, 19, 20, 21, 22, 23, 24, 25] (by decide +kernel) (by decide +kernel)
set_option maxRecDepth 20000 in
theorem gX0_distance_X0_distanceBetween : GoodIn wsX0_distance (va_wsS RX0 57 yX0_distanceBetween wsX0_distanceBetween) := goodIn_app (goodIn_of _ (by decide +kernel)) ggX0_distance_X0_distanceBetween
set_option maxRecDepth 20000 in
theorem ggX0_add_X0_checkClass : GoodIn wsX0_add wsX0_checkClass := goodIn_ca (goodIn_r _ [11, 12, 13, 10, 14, 15, 16] (by decide +kernel) (by decide +kernel)) (goodIn_sub (fun _ h => List.mem_cons_of_mem _ (List.mem_append_right _ h)) (by decide +kernel))
set_option maxRecDepth 20000 in
theorem gX0_add_X0_checkClass : GoodIn wsX0_add (va_wsS RX0 42 yX0_checkClass wsX0_checkClass) := goodIn_app (goodIn_of _ (by decide +kernel)) ggX0_add_X0_checkClass
set_option maxRecDepth 20000 in
theorem ggX0_add_X0_checkSubsidiary : GoodIn wsX0_add wsX0_checkSubsidiary := goodIn_ca (goodIn_r _ [19, 15, 16, 8, 9, 10, 11, 12, 13, 14] (by decide +kernel) (by decide +kernel)) (goodIn_sub (fun _ h => List.mem_cons_of_mem _ (List.mem_append_right _ h)) (by decide +kernel))
set_option maxRecDepth 20000 in
theorem gX0_add_X0_checkSubsidiary : GoodIn wsX0_add (va_wsS RX0 60 yX0_checkSubsidiary wsX0_checkSubsidiary) := goodIn_app (goodIn_of _ (by decide +kernel)) ggX0_add_X0_checkSubsidiary
set_option maxRecDepth 20000 in
theorem ggX0_add_X0_checkQuantity : GoodIn wsX0_add wsX0_checkQuantity := goodIn_ca (goodIn_r _ [22, 12, 13, 10, 14, 15, 16] (by decide +kernel) (by decide +kernel)) (goodIn_sub (fun _ h => List.mem_cons_of_mem _ (List.mem_append_right _ h)) (by decide +kernel))
set_option maxRecDepth 20000 in
theorem gX0_add_X0_checkQuantity : GoodIn wsX0_add (va_wsS RX0 64 yX0_checkQuantity wsX0_checkQuantity) := goodIn_app (goodIn_of _ (by decide +kernel)) ggX0_add_X0_checkQuantity
set_option maxRecDepth 20000 in
theorem ggX0_setQuantity_X0_checkGoods : GoodIn wsX0_setQuantity wsX0_checkGoods := goodIn_ca (goodIn_r _ [6, 7, 8, 9, 18, 19, 20, 21, 22, 23, 24, 25, 26, 27] (by decide +kernel) (by decide +kernel)) (goodIn_sub (fun _ h => List.mem_cons_of_mem _ (List.mem_append_left _ (List.mem_append_right _ h))) (by decide +kernel))
set_option maxRecDepth 20000 in
theorem gX0_setQuantity_X0_checkGoods : GoodIn wsX0_setQuantity (wsV RX0 74 RX0 yX0_checkGoods wsX0_checkGoods) := goodIn_app (goodIn_of _ (by decide +kernel)) ggX0_setQuantity_X0_checkGoods
set_option maxRecDepth 20000 in
theorem ggX0_setQuantity_X0_checkQuantity : GoodIn wsX0_setQuantity wsX0_checkQuantity := goodIn_ca (goodIn_r _ [12, 13, 14, 5, 15, 16, 17] (by decide +kernel) (by decide +kernel)) (goodIn_sub (fun _ h => List.mem_cons_of_mem _ (List.mem_append_right _ h)) (by decide +kernel))
set_option maxRecDepth 20000 in
theorem gX0_setQuantity_X0_checkQuantity : GoodIn wsX0_setQuantity (va_wsS RX0 64 yX0_checkQuantity wsX0_checkQuantity) := goodIn_app (goodIn_of _ (by decide +kernel)) ggX0_setQuantity_X0_checkQuantity
set_option maxRecDepth 20000 in
theorem ggX0_put_X0_checkGoods : GoodIn wsX0_put wsX0_checkGoods := goodIn_ca (goodIn_r _ [6, 7, 8, 9, 18, 19, 20, 21, 22, 23, 24, 25, 26, 27] (by decide +kernel) (by decide +kernel)) (goodIn_sub (fun _ h => List.mem_cons_of_mem _ (List.mem_append_left _ (List.mem_append_right _ h))) (by decide +kernel))
set_option maxRecDepth 20000 in
theorem gX0_put_X0_checkGoods : GoodIn wsX0_put (wsV RX0 74 RX0 yX0_checkGoods wsX0_checkGoods) := goodIn_app (goodIn_of _ (by decide +kernel)) ggX0_put_X0_checkGoods
set_option maxRecDepth 20000 in
theorem ggX0_put_X0_checkPlace : GoodIn wsX0_put wsX0_checkPlace := goodIn_ca (goodIn_r _ [12, 13, 14, 5, 15, 16, 17] (by decide +kernel) (by decide +kernel)) (goodIn_sub (fun _ h => List.mem_cons_of_mem _ (List.mem_append_right _ h)) (by decide +kernel))
set_option maxRecDepth 20000 in
theorem gX0_put_X0_checkPlace : GoodIn wsX0_put (va_wsS RX0 54 yX0_checkPlace wsX0_checkPlace) := goodIn_app (goodIn_of _ (by decide +kernel)) ggX0_put_X0_checkPlace
set_option maxRecDepth 20000 in
theorem ggX0_placeOf_X0_checkGoods : GoodIn wsX0_placeOf wsX0_checkGoods := goodIn_ca (goodIn_r _ [6, 7, 8, 9, 10, 11, 12, 13, 14, 15, 16, 17, 18, 19] (by decide +kernel) (by decide +kernel)) (goodIn_sub (fun _ h => List.mem_cons_of_mem _ (List.mem_append_right _ h)) (by decide +kernel))
set_option maxRecDepth 20000 in
theorem gX0_placeOf_X0_checkGoods : GoodIn wsX0_placeOf (wsV RX0 74 RX0 yX0_checkGoods wsX0_checkGoods) := goodIn_app (goodIn_of _ (by decide +kernel)) ggX0_placeOf_X0_checkGoods
set_option maxRecDepth 20000 in
theorem ggX0_isLimited_X0_checkGoods : GoodIn wsX0_isLimited wsX0_checkGoods := goodIn_ca (goodIn_r _ [5, 6, 7, 8, 22, 23, 24, 25, 26, 27, 28, 29, 30, 31] (by decide +kernel) (by decide +kernel)) (goodIn_sub (fun _ h => List.mem_cons_of_mem _ (List.mem_append_right _ h)) (by decide +kernel))
set_option maxRecDepth 20000 in
theorem gX0_isLimited_X0_checkGoods : GoodIn wsX0_isLimited (wsV RX0 74 RX0 yX0_checkGoods wsX0_checkGoods) := goodIn_app (goodIn_of _ (by decide +kernel)) ggX0_isLimited_X0_checkGoods
set_option maxRecDepth 20000 in
theorem ggX0_isLimited_X0_areLimited : GoodIn wsX0_isLimited wsX0_areLimited := goodIn_r _ [12, 13, 14, 15, 16, 17, 4, 18, 19, 20, 21, 22, 23, 24, 25, 26, 27, 28, 29, 30, 31] (by decide +kernel) (by decide +kernel)
set_option maxRecDepth 20000 in
theorem gX0_isLimited_X0_areLimited : GoodIn wsX0_isLimited (wsV RX0 77 RX0 yX0_areLimited wsX0_areLimited) := goodIn_app (goodIn_of _ (by decide +kernel)) ggX0_isLimited_X0_areLimited
set_option maxRecDepth 20000 in
theorem ggX0_isExcepted_X0_checkGoods : GoodIn wsX0_isExcepted wsX0_checkGoods := goodIn_ca (goodIn_r _ [5, 6, 7, 8, 21, 22, 23, 24, 25, 26, 27, 28, 29, 30] (by decide +kernel) (by decide +kernel)) (goodIn_sub (fun _ h => List.mem_cons_of_mem _ (List.mem_append_right _ h)) (by decide +kernel))
set_option maxRecDepth 20000 in
theorem gX0_isExcepted_X0_checkGoods : GoodIn wsX0_isExcepted (wsV RX0 74 RX0 yX0_checkGoods wsX0_checkGoods) := goodIn_app (goodIn_of _ (by decide +kernel)) ggX0_isExcepted_X0_checkGoods
set_option maxRecDepth 20000 in
theorem ggX0_isExcepted_X0_areExcepted : GoodIn wsX0_isExcepted wsX0_areExcepted := goodIn_r _ [12, 13, 14, 15, 16, 4, 17, 18, 19, 20, 21, 22, 23, 24, 25, 26, 27, 28, 29, 30] (by decide +kernel) (by decide +kernel)
set_option maxRecDepth 20000 in
theorem gX0_isExcepted_X0_areExcepted : GoodIn wsX0_isExcepted (wsV RX0 81 RX0 yX0_areExcepted wsX0_areExcepted) := goodIn_app (goodIn_of _ (by decide +kernel)) ggX0_isExcepted_X0_areExcepted
set_option maxRecDepth 20000 in
theorem ggX0_need_X0_checkPair : GoodIn wsX0_need wsX0_checkPair := goodIn_ca (goodIn_ca (goodIn_r _ [5, 6, 7, 8, 9, 10, 4, 11, 12, 13, 14, 49, 50, 51, 52, 53, 54, 55, 56, 57, 58] (by decide +kernel) (by decide +kernel)) (goodIn_sub (fun _ h => List.mem_cons_of_mem _ (List.mem_append_left _ (List.mem_append_right _ h))) (by decide +kernel))) (goodIn_sub (fun _ h => List.mem_cons_of_mem _ (List.mem_append_right _ h)) (by decide +kernel))
set_option maxRecDepth 20000 in
theorem gX0_need_X0_checkPair : GoodIn wsX0_need (wsV RX0 84 RX0 yX0_checkPair wsX0_checkPair) := goodIn_app (goodIn_of _ (by decide +kernel)) ggX0_need_X0_checkPair
set_option maxRecDepth 20000 in
theorem ggX0_need_X0_needOf : GoodIn wsX0_need wsX0_needOf := goodIn_r _ [18, 19, 20, 21, 22, 23, 24, 25, 4, 26, 27, 28, 29, 30, 31, 32, 33, 34, 35, 36, 37, 38, 39, 40, 41, 42, 43, 44, 45, 46, 47, 48, 49, 50, 51, 52, 53, 54, 55, 56, 57, 58] (by decide +kernel) (by decide +kernel)
end
section
set_option maxRecDepth 20000 in
theorem gX0_need_X0_needOf : GoodIn wsX0_need (wsV RX0 87 RX0 yX0_needOf wsX0_needOf) := goodIn_app (goodIn_of _ (by decide +kernel)) ggX0_need_X0_needOf
set_option maxRecDepth 20000 in
theorem ggX0_areInBreach_X0_checkPair : GoodIn wsX0_areInBreach wsX0_checkPair := goodIn_ca (goodIn_ca (goodIn_r _ [6, 7, 8, 9, 10, 11, 5, 12, 13, 14, 15, 69, 70, 71, 72, 73, 74, 75, 76, 77, 78] (by decide +kernel) (by decide +kernel)) (goodIn_sub (fun _ h => List.mem_cons_of_mem _ (List.mem_append_left _ (List.mem_append_right _ h))) (by decide +kernel))) (goodIn_sub (fun _ h => List.mem_cons_of_mem _ (List.mem_append_right _ h)) (by decide +kernel))
set_option maxRecDepth 20000 in
theorem gX0_areInBreach_X0_checkPair : GoodIn wsX0_areInBreach (wsV RX0 84 RX0 yX0_checkPair wsX0_checkPair) := goodIn_app (goodIn_of _ (by decide +kernel)) ggX0_areInBreach_X0_checkPair
set_option maxRecDepth 20000 in
theorem ggX0_areInBreach_X0_wouldBreach : GoodIn wsX0_areInBreach wsX0_wouldBreach := goodIn_r _ [19, 1, 20, 21, 5, 22, 23, 24, 25, 26, 27, 28, 29, 30, 31, 32, 33, 34, 35, 36, 37, 38, 39, 40, 41, 42, 43, 44, 45, 46, 47, 48, 49, 50, 51, 52, 53, 54, 55, 56, 57, 58, 59, 60, 61, 62, 63, 64, 65, 66, 67, 68, 69, 70, 71, 72, 73, 74, 75, 76, 77, 78] (by decide +kernel) (by decide +kernel)
set_option maxRecDepth 20000 in
theorem gX0_areInBreach_X0_wouldBreach : GoodIn wsX0_areInBreach (wsV RX0 90 RX0 yX0_wouldBreach wsX0_wouldBreach) := goodIn_app (goodIn_of _ (by decide +kernel)) ggX0_areInBreach_X0_wouldBreach
set_option maxRecDepth 20000 in
theorem ggX0_isMisplaced_X0_checkGoods : GoodIn wsX0_isMisplaced wsX0_checkGoods := goodIn_ca (goodIn_r _ [6, 7, 8, 9, 34, 35, 36, 37, 38, 39, 40, 41, 42, 43] (by decide +kernel) (by decide +kernel)) (goodIn_sub (fun _ h => List.mem_cons_of_mem _ (List.mem_append_right _ h)) (by decide +kernel))
set_option maxRecDepth 20000 in
theorem gX0_isMisplaced_X0_checkGoods : GoodIn wsX0_isMisplaced (wsV RX0 74 RX0 yX0_checkGoods wsX0_checkGoods) := goodIn_app (goodIn_of _ (by decide +kernel)) ggX0_isMisplaced_X0_checkGoods
set_option maxRecDepth 20000 in
theorem ggX0_isMisplaced_X0_wouldBeMisplaced : GoodIn wsX0_isMisplaced wsX0_wouldBeMisplaced := goodIn_r _ [13, 14, 15, 16, 17, 18, 5, 19, 20, 21, 22, 23, 24, 25, 26, 27, 28, 29, 30, 31, 32, 33, 34, 35, 36, 37, 38, 39, 40, 41, 42, 43] (by decide +kernel) (by decide +kernel)
set_option maxRecDepth 20000 in
theorem gX0_isMisplaced_X0_wouldBeMisplaced : GoodIn wsX0_isMisplaced (wsV RX0 94 RX0 yX0_wouldBeMisplaced wsX0_wouldBeMisplaced) := goodIn_app (goodIn_of _ (by decide +kernel)) ggX0_isMisplaced_X0_wouldBeMisplaced
set_option maxRecDepth 20000 in
theorem ggX0_breaches_X0_wouldBreach : GoodIn wsX0_breaches wsX0_wouldBreach := goodIn_r _ [7, 2, 8, 9, 6, 10, 11, 12, 13, 14, 15, 16, 17, 18, 19, 20, 21, 22, 23, 24, 25, 26, 27, 28, 29, 30, 31, 32, 33, 34, 35, 36, 37, 38, 39, 40, 41, 42, 43, 44, 45, 46, 47, 48, 49, 50, 51, 52, 53, 54, 55, 56, 57, 58, 59, 60, 61, 62, 63, 64, 65, 66] (by decide +kernel) (by decide +kernel)
set_option maxRecDepth 20000 in
theorem gX0_breaches_X0_wouldBreach : GoodIn wsX0_breaches (wsV RX0 90 RX0 yX0_wouldBreach wsX0_wouldBreach) := goodIn_app (goodIn_of _ (by decide +kernel)) ggX0_breaches_X0_wouldBreach
set_option maxRecDepth 20000 in
theorem ggX0_inBreachWith_X0_checkGoods : GoodIn wsX0_inBreachWith wsX0_checkGoods := goodIn_ca (goodIn_r _ [6, 7, 8, 9, 67, 68, 69, 70, 71, 72, 73, 74, 75, 76] (by decide +kernel) (by decide +kernel)) (goodIn_sub (fun _ h => List.mem_cons_of_mem _ (List.mem_append_right _ h)) (by decide +kernel))
set_option maxRecDepth 20000 in
theorem gX0_inBreachWith_X0_checkGoods : GoodIn wsX0_inBreachWith (wsV RX0 74 RX0 yX0_checkGoods wsX0_checkGoods) := goodIn_app (goodIn_of _ (by decide +kernel)) ggX0_inBreachWith_X0_checkGoods
set_option maxRecDepth 20000 in
theorem ggX0_inBreachWith_X0_breachesAt : GoodIn wsX0_inBreachWith wsX0_breachesAt := goodIn_r _ [13, 9, 14, 15, 16, 5, 17, 1, 18, 19, 20, 21, 22, 23, 24, 25, 26, 27, 28, 29, 30, 31, 32, 33, 34, 35, 36, 37, 38, 39, 40, 41, 42, 43, 44, 45, 46, 47, 48, 49, 50, 51, 52, 53, 54, 55, 56, 57, 58, 59, 60, 61, 62, 63, 64, 65, 66, 67, 68, 69, 70, 71, 72, 73, 74, 75, 76] (by decide +kernel) (by decide +kernel)
set_option maxRecDepth 20000 in
theorem gX0_inBreachWith_X0_breachesAt : GoodIn wsX0_inBreachWith (wsV RX0 98 RX0 yX0_breachesAt wsX0_breachesAt) := goodIn_app (goodIn_of _ (by decide +kernel)) ggX0_inBreachWith_X0_breachesAt
set_option maxRecDepth 20000 in
theorem ggX0_isClean_X0_wouldBeClean : GoodIn wsX0_isClean wsX0_wouldBeClean := goodIn_r _ [7, 8, 9, 10, 6, 11, 12, 13, 14, 15, 16, 17, 18, 19, 20, 21, 22, 23, 24, 25, 26, 27, 28, 29, 30, 31, 32, 33, 34, 35, 1, 36, 37, 38, 39, 2, 40, 41, 42, 43, 44, 45, 46, 47, 48, 49, 50, 51, 52, 53, 54, 55, 56, 57, 58, 59, 60, 61, 62, 63, 64, 65, 66, 67, 68, 69, 70, 71, 72, 73, 74, 75, 76, 77, 78, 79, 80, 81, 82, 83] (by decide +kernel) (by decide +kernel)
set_option maxRecDepth 20000 in
theorem gX0_isClean_X0_wouldBeClean : GoodIn wsX0_isClean (wsV RX0 101 RX0 yX0_wouldBeClean wsX0_wouldBeClean) := goodIn_app (goodIn_of _ (by decide +kernel)) ggX0_isClean_X0_wouldBeClean
set_option maxRecDepth 20000 in
theorem ggX0_canPut_X0_checkGoods : GoodIn wsX0_canPut wsX0_checkGoods := goodIn_ca (goodIn_r _ [5, 6, 7, 8, 88, 89, 90, 91, 92, 93, 94, 95, 96, 97] (by decide +kernel) (by decide +kernel)) (goodIn_sub (fun _ h => List.mem_cons_of_mem _ (List.mem_append_left _ (List.mem_append_right _ h))) (by decide +kernel))
set_option maxRecDepth 20000 in
theorem gX0_canPut_X0_checkGoods : GoodIn wsX0_canPut (wsV RX0 74 RX0 yX0_checkGoods wsX0_checkGoods) := goodIn_app (goodIn_of _ (by decide +kernel)) ggX0_canPut_X0_checkGoods
set_option maxRecDepth 20000 in
theorem ggX0_canPut_X0_checkPlace : GoodIn wsX0_canPut wsX0_checkPlace := goodIn_ca (goodIn_r _ [11, 12, 13, 4, 14, 15, 16] (by decide +kernel) (by decide +kernel)) (goodIn_sub (fun _ h => List.mem_cons_of_mem _ (List.mem_append_right _ h)) (by decide +kernel))
set_option maxRecDepth 20000 in
theorem gX0_canPut_X0_checkPlace : GoodIn wsX0_canPut (va_wsS RX0 54 yX0_checkPlace wsX0_checkPlace) := goodIn_app (goodIn_of _ (by decide +kernel)) ggX0_canPut_X0_checkPlace
set_option maxRecDepth 20000 in
theorem ggX0_canPut_X0_wouldBeClean : GoodIn wsX0_canPut wsX0_wouldBeClean := goodIn_r _ [20, 21, 22, 23, 4, 24, 25, 26, 27, 28, 29, 30, 31, 32, 33, 34, 35, 36, 37, 38, 39, 40, 41, 42, 43, 44, 45, 46, 47, 48, 8, 49, 50, 51, 52, 53, 54, 55, 56, 57, 58, 59, 60, 61, 62, 63, 64, 65, 66, 67, 68, 69, 70, 71, 72, 73, 74, 75, 76, 77, 78, 79, 80, 81, 82, 83, 84, 85, 86, 87, 88, 89, 90, 91, 92, 93, 94, 95, 96, 97] (by decide +kernel) (by decide +kernel)
set_option maxRecDepth 20000 in
theorem gX0_canPut_X0_wouldBeClean : GoodIn wsX0_canPut (wsV RX0 101 RX0 yX0_wouldBeClean wsX0_wouldBeClean) := goodIn_app (goodIn_of _ (by decide +kernel)) ggX0_canPut_X0_wouldBeClean
set_option maxRecDepth 20000 in
theorem ggX0_placeFor_X0_checkGoods : GoodIn wsX0_placeFor wsX0_checkGoods := goodIn_ca (goodIn_r _ [5, 6, 7, 8, 80, 81, 82, 83, 84, 85, 86, 87, 88, 89] (by decide +kernel) (by decide +kernel)) (goodIn_sub (fun _ h => List.mem_cons_of_mem _ (List.mem_append_right _ h)) (by decide +kernel))
set_option maxRecDepth 20000 in
theorem gX0_placeFor_X0_checkGoods : GoodIn wsX0_placeFor (wsV RX0 74 RX0 yX0_checkGoods wsX0_checkGoods) := goodIn_app (goodIn_of _ (by decide +kernel)) ggX0_placeFor_X0_checkGoods
set_option maxRecDepth 20000 in
theorem ggX0_placeFor_X0_wouldBeClean : GoodIn wsX0_placeFor wsX0_wouldBeClean := goodIn_r _ [12, 13, 14, 15, 4, 16, 17, 18, 19, 20, 21, 22, 23, 24, 25, 26, 27, 28, 29, 30, 31, 32, 33, 34, 35, 36, 37, 38, 39, 40, 8, 41, 42, 43, 44, 45, 46, 47, 48, 49, 50, 51, 52, 53, 54, 55, 56, 57, 58, 59, 60, 61, 62, 63, 64, 65, 66, 67, 68, 69, 70, 71, 72, 73, 74, 75, 76, 77, 78, 79, 80, 81, 82, 83, 84, 85, 86, 87, 88, 89] (by decide +kernel) (by decide +kernel)
set_option maxRecDepth 20000 in
theorem gX0_placeFor_X0_wouldBeClean : GoodIn wsX0_placeFor (wsV RX0 101 RX0 yX0_wouldBeClean wsX0_wouldBeClean) := goodIn_app (goodIn_of _ (by decide +kernel)) ggX0_placeFor_X0_wouldBeClean
set_option maxRecDepth 20000 in
theorem ggX0_fewest_X0_leastLeaving : GoodIn wsX0_fewest wsX0_leastLeaving := goodIn_r _ [5, 6, 7, 8, 9, 10, 11, 4, 12, 13, 14, 15, 16, 17, 18, 19, 20, 21, 22, 23, 24, 25, 26, 27, 28, 29, 30, 31, 32, 33, 34, 35, 36, 37, 38, 39, 40, 41, 42, 43, 44, 45, 46, 47, 48, 49, 50, 51, 52, 53, 54, 55, 56, 57, 58, 59, 60, 61, 62, 63, 64, 65, 66, 67, 68, 69, 70, 71, 72, 73, 74, 75, 76, 77, 78, 79, 80, 81, 82, 83, 84, 85, 86, 87, 88, 89, 90, 91, 92, 93, 94] (by decide +kernel) (by decide +kernel)
set_option maxRecDepth 20000 in
theorem gX0_fewest_X0_leastLeaving : GoodIn wsX0_fewest (wsV RX0 104 RX0 yX0_leastLeaving wsX0_leastLeaving) := goodIn_app (goodIn_of _ (by decide +kernel)) ggX0_fewest_X0_leastLeaving
set_option maxRecDepth 20000 in
theorem ggX0_fewest_J6_bitCount_0f7a4 : GoodIn wsX0_fewest wsJ6_bitCount_0f7a4 := goodIn_r _ [81, 82, 83, 84] (by decide +kernel) (by decide +kernel)
set_option maxRecDepth 20000 in
theorem gX0_fewest_J6_bitCount_0f7a4 : GoodIn wsX0_fewest (va_wsS RX0 108 yJ6_bitCount_0f7a4 wsJ6_bitCount_0f7a4) := goodIn_app (goodIn_of _ (by decide +kernel)) ggX0_fewest_J6_bitCount_0f7a4
set_option maxRecDepth 20000 in
theorem ggX0_leaving_X0_leastLeaving : GoodIn wsX0_leaving wsX0_leastLeaving := goodIn_r _ [5, 6, 7, 8, 9, 10, 11, 4, 12, 13, 14, 15, 16, 17, 18, 19, 20, 21, 22, 23, 24, 25, 26, 27, 28, 29, 30, 31, 32, 33, 34, 35, 36, 37, 38, 39, 40, 41, 42, 43, 44, 45, 46, 47, 48, 49, 50, 51, 52, 53, 54, 55, 56, 57, 58, 59, 60, 61, 62, 63, 64, 65, 66, 67, 68, 69, 70, 71, 72, 73, 74, 75, 76, 77, 78, 79, 80, 81, 82, 83, 84, 85, 86, 87, 88, 89, 90, 91, 92, 93, 94] (by decide +kernel) (by decide +kernel)
set_option maxRecDepth 20000 in
theorem gX0_leaving_X0_leastLeaving : GoodIn wsX0_leaving (wsV RX0 104 RX0 yX0_leastLeaving wsX0_leastLeaving) := goodIn_app (goodIn_of _ (by decide +kernel)) ggX0_leaving_X0_leastLeaving
set_option maxRecDepth 20000 in
theorem ggX0_checkClass_X0_checkRange : GoodIn wsX0_checkClass wsX0_checkRange := goodIn_ca (goodIn_r _ [4, 5, 6] (by decide +kernel) (by decide +kernel)) (goodIn_sub (fun _ h => List.mem_cons_of_mem _ (List.mem_append_right _ h)) (by decide +kernel))
set_option maxRecDepth 20000 in
theorem gX0_checkClass_X0_checkRange : GoodIn wsX0_checkClass (va_wsS RX0 46 yX0_checkRange wsX0_checkRange) := goodIn_app (goodIn_of _ (by decide +kernel)) ggX0_checkClass_X0_checkRange
set_option maxRecDepth 20000 in
theorem ggX0_checkSubsidiary_X0_checkClass : GoodIn wsX0_checkSubsidiary wsX0_checkClass := goodIn_ca (goodIn_r _ [6, 7, 8, 5, 9, 1, 2] (by decide +kernel) (by decide +kernel)) (goodIn_sub (fun _ h => List.mem_cons_of_mem _ (List.mem_append_right _ h)) (by decide +kernel))
set_option maxRecDepth 20000 in
theorem gX0_checkSubsidiary_X0_checkClass : GoodIn wsX0_checkSubsidiary (va_wsS RX0 42 yX0_checkClass wsX0_checkClass) := goodIn_app (goodIn_of _ (by decide +kernel)) ggX0_checkSubsidiary_X0_checkClass
set_option maxRecDepth 20000 in
theorem ggX0_checkPlace_X0_checkRange : GoodIn wsX0_checkPlace wsX0_checkRange := goodIn_ca (goodIn_r _ [4, 5, 6] (by decide +kernel) (by decide +kernel)) (goodIn_sub (fun _ h => List.mem_cons_of_mem _ (List.mem_append_right _ h)) (by decide +kernel))
set_option maxRecDepth 20000 in
theorem gX0_checkPlace_X0_checkRange : GoodIn wsX0_checkPlace (va_wsS RX0 46 yX0_checkRange wsX0_checkRange) := goodIn_app (goodIn_of _ (by decide +kernel)) ggX0_checkPlace_X0_checkRange
set_option maxRecDepth 20000 in
theorem ggX0_checkQuantity_X0_checkRange : GoodIn wsX0_checkQuantity wsX0_checkRange := goodIn_ca (goodIn_r _ [4, 5, 6] (by decide +kernel) (by decide +kernel)) (goodIn_sub (fun _ h => List.mem_cons_of_mem _ (List.mem_append_right _ h)) (by decide +kernel))
set_option maxRecDepth 20000 in
theorem gX0_checkQuantity_X0_checkRange : GoodIn wsX0_checkQuantity (va_wsS RX0 46 yX0_checkRange wsX0_checkRange) := goodIn_app (goodIn_of _ (by decide +kernel)) ggX0_checkQuantity_X0_checkRange
set_option maxRecDepth 20000 in
theorem ggX0_checkPair_X0_checkGoods : GoodIn wsX0_checkPair wsX0_checkGoods := goodIn_ca (goodIn_r _ [7, 8, 9, 10, 11, 12, 13, 14, 15, 16, 17, 18, 19, 20] (by decide +kernel) (by decide +kernel)) (goodIn_sub (fun _ h => List.mem_cons_of_mem _ (List.mem_append_right _ h)) (by decide +kernel))
set_option maxRecDepth 20000 in
theorem gX0_checkPair_X0_checkGoods : GoodIn wsX0_checkPair (wsV RX0 74 RX0 yX0_checkGoods wsX0_checkGoods) := goodIn_app (goodIn_of _ (by decide +kernel)) ggX0_checkPair_X0_checkGoods
set_option maxRecDepth 20000 in
theorem ggX0_distanceBetween_X0_holdOf : GoodIn wsX0_distanceBetween wsX0_holdOf := goodIn_r _ [8] (by decide +kernel) (by decide +kernel)
set_option maxRecDepth 20000 in
theorem gX0_distanceBetween_X0_holdOf : GoodIn wsX0_distanceBetween (va_wsS RX0 128 yX0_holdOf wsX0_holdOf) := goodIn_app (goodIn_of _ (by decide +kernel)) ggX0_distanceBetween_X0_holdOf
end
section
set_option maxRecDepth 20000 in
theorem ggX0_distanceBetween_X0_bayOf : GoodIn wsX0_distanceBetween wsX0_bayOf := goodIn_r _ [11] (by decide +kernel) (by decide +kernel)
set_option maxRecDepth 20000 in
theorem gX0_distanceBetween_X0_bayOf : GoodIn wsX0_distanceBetween (va_wsS RX0 136 yX0_bayOf wsX0_bayOf) := goodIn_app (goodIn_of _ (by decide +kernel)) ggX0_distanceBetween_X0_bayOf
set_option maxRecDepth 20000 in
theorem ggX0_distanceBetween_X0_deckOf : GoodIn wsX0_distanceBetween wsX0_deckOf := goodIn_r _ [14] (by decide +kernel) (by decide +kernel)
set_option maxRecDepth 20000 in
theorem gX0_distanceBetween_X0_deckOf : GoodIn wsX0_distanceBetween (va_wsS RX0 139 yX0_deckOf wsX0_deckOf) := goodIn_app (goodIn_of _ (by decide +kernel)) ggX0_distanceBetween_X0_deckOf
set_option maxRecDepth 20000 in
theorem ggX0_greatestTableDistance_X0_tableDistance : GoodIn wsX0_greatestTableDistance wsX0_tableDistance := goodIn_r _ [11, 12, 13, 14, 15, 16, 17, 18, 19, 20, 21, 22] (by decide +kernel) (by decide +kernel)
set_option maxRecDepth 20000 in
theorem gX0_greatestTableDistance_X0_tableDistance : GoodIn wsX0_greatestTableDistance (wsV RX0 50 RX0 yX0_tableDistance wsX0_tableDistance) := goodIn_app (goodIn_of _ (by decide +kernel)) ggX0_greatestTableDistance_X0_tableDistance
set_option maxRecDepth 20000 in
theorem ggX0_areExcepted_X0_areWithin : GoodIn wsX0_areExcepted wsX0_areWithin := goodIn_r _ [6, 7, 8, 9, 10, 11, 12, 13, 14, 15, 16, 17, 18, 19] (by decide +kernel) (by decide +kernel)
set_option maxRecDepth 20000 in
theorem gX0_areExcepted_X0_areWithin : GoodIn wsX0_areExcepted (wsV RX0 145 RX0 yX0_areWithin wsX0_areWithin) := goodIn_app (goodIn_of _ (by decide +kernel)) ggX0_areExcepted_X0_areWithin
set_option maxRecDepth 20000 in
theorem ggX0_areLimited_X0_areWithin : GoodIn wsX0_areLimited wsX0_areWithin := goodIn_r _ [7, 8, 9, 10, 11, 12, 13, 14, 15, 16, 17, 18, 19, 20] (by decide +kernel) (by decide +kernel)
set_option maxRecDepth 20000 in
theorem gX0_areLimited_X0_areWithin : GoodIn wsX0_areLimited (wsV RX0 145 RX0 yX0_areWithin wsX0_areWithin) := goodIn_app (goodIn_of _ (by decide +kernel)) ggX0_areLimited_X0_areWithin
set_option maxRecDepth 20000 in
theorem ggX0_needOf_X0_areExcepted : GoodIn wsX0_needOf wsX0_areExcepted := goodIn_r _ [9, 10, 11, 12, 13, 8, 14, 15, 16, 17, 32, 33, 34, 35, 36, 37, 38, 39, 40, 41] (by decide +kernel) (by decide +kernel)
set_option maxRecDepth 20000 in
theorem gX0_needOf_X0_areExcepted : GoodIn wsX0_needOf (wsV RX0 81 RX0 yX0_areExcepted wsX0_areExcepted) := goodIn_app (goodIn_of _ (by decide +kernel)) ggX0_needOf_X0_areExcepted
set_option maxRecDepth 20000 in
theorem ggX0_needOf_X0_greatestTableDistance : GoodIn wsX0_needOf wsX0_greatestTableDistance := goodIn_r _ [21, 17, 16, 1, 2, 3, 4, 22, 23, 24, 8, 25, 26, 32, 33, 34, 35, 36, 37, 38, 39, 40, 41] (by decide +kernel) (by decide +kernel)
set_option maxRecDepth 20000 in
theorem gX0_needOf_X0_greatestTableDistance : GoodIn wsX0_needOf (wsV RX0 149 RX0 yX0_greatestTableDistance wsX0_greatestTableDistance) := goodIn_app (goodIn_of _ (by decide +kernel)) ggX0_needOf_X0_greatestTableDistance
set_option maxRecDepth 20000 in
theorem ggX0_needOf_X0_areLimited : GoodIn wsX0_needOf wsX0_areLimited := goodIn_r _ [30, 10, 31, 11, 12, 13, 8, 14, 15, 16, 17, 32, 33, 34, 35, 36, 37, 38, 39, 40, 41] (by decide +kernel) (by decide +kernel)
set_option maxRecDepth 20000 in
theorem gX0_needOf_X0_areLimited : GoodIn wsX0_needOf (wsV RX0 77 RX0 yX0_areLimited wsX0_areLimited) := goodIn_app (goodIn_of _ (by decide +kernel)) ggX0_needOf_X0_areLimited
set_option maxRecDepth 20000 in
theorem ggX0_wouldBreach_X0_distanceBetween : GoodIn wsX0_wouldBreach wsX0_distanceBetween := goodIn_r _ [5, 6, 7, 8, 9, 10, 11, 4, 12, 13, 14, 15, 16, 17, 18] (by decide +kernel) (by decide +kernel)
set_option maxRecDepth 20000 in
theorem gX0_wouldBreach_X0_distanceBetween : GoodIn wsX0_wouldBreach (va_wsS RX0 57 yX0_distanceBetween wsX0_distanceBetween) := goodIn_app (goodIn_of _ (by decide +kernel)) ggX0_wouldBreach_X0_distanceBetween
set_option maxRecDepth 20000 in
theorem ggX0_wouldBreach_X0_needOf : GoodIn wsX0_wouldBreach wsX0_needOf := goodIn_r _ [22, 23, 24, 8, 25, 26, 27, 28, 4, 29, 30, 31, 32, 33, 34, 35, 36, 37, 38, 39, 40, 41, 42, 43, 44, 45, 46, 47, 48, 49, 50, 51, 52, 53, 54, 55, 56, 57, 58, 59, 60, 61] (by decide +kernel) (by decide +kernel)
set_option maxRecDepth 20000 in
theorem gX0_wouldBreach_X0_needOf : GoodIn wsX0_wouldBreach (wsV RX0 87 RX0 yX0_needOf wsX0_needOf) := goodIn_app (goodIn_of _ (by decide +kernel)) ggX0_wouldBreach_X0_needOf
set_option maxRecDepth 20000 in
theorem ggX0_breachesAt_X0_wouldBreach : GoodIn wsX0_breachesAt wsX0_wouldBreach := goodIn_r _ [6, 7, 8, 9, 5, 10, 11, 12, 13, 14, 15, 16, 17, 18, 19, 20, 21, 22, 23, 24, 25, 26, 27, 28, 29, 30, 31, 32, 33, 34, 35, 36, 37, 38, 39, 40, 41, 42, 43, 44, 45, 46, 47, 48, 49, 50, 51, 52, 53, 54, 55, 56, 57, 58, 59, 60, 61, 62, 63, 64, 65, 66] (by decide +kernel) (by decide +kernel)
set_option maxRecDepth 20000 in
theorem gX0_breachesAt_X0_wouldBreach : GoodIn wsX0_breachesAt (wsV RX0 90 RX0 yX0_wouldBreach wsX0_wouldBreach) := goodIn_app (goodIn_of _ (by decide +kernel)) ggX0_breachesAt_X0_wouldBreach
set_option maxRecDepth 20000 in
theorem ggX0_wouldBeMisplaced_X0_areExcepted : GoodIn wsX0_wouldBeMisplaced wsX0_areExcepted := goodIn_r _ [7, 8, 9, 10, 11, 6, 12, 13, 2, 1, 22, 23, 24, 25, 26, 27, 28, 29, 30, 31] (by decide +kernel) (by decide +kernel)
set_option maxRecDepth 20000 in
theorem gX0_wouldBeMisplaced_X0_areExcepted : GoodIn wsX0_wouldBeMisplaced (wsV RX0 81 RX0 yX0_areExcepted wsX0_areExcepted) := goodIn_app (goodIn_of _ (by decide +kernel)) ggX0_wouldBeMisplaced_X0_areExcepted
set_option maxRecDepth 20000 in
theorem ggX0_wouldBeMisplaced_X0_deckOf : GoodIn wsX0_wouldBeMisplaced wsX0_deckOf := goodIn_r _ [16] (by decide +kernel) (by decide +kernel)
set_option maxRecDepth 20000 in
theorem gX0_wouldBeMisplaced_X0_deckOf : GoodIn wsX0_wouldBeMisplaced (va_wsS RX0 139 yX0_deckOf wsX0_deckOf) := goodIn_app (goodIn_of _ (by decide +kernel)) ggX0_wouldBeMisplaced_X0_deckOf
set_option maxRecDepth 20000 in
theorem ggX0_wouldBeMisplaced_X0_isBarredFrom : GoodIn wsX0_wouldBeMisplaced wsX0_isBarredFrom := goodIn_r _ [20, 21, 22, 23, 24, 25, 26, 27, 28, 29, 30, 31] (by decide +kernel) (by decide +kernel)
set_option maxRecDepth 20000 in
theorem gX0_wouldBeMisplaced_X0_isBarredFrom : GoodIn wsX0_wouldBeMisplaced (wsV RX0 152 RX0 yX0_isBarredFrom wsX0_isBarredFrom) := goodIn_app (goodIn_of _ (by decide +kernel)) ggX0_wouldBeMisplaced_X0_isBarredFrom
set_option maxRecDepth 20000 in
theorem ggX0_wouldBeClean_X0_wouldBeMisplaced : GoodIn wsX0_wouldBeClean wsX0_wouldBeMisplaced := goodIn_r _ [5, 6, 7, 8, 9, 10, 4, 11, 12, 13, 14, 15, 16, 17, 18, 19, 20, 21, 22, 23, 24, 25, 70, 71, 72, 73, 74, 75, 76, 77, 78, 79] (by decide +kernel) (by decide +kernel)
set_option maxRecDepth 20000 in
theorem gX0_wouldBeClean_X0_wouldBeMisplaced : GoodIn wsX0_wouldBeClean (wsV RX0 94 RX0 yX0_wouldBeMisplaced wsX0_wouldBeMisplaced) := goodIn_app (goodIn_of _ (by decide +kernel)) ggX0_wouldBeClean_X0_wouldBeMisplaced
set_option maxRecDepth 20000 in
theorem ggX0_wouldBeClean_X0_breachesAt : GoodIn wsX0_wouldBeClean wsX0_breachesAt := goodIn_r _ [29, 30, 31, 32, 33, 4, 34, 35, 36, 37, 38, 39, 40, 41, 42, 43, 44, 45, 46, 47, 48, 18, 19, 20, 49, 50, 51, 52, 53, 54, 55, 8, 9, 10, 11, 12, 13, 14, 15, 16, 17, 7, 6, 56, 57, 58, 59, 60, 61, 62, 63, 64, 65, 66, 67, 68, 69, 70, 71, 72, 73, 74, 75, 76, 77, 78, 79] (by decide +kernel) (by decide +kernel)
set_option maxRecDepth 20000 in
theorem gX0_wouldBeClean_X0_breachesAt : GoodIn wsX0_wouldBeClean (wsV RX0 98 RX0 yX0_breachesAt wsX0_breachesAt) := goodIn_app (goodIn_of _ (by decide +kernel)) ggX0_wouldBeClean_X0_breachesAt
set_option maxRecDepth 20000 in
theorem ggX0_leastLeaving_X0_breachesAt : GoodIn wsX0_leastLeaving wsX0_breachesAt := goodIn_r _ [8, 1, 9, 10, 11, 7, 12, 3, 13, 14, 15, 16, 17, 18, 19, 20, 21, 22, 23, 24, 25, 26, 27, 28, 29, 30, 31, 32, 33, 34, 35, 36, 37, 38, 39, 40, 41, 42, 43, 44, 45, 46, 47, 48, 49, 50, 51, 52, 53, 54, 55, 56, 57, 58, 59, 60, 61, 81, 82, 83, 84, 85, 86, 87, 88, 89, 90] (by decide +kernel) (by decide +kernel)
set_option maxRecDepth 20000 in
theorem gX0_leastLeaving_X0_breachesAt : GoodIn wsX0_leastLeaving (wsV RX0 98 RX0 yX0_breachesAt wsX0_breachesAt) := goodIn_app (goodIn_of _ (by decide +kernel)) ggX0_leastLeaving_X0_breachesAt
set_option maxRecDepth 20000 in
theorem ggX0_leastLeaving_X0_wouldBeMisplaced : GoodIn wsX0_leastLeaving wsX0_wouldBeMisplaced := goodIn_r _ [65, 47, 46, 36, 37, 38, 7, 39, 40, 41, 42, 43, 44, 45, 26, 27, 28, 66, 67, 68, 69, 70, 81, 82, 83, 84, 85, 86, 87, 88, 89, 90] (by decide +kernel) (by decide +kernel)
set_option maxRecDepth 20000 in
theorem gX0_leastLeaving_X0_wouldBeMisplaced : GoodIn wsX0_leastLeaving (wsV RX0 94 RX0 yX0_wouldBeMisplaced wsX0_wouldBeMisplaced) := goodIn_app (goodIn_of _ (by decide +kernel)) ggX0_leastLeaving_X0_wouldBeMisplaced
set_option maxRecDepth 20000 in
theorem ggX0_leastLeaving_X0_searchLeaving : GoodIn wsX0_leastLeaving wsX0_searchLeaving := goodIn_r _ [73, 74, 75, 76, 77, 78, 79, 80, 71, 72, 7] (by decide +kernel) (by decide +kernel)
set_option maxRecDepth 20000 in
theorem gX0_leastLeaving_X0_searchLeaving : GoodIn wsX0_leastLeaving (va_wsS RX0 155 yX0_searchLeaving wsX0_searchLeaving) := goodIn_app (goodIn_of _ (by decide +kernel)) ggX0_leastLeaving_X0_searchLeaving
set_option maxRecDepth 20000 in
theorem ggX0_searchLeaving_J6_bitCount_0f7a4 : GoodIn wsX0_searchLeaving wsJ6_bitCount_0f7a4 := goodIn_r _ [4, 5, 6, 7] (by decide +kernel) (by decide +kernel)
set_option maxRecDepth 20000 in
theorem gX0_searchLeaving_J6_bitCount_0f7a4 : GoodIn wsX0_searchLeaving (va_wsS RX0 108 yJ6_bitCount_0f7a4 wsJ6_bitCount_0f7a4) := goodIn_app (goodIn_of _ (by decide +kernel)) ggX0_searchLeaving_J6_bitCount_0f7a4
set_option maxRecDepth 20000 in
theorem ggX0_searchLeaving_X0_searchLeaving : GoodIn wsX0_searchLeaving wsX0_searchLeaving := goodIn_r _ [0, 1, 2, 3, 4, 5, 6, 7, 8, 9, 10] (by decide +kernel) (by decide +kernel)
set_option maxRecDepth 20000 in
theorem gX0_searchLeaving_X0_searchLeaving : GoodIn wsX0_searchLeaving (va_wsS RX0 155 yX0_searchLeaving wsX0_searchLeaving) := goodIn_app (goodIn_of _ (by decide +kernel)) ggX0_searchLeaving_X0_searchLeaving
end
section
theorem dX0_init_0 : decode cX0_init 0 = .ok (.aload_n 0, 1) := by decide +kernel
theorem dX0_init_1 : decode cX0_init 1 = .ok (.invokespecial 3, 3) := by decide +kernel
theorem dX0_init_4 : decode cX0_init 4 = .ok (.aload_n 0, 1) := by decide +kernel
theorem dX0_init_5 : decode cX0_init 5 = .ok (.bipush 100, 2) := by decide +kernel
theorem dX0_init_7 : decode cX0_init 7 = .ok (.newarray .int, 2) := by decide +kernel
theorem dX0_init_9 : decode cX0_init 9 = .ok (.putfield 9, 3) := by decide +kernel
theorem dX0_init_12 : decode cX0_init 12 = .ok (.aload_n 0, 1) := by decide +kernel
theorem dX0_init_13 : decode cX0_init 13 = .ok (.bipush 10, 2) := by decide +kernel
theorem dX0_init_15 : decode cX0_init 15 = .ok (.newarray .int, 2) := by decide +kernel
theorem dX0_init_17 : decode cX0_init 17 = .ok (.putfield 13, 3) := by decide +kernel
theorem dX0_init_20 : decode cX0_init 20 = .ok (.aload_n 0, 1) := by decide +kernel
theorem dX0_init_21 : decode cX0_init 21 = .ok (.bipush 10, 2) := by decide +kernel
theorem dX0_init_23 : decode cX0_init 23 = .ok (.newarray .int, 2) := by decide +kernel
theorem dX0_init_25 : decode cX0_init 25 = .ok (.putfield 16, 3) := by decide +kernel
theorem dX0_init_28 : decode cX0_init 28 = .ok (.aload_n 0, 1) := by decide +kernel
theorem dX0_init_29 : decode cX0_init 29 = .ok (.bipush 20, 2) := by decide +kernel
theorem dX0_init_31 : decode cX0_init 31 = .ok (.newarray .boolean, 2) := by decide +kernel
theorem dX0_init_33 : decode cX0_init 33 = .ok (.putfield 19, 3) := by decide +kernel
theorem dX0_init_36 : decode cX0_init 36 = .ok (.aload_n 0, 1) := by decide +kernel
theorem dX0_init_37 : decode cX0_init 37 = .ok (.bipush 16, 2) := by decide +kernel
theorem dX0_init_39 : decode cX0_init 39 = .ok (.newarray .int, 2) := by decide +kernel
theorem dX0_init_41 : decode cX0_init 41 = .ok (.putfield 23, 3) := by decide +kernel
theorem dX0_init_44 : decode cX0_init 44 = .ok (.aload_n 0, 1) := by decide +kernel
theorem dX0_init_45 : decode cX0_init 45 = .ok (.bipush 16, 2) := by decide +kernel
theorem dX0_init_47 : decode cX0_init 47 = .ok (.newarray .int, 2) := by decide +kernel
theorem dX0_init_49 : decode cX0_init 49 = .ok (.putfield 26, 3) := by decide +kernel
theorem dX0_init_52 : decode cX0_init 52 = .ok (.aload_n 0, 1) := by decide +kernel
theorem dX0_init_53 : decode cX0_init 53 = .ok (.bipush 16, 2) := by decide +kernel
theorem dX0_init_55 : decode cX0_init 55 = .ok (.newarray .int, 2) := by decide +kernel
theorem dX0_init_57 : decode cX0_init 57 = .ok (.putfield 29, 3) := by decide +kernel
theorem dX0_init_60 : decode cX0_init 60 = .ok (.aload_n 0, 1) := by decide +kernel
theorem dX0_init_61 : decode cX0_init 61 = .ok (.bipush 16, 2) := by decide +kernel
theorem dX0_init_63 : decode cX0_init 63 = .ok (.newarray .int, 2) := by decide +kernel
theorem dX0_init_65 : decode cX0_init 65 = .ok (.putfield 32, 3) := by decide +kernel
theorem dX0_init_68 : decode cX0_init 68 = .ok (.aload_n 0, 1) := by decide +kernel
theorem dX0_init_69 : decode cX0_init 69 = .ok (.iconst 0, 1) := by decide +kernel
theorem dX0_init_70 : decode cX0_init 70 = .ok (.putfield 35, 3) := by decide +kernel
theorem dX0_init_73 : decode cX0_init 73 = .ok (.aload_n 0, 1) := by decide +kernel
theorem dX0_init_74 : decode cX0_init 74 = .ok (.bipush 16, 2) := by decide +kernel
theorem dX0_init_76 : decode cX0_init 76 = .ok (.newarray .int, 2) := by decide +kernel
theorem dX0_init_78 : decode cX0_init 78 = .ok (.putfield 39, 3) := by decide +kernel
theorem dX0_init_81 : decode cX0_init 81 = .ok (.return_, 1) := by decide +kernel
theorem dX0_setDistance_0 : decode cX0_setDistance 0 = .ok (.iload_n 1, 1) := by decide +kernel
theorem dX0_setDistance_1 : decode cX0_setDistance 1 = .ok (.invokestatic 42, 3) := by decide +kernel
theorem dX0_setDistance_4 : decode cX0_setDistance 4 = .ok (.iload_n 2, 1) := by decide +kernel
theorem dX0_setDistance_5 : decode cX0_setDistance 5 = .ok (.invokestatic 42, 3) := by decide +kernel
theorem dX0_setDistance_8 : decode cX0_setDistance 8 = .ok (.iload_n 3, 1) := by decide +kernel
theorem dX0_setDistance_9 : decode cX0_setDistance 9 = .ok (.iconst 0, 1) := by decide +kernel
theorem dX0_setDistance_10 : decode cX0_setDistance 10 = .ok (.iconst 4, 1) := by decide +kernel
theorem dX0_setDistance_11 : decode cX0_setDistance 11 = .ok (.invokestatic 46, 3) := by decide +kernel
theorem dX0_setDistance_14 : decode cX0_setDistance 14 = .ok (.aload_n 0, 1) := by decide +kernel
theorem dX0_setDistance_15 : decode cX0_setDistance 15 = .ok (.iload_n 1, 1) := by decide +kernel
theorem dX0_setDistance_16 : decode cX0_setDistance 16 = .ok (.iload_n 2, 1) := by decide +kernel
theorem dX0_setDistance_17 : decode cX0_setDistance 17 = .ok (.invokevirtual 50, 3) := by decide +kernel
theorem dX0_setDistance_20 : decode cX0_setDistance 20 = .ok (.istore 4, 2) := by decide +kernel
theorem dX0_setDistance_22 : decode cX0_setDistance 22 = .ok (.aload_n 0, 1) := by decide +kernel
theorem dX0_setDistance_23 : decode cX0_setDistance 23 = .ok (.getfield 9, 3) := by decide +kernel
theorem dX0_setDistance_26 : decode cX0_setDistance 26 = .ok (.iload_n 1, 1) := by decide +kernel
theorem dX0_setDistance_27 : decode cX0_setDistance 27 = .ok (.bipush 10, 2) := by decide +kernel
theorem dX0_setDistance_29 : decode cX0_setDistance 29 = .ok (.imul, 1) := by decide +kernel
theorem dX0_setDistance_30 : decode cX0_setDistance 30 = .ok (.iload_n 2, 1) := by decide +kernel
theorem dX0_setDistance_31 : decode cX0_setDistance 31 = .ok (.iadd, 1) := by decide +kernel
theorem dX0_setDistance_32 : decode cX0_setDistance 32 = .ok (.iload_n 3, 1) := by decide +kernel
theorem dX0_setDistance_33 : decode cX0_setDistance 33 = .ok (.iastore, 1) := by decide +kernel
theorem dX0_setDistance_34 : decode cX0_setDistance 34 = .ok (.aload_n 0, 1) := by decide +kernel
theorem dX0_setDistance_35 : decode cX0_setDistance 35 = .ok (.getfield 9, 3) := by decide +kernel
theorem dX0_setDistance_38 : decode cX0_setDistance 38 = .ok (.iload_n 2, 1) := by decide +kernel
theorem dX0_setDistance_39 : decode cX0_setDistance 39 = .ok (.bipush 10, 2) := by decide +kernel
theorem dX0_setDistance_41 : decode cX0_setDistance 41 = .ok (.imul, 1) := by decide +kernel
theorem dX0_setDistance_42 : decode cX0_setDistance 42 = .ok (.iload_n 1, 1) := by decide +kernel
theorem dX0_setDistance_43 : decode cX0_setDistance 43 = .ok (.iadd, 1) := by decide +kernel
theorem dX0_setDistance_44 : decode cX0_setDistance 44 = .ok (.iload_n 3, 1) := by decide +kernel
theorem dX0_setDistance_45 : decode cX0_setDistance 45 = .ok (.iastore, 1) := by decide +kernel
theorem dX0_setDistance_46 : decode cX0_setDistance 46 = .ok (.iload 4, 2) := by decide +kernel
theorem dX0_setDistance_48 : decode cX0_setDistance 48 = .ok (.ireturn, 1) := by decide +kernel
theorem dX0_setQuantities_0 : decode cX0_setQuantities 0 = .ok (.iload_n 1, 1) := by decide +kernel
theorem dX0_setQuantities_1 : decode cX0_setQuantities 1 = .ok (.invokestatic 42, 3) := by decide +kernel
theorem dX0_setQuantities_4 : decode cX0_setQuantities 4 = .ok (.iload_n 2, 1) := by decide +kernel
theorem dX0_setQuantities_5 : decode cX0_setQuantities 5 = .ok (.iconst 0, 1) := by decide +kernel
theorem dX0_setQuantities_6 : decode cX0_setQuantities 6 = .ok (.sipush 10000, 3) := by decide +kernel
theorem dX0_setQuantities_9 : decode cX0_setQuantities 9 = .ok (.invokestatic 46, 3) := by decide +kernel
theorem dX0_setQuantities_12 : decode cX0_setQuantities 12 = .ok (.iload_n 3, 1) := by decide +kernel
theorem dX0_setQuantities_13 : decode cX0_setQuantities 13 = .ok (.iconst 0, 1) := by decide +kernel
theorem dX0_setQuantities_14 : decode cX0_setQuantities 14 = .ok (.iload_n 2, 1) := by decide +kernel
theorem dX0_setQuantities_15 : decode cX0_setQuantities 15 = .ok (.invokestatic 46, 3) := by decide +kernel
theorem dX0_setQuantities_18 : decode cX0_setQuantities 18 = .ok (.aload_n 0, 1) := by decide +kernel
theorem dX0_setQuantities_19 : decode cX0_setQuantities 19 = .ok (.getfield 13, 3) := by decide +kernel
theorem dX0_setQuantities_22 : decode cX0_setQuantities 22 = .ok (.iload_n 1, 1) := by decide +kernel
theorem dX0_setQuantities_23 : decode cX0_setQuantities 23 = .ok (.iload_n 2, 1) := by decide +kernel
theorem dX0_setQuantities_24 : decode cX0_setQuantities 24 = .ok (.iastore, 1) := by decide +kernel
theorem dX0_setQuantities_25 : decode cX0_setQuantities 25 = .ok (.aload_n 0, 1) := by decide +kernel
theorem dX0_setQuantities_26 : decode cX0_setQuantities 26 = .ok (.getfield 16, 3) := by decide +kernel
theorem dX0_setQuantities_29 : decode cX0_setQuantities 29 = .ok (.iload_n 1, 1) := by decide +kernel
theorem dX0_setQuantities_30 : decode cX0_setQuantities 30 = .ok (.iload_n 3, 1) := by decide +kernel
theorem dX0_setQuantities_31 : decode cX0_setQuantities 31 = .ok (.iastore, 1) := by decide +kernel
theorem dX0_setQuantities_32 : decode cX0_setQuantities 32 = .ok (.return_, 1) := by decide +kernel
theorem dX0_bar_0 : decode cX0_bar 0 = .ok (.iload_n 1, 1) := by decide +kernel
theorem dX0_bar_1 : decode cX0_bar 1 = .ok (.invokestatic 42, 3) := by decide +kernel
theorem dX0_bar_4 : decode cX0_bar 4 = .ok (.iload_n 2, 1) := by decide +kernel
theorem dX0_bar_5 : decode cX0_bar 5 = .ok (.iconst 0, 1) := by decide +kernel
theorem dX0_bar_6 : decode cX0_bar 6 = .ok (.iconst 1, 1) := by decide +kernel
theorem dX0_bar_7 : decode cX0_bar 7 = .ok (.invokestatic 46, 3) := by decide +kernel
theorem dX0_bar_10 : decode cX0_bar 10 = .ok (.iload_n 1, 1) := by decide +kernel
theorem dX0_bar_11 : decode cX0_bar 11 = .ok (.iconst 2, 1) := by decide +kernel
theorem dX0_bar_12 : decode cX0_bar 12 = .ok (.imul, 1) := by decide +kernel
theorem dX0_bar_13 : decode cX0_bar 13 = .ok (.iload_n 2, 1) := by decide +kernel
theorem dX0_bar_14 : decode cX0_bar 14 = .ok (.iadd, 1) := by decide +kernel
theorem dX0_bar_15 : decode cX0_bar 15 = .ok (.istore 4, 2) := by decide +kernel
theorem dX0_bar_17 : decode cX0_bar 17 = .ok (.aload_n 0, 1) := by decide +kernel
theorem dX0_bar_18 : decode cX0_bar 18 = .ok (.getfield 19, 3) := by decide +kernel
theorem dX0_bar_21 : decode cX0_bar 21 = .ok (.iload 4, 2) := by decide +kernel
theorem dX0_bar_23 : decode cX0_bar 23 = .ok (.baload, 1) := by decide +kernel
theorem dX0_bar_24 : decode cX0_bar 24 = .ok (.istore 5, 2) := by decide +kernel
theorem dX0_bar_26 : decode cX0_bar 26 = .ok (.aload_n 0, 1) := by decide +kernel
theorem dX0_bar_27 : decode cX0_bar 27 = .ok (.getfield 19, 3) := by decide +kernel
theorem dX0_bar_30 : decode cX0_bar 30 = .ok (.iload 4, 2) := by decide +kernel
theorem dX0_bar_32 : decode cX0_bar 32 = .ok (.iload_n 3, 1) := by decide +kernel
theorem dX0_bar_33 : decode cX0_bar 33 = .ok (.bastore, 1) := by decide +kernel
theorem dX0_bar_34 : decode cX0_bar 34 = .ok (.iload 5, 2) := by decide +kernel
theorem dX0_bar_36 : decode cX0_bar 36 = .ok (.ireturn, 1) := by decide +kernel
theorem dX0_distance_0 : decode cX0_distance 0 = .ok (.iload_n 1, 1) := by decide +kernel
theorem dX0_distance_1 : decode cX0_distance 1 = .ok (.invokestatic 54, 3) := by decide +kernel
theorem dX0_distance_4 : decode cX0_distance 4 = .ok (.iload_n 2, 1) := by decide +kernel
theorem dX0_distance_5 : decode cX0_distance 5 = .ok (.invokestatic 54, 3) := by decide +kernel
theorem dX0_distance_8 : decode cX0_distance 8 = .ok (.iload_n 1, 1) := by decide +kernel
theorem dX0_distance_9 : decode cX0_distance 9 = .ok (.iload_n 2, 1) := by decide +kernel
theorem dX0_distance_10 : decode cX0_distance 10 = .ok (.invokestatic 57, 3) := by decide +kernel
theorem dX0_distance_13 : decode cX0_distance 13 = .ok (.ireturn, 1) := by decide +kernel
theorem dX0_add_0 : decode cX0_add 0 = .ok (.iload_n 1, 1) := by decide +kernel
theorem dX0_add_1 : decode cX0_add 1 = .ok (.invokestatic 42, 3) := by decide +kernel
theorem dX0_add_4 : decode cX0_add 4 = .ok (.iload_n 2, 1) := by decide +kernel
theorem dX0_add_5 : decode cX0_add 5 = .ok (.iconst (-1), 1) := by decide +kernel
theorem dX0_add_6 : decode cX0_add 6 = .ok (.if_icmp .eq 8, 3) := by decide +kernel
theorem dX0_add_9 : decode cX0_add 9 = .ok (.iload_n 2, 1) := by decide +kernel
theorem dX0_add_10 : decode cX0_add 10 = .ok (.iload_n 1, 1) := by decide +kernel
theorem dX0_add_11 : decode cX0_add 11 = .ok (.invokestatic 60, 3) := by decide +kernel
theorem dX0_add_14 : decode cX0_add 14 = .ok (.iload_n 3, 1) := by decide +kernel
theorem dX0_add_15 : decode cX0_add 15 = .ok (.invokestatic 64, 3) := by decide +kernel
theorem dX0_add_18 : decode cX0_add 18 = .ok (.aload_n 0, 1) := by decide +kernel
theorem dX0_add_19 : decode cX0_add 19 = .ok (.getfield 35, 3) := by decide +kernel
theorem dX0_add_22 : decode cX0_add 22 = .ok (.bipush 16, 2) := by decide +kernel
theorem dX0_add_24 : decode cX0_add 24 = .ok (.if_icmp .lt 13, 3) := by decide +kernel
theorem dX0_add_27 : decode cX0_add 27 = .ok (.new 67, 3) := by decide +kernel
theorem dX0_add_30 : decode cX0_add 30 = .ok (.dup, 1) := by decide +kernel
theorem dX0_add_31 : decode cX0_add 31 = .ok (.ldc 69, 2) := by decide +kernel
theorem dX0_add_33 : decode cX0_add 33 = .ok (.invokespecial 71, 3) := by decide +kernel
theorem dX0_add_36 : decode cX0_add 36 = .ok (.athrow, 1) := by decide +kernel
theorem dX0_add_37 : decode cX0_add 37 = .ok (.aload_n 0, 1) := by decide +kernel
theorem dX0_add_38 : decode cX0_add 38 = .ok (.getfield 35, 3) := by decide +kernel
theorem dX0_add_41 : decode cX0_add 41 = .ok (.istore 4, 2) := by decide +kernel
theorem dX0_add_43 : decode cX0_add 43 = .ok (.aload_n 0, 1) := by decide +kernel
theorem dX0_add_44 : decode cX0_add 44 = .ok (.getfield 23, 3) := by decide +kernel
theorem dX0_add_47 : decode cX0_add 47 = .ok (.iload 4, 2) := by decide +kernel
theorem dX0_add_49 : decode cX0_add 49 = .ok (.iload_n 1, 1) := by decide +kernel
theorem dX0_add_50 : decode cX0_add 50 = .ok (.iastore, 1) := by decide +kernel
theorem dX0_add_51 : decode cX0_add 51 = .ok (.aload_n 0, 1) := by decide +kernel
theorem dX0_add_52 : decode cX0_add 52 = .ok (.getfield 26, 3) := by decide +kernel
theorem dX0_add_55 : decode cX0_add 55 = .ok (.iload 4, 2) := by decide +kernel
theorem dX0_add_57 : decode cX0_add 57 = .ok (.iload_n 2, 1) := by decide +kernel
theorem dX0_add_58 : decode cX0_add 58 = .ok (.iastore, 1) := by decide +kernel
theorem dX0_add_59 : decode cX0_add 59 = .ok (.aload_n 0, 1) := by decide +kernel
theorem dX0_add_60 : decode cX0_add 60 = .ok (.getfield 29, 3) := by decide +kernel
theorem dX0_add_63 : decode cX0_add 63 = .ok (.iload 4, 2) := by decide +kernel
theorem dX0_add_65 : decode cX0_add 65 = .ok (.iload_n 3, 1) := by decide +kernel
theorem dX0_add_66 : decode cX0_add 66 = .ok (.iastore, 1) := by decide +kernel
theorem dX0_add_67 : decode cX0_add 67 = .ok (.aload_n 0, 1) := by decide +kernel
theorem dX0_add_68 : decode cX0_add 68 = .ok (.getfield 32, 3) := by decide +kernel
theorem dX0_add_71 : decode cX0_add 71 = .ok (.iload 4, 2) := by decide +kernel
theorem dX0_add_73 : decode cX0_add 73 = .ok (.iconst (-1), 1) := by decide +kernel
theorem dX0_add_74 : decode cX0_add 74 = .ok (.iastore, 1) := by decide +kernel
theorem dX0_add_75 : decode cX0_add 75 = .ok (.aload_n 0, 1) := by decide +kernel
theorem dX0_add_76 : decode cX0_add 76 = .ok (.iload 4, 2) := by decide +kernel
theorem dX0_add_78 : decode cX0_add 78 = .ok (.iconst 1, 1) := by decide +kernel
theorem dX0_add_79 : decode cX0_add 79 = .ok (.iadd, 1) := by decide +kernel
theorem dX0_add_80 : decode cX0_add 80 = .ok (.putfield 35, 3) := by decide +kernel
theorem dX0_add_83 : decode cX0_add 83 = .ok (.iload 4, 2) := by decide +kernel
theorem dX0_add_85 : decode cX0_add 85 = .ok (.ireturn, 1) := by decide +kernel
theorem dX0_setQuantity_0 : decode cX0_setQuantity 0 = .ok (.aload_n 0, 1) := by decide +kernel
theorem dX0_setQuantity_1 : decode cX0_setQuantity 1 = .ok (.iload_n 1, 1) := by decide +kernel
theorem dX0_setQuantity_2 : decode cX0_setQuantity 2 = .ok (.invokevirtual 74, 3) := by decide +kernel
theorem dX0_setQuantity_5 : decode cX0_setQuantity 5 = .ok (.iload_n 2, 1) := by decide +kernel
theorem dX0_setQuantity_6 : decode cX0_setQuantity 6 = .ok (.invokestatic 64, 3) := by decide +kernel
theorem dX0_setQuantity_9 : decode cX0_setQuantity 9 = .ok (.aload_n 0, 1) := by decide +kernel
theorem dX0_setQuantity_10 : decode cX0_setQuantity 10 = .ok (.getfield 29, 3) := by decide +kernel
theorem dX0_setQuantity_13 : decode cX0_setQuantity 13 = .ok (.iload_n 1, 1) := by decide +kernel
theorem dX0_setQuantity_14 : decode cX0_setQuantity 14 = .ok (.iaload, 1) := by decide +kernel
theorem dX0_setQuantity_15 : decode cX0_setQuantity 15 = .ok (.istore_n 3, 1) := by decide +kernel
theorem dX0_setQuantity_16 : decode cX0_setQuantity 16 = .ok (.aload_n 0, 1) := by decide +kernel
theorem dX0_setQuantity_17 : decode cX0_setQuantity 17 = .ok (.getfield 29, 3) := by decide +kernel
theorem dX0_setQuantity_20 : decode cX0_setQuantity 20 = .ok (.iload_n 1, 1) := by decide +kernel
theorem dX0_setQuantity_21 : decode cX0_setQuantity 21 = .ok (.iload_n 2, 1) := by decide +kernel
theorem dX0_setQuantity_22 : decode cX0_setQuantity 22 = .ok (.iastore, 1) := by decide +kernel
theorem dX0_setQuantity_23 : decode cX0_setQuantity 23 = .ok (.iload_n 3, 1) := by decide +kernel
theorem dX0_setQuantity_24 : decode cX0_setQuantity 24 = .ok (.ireturn, 1) := by decide +kernel
theorem dX0_put_0 : decode cX0_put 0 = .ok (.aload_n 0, 1) := by decide +kernel
theorem dX0_put_1 : decode cX0_put 1 = .ok (.iload_n 1, 1) := by decide +kernel
theorem dX0_put_2 : decode cX0_put 2 = .ok (.invokevirtual 74, 3) := by decide +kernel
theorem dX0_put_5 : decode cX0_put 5 = .ok (.iload_n 2, 1) := by decide +kernel
theorem dX0_put_6 : decode cX0_put 6 = .ok (.iconst (-1), 1) := by decide +kernel
theorem dX0_put_7 : decode cX0_put 7 = .ok (.if_icmp .eq 7, 3) := by decide +kernel
theorem dX0_put_10 : decode cX0_put 10 = .ok (.iload_n 2, 1) := by decide +kernel
theorem dX0_put_11 : decode cX0_put 11 = .ok (.invokestatic 54, 3) := by decide +kernel
theorem dX0_put_14 : decode cX0_put 14 = .ok (.aload_n 0, 1) := by decide +kernel
theorem dX0_put_15 : decode cX0_put 15 = .ok (.getfield 32, 3) := by decide +kernel
theorem dX0_put_18 : decode cX0_put 18 = .ok (.iload_n 1, 1) := by decide +kernel
theorem dX0_put_19 : decode cX0_put 19 = .ok (.iaload, 1) := by decide +kernel
theorem dX0_put_20 : decode cX0_put 20 = .ok (.istore_n 3, 1) := by decide +kernel
theorem dX0_put_21 : decode cX0_put 21 = .ok (.aload_n 0, 1) := by decide +kernel
theorem dX0_put_22 : decode cX0_put 22 = .ok (.getfield 32, 3) := by decide +kernel
theorem dX0_put_25 : decode cX0_put 25 = .ok (.iload_n 1, 1) := by decide +kernel
theorem dX0_put_26 : decode cX0_put 26 = .ok (.iload_n 2, 1) := by decide +kernel
theorem dX0_put_27 : decode cX0_put 27 = .ok (.iastore, 1) := by decide +kernel
theorem dX0_put_28 : decode cX0_put 28 = .ok (.iload_n 3, 1) := by decide +kernel
theorem dX0_put_29 : decode cX0_put 29 = .ok (.ireturn, 1) := by decide +kernel
theorem dX0_goods_0 : decode cX0_goods 0 = .ok (.aload_n 0, 1) := by decide +kernel
theorem dX0_goods_1 : decode cX0_goods 1 = .ok (.getfield 35, 3) := by decide +kernel
theorem dX0_goods_4 : decode cX0_goods 4 = .ok (.ireturn, 1) := by decide +kernel
theorem dX0_placeOf_0 : decode cX0_placeOf 0 = .ok (.aload_n 0, 1) := by decide +kernel
theorem dX0_placeOf_1 : decode cX0_placeOf 1 = .ok (.iload_n 1, 1) := by decide +kernel
theorem dX0_placeOf_2 : decode cX0_placeOf 2 = .ok (.invokevirtual 74, 3) := by decide +kernel
theorem dX0_placeOf_5 : decode cX0_placeOf 5 = .ok (.aload_n 0, 1) := by decide +kernel
theorem dX0_placeOf_6 : decode cX0_placeOf 6 = .ok (.getfield 32, 3) := by decide +kernel
theorem dX0_placeOf_9 : decode cX0_placeOf 9 = .ok (.iload_n 1, 1) := by decide +kernel
theorem dX0_placeOf_10 : decode cX0_placeOf 10 = .ok (.iaload, 1) := by decide +kernel
theorem dX0_placeOf_11 : decode cX0_placeOf 11 = .ok (.ireturn, 1) := by decide +kernel
theorem dX0_isLimited_0 : decode cX0_isLimited 0 = .ok (.aload_n 0, 1) := by decide +kernel
theorem dX0_isLimited_1 : decode cX0_isLimited 1 = .ok (.iload_n 1, 1) := by decide +kernel
theorem dX0_isLimited_2 : decode cX0_isLimited 2 = .ok (.invokevirtual 74, 3) := by decide +kernel
theorem dX0_isLimited_5 : decode cX0_isLimited 5 = .ok (.aload_n 0, 1) := by decide +kernel
theorem dX0_isLimited_6 : decode cX0_isLimited 6 = .ok (.iload_n 1, 1) := by decide +kernel
theorem dX0_isLimited_7 : decode cX0_isLimited 7 = .ok (.invokevirtual 77, 3) := by decide +kernel
theorem dX0_isLimited_10 : decode cX0_isLimited 10 = .ok (.ireturn, 1) := by decide +kernel
theorem dX0_isExcepted_0 : decode cX0_isExcepted 0 = .ok (.aload_n 0, 1) := by decide +kernel
theorem dX0_isExcepted_1 : decode cX0_isExcepted 1 = .ok (.iload_n 1, 1) := by decide +kernel
theorem dX0_isExcepted_2 : decode cX0_isExcepted 2 = .ok (.invokevirtual 74, 3) := by decide +kernel
theorem dX0_isExcepted_5 : decode cX0_isExcepted 5 = .ok (.aload_n 0, 1) := by decide +kernel
theorem dX0_isExcepted_6 : decode cX0_isExcepted 6 = .ok (.iload_n 1, 1) := by decide +kernel
theorem dX0_isExcepted_7 : decode cX0_isExcepted 7 = .ok (.invokevirtual 81, 3) := by decide +kernel
theorem dX0_isExcepted_10 : decode cX0_isExcepted 10 = .ok (.ireturn, 1) := by decide +kernel
theorem dX0_need_0 : decode cX0_need 0 = .ok (.aload_n 0, 1) := by decide +kernel
theorem dX0_need_1 : decode cX0_need 1 = .ok (.iload_n 1, 1) := by decide +kernel
theorem dX0_need_2 : decode cX0_need 2 = .ok (.iload_n 2, 1) := by decide +kernel
theorem dX0_need_3 : decode cX0_need 3 = .ok (.invokevirtual 84, 3) := by decide +kernel
theorem dX0_need_6 : decode cX0_need 6 = .ok (.aload_n 0, 1) := by decide +kernel
theorem dX0_need_7 : decode cX0_need 7 = .ok (.iload_n 1, 1) := by decide +kernel
theorem dX0_need_8 : decode cX0_need 8 = .ok (.iload_n 2, 1) := by decide +kernel
theorem dX0_need_9 : decode cX0_need 9 = .ok (.invokevirtual 87, 3) := by decide +kernel
theorem dX0_need_12 : decode cX0_need 12 = .ok (.ireturn, 1) := by decide +kernel
theorem dX0_areInBreach_0 : decode cX0_areInBreach 0 = .ok (.aload_n 0, 1) := by decide +kernel
theorem dX0_areInBreach_1 : decode cX0_areInBreach 1 = .ok (.iload_n 1, 1) := by decide +kernel
theorem dX0_areInBreach_2 : decode cX0_areInBreach 2 = .ok (.iload_n 2, 1) := by decide +kernel
theorem dX0_areInBreach_3 : decode cX0_areInBreach 3 = .ok (.invokevirtual 84, 3) := by decide +kernel
theorem dX0_areInBreach_6 : decode cX0_areInBreach 6 = .ok (.aload_n 0, 1) := by decide +kernel
theorem dX0_areInBreach_7 : decode cX0_areInBreach 7 = .ok (.iload_n 1, 1) := by decide +kernel
theorem dX0_areInBreach_8 : decode cX0_areInBreach 8 = .ok (.aload_n 0, 1) := by decide +kernel
theorem dX0_areInBreach_9 : decode cX0_areInBreach 9 = .ok (.getfield 32, 3) := by decide +kernel
theorem dX0_areInBreach_12 : decode cX0_areInBreach 12 = .ok (.iload_n 1, 1) := by decide +kernel
theorem dX0_areInBreach_13 : decode cX0_areInBreach 13 = .ok (.iaload, 1) := by decide +kernel
theorem dX0_areInBreach_14 : decode cX0_areInBreach 14 = .ok (.iload_n 2, 1) := by decide +kernel
theorem dX0_areInBreach_15 : decode cX0_areInBreach 15 = .ok (.invokevirtual 90, 3) := by decide +kernel
theorem dX0_areInBreach_18 : decode cX0_areInBreach 18 = .ok (.ireturn, 1) := by decide +kernel
theorem dX0_isMisplaced_0 : decode cX0_isMisplaced 0 = .ok (.aload_n 0, 1) := by decide +kernel
theorem dX0_isMisplaced_1 : decode cX0_isMisplaced 1 = .ok (.iload_n 1, 1) := by decide +kernel
theorem dX0_isMisplaced_2 : decode cX0_isMisplaced 2 = .ok (.invokevirtual 74, 3) := by decide +kernel
theorem dX0_isMisplaced_5 : decode cX0_isMisplaced 5 = .ok (.aload_n 0, 1) := by decide +kernel
theorem dX0_isMisplaced_6 : decode cX0_isMisplaced 6 = .ok (.iload_n 1, 1) := by decide +kernel
theorem dX0_isMisplaced_7 : decode cX0_isMisplaced 7 = .ok (.aload_n 0, 1) := by decide +kernel
theorem dX0_isMisplaced_8 : decode cX0_isMisplaced 8 = .ok (.getfield 32, 3) := by decide +kernel
theorem dX0_isMisplaced_11 : decode cX0_isMisplaced 11 = .ok (.iload_n 1, 1) := by decide +kernel
theorem dX0_isMisplaced_12 : decode cX0_isMisplaced 12 = .ok (.iaload, 1) := by decide +kernel
theorem dX0_isMisplaced_13 : decode cX0_isMisplaced 13 = .ok (.invokevirtual 94, 3) := by decide +kernel
theorem dX0_isMisplaced_16 : decode cX0_isMisplaced 16 = .ok (.ireturn, 1) := by decide +kernel
theorem dX0_breaches_0 : decode cX0_breaches 0 = .ok (.iconst 0, 1) := by decide +kernel
theorem dX0_breaches_1 : decode cX0_breaches 1 = .ok (.istore_n 1, 1) := by decide +kernel
theorem dX0_breaches_2 : decode cX0_breaches 2 = .ok (.iconst 0, 1) := by decide +kernel
theorem dX0_breaches_3 : decode cX0_breaches 3 = .ok (.istore_n 2, 1) := by decide +kernel
theorem dX0_breaches_4 : decode cX0_breaches 4 = .ok (.iload_n 2, 1) := by decide +kernel
theorem dX0_breaches_5 : decode cX0_breaches 5 = .ok (.aload_n 0, 1) := by decide +kernel
theorem dX0_breaches_6 : decode cX0_breaches 6 = .ok (.getfield 35, 3) := by decide +kernel
theorem dX0_breaches_9 : decode cX0_breaches 9 = .ok (.if_icmp .ge 45, 3) := by decide +kernel
theorem dX0_breaches_12 : decode cX0_breaches 12 = .ok (.iload_n 2, 1) := by decide +kernel
theorem dX0_breaches_13 : decode cX0_breaches 13 = .ok (.iconst 1, 1) := by decide +kernel
theorem dX0_breaches_14 : decode cX0_breaches 14 = .ok (.iadd, 1) := by decide +kernel
theorem dX0_breaches_15 : decode cX0_breaches 15 = .ok (.istore_n 3, 1) := by decide +kernel
theorem dX0_breaches_16 : decode cX0_breaches 16 = .ok (.iload_n 3, 1) := by decide +kernel
theorem dX0_breaches_17 : decode cX0_breaches 17 = .ok (.aload_n 0, 1) := by decide +kernel
theorem dX0_breaches_18 : decode cX0_breaches 18 = .ok (.getfield 35, 3) := by decide +kernel
theorem dX0_breaches_21 : decode cX0_breaches 21 = .ok (.if_icmp .ge 27, 3) := by decide +kernel
theorem dX0_breaches_24 : decode cX0_breaches 24 = .ok (.aload_n 0, 1) := by decide +kernel
theorem dX0_breaches_25 : decode cX0_breaches 25 = .ok (.iload_n 2, 1) := by decide +kernel
theorem dX0_breaches_26 : decode cX0_breaches 26 = .ok (.aload_n 0, 1) := by decide +kernel
theorem dX0_breaches_27 : decode cX0_breaches 27 = .ok (.getfield 32, 3) := by decide +kernel
theorem dX0_breaches_30 : decode cX0_breaches 30 = .ok (.iload_n 2, 1) := by decide +kernel
theorem dX0_breaches_31 : decode cX0_breaches 31 = .ok (.iaload, 1) := by decide +kernel
theorem dX0_breaches_32 : decode cX0_breaches 32 = .ok (.iload_n 3, 1) := by decide +kernel
theorem dX0_breaches_33 : decode cX0_breaches 33 = .ok (.invokevirtual 90, 3) := by decide +kernel
theorem dX0_breaches_36 : decode cX0_breaches 36 = .ok (.ifCond .eq 6, 3) := by decide +kernel
theorem dX0_breaches_39 : decode cX0_breaches 39 = .ok (.iinc 1 1, 3) := by decide +kernel
theorem dX0_breaches_42 : decode cX0_breaches 42 = .ok (.iinc 3 1, 3) := by decide +kernel
theorem dX0_breaches_45 : decode cX0_breaches 45 = .ok (.goto (-29), 3) := by decide +kernel
theorem dX0_breaches_48 : decode cX0_breaches 48 = .ok (.iinc 2 1, 3) := by decide +kernel
theorem dX0_breaches_51 : decode cX0_breaches 51 = .ok (.goto (-47), 3) := by decide +kernel
theorem dX0_breaches_54 : decode cX0_breaches 54 = .ok (.iload_n 1, 1) := by decide +kernel
theorem dX0_breaches_55 : decode cX0_breaches 55 = .ok (.ireturn, 1) := by decide +kernel
theorem dX0_inBreachWith_0 : decode cX0_inBreachWith 0 = .ok (.aload_n 0, 1) := by decide +kernel
theorem dX0_inBreachWith_1 : decode cX0_inBreachWith 1 = .ok (.iload_n 1, 1) := by decide +kernel
theorem dX0_inBreachWith_2 : decode cX0_inBreachWith 2 = .ok (.invokevirtual 74, 3) := by decide +kernel
theorem dX0_inBreachWith_5 : decode cX0_inBreachWith 5 = .ok (.aload_n 0, 1) := by decide +kernel
theorem dX0_inBreachWith_6 : decode cX0_inBreachWith 6 = .ok (.iload_n 1, 1) := by decide +kernel
theorem dX0_inBreachWith_7 : decode cX0_inBreachWith 7 = .ok (.aload_n 0, 1) := by decide +kernel
theorem dX0_inBreachWith_8 : decode cX0_inBreachWith 8 = .ok (.getfield 32, 3) := by decide +kernel
theorem dX0_inBreachWith_11 : decode cX0_inBreachWith 11 = .ok (.iload_n 1, 1) := by decide +kernel
theorem dX0_inBreachWith_12 : decode cX0_inBreachWith 12 = .ok (.iaload, 1) := by decide +kernel
theorem dX0_inBreachWith_13 : decode cX0_inBreachWith 13 = .ok (.invokevirtual 98, 3) := by decide +kernel
theorem dX0_inBreachWith_16 : decode cX0_inBreachWith 16 = .ok (.ireturn, 1) := by decide +kernel
theorem dX0_isClean_0 : decode cX0_isClean 0 = .ok (.iconst 0, 1) := by decide +kernel
theorem dX0_isClean_1 : decode cX0_isClean 1 = .ok (.istore_n 1, 1) := by decide +kernel
theorem dX0_isClean_2 : decode cX0_isClean 2 = .ok (.iload_n 1, 1) := by decide +kernel
theorem dX0_isClean_3 : decode cX0_isClean 3 = .ok (.aload_n 0, 1) := by decide +kernel
theorem dX0_isClean_4 : decode cX0_isClean 4 = .ok (.getfield 35, 3) := by decide +kernel
theorem dX0_isClean_7 : decode cX0_isClean 7 = .ok (.if_icmp .ge 25, 3) := by decide +kernel
theorem dX0_isClean_10 : decode cX0_isClean 10 = .ok (.aload_n 0, 1) := by decide +kernel
theorem dX0_isClean_11 : decode cX0_isClean 11 = .ok (.iload_n 1, 1) := by decide +kernel
theorem dX0_isClean_12 : decode cX0_isClean 12 = .ok (.aload_n 0, 1) := by decide +kernel
theorem dX0_isClean_13 : decode cX0_isClean 13 = .ok (.getfield 32, 3) := by decide +kernel
theorem dX0_isClean_16 : decode cX0_isClean 16 = .ok (.iload_n 1, 1) := by decide +kernel
theorem dX0_isClean_17 : decode cX0_isClean 17 = .ok (.iaload, 1) := by decide +kernel
theorem dX0_isClean_18 : decode cX0_isClean 18 = .ok (.invokevirtual 101, 3) := by decide +kernel
theorem dX0_isClean_21 : decode cX0_isClean 21 = .ok (.ifCond .ne 5, 3) := by decide +kernel
theorem dX0_isClean_24 : decode cX0_isClean 24 = .ok (.iconst 0, 1) := by decide +kernel
theorem dX0_isClean_25 : decode cX0_isClean 25 = .ok (.ireturn, 1) := by decide +kernel
theorem dX0_isClean_26 : decode cX0_isClean 26 = .ok (.iinc 1 1, 3) := by decide +kernel
theorem dX0_isClean_29 : decode cX0_isClean 29 = .ok (.goto (-27), 3) := by decide +kernel
theorem dX0_isClean_32 : decode cX0_isClean 32 = .ok (.iconst 1, 1) := by decide +kernel
theorem dX0_isClean_33 : decode cX0_isClean 33 = .ok (.ireturn, 1) := by decide +kernel
theorem dX0_canPut_0 : decode cX0_canPut 0 = .ok (.aload_n 0, 1) := by decide +kernel
theorem dX0_canPut_1 : decode cX0_canPut 1 = .ok (.iload_n 1, 1) := by decide +kernel
theorem dX0_canPut_2 : decode cX0_canPut 2 = .ok (.invokevirtual 74, 3) := by decide +kernel
theorem dX0_canPut_5 : decode cX0_canPut 5 = .ok (.iload_n 2, 1) := by decide +kernel
theorem dX0_canPut_6 : decode cX0_canPut 6 = .ok (.invokestatic 54, 3) := by decide +kernel
theorem dX0_canPut_9 : decode cX0_canPut 9 = .ok (.aload_n 0, 1) := by decide +kernel
theorem dX0_canPut_10 : decode cX0_canPut 10 = .ok (.iload_n 1, 1) := by decide +kernel
theorem dX0_canPut_11 : decode cX0_canPut 11 = .ok (.iload_n 2, 1) := by decide +kernel
theorem dX0_canPut_12 : decode cX0_canPut 12 = .ok (.invokevirtual 101, 3) := by decide +kernel
theorem dX0_canPut_15 : decode cX0_canPut 15 = .ok (.ireturn, 1) := by decide +kernel
theorem dX0_placeFor_0 : decode cX0_placeFor 0 = .ok (.aload_n 0, 1) := by decide +kernel
theorem dX0_placeFor_1 : decode cX0_placeFor 1 = .ok (.iload_n 1, 1) := by decide +kernel
theorem dX0_placeFor_2 : decode cX0_placeFor 2 = .ok (.invokevirtual 74, 3) := by decide +kernel
theorem dX0_placeFor_5 : decode cX0_placeFor 5 = .ok (.iconst 0, 1) := by decide +kernel
theorem dX0_placeFor_6 : decode cX0_placeFor 6 = .ok (.istore_n 2, 1) := by decide +kernel
theorem dX0_placeFor_7 : decode cX0_placeFor 7 = .ok (.iload_n 2, 1) := by decide +kernel
theorem dX0_placeFor_8 : decode cX0_placeFor 8 = .ok (.bipush 48, 2) := by decide +kernel
theorem dX0_placeFor_10 : decode cX0_placeFor 10 = .ok (.if_icmp .ge 20, 3) := by decide +kernel
theorem dX0_placeFor_13 : decode cX0_placeFor 13 = .ok (.aload_n 0, 1) := by decide +kernel
theorem dX0_placeFor_14 : decode cX0_placeFor 14 = .ok (.iload_n 1, 1) := by decide +kernel
theorem dX0_placeFor_15 : decode cX0_placeFor 15 = .ok (.iload_n 2, 1) := by decide +kernel
theorem dX0_placeFor_16 : decode cX0_placeFor 16 = .ok (.invokevirtual 101, 3) := by decide +kernel
theorem dX0_placeFor_19 : decode cX0_placeFor 19 = .ok (.ifCond .eq 5, 3) := by decide +kernel
theorem dX0_placeFor_22 : decode cX0_placeFor 22 = .ok (.iload_n 2, 1) := by decide +kernel
theorem dX0_placeFor_23 : decode cX0_placeFor 23 = .ok (.ireturn, 1) := by decide +kernel
theorem dX0_placeFor_24 : decode cX0_placeFor 24 = .ok (.iinc 2 1, 3) := by decide +kernel
theorem dX0_placeFor_27 : decode cX0_placeFor 27 = .ok (.goto (-20), 3) := by decide +kernel
theorem dX0_placeFor_30 : decode cX0_placeFor 30 = .ok (.iconst (-1), 1) := by decide +kernel
theorem dX0_placeFor_31 : decode cX0_placeFor 31 = .ok (.ireturn, 1) := by decide +kernel
theorem dX0_fewest_0 : decode cX0_fewest 0 = .ok (.aload_n 0, 1) := by decide +kernel
theorem dX0_fewest_1 : decode cX0_fewest 1 = .ok (.invokevirtual 104, 3) := by decide +kernel
theorem dX0_fewest_4 : decode cX0_fewest 4 = .ok (.invokestatic 108, 3) := by decide +kernel
theorem dX0_fewest_7 : decode cX0_fewest 7 = .ok (.ireturn, 1) := by decide +kernel
theorem dX0_leaving_0 : decode cX0_leaving 0 = .ok (.aload_n 0, 1) := by decide +kernel
theorem dX0_leaving_1 : decode cX0_leaving 1 = .ok (.invokevirtual 104, 3) := by decide +kernel
theorem dX0_leaving_4 : decode cX0_leaving 4 = .ok (.ireturn, 1) := by decide +kernel
theorem dX0_checkRange_0 : decode cX0_checkRange 0 = .ok (.iload_n 0, 1) := by decide +kernel
theorem dX0_checkRange_1 : decode cX0_checkRange 1 = .ok (.iload_n 1, 1) := by decide +kernel
theorem dX0_checkRange_2 : decode cX0_checkRange 2 = .ok (.if_icmp .lt 8, 3) := by decide +kernel
theorem dX0_checkRange_5 : decode cX0_checkRange 5 = .ok (.iload_n 0, 1) := by decide +kernel
theorem dX0_checkRange_6 : decode cX0_checkRange 6 = .ok (.iload_n 2, 1) := by decide +kernel
theorem dX0_checkRange_7 : decode cX0_checkRange 7 = .ok (.if_icmp .le 13, 3) := by decide +kernel
theorem dX0_checkRange_10 : decode cX0_checkRange 10 = .ok (.new 114, 3) := by decide +kernel
theorem dX0_checkRange_13 : decode cX0_checkRange 13 = .ok (.dup, 1) := by decide +kernel
theorem dX0_checkRange_14 : decode cX0_checkRange 14 = .ok (.ldc 116, 2) := by decide +kernel
theorem dX0_checkRange_16 : decode cX0_checkRange 16 = .ok (.invokespecial 118, 3) := by decide +kernel
theorem dX0_checkRange_19 : decode cX0_checkRange 19 = .ok (.athrow, 1) := by decide +kernel
theorem dX0_checkRange_20 : decode cX0_checkRange 20 = .ok (.return_, 1) := by decide +kernel
theorem dX0_checkClass_0 : decode cX0_checkClass 0 = .ok (.iload_n 0, 1) := by decide +kernel
theorem dX0_checkClass_1 : decode cX0_checkClass 1 = .ok (.iconst 1, 1) := by decide +kernel
theorem dX0_checkClass_2 : decode cX0_checkClass 2 = .ok (.bipush 9, 2) := by decide +kernel
theorem dX0_checkClass_4 : decode cX0_checkClass 4 = .ok (.invokestatic 46, 3) := by decide +kernel
theorem dX0_checkClass_7 : decode cX0_checkClass 7 = .ok (.return_, 1) := by decide +kernel
theorem dX0_checkSubsidiary_0 : decode cX0_checkSubsidiary 0 = .ok (.iload_n 0, 1) := by decide +kernel
theorem dX0_checkSubsidiary_1 : decode cX0_checkSubsidiary 1 = .ok (.invokestatic 42, 3) := by decide +kernel
theorem dX0_checkSubsidiary_4 : decode cX0_checkSubsidiary 4 = .ok (.iload_n 0, 1) := by decide +kernel
theorem dX0_checkSubsidiary_5 : decode cX0_checkSubsidiary 5 = .ok (.iload_n 1, 1) := by decide +kernel
theorem dX0_checkSubsidiary_6 : decode cX0_checkSubsidiary 6 = .ok (.if_icmp .ne 13, 3) := by decide +kernel
theorem dX0_checkSubsidiary_9 : decode cX0_checkSubsidiary 9 = .ok (.new 114, 3) := by decide +kernel
theorem dX0_checkSubsidiary_12 : decode cX0_checkSubsidiary 12 = .ok (.dup, 1) := by decide +kernel
theorem dX0_checkSubsidiary_13 : decode cX0_checkSubsidiary 13 = .ok (.ldc 119, 2) := by decide +kernel
theorem dX0_checkSubsidiary_15 : decode cX0_checkSubsidiary 15 = .ok (.invokespecial 118, 3) := by decide +kernel
theorem dX0_checkSubsidiary_18 : decode cX0_checkSubsidiary 18 = .ok (.athrow, 1) := by decide +kernel
theorem dX0_checkSubsidiary_19 : decode cX0_checkSubsidiary 19 = .ok (.return_, 1) := by decide +kernel
theorem dX0_checkPlace_0 : decode cX0_checkPlace 0 = .ok (.iload_n 0, 1) := by decide +kernel
theorem dX0_checkPlace_1 : decode cX0_checkPlace 1 = .ok (.iconst 0, 1) := by decide +kernel
theorem dX0_checkPlace_2 : decode cX0_checkPlace 2 = .ok (.bipush 47, 2) := by decide +kernel
theorem dX0_checkPlace_4 : decode cX0_checkPlace 4 = .ok (.invokestatic 46, 3) := by decide +kernel
theorem dX0_checkPlace_7 : decode cX0_checkPlace 7 = .ok (.return_, 1) := by decide +kernel
theorem dX0_checkQuantity_0 : decode cX0_checkQuantity 0 = .ok (.iload_n 0, 1) := by decide +kernel
theorem dX0_checkQuantity_1 : decode cX0_checkQuantity 1 = .ok (.iconst 1, 1) := by decide +kernel
theorem dX0_checkQuantity_2 : decode cX0_checkQuantity 2 = .ok (.sipush 10000, 3) := by decide +kernel
theorem dX0_checkQuantity_5 : decode cX0_checkQuantity 5 = .ok (.invokestatic 46, 3) := by decide +kernel
theorem dX0_checkQuantity_8 : decode cX0_checkQuantity 8 = .ok (.return_, 1) := by decide +kernel
theorem dX0_checkGoods_0 : decode cX0_checkGoods 0 = .ok (.iload_n 1, 1) := by decide +kernel
theorem dX0_checkGoods_1 : decode cX0_checkGoods 1 = .ok (.ifCond .lt 11, 3) := by decide +kernel
theorem dX0_checkGoods_4 : decode cX0_checkGoods 4 = .ok (.iload_n 1, 1) := by decide +kernel
theorem dX0_checkGoods_5 : decode cX0_checkGoods 5 = .ok (.aload_n 0, 1) := by decide +kernel
theorem dX0_checkGoods_6 : decode cX0_checkGoods 6 = .ok (.getfield 35, 3) := by decide +kernel
theorem dX0_checkGoods_9 : decode cX0_checkGoods 9 = .ok (.if_icmp .lt 13, 3) := by decide +kernel
theorem dX0_checkGoods_12 : decode cX0_checkGoods 12 = .ok (.new 121, 3) := by decide +kernel
theorem dX0_checkGoods_15 : decode cX0_checkGoods 15 = .ok (.dup, 1) := by decide +kernel
theorem dX0_checkGoods_16 : decode cX0_checkGoods 16 = .ok (.ldc 123, 2) := by decide +kernel
theorem dX0_checkGoods_18 : decode cX0_checkGoods 18 = .ok (.invokespecial 125, 3) := by decide +kernel
theorem dX0_checkGoods_21 : decode cX0_checkGoods 21 = .ok (.athrow, 1) := by decide +kernel
theorem dX0_checkGoods_22 : decode cX0_checkGoods 22 = .ok (.return_, 1) := by decide +kernel
theorem dX0_checkPair_0 : decode cX0_checkPair 0 = .ok (.aload_n 0, 1) := by decide +kernel
theorem dX0_checkPair_1 : decode cX0_checkPair 1 = .ok (.iload_n 1, 1) := by decide +kernel
theorem dX0_checkPair_2 : decode cX0_checkPair 2 = .ok (.invokevirtual 74, 3) := by decide +kernel
theorem dX0_checkPair_5 : decode cX0_checkPair 5 = .ok (.aload_n 0, 1) := by decide +kernel
theorem dX0_checkPair_6 : decode cX0_checkPair 6 = .ok (.iload_n 2, 1) := by decide +kernel
theorem dX0_checkPair_7 : decode cX0_checkPair 7 = .ok (.invokevirtual 74, 3) := by decide +kernel
theorem dX0_checkPair_10 : decode cX0_checkPair 10 = .ok (.iload_n 1, 1) := by decide +kernel
theorem dX0_checkPair_11 : decode cX0_checkPair 11 = .ok (.iload_n 2, 1) := by decide +kernel
theorem dX0_checkPair_12 : decode cX0_checkPair 12 = .ok (.if_icmp .ne 13, 3) := by decide +kernel
theorem dX0_checkPair_15 : decode cX0_checkPair 15 = .ok (.new 114, 3) := by decide +kernel
theorem dX0_checkPair_18 : decode cX0_checkPair 18 = .ok (.dup, 1) := by decide +kernel
theorem dX0_checkPair_19 : decode cX0_checkPair 19 = .ok (.ldc 126, 2) := by decide +kernel
theorem dX0_checkPair_21 : decode cX0_checkPair 21 = .ok (.invokespecial 118, 3) := by decide +kernel
theorem dX0_checkPair_24 : decode cX0_checkPair 24 = .ok (.athrow, 1) := by decide +kernel
theorem dX0_checkPair_25 : decode cX0_checkPair 25 = .ok (.return_, 1) := by decide +kernel
theorem dX0_holdOf_0 : decode cX0_holdOf 0 = .ok (.iload_n 0, 1) := by decide +kernel
theorem dX0_holdOf_1 : decode cX0_holdOf 1 = .ok (.bipush 12, 2) := by decide +kernel
theorem dX0_holdOf_3 : decode cX0_holdOf 3 = .ok (.idiv, 1) := by decide +kernel
theorem dX0_holdOf_4 : decode cX0_holdOf 4 = .ok (.ireturn, 1) := by decide +kernel
theorem dX0_bayOf_0 : decode cX0_bayOf 0 = .ok (.iload_n 0, 1) := by decide +kernel
theorem dX0_bayOf_1 : decode cX0_bayOf 1 = .ok (.bipush 12, 2) := by decide +kernel
theorem dX0_bayOf_3 : decode cX0_bayOf 3 = .ok (.irem, 1) := by decide +kernel
theorem dX0_bayOf_4 : decode cX0_bayOf 4 = .ok (.iconst 2, 1) := by decide +kernel
theorem dX0_bayOf_5 : decode cX0_bayOf 5 = .ok (.idiv, 1) := by decide +kernel
theorem dX0_bayOf_6 : decode cX0_bayOf 6 = .ok (.ireturn, 1) := by decide +kernel
theorem dX0_deckOf_0 : decode cX0_deckOf 0 = .ok (.iload_n 0, 1) := by decide +kernel
theorem dX0_deckOf_1 : decode cX0_deckOf 1 = .ok (.iconst 2, 1) := by decide +kernel
theorem dX0_deckOf_2 : decode cX0_deckOf 2 = .ok (.irem, 1) := by decide +kernel
theorem dX0_deckOf_3 : decode cX0_deckOf 3 = .ok (.ireturn, 1) := by decide +kernel
theorem dX0_distanceBetween_0 : decode cX0_distanceBetween 0 = .ok (.iload_n 0, 1) := by decide +kernel
theorem dX0_distanceBetween_1 : decode cX0_distanceBetween 1 = .ok (.invokestatic 128, 3) := by decide +kernel
theorem dX0_distanceBetween_4 : decode cX0_distanceBetween 4 = .ok (.iload_n 1, 1) := by decide +kernel
theorem dX0_distanceBetween_5 : decode cX0_distanceBetween 5 = .ok (.invokestatic 128, 3) := by decide +kernel
theorem dX0_distanceBetween_8 : decode cX0_distanceBetween 8 = .ok (.isub, 1) := by decide +kernel
theorem dX0_distanceBetween_9 : decode cX0_distanceBetween 9 = .ok (.invokestatic 131, 3) := by decide +kernel
theorem dX0_distanceBetween_12 : decode cX0_distanceBetween 12 = .ok (.istore_n 2, 1) := by decide +kernel
theorem dX0_distanceBetween_13 : decode cX0_distanceBetween 13 = .ok (.iload_n 2, 1) := by decide +kernel
theorem dX0_distanceBetween_14 : decode cX0_distanceBetween 14 = .ok (.iconst 2, 1) := by decide +kernel
theorem dX0_distanceBetween_15 : decode cX0_distanceBetween 15 = .ok (.if_icmp .lt 5, 3) := by decide +kernel
theorem dX0_distanceBetween_18 : decode cX0_distanceBetween 18 = .ok (.iconst 4, 1) := by decide +kernel
theorem dX0_distanceBetween_19 : decode cX0_distanceBetween 19 = .ok (.ireturn, 1) := by decide +kernel
theorem dX0_distanceBetween_20 : decode cX0_distanceBetween 20 = .ok (.iload_n 2, 1) := by decide +kernel
theorem dX0_distanceBetween_21 : decode cX0_distanceBetween 21 = .ok (.iconst 1, 1) := by decide +kernel
theorem dX0_distanceBetween_22 : decode cX0_distanceBetween 22 = .ok (.if_icmp .ne 5, 3) := by decide +kernel
theorem dX0_distanceBetween_25 : decode cX0_distanceBetween 25 = .ok (.iconst 3, 1) := by decide +kernel
theorem dX0_distanceBetween_26 : decode cX0_distanceBetween 26 = .ok (.ireturn, 1) := by decide +kernel
theorem dX0_distanceBetween_27 : decode cX0_distanceBetween 27 = .ok (.iload_n 0, 1) := by decide +kernel
theorem dX0_distanceBetween_28 : decode cX0_distanceBetween 28 = .ok (.invokestatic 136, 3) := by decide +kernel
theorem dX0_distanceBetween_31 : decode cX0_distanceBetween 31 = .ok (.iload_n 1, 1) := by decide +kernel
theorem dX0_distanceBetween_32 : decode cX0_distanceBetween 32 = .ok (.invokestatic 136, 3) := by decide +kernel
theorem dX0_distanceBetween_35 : decode cX0_distanceBetween 35 = .ok (.isub, 1) := by decide +kernel
theorem dX0_distanceBetween_36 : decode cX0_distanceBetween 36 = .ok (.invokestatic 131, 3) := by decide +kernel
theorem dX0_distanceBetween_39 : decode cX0_distanceBetween 39 = .ok (.istore_n 3, 1) := by decide +kernel
theorem dX0_distanceBetween_40 : decode cX0_distanceBetween 40 = .ok (.iload_n 3, 1) := by decide +kernel
theorem dX0_distanceBetween_41 : decode cX0_distanceBetween 41 = .ok (.iconst 3, 1) := by decide +kernel
theorem dX0_distanceBetween_42 : decode cX0_distanceBetween 42 = .ok (.if_icmp .ge 18, 3) := by decide +kernel
theorem dX0_distanceBetween_45 : decode cX0_distanceBetween 45 = .ok (.iload_n 3, 1) := by decide +kernel
theorem dX0_distanceBetween_46 : decode cX0_distanceBetween 46 = .ok (.ifCond .le 16, 3) := by decide +kernel
theorem dX0_distanceBetween_49 : decode cX0_distanceBetween 49 = .ok (.iload_n 0, 1) := by decide +kernel
theorem dX0_distanceBetween_50 : decode cX0_distanceBetween 50 = .ok (.invokestatic 139, 3) := by decide +kernel
theorem dX0_distanceBetween_53 : decode cX0_distanceBetween 53 = .ok (.iload_n 1, 1) := by decide +kernel
theorem dX0_distanceBetween_54 : decode cX0_distanceBetween 54 = .ok (.invokestatic 139, 3) := by decide +kernel
theorem dX0_distanceBetween_57 : decode cX0_distanceBetween 57 = .ok (.if_icmp .eq 5, 3) := by decide +kernel
theorem dX0_distanceBetween_60 : decode cX0_distanceBetween 60 = .ok (.iconst 2, 1) := by decide +kernel
theorem dX0_distanceBetween_61 : decode cX0_distanceBetween 61 = .ok (.ireturn, 1) := by decide +kernel
theorem dX0_distanceBetween_62 : decode cX0_distanceBetween 62 = .ok (.iload_n 0, 1) := by decide +kernel
theorem dX0_distanceBetween_63 : decode cX0_distanceBetween 63 = .ok (.iload_n 1, 1) := by decide +kernel
theorem dX0_distanceBetween_64 : decode cX0_distanceBetween 64 = .ok (.if_icmp .ne 7, 3) := by decide +kernel
theorem dX0_distanceBetween_67 : decode cX0_distanceBetween 67 = .ok (.iconst 0, 1) := by decide +kernel
theorem dX0_distanceBetween_68 : decode cX0_distanceBetween 68 = .ok (.goto 4, 3) := by decide +kernel
theorem dX0_distanceBetween_71 : decode cX0_distanceBetween 71 = .ok (.iconst 1, 1) := by decide +kernel
theorem dX0_distanceBetween_72 : decode cX0_distanceBetween 72 = .ok (.ireturn, 1) := by decide +kernel
theorem dX0_tableDistance_0 : decode cX0_tableDistance 0 = .ok (.iload_n 1, 1) := by decide +kernel
theorem dX0_tableDistance_1 : decode cX0_tableDistance 1 = .ok (.iconst (-1), 1) := by decide +kernel
theorem dX0_tableDistance_2 : decode cX0_tableDistance 2 = .ok (.if_icmp .eq 8, 3) := by decide +kernel
theorem dX0_tableDistance_5 : decode cX0_tableDistance 5 = .ok (.iload_n 2, 1) := by decide +kernel
theorem dX0_tableDistance_6 : decode cX0_tableDistance 6 = .ok (.iconst (-1), 1) := by decide +kernel
theorem dX0_tableDistance_7 : decode cX0_tableDistance 7 = .ok (.if_icmp .ne 5, 3) := by decide +kernel
theorem dX0_tableDistance_10 : decode cX0_tableDistance 10 = .ok (.iconst 0, 1) := by decide +kernel
end
section
theorem dX0_tableDistance_11 : decode cX0_tableDistance 11 = .ok (.ireturn, 1) := by decide +kernel
theorem dX0_tableDistance_12 : decode cX0_tableDistance 12 = .ok (.aload_n 0, 1) := by decide +kernel
theorem dX0_tableDistance_13 : decode cX0_tableDistance 13 = .ok (.getfield 9, 3) := by decide +kernel
theorem dX0_tableDistance_16 : decode cX0_tableDistance 16 = .ok (.iload_n 1, 1) := by decide +kernel
theorem dX0_tableDistance_17 : decode cX0_tableDistance 17 = .ok (.bipush 10, 2) := by decide +kernel
theorem dX0_tableDistance_19 : decode cX0_tableDistance 19 = .ok (.imul, 1) := by decide +kernel
theorem dX0_tableDistance_20 : decode cX0_tableDistance 20 = .ok (.iload_n 2, 1) := by decide +kernel
theorem dX0_tableDistance_21 : decode cX0_tableDistance 21 = .ok (.iadd, 1) := by decide +kernel
theorem dX0_tableDistance_22 : decode cX0_tableDistance 22 = .ok (.iaload, 1) := by decide +kernel
theorem dX0_tableDistance_23 : decode cX0_tableDistance 23 = .ok (.ireturn, 1) := by decide +kernel
theorem dX0_greatestTableDistance_0 : decode cX0_greatestTableDistance 0 = .ok (.aload_n 0, 1) := by decide +kernel
theorem dX0_greatestTableDistance_1 : decode cX0_greatestTableDistance 1 = .ok (.aload_n 0, 1) := by decide +kernel
theorem dX0_greatestTableDistance_2 : decode cX0_greatestTableDistance 2 = .ok (.getfield 23, 3) := by decide +kernel
theorem dX0_greatestTableDistance_5 : decode cX0_greatestTableDistance 5 = .ok (.iload_n 1, 1) := by decide +kernel
theorem dX0_greatestTableDistance_6 : decode cX0_greatestTableDistance 6 = .ok (.iaload, 1) := by decide +kernel
theorem dX0_greatestTableDistance_7 : decode cX0_greatestTableDistance 7 = .ok (.aload_n 0, 1) := by decide +kernel
theorem dX0_greatestTableDistance_8 : decode cX0_greatestTableDistance 8 = .ok (.getfield 23, 3) := by decide +kernel
theorem dX0_greatestTableDistance_11 : decode cX0_greatestTableDistance 11 = .ok (.iload_n 2, 1) := by decide +kernel
theorem dX0_greatestTableDistance_12 : decode cX0_greatestTableDistance 12 = .ok (.iaload, 1) := by decide +kernel
theorem dX0_greatestTableDistance_13 : decode cX0_greatestTableDistance 13 = .ok (.invokevirtual 50, 3) := by decide +kernel
theorem dX0_greatestTableDistance_16 : decode cX0_greatestTableDistance 16 = .ok (.aload_n 0, 1) := by decide +kernel
theorem dX0_greatestTableDistance_17 : decode cX0_greatestTableDistance 17 = .ok (.aload_n 0, 1) := by decide +kernel
theorem dX0_greatestTableDistance_18 : decode cX0_greatestTableDistance 18 = .ok (.getfield 23, 3) := by decide +kernel
theorem dX0_greatestTableDistance_21 : decode cX0_greatestTableDistance 21 = .ok (.iload_n 1, 1) := by decide +kernel
theorem dX0_greatestTableDistance_22 : decode cX0_greatestTableDistance 22 = .ok (.iaload, 1) := by decide +kernel
theorem dX0_greatestTableDistance_23 : decode cX0_greatestTableDistance 23 = .ok (.aload_n 0, 1) := by decide +kernel
theorem dX0_greatestTableDistance_24 : decode cX0_greatestTableDistance 24 = .ok (.getfield 26, 3) := by decide +kernel
theorem dX0_greatestTableDistance_27 : decode cX0_greatestTableDistance 27 = .ok (.iload_n 2, 1) := by decide +kernel
theorem dX0_greatestTableDistance_28 : decode cX0_greatestTableDistance 28 = .ok (.iaload, 1) := by decide +kernel
theorem dX0_greatestTableDistance_29 : decode cX0_greatestTableDistance 29 = .ok (.invokevirtual 50, 3) := by decide +kernel
theorem dX0_greatestTableDistance_32 : decode cX0_greatestTableDistance 32 = .ok (.invokestatic 142, 3) := by decide +kernel
theorem dX0_greatestTableDistance_35 : decode cX0_greatestTableDistance 35 = .ok (.istore_n 3, 1) := by decide +kernel
theorem dX0_greatestTableDistance_36 : decode cX0_greatestTableDistance 36 = .ok (.aload_n 0, 1) := by decide +kernel
theorem dX0_greatestTableDistance_37 : decode cX0_greatestTableDistance 37 = .ok (.aload_n 0, 1) := by decide +kernel
theorem dX0_greatestTableDistance_38 : decode cX0_greatestTableDistance 38 = .ok (.getfield 26, 3) := by decide +kernel
theorem dX0_greatestTableDistance_41 : decode cX0_greatestTableDistance 41 = .ok (.iload_n 1, 1) := by decide +kernel
theorem dX0_greatestTableDistance_42 : decode cX0_greatestTableDistance 42 = .ok (.iaload, 1) := by decide +kernel
theorem dX0_greatestTableDistance_43 : decode cX0_greatestTableDistance 43 = .ok (.aload_n 0, 1) := by decide +kernel
theorem dX0_greatestTableDistance_44 : decode cX0_greatestTableDistance 44 = .ok (.getfield 23, 3) := by decide +kernel
theorem dX0_greatestTableDistance_47 : decode cX0_greatestTableDistance 47 = .ok (.iload_n 2, 1) := by decide +kernel
theorem dX0_greatestTableDistance_48 : decode cX0_greatestTableDistance 48 = .ok (.iaload, 1) := by decide +kernel
theorem dX0_greatestTableDistance_49 : decode cX0_greatestTableDistance 49 = .ok (.invokevirtual 50, 3) := by decide +kernel
theorem dX0_greatestTableDistance_52 : decode cX0_greatestTableDistance 52 = .ok (.aload_n 0, 1) := by decide +kernel
theorem dX0_greatestTableDistance_53 : decode cX0_greatestTableDistance 53 = .ok (.aload_n 0, 1) := by decide +kernel
theorem dX0_greatestTableDistance_54 : decode cX0_greatestTableDistance 54 = .ok (.getfield 26, 3) := by decide +kernel
theorem dX0_greatestTableDistance_57 : decode cX0_greatestTableDistance 57 = .ok (.iload_n 1, 1) := by decide +kernel
theorem dX0_greatestTableDistance_58 : decode cX0_greatestTableDistance 58 = .ok (.iaload, 1) := by decide +kernel
theorem dX0_greatestTableDistance_59 : decode cX0_greatestTableDistance 59 = .ok (.aload_n 0, 1) := by decide +kernel
theorem dX0_greatestTableDistance_60 : decode cX0_greatestTableDistance 60 = .ok (.getfield 26, 3) := by decide +kernel
theorem dX0_greatestTableDistance_63 : decode cX0_greatestTableDistance 63 = .ok (.iload_n 2, 1) := by decide +kernel
theorem dX0_greatestTableDistance_64 : decode cX0_greatestTableDistance 64 = .ok (.iaload, 1) := by decide +kernel
theorem dX0_greatestTableDistance_65 : decode cX0_greatestTableDistance 65 = .ok (.invokevirtual 50, 3) := by decide +kernel
theorem dX0_greatestTableDistance_68 : decode cX0_greatestTableDistance 68 = .ok (.invokestatic 142, 3) := by decide +kernel
theorem dX0_greatestTableDistance_71 : decode cX0_greatestTableDistance 71 = .ok (.istore 4, 2) := by decide +kernel
theorem dX0_greatestTableDistance_73 : decode cX0_greatestTableDistance 73 = .ok (.iload_n 3, 1) := by decide +kernel
theorem dX0_greatestTableDistance_74 : decode cX0_greatestTableDistance 74 = .ok (.iload 4, 2) := by decide +kernel
theorem dX0_greatestTableDistance_76 : decode cX0_greatestTableDistance 76 = .ok (.invokestatic 142, 3) := by decide +kernel
theorem dX0_greatestTableDistance_79 : decode cX0_greatestTableDistance 79 = .ok (.ireturn, 1) := by decide +kernel
theorem dX0_areWithin_0 : decode cX0_areWithin 0 = .ok (.aload_n 0, 1) := by decide +kernel
theorem dX0_areWithin_1 : decode cX0_areWithin 1 = .ok (.getfield 29, 3) := by decide +kernel
theorem dX0_areWithin_4 : decode cX0_areWithin 4 = .ok (.iload_n 1, 1) := by decide +kernel
theorem dX0_areWithin_5 : decode cX0_areWithin 5 = .ok (.iaload, 1) := by decide +kernel
theorem dX0_areWithin_6 : decode cX0_areWithin 6 = .ok (.istore_n 3, 1) := by decide +kernel
theorem dX0_areWithin_7 : decode cX0_areWithin 7 = .ok (.aload_n 0, 1) := by decide +kernel
theorem dX0_areWithin_8 : decode cX0_areWithin 8 = .ok (.getfield 26, 3) := by decide +kernel
theorem dX0_areWithin_11 : decode cX0_areWithin 11 = .ok (.iload_n 1, 1) := by decide +kernel
theorem dX0_areWithin_12 : decode cX0_areWithin 12 = .ok (.iaload, 1) := by decide +kernel
theorem dX0_areWithin_13 : decode cX0_areWithin 13 = .ok (.istore 4, 2) := by decide +kernel
theorem dX0_areWithin_15 : decode cX0_areWithin 15 = .ok (.iload_n 3, 1) := by decide +kernel
theorem dX0_areWithin_16 : decode cX0_areWithin 16 = .ok (.aload_n 2, 1) := by decide +kernel
theorem dX0_areWithin_17 : decode cX0_areWithin 17 = .ok (.aload_n 0, 1) := by decide +kernel
theorem dX0_areWithin_18 : decode cX0_areWithin 18 = .ok (.getfield 23, 3) := by decide +kernel
theorem dX0_areWithin_21 : decode cX0_areWithin 21 = .ok (.iload_n 1, 1) := by decide +kernel
theorem dX0_areWithin_22 : decode cX0_areWithin 22 = .ok (.iaload, 1) := by decide +kernel
theorem dX0_areWithin_23 : decode cX0_areWithin 23 = .ok (.iaload, 1) := by decide +kernel
theorem dX0_areWithin_24 : decode cX0_areWithin 24 = .ok (.if_icmp .gt 21, 3) := by decide +kernel
theorem dX0_areWithin_27 : decode cX0_areWithin 27 = .ok (.iload 4, 2) := by decide +kernel
theorem dX0_areWithin_29 : decode cX0_areWithin 29 = .ok (.iconst (-1), 1) := by decide +kernel
theorem dX0_areWithin_30 : decode cX0_areWithin 30 = .ok (.if_icmp .eq 11, 3) := by decide +kernel
theorem dX0_areWithin_33 : decode cX0_areWithin 33 = .ok (.iload_n 3, 1) := by decide +kernel
theorem dX0_areWithin_34 : decode cX0_areWithin 34 = .ok (.aload_n 2, 1) := by decide +kernel
theorem dX0_areWithin_35 : decode cX0_areWithin 35 = .ok (.iload 4, 2) := by decide +kernel
theorem dX0_areWithin_37 : decode cX0_areWithin 37 = .ok (.iaload, 1) := by decide +kernel
theorem dX0_areWithin_38 : decode cX0_areWithin 38 = .ok (.if_icmp .gt 7, 3) := by decide +kernel
theorem dX0_areWithin_41 : decode cX0_areWithin 41 = .ok (.iconst 1, 1) := by decide +kernel
theorem dX0_areWithin_42 : decode cX0_areWithin 42 = .ok (.goto 4, 3) := by decide +kernel
theorem dX0_areWithin_45 : decode cX0_areWithin 45 = .ok (.iconst 0, 1) := by decide +kernel
theorem dX0_areWithin_46 : decode cX0_areWithin 46 = .ok (.ireturn, 1) := by decide +kernel
theorem dX0_areExcepted_0 : decode cX0_areExcepted 0 = .ok (.aload_n 0, 1) := by decide +kernel
theorem dX0_areExcepted_1 : decode cX0_areExcepted 1 = .ok (.iload_n 1, 1) := by decide +kernel
theorem dX0_areExcepted_2 : decode cX0_areExcepted 2 = .ok (.aload_n 0, 1) := by decide +kernel
theorem dX0_areExcepted_3 : decode cX0_areExcepted 3 = .ok (.getfield 16, 3) := by decide +kernel
theorem dX0_areExcepted_6 : decode cX0_areExcepted 6 = .ok (.invokevirtual 145, 3) := by decide +kernel
theorem dX0_areExcepted_9 : decode cX0_areExcepted 9 = .ok (.ireturn, 1) := by decide +kernel
theorem dX0_areLimited_0 : decode cX0_areLimited 0 = .ok (.aload_n 0, 1) := by decide +kernel
theorem dX0_areLimited_1 : decode cX0_areLimited 1 = .ok (.iload_n 1, 1) := by decide +kernel
theorem dX0_areLimited_2 : decode cX0_areLimited 2 = .ok (.aload_n 0, 1) := by decide +kernel
theorem dX0_areLimited_3 : decode cX0_areLimited 3 = .ok (.getfield 16, 3) := by decide +kernel
theorem dX0_areLimited_6 : decode cX0_areLimited 6 = .ok (.invokevirtual 145, 3) := by decide +kernel
theorem dX0_areLimited_9 : decode cX0_areLimited 9 = .ok (.ifCond .ne 19, 3) := by decide +kernel
theorem dX0_areLimited_12 : decode cX0_areLimited 12 = .ok (.aload_n 0, 1) := by decide +kernel
theorem dX0_areLimited_13 : decode cX0_areLimited 13 = .ok (.iload_n 1, 1) := by decide +kernel
theorem dX0_areLimited_14 : decode cX0_areLimited 14 = .ok (.aload_n 0, 1) := by decide +kernel
theorem dX0_areLimited_15 : decode cX0_areLimited 15 = .ok (.getfield 13, 3) := by decide +kernel
theorem dX0_areLimited_18 : decode cX0_areLimited 18 = .ok (.invokevirtual 145, 3) := by decide +kernel
theorem dX0_areLimited_21 : decode cX0_areLimited 21 = .ok (.ifCond .eq 7, 3) := by decide +kernel
theorem dX0_areLimited_24 : decode cX0_areLimited 24 = .ok (.iconst 1, 1) := by decide +kernel
theorem dX0_areLimited_25 : decode cX0_areLimited 25 = .ok (.goto 4, 3) := by decide +kernel
theorem dX0_areLimited_28 : decode cX0_areLimited 28 = .ok (.iconst 0, 1) := by decide +kernel
theorem dX0_areLimited_29 : decode cX0_areLimited 29 = .ok (.ireturn, 1) := by decide +kernel
theorem dX0_needOf_0 : decode cX0_needOf 0 = .ok (.aload_n 0, 1) := by decide +kernel
theorem dX0_needOf_1 : decode cX0_needOf 1 = .ok (.iload_n 1, 1) := by decide +kernel
theorem dX0_needOf_2 : decode cX0_needOf 2 = .ok (.invokevirtual 81, 3) := by decide +kernel
theorem dX0_needOf_5 : decode cX0_needOf 5 = .ok (.ifCond .ne 11, 3) := by decide +kernel
theorem dX0_needOf_8 : decode cX0_needOf 8 = .ok (.aload_n 0, 1) := by decide +kernel
theorem dX0_needOf_9 : decode cX0_needOf 9 = .ok (.iload_n 2, 1) := by decide +kernel
theorem dX0_needOf_10 : decode cX0_needOf 10 = .ok (.invokevirtual 81, 3) := by decide +kernel
theorem dX0_needOf_13 : decode cX0_needOf 13 = .ok (.ifCond .eq 5, 3) := by decide +kernel
theorem dX0_needOf_16 : decode cX0_needOf 16 = .ok (.iconst 0, 1) := by decide +kernel
theorem dX0_needOf_17 : decode cX0_needOf 17 = .ok (.ireturn, 1) := by decide +kernel
theorem dX0_needOf_18 : decode cX0_needOf 18 = .ok (.aload_n 0, 1) := by decide +kernel
theorem dX0_needOf_19 : decode cX0_needOf 19 = .ok (.iload_n 1, 1) := by decide +kernel
theorem dX0_needOf_20 : decode cX0_needOf 20 = .ok (.iload_n 2, 1) := by decide +kernel
theorem dX0_needOf_21 : decode cX0_needOf 21 = .ok (.invokevirtual 149, 3) := by decide +kernel
theorem dX0_needOf_24 : decode cX0_needOf 24 = .ok (.istore_n 3, 1) := by decide +kernel
theorem dX0_needOf_25 : decode cX0_needOf 25 = .ok (.aload_n 0, 1) := by decide +kernel
theorem dX0_needOf_26 : decode cX0_needOf 26 = .ok (.iload_n 1, 1) := by decide +kernel
theorem dX0_needOf_27 : decode cX0_needOf 27 = .ok (.invokevirtual 77, 3) := by decide +kernel
theorem dX0_needOf_30 : decode cX0_needOf 30 = .ok (.ifCond .ne 11, 3) := by decide +kernel
theorem dX0_needOf_33 : decode cX0_needOf 33 = .ok (.aload_n 0, 1) := by decide +kernel
theorem dX0_needOf_34 : decode cX0_needOf 34 = .ok (.iload_n 2, 1) := by decide +kernel
theorem dX0_needOf_35 : decode cX0_needOf 35 = .ok (.invokevirtual 77, 3) := by decide +kernel
theorem dX0_needOf_38 : decode cX0_needOf 38 = .ok (.ifCond .eq 11, 3) := by decide +kernel
theorem dX0_needOf_41 : decode cX0_needOf 41 = .ok (.iload_n 3, 1) := by decide +kernel
theorem dX0_needOf_42 : decode cX0_needOf 42 = .ok (.iconst 1, 1) := by decide +kernel
theorem dX0_needOf_43 : decode cX0_needOf 43 = .ok (.isub, 1) := by decide +kernel
theorem dX0_needOf_44 : decode cX0_needOf 44 = .ok (.iconst 0, 1) := by decide +kernel
theorem dX0_needOf_45 : decode cX0_needOf 45 = .ok (.invokestatic 142, 3) := by decide +kernel
theorem dX0_needOf_48 : decode cX0_needOf 48 = .ok (.ireturn, 1) := by decide +kernel
theorem dX0_needOf_49 : decode cX0_needOf 49 = .ok (.iload_n 3, 1) := by decide +kernel
theorem dX0_needOf_50 : decode cX0_needOf 50 = .ok (.ireturn, 1) := by decide +kernel
theorem dX0_wouldBreach_0 : decode cX0_wouldBreach 0 = .ok (.iload_n 2, 1) := by decide +kernel
theorem dX0_wouldBreach_1 : decode cX0_wouldBreach 1 = .ok (.iconst (-1), 1) := by decide +kernel
theorem dX0_wouldBreach_2 : decode cX0_wouldBreach 2 = .ok (.if_icmp .eq 13, 3) := by decide +kernel
theorem dX0_wouldBreach_5 : decode cX0_wouldBreach 5 = .ok (.aload_n 0, 1) := by decide +kernel
theorem dX0_wouldBreach_6 : decode cX0_wouldBreach 6 = .ok (.getfield 32, 3) := by decide +kernel
theorem dX0_wouldBreach_9 : decode cX0_wouldBreach 9 = .ok (.iload_n 3, 1) := by decide +kernel
theorem dX0_wouldBreach_10 : decode cX0_wouldBreach 10 = .ok (.iaload, 1) := by decide +kernel
theorem dX0_wouldBreach_11 : decode cX0_wouldBreach 11 = .ok (.iconst (-1), 1) := by decide +kernel
theorem dX0_wouldBreach_12 : decode cX0_wouldBreach 12 = .ok (.if_icmp .ne 5, 3) := by decide +kernel
theorem dX0_wouldBreach_15 : decode cX0_wouldBreach 15 = .ok (.iconst 0, 1) := by decide +kernel
theorem dX0_wouldBreach_16 : decode cX0_wouldBreach 16 = .ok (.ireturn, 1) := by decide +kernel
theorem dX0_wouldBreach_17 : decode cX0_wouldBreach 17 = .ok (.iload_n 2, 1) := by decide +kernel
theorem dX0_wouldBreach_18 : decode cX0_wouldBreach 18 = .ok (.aload_n 0, 1) := by decide +kernel
theorem dX0_wouldBreach_19 : decode cX0_wouldBreach 19 = .ok (.getfield 32, 3) := by decide +kernel
theorem dX0_wouldBreach_22 : decode cX0_wouldBreach 22 = .ok (.iload_n 3, 1) := by decide +kernel
theorem dX0_wouldBreach_23 : decode cX0_wouldBreach 23 = .ok (.iaload, 1) := by decide +kernel
theorem dX0_wouldBreach_24 : decode cX0_wouldBreach 24 = .ok (.invokestatic 57, 3) := by decide +kernel
theorem dX0_wouldBreach_27 : decode cX0_wouldBreach 27 = .ok (.aload_n 0, 1) := by decide +kernel
theorem dX0_wouldBreach_28 : decode cX0_wouldBreach 28 = .ok (.iload_n 1, 1) := by decide +kernel
theorem dX0_wouldBreach_29 : decode cX0_wouldBreach 29 = .ok (.iload_n 3, 1) := by decide +kernel
theorem dX0_wouldBreach_30 : decode cX0_wouldBreach 30 = .ok (.invokevirtual 87, 3) := by decide +kernel
theorem dX0_wouldBreach_33 : decode cX0_wouldBreach 33 = .ok (.if_icmp .ge 7, 3) := by decide +kernel
theorem dX0_wouldBreach_36 : decode cX0_wouldBreach 36 = .ok (.iconst 1, 1) := by decide +kernel
theorem dX0_wouldBreach_37 : decode cX0_wouldBreach 37 = .ok (.goto 4, 3) := by decide +kernel
theorem dX0_wouldBreach_40 : decode cX0_wouldBreach 40 = .ok (.iconst 0, 1) := by decide +kernel
theorem dX0_wouldBreach_41 : decode cX0_wouldBreach 41 = .ok (.ireturn, 1) := by decide +kernel
theorem dX0_breachesAt_0 : decode cX0_breachesAt 0 = .ok (.iconst 0, 1) := by decide +kernel
theorem dX0_breachesAt_1 : decode cX0_breachesAt 1 = .ok (.istore_n 3, 1) := by decide +kernel
theorem dX0_breachesAt_2 : decode cX0_breachesAt 2 = .ok (.iconst 0, 1) := by decide +kernel
theorem dX0_breachesAt_3 : decode cX0_breachesAt 3 = .ok (.istore 4, 2) := by decide +kernel
theorem dX0_breachesAt_5 : decode cX0_breachesAt 5 = .ok (.iload 4, 2) := by decide +kernel
theorem dX0_breachesAt_7 : decode cX0_breachesAt 7 = .ok (.aload_n 0, 1) := by decide +kernel
theorem dX0_breachesAt_8 : decode cX0_breachesAt 8 = .ok (.getfield 35, 3) := by decide +kernel
theorem dX0_breachesAt_11 : decode cX0_breachesAt 11 = .ok (.if_icmp .ge 33, 3) := by decide +kernel
theorem dX0_breachesAt_14 : decode cX0_breachesAt 14 = .ok (.iload 4, 2) := by decide +kernel
theorem dX0_breachesAt_16 : decode cX0_breachesAt 16 = .ok (.iload_n 1, 1) := by decide +kernel
theorem dX0_breachesAt_17 : decode cX0_breachesAt 17 = .ok (.if_icmp .eq 21, 3) := by decide +kernel
theorem dX0_breachesAt_20 : decode cX0_breachesAt 20 = .ok (.aload_n 0, 1) := by decide +kernel
theorem dX0_breachesAt_21 : decode cX0_breachesAt 21 = .ok (.iload_n 1, 1) := by decide +kernel
theorem dX0_breachesAt_22 : decode cX0_breachesAt 22 = .ok (.iload_n 2, 1) := by decide +kernel
theorem dX0_breachesAt_23 : decode cX0_breachesAt 23 = .ok (.iload 4, 2) := by decide +kernel
theorem dX0_breachesAt_25 : decode cX0_breachesAt 25 = .ok (.invokevirtual 90, 3) := by decide +kernel
theorem dX0_breachesAt_28 : decode cX0_breachesAt 28 = .ok (.ifCond .eq 10, 3) := by decide +kernel
theorem dX0_breachesAt_31 : decode cX0_breachesAt 31 = .ok (.iload_n 3, 1) := by decide +kernel
theorem dX0_breachesAt_32 : decode cX0_breachesAt 32 = .ok (.iconst 1, 1) := by decide +kernel
theorem dX0_breachesAt_33 : decode cX0_breachesAt 33 = .ok (.iload 4, 2) := by decide +kernel
theorem dX0_breachesAt_35 : decode cX0_breachesAt 35 = .ok (.ishl, 1) := by decide +kernel
theorem dX0_breachesAt_36 : decode cX0_breachesAt 36 = .ok (.ior, 1) := by decide +kernel
theorem dX0_breachesAt_37 : decode cX0_breachesAt 37 = .ok (.istore_n 3, 1) := by decide +kernel
theorem dX0_breachesAt_38 : decode cX0_breachesAt 38 = .ok (.iinc 4 1, 3) := by decide +kernel
theorem dX0_breachesAt_41 : decode cX0_breachesAt 41 = .ok (.goto (-36), 3) := by decide +kernel
theorem dX0_breachesAt_44 : decode cX0_breachesAt 44 = .ok (.iload_n 3, 1) := by decide +kernel
theorem dX0_breachesAt_45 : decode cX0_breachesAt 45 = .ok (.ireturn, 1) := by decide +kernel
theorem dX0_isBarredFrom_0 : decode cX0_isBarredFrom 0 = .ok (.iload_n 1, 1) := by decide +kernel
theorem dX0_isBarredFrom_1 : decode cX0_isBarredFrom 1 = .ok (.iconst (-1), 1) := by decide +kernel
theorem dX0_isBarredFrom_2 : decode cX0_isBarredFrom 2 = .ok (.if_icmp .eq 20, 3) := by decide +kernel
theorem dX0_isBarredFrom_5 : decode cX0_isBarredFrom 5 = .ok (.aload_n 0, 1) := by decide +kernel
theorem dX0_isBarredFrom_6 : decode cX0_isBarredFrom 6 = .ok (.getfield 19, 3) := by decide +kernel
theorem dX0_isBarredFrom_9 : decode cX0_isBarredFrom 9 = .ok (.iload_n 1, 1) := by decide +kernel
theorem dX0_isBarredFrom_10 : decode cX0_isBarredFrom 10 = .ok (.iconst 2, 1) := by decide +kernel
theorem dX0_isBarredFrom_11 : decode cX0_isBarredFrom 11 = .ok (.imul, 1) := by decide +kernel
theorem dX0_isBarredFrom_12 : decode cX0_isBarredFrom 12 = .ok (.iload_n 2, 1) := by decide +kernel
theorem dX0_isBarredFrom_13 : decode cX0_isBarredFrom 13 = .ok (.iadd, 1) := by decide +kernel
theorem dX0_isBarredFrom_14 : decode cX0_isBarredFrom 14 = .ok (.baload, 1) := by decide +kernel
theorem dX0_isBarredFrom_15 : decode cX0_isBarredFrom 15 = .ok (.ifCond .eq 7, 3) := by decide +kernel
theorem dX0_isBarredFrom_18 : decode cX0_isBarredFrom 18 = .ok (.iconst 1, 1) := by decide +kernel
theorem dX0_isBarredFrom_19 : decode cX0_isBarredFrom 19 = .ok (.goto 4, 3) := by decide +kernel
theorem dX0_isBarredFrom_22 : decode cX0_isBarredFrom 22 = .ok (.iconst 0, 1) := by decide +kernel
theorem dX0_isBarredFrom_23 : decode cX0_isBarredFrom 23 = .ok (.ireturn, 1) := by decide +kernel
theorem dX0_wouldBeMisplaced_0 : decode cX0_wouldBeMisplaced 0 = .ok (.iload_n 2, 1) := by decide +kernel
theorem dX0_wouldBeMisplaced_1 : decode cX0_wouldBeMisplaced 1 = .ok (.iconst (-1), 1) := by decide +kernel
theorem dX0_wouldBeMisplaced_2 : decode cX0_wouldBeMisplaced 2 = .ok (.if_icmp .eq 11, 3) := by decide +kernel
theorem dX0_wouldBeMisplaced_5 : decode cX0_wouldBeMisplaced 5 = .ok (.aload_n 0, 1) := by decide +kernel
theorem dX0_wouldBeMisplaced_6 : decode cX0_wouldBeMisplaced 6 = .ok (.iload_n 1, 1) := by decide +kernel
theorem dX0_wouldBeMisplaced_7 : decode cX0_wouldBeMisplaced 7 = .ok (.invokevirtual 81, 3) := by decide +kernel
theorem dX0_wouldBeMisplaced_10 : decode cX0_wouldBeMisplaced 10 = .ok (.ifCond .eq 5, 3) := by decide +kernel
theorem dX0_wouldBeMisplaced_13 : decode cX0_wouldBeMisplaced 13 = .ok (.iconst 0, 1) := by decide +kernel
theorem dX0_wouldBeMisplaced_14 : decode cX0_wouldBeMisplaced 14 = .ok (.ireturn, 1) := by decide +kernel
theorem dX0_wouldBeMisplaced_15 : decode cX0_wouldBeMisplaced 15 = .ok (.iload_n 2, 1) := by decide +kernel
theorem dX0_wouldBeMisplaced_16 : decode cX0_wouldBeMisplaced 16 = .ok (.invokestatic 139, 3) := by decide +kernel
theorem dX0_wouldBeMisplaced_19 : decode cX0_wouldBeMisplaced 19 = .ok (.istore_n 3, 1) := by decide +kernel
theorem dX0_wouldBeMisplaced_20 : decode cX0_wouldBeMisplaced 20 = .ok (.aload_n 0, 1) := by decide +kernel
theorem dX0_wouldBeMisplaced_21 : decode cX0_wouldBeMisplaced 21 = .ok (.aload_n 0, 1) := by decide +kernel
theorem dX0_wouldBeMisplaced_22 : decode cX0_wouldBeMisplaced 22 = .ok (.getfield 23, 3) := by decide +kernel
theorem dX0_wouldBeMisplaced_25 : decode cX0_wouldBeMisplaced 25 = .ok (.iload_n 1, 1) := by decide +kernel
theorem dX0_wouldBeMisplaced_26 : decode cX0_wouldBeMisplaced 26 = .ok (.iaload, 1) := by decide +kernel
theorem dX0_wouldBeMisplaced_27 : decode cX0_wouldBeMisplaced 27 = .ok (.iload_n 3, 1) := by decide +kernel
theorem dX0_wouldBeMisplaced_28 : decode cX0_wouldBeMisplaced 28 = .ok (.invokevirtual 152, 3) := by decide +kernel
theorem dX0_wouldBeMisplaced_31 : decode cX0_wouldBeMisplaced 31 = .ok (.ifCond .ne 17, 3) := by decide +kernel
theorem dX0_wouldBeMisplaced_34 : decode cX0_wouldBeMisplaced 34 = .ok (.aload_n 0, 1) := by decide +kernel
theorem dX0_wouldBeMisplaced_35 : decode cX0_wouldBeMisplaced 35 = .ok (.aload_n 0, 1) := by decide +kernel
theorem dX0_wouldBeMisplaced_36 : decode cX0_wouldBeMisplaced 36 = .ok (.getfield 26, 3) := by decide +kernel
theorem dX0_wouldBeMisplaced_39 : decode cX0_wouldBeMisplaced 39 = .ok (.iload_n 1, 1) := by decide +kernel
theorem dX0_wouldBeMisplaced_40 : decode cX0_wouldBeMisplaced 40 = .ok (.iaload, 1) := by decide +kernel
theorem dX0_wouldBeMisplaced_41 : decode cX0_wouldBeMisplaced 41 = .ok (.iload_n 3, 1) := by decide +kernel
theorem dX0_wouldBeMisplaced_42 : decode cX0_wouldBeMisplaced 42 = .ok (.invokevirtual 152, 3) := by decide +kernel
theorem dX0_wouldBeMisplaced_45 : decode cX0_wouldBeMisplaced 45 = .ok (.ifCond .eq 7, 3) := by decide +kernel
theorem dX0_wouldBeMisplaced_48 : decode cX0_wouldBeMisplaced 48 = .ok (.iconst 1, 1) := by decide +kernel
theorem dX0_wouldBeMisplaced_49 : decode cX0_wouldBeMisplaced 49 = .ok (.goto 4, 3) := by decide +kernel
theorem dX0_wouldBeMisplaced_52 : decode cX0_wouldBeMisplaced 52 = .ok (.iconst 0, 1) := by decide +kernel
theorem dX0_wouldBeMisplaced_53 : decode cX0_wouldBeMisplaced 53 = .ok (.ireturn, 1) := by decide +kernel
theorem dX0_wouldBeClean_0 : decode cX0_wouldBeClean 0 = .ok (.aload_n 0, 1) := by decide +kernel
theorem dX0_wouldBeClean_1 : decode cX0_wouldBeClean 1 = .ok (.iload_n 1, 1) := by decide +kernel
theorem dX0_wouldBeClean_2 : decode cX0_wouldBeClean 2 = .ok (.iload_n 2, 1) := by decide +kernel
theorem dX0_wouldBeClean_3 : decode cX0_wouldBeClean 3 = .ok (.invokevirtual 94, 3) := by decide +kernel
theorem dX0_wouldBeClean_6 : decode cX0_wouldBeClean 6 = .ok (.ifCond .ne 16, 3) := by decide +kernel
theorem dX0_wouldBeClean_9 : decode cX0_wouldBeClean 9 = .ok (.aload_n 0, 1) := by decide +kernel
theorem dX0_wouldBeClean_10 : decode cX0_wouldBeClean 10 = .ok (.iload_n 1, 1) := by decide +kernel
theorem dX0_wouldBeClean_11 : decode cX0_wouldBeClean 11 = .ok (.iload_n 2, 1) := by decide +kernel
theorem dX0_wouldBeClean_12 : decode cX0_wouldBeClean 12 = .ok (.invokevirtual 98, 3) := by decide +kernel
theorem dX0_wouldBeClean_15 : decode cX0_wouldBeClean 15 = .ok (.ifCond .ne 7, 3) := by decide +kernel
theorem dX0_wouldBeClean_18 : decode cX0_wouldBeClean 18 = .ok (.iconst 1, 1) := by decide +kernel
theorem dX0_wouldBeClean_19 : decode cX0_wouldBeClean 19 = .ok (.goto 4, 3) := by decide +kernel
theorem dX0_wouldBeClean_22 : decode cX0_wouldBeClean 22 = .ok (.iconst 0, 1) := by decide +kernel
theorem dX0_wouldBeClean_23 : decode cX0_wouldBeClean 23 = .ok (.ireturn, 1) := by decide +kernel
theorem dX0_leastLeaving_0 : decode cX0_leastLeaving 0 = .ok (.iconst 0, 1) := by decide +kernel
theorem dX0_leastLeaving_1 : decode cX0_leastLeaving 1 = .ok (.istore_n 1, 1) := by decide +kernel
theorem dX0_leastLeaving_2 : decode cX0_leastLeaving 2 = .ok (.iconst 0, 1) := by decide +kernel
theorem dX0_leastLeaving_3 : decode cX0_leastLeaving 3 = .ok (.istore_n 2, 1) := by decide +kernel
theorem dX0_leastLeaving_4 : decode cX0_leastLeaving 4 = .ok (.iconst 0, 1) := by decide +kernel
theorem dX0_leastLeaving_5 : decode cX0_leastLeaving 5 = .ok (.istore_n 3, 1) := by decide +kernel
theorem dX0_leastLeaving_6 : decode cX0_leastLeaving 6 = .ok (.iload_n 3, 1) := by decide +kernel
theorem dX0_leastLeaving_7 : decode cX0_leastLeaving 7 = .ok (.aload_n 0, 1) := by decide +kernel
theorem dX0_leastLeaving_8 : decode cX0_leastLeaving 8 = .ok (.getfield 35, 3) := by decide +kernel
theorem dX0_leastLeaving_11 : decode cX0_leastLeaving 11 = .ok (.if_icmp .ge 62, 3) := by decide +kernel
theorem dX0_leastLeaving_14 : decode cX0_leastLeaving 14 = .ok (.aload_n 0, 1) := by decide +kernel
theorem dX0_leastLeaving_15 : decode cX0_leastLeaving 15 = .ok (.getfield 39, 3) := by decide +kernel
theorem dX0_leastLeaving_18 : decode cX0_leastLeaving 18 = .ok (.iload_n 3, 1) := by decide +kernel
theorem dX0_leastLeaving_19 : decode cX0_leastLeaving 19 = .ok (.aload_n 0, 1) := by decide +kernel
theorem dX0_leastLeaving_20 : decode cX0_leastLeaving 20 = .ok (.iload_n 3, 1) := by decide +kernel
theorem dX0_leastLeaving_21 : decode cX0_leastLeaving 21 = .ok (.aload_n 0, 1) := by decide +kernel
theorem dX0_leastLeaving_22 : decode cX0_leastLeaving 22 = .ok (.getfield 32, 3) := by decide +kernel
theorem dX0_leastLeaving_25 : decode cX0_leastLeaving 25 = .ok (.iload_n 3, 1) := by decide +kernel
theorem dX0_leastLeaving_26 : decode cX0_leastLeaving 26 = .ok (.iaload, 1) := by decide +kernel
theorem dX0_leastLeaving_27 : decode cX0_leastLeaving 27 = .ok (.invokevirtual 98, 3) := by decide +kernel
theorem dX0_leastLeaving_30 : decode cX0_leastLeaving 30 = .ok (.iastore, 1) := by decide +kernel
theorem dX0_leastLeaving_31 : decode cX0_leastLeaving 31 = .ok (.aload_n 0, 1) := by decide +kernel
theorem dX0_leastLeaving_32 : decode cX0_leastLeaving 32 = .ok (.getfield 32, 3) := by decide +kernel
theorem dX0_leastLeaving_35 : decode cX0_leastLeaving 35 = .ok (.iload_n 3, 1) := by decide +kernel
theorem dX0_leastLeaving_36 : decode cX0_leastLeaving 36 = .ok (.iaload, 1) := by decide +kernel
theorem dX0_leastLeaving_37 : decode cX0_leastLeaving 37 = .ok (.iconst (-1), 1) := by decide +kernel
theorem dX0_leastLeaving_38 : decode cX0_leastLeaving 38 = .ok (.if_icmp .eq 9, 3) := by decide +kernel
theorem dX0_leastLeaving_41 : decode cX0_leastLeaving 41 = .ok (.iload_n 1, 1) := by decide +kernel
theorem dX0_leastLeaving_42 : decode cX0_leastLeaving 42 = .ok (.iconst 1, 1) := by decide +kernel
theorem dX0_leastLeaving_43 : decode cX0_leastLeaving 43 = .ok (.iload_n 3, 1) := by decide +kernel
theorem dX0_leastLeaving_44 : decode cX0_leastLeaving 44 = .ok (.ishl, 1) := by decide +kernel
theorem dX0_leastLeaving_45 : decode cX0_leastLeaving 45 = .ok (.ior, 1) := by decide +kernel
theorem dX0_leastLeaving_46 : decode cX0_leastLeaving 46 = .ok (.istore_n 1, 1) := by decide +kernel
theorem dX0_leastLeaving_47 : decode cX0_leastLeaving 47 = .ok (.aload_n 0, 1) := by decide +kernel
theorem dX0_leastLeaving_48 : decode cX0_leastLeaving 48 = .ok (.iload_n 3, 1) := by decide +kernel
theorem dX0_leastLeaving_49 : decode cX0_leastLeaving 49 = .ok (.aload_n 0, 1) := by decide +kernel
theorem dX0_leastLeaving_50 : decode cX0_leastLeaving 50 = .ok (.getfield 32, 3) := by decide +kernel
theorem dX0_leastLeaving_53 : decode cX0_leastLeaving 53 = .ok (.iload_n 3, 1) := by decide +kernel
theorem dX0_leastLeaving_54 : decode cX0_leastLeaving 54 = .ok (.iaload, 1) := by decide +kernel
theorem dX0_leastLeaving_55 : decode cX0_leastLeaving 55 = .ok (.invokevirtual 94, 3) := by decide +kernel
theorem dX0_leastLeaving_58 : decode cX0_leastLeaving 58 = .ok (.ifCond .eq 9, 3) := by decide +kernel
theorem dX0_leastLeaving_61 : decode cX0_leastLeaving 61 = .ok (.iload_n 2, 1) := by decide +kernel
theorem dX0_leastLeaving_62 : decode cX0_leastLeaving 62 = .ok (.iconst 1, 1) := by decide +kernel
theorem dX0_leastLeaving_63 : decode cX0_leastLeaving 63 = .ok (.iload_n 3, 1) := by decide +kernel
theorem dX0_leastLeaving_64 : decode cX0_leastLeaving 64 = .ok (.ishl, 1) := by decide +kernel
theorem dX0_leastLeaving_65 : decode cX0_leastLeaving 65 = .ok (.ior, 1) := by decide +kernel
theorem dX0_leastLeaving_66 : decode cX0_leastLeaving 66 = .ok (.istore_n 2, 1) := by decide +kernel
theorem dX0_leastLeaving_67 : decode cX0_leastLeaving 67 = .ok (.iinc 3 1, 3) := by decide +kernel
theorem dX0_leastLeaving_70 : decode cX0_leastLeaving 70 = .ok (.goto (-64), 3) := by decide +kernel
theorem dX0_leastLeaving_73 : decode cX0_leastLeaving 73 = .ok (.aload_n 0, 1) := by decide +kernel
theorem dX0_leastLeaving_74 : decode cX0_leastLeaving 74 = .ok (.getfield 39, 3) := by decide +kernel
theorem dX0_leastLeaving_77 : decode cX0_leastLeaving 77 = .ok (.aload_n 0, 1) := by decide +kernel
theorem dX0_leastLeaving_78 : decode cX0_leastLeaving 78 = .ok (.getfield 35, 3) := by decide +kernel
theorem dX0_leastLeaving_81 : decode cX0_leastLeaving 81 = .ok (.iconst 1, 1) := by decide +kernel
theorem dX0_leastLeaving_82 : decode cX0_leastLeaving 82 = .ok (.isub, 1) := by decide +kernel
theorem dX0_leastLeaving_83 : decode cX0_leastLeaving 83 = .ok (.iload_n 2, 1) := by decide +kernel
theorem dX0_leastLeaving_84 : decode cX0_leastLeaving 84 = .ok (.iload_n 1, 1) := by decide +kernel
theorem dX0_leastLeaving_85 : decode cX0_leastLeaving 85 = .ok (.invokestatic 155, 3) := by decide +kernel
theorem dX0_leastLeaving_88 : decode cX0_leastLeaving 88 = .ok (.ireturn, 1) := by decide +kernel
theorem dX0_searchLeaving_0 : decode cX0_searchLeaving 0 = .ok (.iload_n 2, 1) := by decide +kernel
theorem dX0_searchLeaving_1 : decode cX0_searchLeaving 1 = .ok (.invokestatic 108, 3) := by decide +kernel
theorem dX0_searchLeaving_4 : decode cX0_searchLeaving 4 = .ok (.iload_n 3, 1) := by decide +kernel
theorem dX0_searchLeaving_5 : decode cX0_searchLeaving 5 = .ok (.invokestatic 108, 3) := by decide +kernel
theorem dX0_searchLeaving_8 : decode cX0_searchLeaving 8 = .ok (.if_icmp .lt 5, 3) := by decide +kernel
theorem dX0_searchLeaving_11 : decode cX0_searchLeaving 11 = .ok (.iload_n 3, 1) := by decide +kernel
theorem dX0_searchLeaving_12 : decode cX0_searchLeaving 12 = .ok (.ireturn, 1) := by decide +kernel
theorem dX0_searchLeaving_13 : decode cX0_searchLeaving 13 = .ok (.iload_n 1, 1) := by decide +kernel
theorem dX0_searchLeaving_14 : decode cX0_searchLeaving 14 = .ok (.ifCond .lt 9, 3) := by decide +kernel
theorem dX0_searchLeaving_17 : decode cX0_searchLeaving 17 = .ok (.iload_n 1, 1) := by decide +kernel
theorem dX0_searchLeaving_18 : decode cX0_searchLeaving 18 = .ok (.aload_n 0, 1) := by decide +kernel
theorem dX0_searchLeaving_19 : decode cX0_searchLeaving 19 = .ok (.arraylength, 1) := by decide +kernel
theorem dX0_searchLeaving_20 : decode cX0_searchLeaving 20 = .ok (.if_icmp .lt 5, 3) := by decide +kernel
theorem dX0_searchLeaving_23 : decode cX0_searchLeaving 23 = .ok (.iload_n 2, 1) := by decide +kernel
theorem dX0_searchLeaving_24 : decode cX0_searchLeaving 24 = .ok (.ireturn, 1) := by decide +kernel
theorem dX0_searchLeaving_25 : decode cX0_searchLeaving 25 = .ok (.iconst 1, 1) := by decide +kernel
theorem dX0_searchLeaving_26 : decode cX0_searchLeaving 26 = .ok (.iload_n 1, 1) := by decide +kernel
theorem dX0_searchLeaving_27 : decode cX0_searchLeaving 27 = .ok (.ishl, 1) := by decide +kernel
theorem dX0_searchLeaving_28 : decode cX0_searchLeaving 28 = .ok (.istore 4, 2) := by decide +kernel
theorem dX0_searchLeaving_30 : decode cX0_searchLeaving 30 = .ok (.iload_n 2, 1) := by decide +kernel
theorem dX0_searchLeaving_31 : decode cX0_searchLeaving 31 = .ok (.iload 4, 2) := by decide +kernel
theorem dX0_searchLeaving_33 : decode cX0_searchLeaving 33 = .ok (.iand, 1) := by decide +kernel
theorem dX0_searchLeaving_34 : decode cX0_searchLeaving 34 = .ok (.ifCond .eq 13, 3) := by decide +kernel
theorem dX0_searchLeaving_37 : decode cX0_searchLeaving 37 = .ok (.aload_n 0, 1) := by decide +kernel
theorem dX0_searchLeaving_38 : decode cX0_searchLeaving 38 = .ok (.iload_n 1, 1) := by decide +kernel
theorem dX0_searchLeaving_39 : decode cX0_searchLeaving 39 = .ok (.iconst 1, 1) := by decide +kernel
theorem dX0_searchLeaving_40 : decode cX0_searchLeaving 40 = .ok (.isub, 1) := by decide +kernel
theorem dX0_searchLeaving_41 : decode cX0_searchLeaving 41 = .ok (.iload_n 2, 1) := by decide +kernel
theorem dX0_searchLeaving_42 : decode cX0_searchLeaving 42 = .ok (.iload_n 3, 1) := by decide +kernel
theorem dX0_searchLeaving_43 : decode cX0_searchLeaving 43 = .ok (.invokestatic 155, 3) := by decide +kernel
theorem dX0_searchLeaving_46 : decode cX0_searchLeaving 46 = .ok (.ireturn, 1) := by decide +kernel
theorem dX0_searchLeaving_47 : decode cX0_searchLeaving 47 = .ok (.aload_n 0, 1) := by decide +kernel
theorem dX0_searchLeaving_48 : decode cX0_searchLeaving 48 = .ok (.iload_n 1, 1) := by decide +kernel
theorem dX0_searchLeaving_49 : decode cX0_searchLeaving 49 = .ok (.iconst 1, 1) := by decide +kernel
theorem dX0_searchLeaving_50 : decode cX0_searchLeaving 50 = .ok (.isub, 1) := by decide +kernel
theorem dX0_searchLeaving_51 : decode cX0_searchLeaving 51 = .ok (.iload_n 2, 1) := by decide +kernel
theorem dX0_searchLeaving_52 : decode cX0_searchLeaving 52 = .ok (.aload_n 0, 1) := by decide +kernel
theorem dX0_searchLeaving_53 : decode cX0_searchLeaving 53 = .ok (.iload_n 1, 1) := by decide +kernel
theorem dX0_searchLeaving_54 : decode cX0_searchLeaving 54 = .ok (.iaload, 1) := by decide +kernel
theorem dX0_searchLeaving_55 : decode cX0_searchLeaving 55 = .ok (.ior, 1) := by decide +kernel
theorem dX0_searchLeaving_56 : decode cX0_searchLeaving 56 = .ok (.iload_n 3, 1) := by decide +kernel
theorem dX0_searchLeaving_57 : decode cX0_searchLeaving 57 = .ok (.invokestatic 155, 3) := by decide +kernel
theorem dX0_searchLeaving_60 : decode cX0_searchLeaving 60 = .ok (.istore 5, 2) := by decide +kernel
theorem dX0_searchLeaving_62 : decode cX0_searchLeaving 62 = .ok (.aload_n 0, 1) := by decide +kernel
theorem dX0_searchLeaving_63 : decode cX0_searchLeaving 63 = .ok (.iload_n 1, 1) := by decide +kernel
theorem dX0_searchLeaving_64 : decode cX0_searchLeaving 64 = .ok (.iaload, 1) := by decide +kernel
theorem dX0_searchLeaving_65 : decode cX0_searchLeaving 65 = .ok (.iload_n 2, 1) := by decide +kernel
theorem dX0_searchLeaving_66 : decode cX0_searchLeaving 66 = .ok (.iconst (-1), 1) := by decide +kernel
theorem dX0_searchLeaving_67 : decode cX0_searchLeaving 67 = .ok (.ixor, 1) := by decide +kernel
theorem dX0_searchLeaving_68 : decode cX0_searchLeaving 68 = .ok (.iand, 1) := by decide +kernel
theorem dX0_searchLeaving_69 : decode cX0_searchLeaving 69 = .ok (.ifCond .ne 6, 3) := by decide +kernel
theorem dX0_searchLeaving_72 : decode cX0_searchLeaving 72 = .ok (.iload 5, 2) := by decide +kernel
theorem dX0_searchLeaving_74 : decode cX0_searchLeaving 74 = .ok (.ireturn, 1) := by decide +kernel
theorem dX0_searchLeaving_75 : decode cX0_searchLeaving 75 = .ok (.aload_n 0, 1) := by decide +kernel
theorem dX0_searchLeaving_76 : decode cX0_searchLeaving 76 = .ok (.iload_n 1, 1) := by decide +kernel
theorem dX0_searchLeaving_77 : decode cX0_searchLeaving 77 = .ok (.iconst 1, 1) := by decide +kernel
theorem dX0_searchLeaving_78 : decode cX0_searchLeaving 78 = .ok (.isub, 1) := by decide +kernel
theorem dX0_searchLeaving_79 : decode cX0_searchLeaving 79 = .ok (.iload_n 2, 1) := by decide +kernel
theorem dX0_searchLeaving_80 : decode cX0_searchLeaving 80 = .ok (.iload 4, 2) := by decide +kernel
theorem dX0_searchLeaving_82 : decode cX0_searchLeaving 82 = .ok (.ior, 1) := by decide +kernel
theorem dX0_searchLeaving_83 : decode cX0_searchLeaving 83 = .ok (.iload 5, 2) := by decide +kernel
theorem dX0_searchLeaving_85 : decode cX0_searchLeaving 85 = .ok (.invokestatic 155, 3) := by decide +kernel
theorem dX0_searchLeaving_88 : decode cX0_searchLeaving 88 = .ok (.ireturn, 1) := by decide +kernel
end
section
set_option maxRecDepth 20000 in
theorem ggX1_isClass_X1_isIn : GoodIn wsX1_isClass wsX1_isIn := goodIn_r _ [4] (by decide +kernel) (by decide +kernel)
set_option maxRecDepth 20000 in
theorem gX1_isClass_X1_isIn : GoodIn wsX1_isClass (va_wsS RX1 42 yX1_isIn wsX1_isIn) := goodIn_app (goodIn_of _ (by decide +kernel)) ggX1_isClass_X1_isIn
set_option maxRecDepth 20000 in
theorem ggX1_isPlace_X1_isIn : GoodIn wsX1_isPlace wsX1_isIn := goodIn_r _ [4] (by decide +kernel) (by decide +kernel)
set_option maxRecDepth 20000 in
theorem gX1_isPlace_X1_isIn : GoodIn wsX1_isPlace (va_wsS RX1 42 yX1_isIn wsX1_isIn) := goodIn_app (goodIn_of _ (by decide +kernel)) ggX1_isPlace_X1_isIn
set_option maxRecDepth 20000 in
theorem ggX1_areGoods_X1_isIn : GoodIn wsX1_areGoods wsX1_isIn := goodIn_r _ [5] (by decide +kernel) (by decide +kernel)
set_option maxRecDepth 20000 in
theorem gX1_areGoods_X1_isIn : GoodIn wsX1_areGoods (va_wsS RX1 42 yX1_isIn wsX1_isIn) := goodIn_app (goodIn_of _ (by decide +kernel)) ggX1_areGoods_X1_isIn
set_option maxRecDepth 20000 in
theorem ggX1_setDistance_X1_isClass : GoodIn wsX1_setDistance wsX1_isClass := goodIn_r _ [5, 6, 7, 4, 8] (by decide +kernel) (by decide +kernel)
set_option maxRecDepth 20000 in
theorem gX1_setDistance_X1_isClass : GoodIn wsX1_setDistance (va_wsS RX1 49 yX1_isClass wsX1_isClass) := goodIn_app (goodIn_of _ (by decide +kernel)) ggX1_setDistance_X1_isClass
set_option maxRecDepth 20000 in
theorem ggX1_setDistance_X1_isIn : GoodIn wsX1_setDistance wsX1_isIn := goodIn_r _ [8] (by decide +kernel) (by decide +kernel)
set_option maxRecDepth 20000 in
theorem gX1_setDistance_X1_isIn : GoodIn wsX1_setDistance (va_wsS RX1 42 yX1_isIn wsX1_isIn) := goodIn_app (goodIn_of _ (by decide +kernel)) ggX1_setDistance_X1_isIn
set_option maxRecDepth 20000 in
theorem ggX1_setDistance_X1_goes : GoodIn wsX1_setDistance wsX1_goes := goodIn_r _ [12, 13, 14, 15, 16, 17, 18, 19, 20, 21, 22, 23, 24] (by decide +kernel) (by decide +kernel)
set_option maxRecDepth 20000 in
theorem gX1_setDistance_X1_goes : GoodIn wsX1_setDistance (wsV RX1 53 RX1 yX1_goes wsX1_goes) := goodIn_app (goodIn_of _ (by decide +kernel)) ggX1_setDistance_X1_goes
set_option maxRecDepth 20000 in
theorem ggX1_setQuantities_X1_isClass : GoodIn wsX1_setQuantities wsX1_isClass := goodIn_r _ [6, 7, 8, 5, 9] (by decide +kernel) (by decide +kernel)
set_option maxRecDepth 20000 in
theorem gX1_setQuantities_X1_isClass : GoodIn wsX1_setQuantities (va_wsS RX1 49 yX1_isClass wsX1_isClass) := goodIn_app (goodIn_of _ (by decide +kernel)) ggX1_setQuantities_X1_isClass
set_option maxRecDepth 20000 in
theorem ggX1_setQuantities_X1_isIn : GoodIn wsX1_setQuantities wsX1_isIn := goodIn_r _ [9] (by decide +kernel) (by decide +kernel)
set_option maxRecDepth 20000 in
theorem gX1_setQuantities_X1_isIn : GoodIn wsX1_setQuantities (va_wsS RX1 42 yX1_isIn wsX1_isIn) := goodIn_app (goodIn_of _ (by decide +kernel)) ggX1_setQuantities_X1_isIn
set_option maxRecDepth 20000 in
theorem ggX1_setQuantities_X1_goes : GoodIn wsX1_setQuantities wsX1_goes := goodIn_r _ [13, 14, 15, 16, 17, 18, 19, 20, 21, 22, 23, 24, 25] (by decide +kernel) (by decide +kernel)
set_option maxRecDepth 20000 in
theorem gX1_setQuantities_X1_goes : GoodIn wsX1_setQuantities (wsV RX1 53 RX1 yX1_goes wsX1_goes) := goodIn_app (goodIn_of _ (by decide +kernel)) ggX1_setQuantities_X1_goes
set_option maxRecDepth 20000 in
theorem ggX1_bar_X1_isClass : GoodIn wsX1_bar wsX1_isClass := goodIn_r _ [5, 6, 7, 4, 8] (by decide +kernel) (by decide +kernel)
set_option maxRecDepth 20000 in
theorem gX1_bar_X1_isClass : GoodIn wsX1_bar (va_wsS RX1 49 yX1_isClass wsX1_isClass) := goodIn_app (goodIn_of _ (by decide +kernel)) ggX1_bar_X1_isClass
set_option maxRecDepth 20000 in
theorem ggX1_bar_X1_isIn : GoodIn wsX1_bar wsX1_isIn := goodIn_r _ [8] (by decide +kernel) (by decide +kernel)
set_option maxRecDepth 20000 in
theorem gX1_bar_X1_isIn : GoodIn wsX1_bar (va_wsS RX1 42 yX1_isIn wsX1_isIn) := goodIn_app (goodIn_of _ (by decide +kernel)) ggX1_bar_X1_isIn
set_option maxRecDepth 20000 in
theorem ggX1_bar_X1_goes : GoodIn wsX1_bar wsX1_goes := goodIn_r _ [12, 13, 14, 15, 16, 17, 18, 19, 20, 21, 22, 23, 24] (by decide +kernel) (by decide +kernel)
set_option maxRecDepth 20000 in
theorem gX1_bar_X1_goes : GoodIn wsX1_bar (wsV RX1 53 RX1 yX1_goes wsX1_goes) := goodIn_app (goodIn_of _ (by decide +kernel)) ggX1_bar_X1_goes
set_option maxRecDepth 20000 in
theorem ggX1_distance_X1_isPlace : GoodIn wsX1_distance wsX1_isPlace := goodIn_r _ [4, 5, 6, 3, 7] (by decide +kernel) (by decide +kernel)
set_option maxRecDepth 20000 in
theorem gX1_distance_X1_isPlace : GoodIn wsX1_distance (va_wsS RX1 56 yX1_isPlace wsX1_isPlace) := goodIn_app (goodIn_of _ (by decide +kernel)) ggX1_distance_X1_isPlace
set_option maxRecDepth 20000 in
theorem ggX1_distance_X1_goes : GoodIn wsX1_distance wsX1_goes := goodIn_r _ [11, 12, 16, 17, 18, 19, 20, 21, 22, 23, 24, 25, 26] (by decide +kernel) (by decide +kernel)
set_option maxRecDepth 20000 in
theorem gX1_distance_X1_goes : GoodIn wsX1_distance (wsV RX1 53 RX1 yX1_goes wsX1_goes) := goodIn_app (goodIn_of _ (by decide +kernel)) ggX1_distance_X1_goes
set_option maxRecDepth 20000 in
theorem ggX1_distance_X1_apart : GoodIn wsX1_distance wsX1_apart := goodIn_r _ [15] (by decide +kernel) (by decide +kernel)
set_option maxRecDepth 20000 in
theorem gX1_distance_X1_apart : GoodIn wsX1_distance (va_wsS RX1 59 yX1_apart wsX1_apart) := goodIn_app (goodIn_of _ (by decide +kernel)) ggX1_distance_X1_apart
set_option maxRecDepth 20000 in
theorem ggX1_add_X1_isClass : GoodIn wsX1_add wsX1_isClass := goodIn_r _ [9, 10, 11, 8, 12] (by decide +kernel) (by decide +kernel)
set_option maxRecDepth 20000 in
theorem gX1_add_X1_isClass : GoodIn wsX1_add (va_wsS RX1 49 yX1_isClass wsX1_isClass) := goodIn_app (goodIn_of _ (by decide +kernel)) ggX1_add_X1_isClass
set_option maxRecDepth 20000 in
theorem ggX1_add_X1_isIn : GoodIn wsX1_add wsX1_isIn := goodIn_r _ [12] (by decide +kernel) (by decide +kernel)
set_option maxRecDepth 20000 in
theorem gX1_add_X1_isIn : GoodIn wsX1_add (va_wsS RX1 42 yX1_isIn wsX1_isIn) := goodIn_app (goodIn_of _ (by decide +kernel)) ggX1_add_X1_isIn
set_option maxRecDepth 20000 in
theorem ggX1_add_X1_goes : GoodIn wsX1_add wsX1_goes := goodIn_r _ [16, 17, 18, 19, 20, 21, 22, 23, 24, 25, 26, 27, 28] (by decide +kernel) (by decide +kernel)
set_option maxRecDepth 20000 in
theorem gX1_add_X1_goes : GoodIn wsX1_add (wsV RX1 53 RX1 yX1_goes wsX1_goes) := goodIn_app (goodIn_of _ (by decide +kernel)) ggX1_add_X1_goes
set_option maxRecDepth 20000 in
theorem ggX1_setQuantity_X1_areGoods : GoodIn wsX1_setQuantity wsX1_areGoods := goodIn_r _ [6, 7, 8, 9, 5, 10, 16, 17, 18, 19, 20, 21, 22, 23, 24, 25, 26] (by decide +kernel) (by decide +kernel)
set_option maxRecDepth 20000 in
theorem gX1_setQuantity_X1_areGoods : GoodIn wsX1_setQuantity (wsV RX1 63 RX1 yX1_areGoods wsX1_areGoods) := goodIn_app (goodIn_of _ (by decide +kernel)) ggX1_setQuantity_X1_areGoods
set_option maxRecDepth 20000 in
theorem ggX1_setQuantity_X1_isIn : GoodIn wsX1_setQuantity wsX1_isIn := goodIn_r _ [10] (by decide +kernel) (by decide +kernel)
set_option maxRecDepth 20000 in
theorem gX1_setQuantity_X1_isIn : GoodIn wsX1_setQuantity (va_wsS RX1 42 yX1_isIn wsX1_isIn) := goodIn_app (goodIn_of _ (by decide +kernel)) ggX1_setQuantity_X1_isIn
set_option maxRecDepth 20000 in
theorem ggX1_setQuantity_X1_goes : GoodIn wsX1_setQuantity wsX1_goes := goodIn_r _ [14, 15, 16, 17, 18, 19, 20, 21, 22, 23, 24, 25, 26] (by decide +kernel) (by decide +kernel)
set_option maxRecDepth 20000 in
theorem gX1_setQuantity_X1_goes : GoodIn wsX1_setQuantity (wsV RX1 53 RX1 yX1_goes wsX1_goes) := goodIn_app (goodIn_of _ (by decide +kernel)) ggX1_setQuantity_X1_goes
set_option maxRecDepth 20000 in
theorem ggX1_put_X1_areGoods : GoodIn wsX1_put wsX1_areGoods := goodIn_r _ [6, 7, 8, 9, 5, 10, 19, 20, 21, 22, 23, 24, 25, 26, 27, 28, 29] (by decide +kernel) (by decide +kernel)
set_option maxRecDepth 20000 in
theorem gX1_put_X1_areGoods : GoodIn wsX1_put (wsV RX1 63 RX1 yX1_areGoods wsX1_areGoods) := goodIn_app (goodIn_of _ (by decide +kernel)) ggX1_put_X1_areGoods
set_option maxRecDepth 20000 in
theorem ggX1_put_X1_isPlace : GoodIn wsX1_put wsX1_isPlace := goodIn_r _ [13, 8, 9, 5, 10] (by decide +kernel) (by decide +kernel)
end
section
set_option maxRecDepth 20000 in
theorem gX1_put_X1_isPlace : GoodIn wsX1_put (va_wsS RX1 56 yX1_isPlace wsX1_isPlace) := goodIn_app (goodIn_of _ (by decide +kernel)) ggX1_put_X1_isPlace
set_option maxRecDepth 20000 in
theorem ggX1_put_X1_goes : GoodIn wsX1_put wsX1_goes := goodIn_r _ [17, 18, 19, 20, 21, 22, 23, 24, 25, 26, 27, 28, 29] (by decide +kernel) (by decide +kernel)
set_option maxRecDepth 20000 in
theorem gX1_put_X1_goes : GoodIn wsX1_put (wsV RX1 53 RX1 yX1_goes wsX1_goes) := goodIn_app (goodIn_of _ (by decide +kernel)) ggX1_put_X1_goes
set_option maxRecDepth 20000 in
theorem ggX1_asks_X1_areGoods : GoodIn wsX1_asks wsX1_areGoods := goodIn_r _ [5, 6, 7, 8, 4, 9, 15, 16, 17, 18, 19, 20, 21, 22, 23, 24, 25] (by decide +kernel) (by decide +kernel)
set_option maxRecDepth 20000 in
theorem gX1_asks_X1_areGoods : GoodIn wsX1_asks (wsV RX1 63 RX1 yX1_areGoods wsX1_areGoods) := goodIn_app (goodIn_of _ (by decide +kernel)) ggX1_asks_X1_areGoods
set_option maxRecDepth 20000 in
theorem ggX1_asks_X1_goes : GoodIn wsX1_asks wsX1_goes := goodIn_r _ [13, 14, 15, 16, 17, 18, 19, 20, 21, 22, 23, 24, 25] (by decide +kernel) (by decide +kernel)
set_option maxRecDepth 20000 in
theorem gX1_asks_X1_goes : GoodIn wsX1_asks (wsV RX1 53 RX1 yX1_goes wsX1_goes) := goodIn_app (goodIn_of _ (by decide +kernel)) ggX1_asks_X1_goes
set_option maxRecDepth 20000 in
theorem ggX1_placeOf_X1_asks : GoodIn wsX1_placeOf wsX1_asks := goodIn_r _ [6, 7, 8, 9, 5, 10, 11, 12, 13, 14, 15, 16, 17, 18, 19, 20, 21, 22, 23, 24, 25, 26, 27, 28, 29, 30] (by decide +kernel) (by decide +kernel)
set_option maxRecDepth 20000 in
theorem gX1_placeOf_X1_asks : GoodIn wsX1_placeOf (wsV RX1 66 RX1 yX1_asks wsX1_asks) := goodIn_app (goodIn_of _ (by decide +kernel)) ggX1_placeOf_X1_asks
set_option maxRecDepth 20000 in
theorem ggX1_areExcepted_X1_isWithin : GoodIn wsX1_areExcepted wsX1_isWithin := goodIn_r _ [6, 7, 8, 9, 10, 11, 12, 13, 14, 15, 16, 17, 18, 19, 20] (by decide +kernel) (by decide +kernel)
set_option maxRecDepth 20000 in
theorem gX1_areExcepted_X1_isWithin : GoodIn wsX1_areExcepted (wsV RX1 69 RX1 yX1_isWithin wsX1_isWithin) := goodIn_app (goodIn_of _ (by decide +kernel)) ggX1_areExcepted_X1_isWithin
set_option maxRecDepth 20000 in
theorem ggX1_areLimited_X1_areExcepted : GoodIn wsX1_areLimited wsX1_areExcepted := goodIn_r _ [6, 7, 8, 9, 10, 5, 11, 12, 13, 14, 15, 16, 17, 18, 19, 20, 21, 22, 23, 24, 25] (by decide +kernel) (by decide +kernel)
set_option maxRecDepth 20000 in
theorem gX1_areLimited_X1_areExcepted : GoodIn wsX1_areLimited (wsV RX1 73 RX1 yX1_areExcepted wsX1_areExcepted) := goodIn_app (goodIn_of _ (by decide +kernel)) ggX1_areLimited_X1_areExcepted
set_option maxRecDepth 20000 in
theorem ggX1_areLimited_X1_isWithin : GoodIn wsX1_areLimited wsX1_isWithin := goodIn_r _ [11, 12, 13, 14, 15, 16, 17, 18, 19, 20, 21, 22, 23, 24, 25] (by decide +kernel) (by decide +kernel)
set_option maxRecDepth 20000 in
theorem gX1_areLimited_X1_isWithin : GoodIn wsX1_areLimited (wsV RX1 69 RX1 yX1_isWithin wsX1_isWithin) := goodIn_app (goodIn_of _ (by decide +kernel)) ggX1_areLimited_X1_isWithin
set_option maxRecDepth 20000 in
theorem ggX1_isLimited_X1_asks : GoodIn wsX1_isLimited wsX1_asks := goodIn_r _ [5, 6, 7, 8, 4, 9, 10, 11, 12, 13, 14, 15, 16, 17, 18, 36, 37, 38, 39, 40, 41, 42, 43, 44, 45, 46] (by decide +kernel) (by decide +kernel)
set_option maxRecDepth 20000 in
theorem gX1_isLimited_X1_asks : GoodIn wsX1_isLimited (wsV RX1 66 RX1 yX1_asks wsX1_asks) := goodIn_app (goodIn_of _ (by decide +kernel)) ggX1_isLimited_X1_asks
set_option maxRecDepth 20000 in
theorem ggX1_isLimited_X1_areLimited : GoodIn wsX1_isLimited wsX1_areLimited := goodIn_r _ [22, 23, 24, 25, 26, 4, 27, 28, 29, 30, 31, 32, 33, 34, 35, 36, 37, 38, 39, 40, 41, 42, 43, 44, 45, 46] (by decide +kernel) (by decide +kernel)
set_option maxRecDepth 20000 in
theorem gX1_isLimited_X1_areLimited : GoodIn wsX1_isLimited (wsV RX1 76 RX1 yX1_areLimited wsX1_areLimited) := goodIn_app (goodIn_of _ (by decide +kernel)) ggX1_isLimited_X1_areLimited
set_option maxRecDepth 20000 in
theorem ggX1_isExcepted_X1_asks : GoodIn wsX1_isExcepted wsX1_asks := goodIn_r _ [5, 6, 7, 8, 4, 9, 10, 11, 12, 13, 14, 15, 16, 17, 18, 31, 32, 33, 34, 35, 36, 37, 38, 39, 40, 41] (by decide +kernel) (by decide +kernel)
set_option maxRecDepth 20000 in
theorem gX1_isExcepted_X1_asks : GoodIn wsX1_isExcepted (wsV RX1 66 RX1 yX1_asks wsX1_asks) := goodIn_app (goodIn_of _ (by decide +kernel)) ggX1_isExcepted_X1_asks
set_option maxRecDepth 20000 in
theorem ggX1_isExcepted_X1_areExcepted : GoodIn wsX1_isExcepted wsX1_areExcepted := goodIn_r _ [22, 23, 24, 25, 26, 4, 27, 28, 29, 30, 31, 32, 33, 34, 35, 36, 37, 38, 39, 40, 41] (by decide +kernel) (by decide +kernel)
set_option maxRecDepth 20000 in
theorem gX1_isExcepted_X1_areExcepted : GoodIn wsX1_isExcepted (wsV RX1 73 RX1 yX1_areExcepted wsX1_areExcepted) := goodIn_app (goodIn_of _ (by decide +kernel)) ggX1_isExcepted_X1_areExcepted
set_option maxRecDepth 20000 in
theorem ggX1_needs_X1_ofTable : GoodIn wsX1_needs wsX1_ofTable := goodIn_r _ [7, 8, 27, 28, 29, 30, 31, 32, 33, 34, 35, 36, 37] (by decide +kernel) (by decide +kernel)
set_option maxRecDepth 20000 in
theorem gX1_needs_X1_ofTable : GoodIn wsX1_needs (wsV RX1 79 RX1 yX1_ofTable wsX1_ofTable) := goodIn_app (goodIn_of _ (by decide +kernel)) ggX1_needs_X1_ofTable
set_option maxRecDepth 20000 in
theorem ggX1_needs_X1_greater : GoodIn wsX1_needs wsX1_greater := goodIn_r _ [11] (by decide +kernel) (by decide +kernel)
set_option maxRecDepth 20000 in
theorem gX1_needs_X1_greater : GoodIn wsX1_needs (va_wsS RX1 82 yX1_greater wsX1_greater) := goodIn_app (goodIn_of _ (by decide +kernel)) ggX1_needs_X1_greater
set_option maxRecDepth 20000 in
theorem ggX1_needs_X1_areExcepted : GoodIn wsX1_needs wsX1_areExcepted := goodIn_r _ [15, 16, 17, 18, 19, 6, 20, 2, 21, 1, 27, 28, 29, 30, 31, 32, 33, 34, 35, 36, 37] (by decide +kernel) (by decide +kernel)
set_option maxRecDepth 20000 in
theorem gX1_needs_X1_areExcepted : GoodIn wsX1_needs (wsV RX1 73 RX1 yX1_areExcepted wsX1_areExcepted) := goodIn_app (goodIn_of _ (by decide +kernel)) ggX1_needs_X1_areExcepted
set_option maxRecDepth 20000 in
theorem ggX1_needs_X1_areLimited : GoodIn wsX1_needs wsX1_areLimited := goodIn_r _ [25, 26, 12, 13, 14, 6, 15, 16, 17, 18, 19, 20, 2, 21, 1, 27, 28, 29, 30, 31, 32, 33, 34, 35, 36, 37] (by decide +kernel) (by decide +kernel)
set_option maxRecDepth 20000 in
theorem gX1_needs_X1_areLimited : GoodIn wsX1_needs (wsV RX1 76 RX1 yX1_areLimited wsX1_areLimited) := goodIn_app (goodIn_of _ (by decide +kernel)) ggX1_needs_X1_areLimited
set_option maxRecDepth 20000 in
theorem ggX1_asksTwo_X1_areGoods : GoodIn wsX1_asksTwo wsX1_areGoods := goodIn_r _ [5, 6, 7, 8, 4, 9, 15, 16, 17, 18, 19, 20, 21, 22, 23, 24, 25] (by decide +kernel) (by decide +kernel)
set_option maxRecDepth 20000 in
theorem gX1_asksTwo_X1_areGoods : GoodIn wsX1_asksTwo (wsV RX1 63 RX1 yX1_areGoods wsX1_areGoods) := goodIn_app (goodIn_of _ (by decide +kernel)) ggX1_asksTwo_X1_areGoods
set_option maxRecDepth 20000 in
theorem ggX1_asksTwo_X1_goes : GoodIn wsX1_asksTwo wsX1_goes := goodIn_r _ [13, 14, 15, 16, 17, 18, 19, 20, 21, 22, 23, 24, 25] (by decide +kernel) (by decide +kernel)
set_option maxRecDepth 20000 in
theorem gX1_asksTwo_X1_goes : GoodIn wsX1_asksTwo (wsV RX1 53 RX1 yX1_goes wsX1_goes) := goodIn_app (goodIn_of _ (by decide +kernel)) ggX1_asksTwo_X1_goes
set_option maxRecDepth 20000 in
theorem ggX1_need_X1_asksTwo : GoodIn wsX1_need wsX1_asksTwo := goodIn_r _ [5, 6, 7, 8, 4, 9, 10, 11, 12, 13, 14, 15, 16, 17, 18, 48, 49, 50, 51, 52, 53, 54, 55, 56, 57, 58] (by decide +kernel) (by decide +kernel)
set_option maxRecDepth 20000 in
theorem gX1_need_X1_asksTwo : GoodIn wsX1_need (wsV RX1 85 RX1 yX1_asksTwo wsX1_asksTwo) := goodIn_app (goodIn_of _ (by decide +kernel)) ggX1_need_X1_asksTwo
set_option maxRecDepth 20000 in
theorem ggX1_need_X1_needs : GoodIn wsX1_need wsX1_needs := goodIn_r _ [22, 23, 24, 25, 26, 27, 4, 28, 29, 30, 31, 32, 33, 34, 35, 36, 37, 38, 39, 40, 41, 42, 43, 44, 45, 46, 47, 48, 49, 50, 51, 52, 53, 54, 55, 56, 57, 58] (by decide +kernel) (by decide +kernel)
set_option maxRecDepth 20000 in
theorem gX1_need_X1_needs : GoodIn wsX1_need (wsV RX1 89 RX1 yX1_needs wsX1_needs) := goodIn_app (goodIn_of _ (by decide +kernel)) ggX1_need_X1_needs
set_option maxRecDepth 20000 in
theorem ggX1_areFoes_X1_apart : GoodIn wsX1_areFoes wsX1_apart := goodIn_r _ [5] (by decide +kernel) (by decide +kernel)
set_option maxRecDepth 20000 in
theorem gX1_areFoes_X1_apart : GoodIn wsX1_areFoes (va_wsS RX1 59 yX1_apart wsX1_apart) := goodIn_app (goodIn_of _ (by decide +kernel)) ggX1_areFoes_X1_apart
set_option maxRecDepth 20000 in
theorem ggX1_areFoes_X1_needs : GoodIn wsX1_areFoes wsX1_needs := goodIn_r _ [9, 10, 11, 12, 13, 14, 4, 15, 16, 17, 18, 19, 20, 21, 22, 23, 24, 25, 26, 27, 28, 29, 30, 31, 32, 33, 34, 35, 36, 37, 38, 39, 40, 41, 42, 43, 44, 45] (by decide +kernel) (by decide +kernel)
set_option maxRecDepth 20000 in
theorem gX1_areFoes_X1_needs : GoodIn wsX1_areFoes (wsV RX1 89 RX1 yX1_needs wsX1_needs) := goodIn_app (goodIn_of _ (by decide +kernel)) ggX1_areFoes_X1_needs
set_option maxRecDepth 20000 in
theorem ggX1_areWrong_X1_areExcepted : GoodIn wsX1_areWrong wsX1_areExcepted := goodIn_r _ [8, 9, 10, 11, 12, 7, 13, 1, 14, 3, 15, 16, 17, 18, 19, 20, 21, 22, 23, 24, 25] (by decide +kernel) (by decide +kernel)
set_option maxRecDepth 20000 in
theorem gX1_areWrong_X1_areExcepted : GoodIn wsX1_areWrong (wsV RX1 73 RX1 yX1_areExcepted wsX1_areExcepted) := goodIn_app (goodIn_of _ (by decide +kernel)) ggX1_areWrong_X1_areExcepted
end
section
set_option maxRecDepth 20000 in
theorem ggX1_areInBreach_X1_asksTwo : GoodIn wsX1_areInBreach wsX1_asksTwo := goodIn_r _ [6, 7, 8, 9, 5, 10, 11, 12, 13, 14, 15, 16, 17, 18, 19, 56, 57, 58, 59, 60, 61, 62, 63, 64, 65, 66] (by decide +kernel) (by decide +kernel)
set_option maxRecDepth 20000 in
theorem gX1_areInBreach_X1_asksTwo : GoodIn wsX1_areInBreach (wsV RX1 85 RX1 yX1_asksTwo wsX1_asksTwo) := goodIn_app (goodIn_of _ (by decide +kernel)) ggX1_areInBreach_X1_asksTwo
set_option maxRecDepth 20000 in
theorem ggX1_areInBreach_X1_areFoes : GoodIn wsX1_areInBreach wsX1_areFoes := goodIn_r _ [23, 1, 24, 25, 5, 26, 27, 28, 29, 30, 31, 32, 33, 34, 35, 36, 37, 38, 39, 40, 41, 42, 43, 44, 45, 46, 47, 48, 49, 50, 51, 52, 53, 54, 55, 56, 57, 58, 59, 60, 61, 62, 63, 64, 65, 66] (by decide +kernel) (by decide +kernel)
set_option maxRecDepth 20000 in
theorem gX1_areInBreach_X1_areFoes : GoodIn wsX1_areInBreach (wsV RX1 92 RX1 yX1_areFoes wsX1_areFoes) := goodIn_app (goodIn_of _ (by decide +kernel)) ggX1_areInBreach_X1_areFoes
set_option maxRecDepth 20000 in
theorem ggX1_isMisplaced_X1_asks : GoodIn wsX1_isMisplaced wsX1_asks := goodIn_r _ [6, 7, 8, 9, 5, 10, 11, 12, 13, 14, 15, 16, 17, 18, 19, 37, 38, 39, 40, 41, 42, 43, 44, 45, 46, 47] (by decide +kernel) (by decide +kernel)
set_option maxRecDepth 20000 in
theorem gX1_isMisplaced_X1_asks : GoodIn wsX1_isMisplaced (wsV RX1 66 RX1 yX1_asks wsX1_asks) := goodIn_app (goodIn_of _ (by decide +kernel)) ggX1_isMisplaced_X1_asks
set_option maxRecDepth 20000 in
theorem ggX1_isMisplaced_X1_areWrong : GoodIn wsX1_isMisplaced wsX1_areWrong := goodIn_r _ [23, 24, 25, 26, 27, 28, 29, 5, 30, 31, 32, 33, 34, 35, 36, 37, 38, 39, 40, 41, 42, 43, 44, 45, 46, 47] (by decide +kernel) (by decide +kernel)
set_option maxRecDepth 20000 in
theorem gX1_isMisplaced_X1_areWrong : GoodIn wsX1_isMisplaced (wsV RX1 95 RX1 yX1_areWrong wsX1_areWrong) := goodIn_app (goodIn_of _ (by decide +kernel)) ggX1_isMisplaced_X1_areWrong
set_option maxRecDepth 20000 in
theorem ggX1_foesOf_X1_areFoes : GoodIn wsX1_foesOf wsX1_areFoes := goodIn_r _ [7, 2, 8, 9, 6, 10, 11, 12, 13, 14, 15, 16, 17, 18, 19, 20, 21, 22, 23, 24, 25, 26, 27, 28, 29, 30, 31, 32, 33, 34, 35, 36, 37, 38, 39, 40, 41, 42, 43, 44, 45, 46, 47, 48, 49, 50] (by decide +kernel) (by decide +kernel)
set_option maxRecDepth 20000 in
theorem gX1_foesOf_X1_areFoes : GoodIn wsX1_foesOf (wsV RX1 92 RX1 yX1_areFoes wsX1_areFoes) := goodIn_app (goodIn_of _ (by decide +kernel)) ggX1_foesOf_X1_areFoes
set_option maxRecDepth 20000 in
theorem ggX1_breaches_X1_foesOf : GoodIn wsX1_breaches wsX1_foesOf := goodIn_r _ [7, 2, 8, 9, 10, 11, 6, 12, 13, 14, 15, 16, 17, 18, 19, 20, 21, 22, 23, 24, 25, 26, 27, 28, 29, 30, 31, 32, 33, 34, 35, 36, 37, 38, 39, 40, 41, 42, 43, 44, 45, 46, 47, 48, 49, 50, 51, 52, 53, 54, 55] (by decide +kernel) (by decide +kernel)
set_option maxRecDepth 20000 in
theorem gX1_breaches_X1_foesOf : GoodIn wsX1_breaches (wsV RX1 98 RX1 yX1_foesOf wsX1_foesOf) := goodIn_app (goodIn_of _ (by decide +kernel)) ggX1_breaches_X1_foesOf
set_option maxRecDepth 20000 in
theorem ggX1_inBreachWith_X1_asks : GoodIn wsX1_inBreachWith wsX1_asks := goodIn_r _ [5, 6, 7, 8, 4, 9, 10, 11, 12, 13, 14, 15, 16, 17, 18, 60, 61, 62, 63, 64, 65, 66, 67, 68, 69, 70] (by decide +kernel) (by decide +kernel)
set_option maxRecDepth 20000 in
theorem gX1_inBreachWith_X1_asks : GoodIn wsX1_inBreachWith (wsV RX1 66 RX1 yX1_asks wsX1_asks) := goodIn_app (goodIn_of _ (by decide +kernel)) ggX1_inBreachWith_X1_asks
set_option maxRecDepth 20000 in
theorem ggX1_inBreachWith_X1_foesOf : GoodIn wsX1_inBreachWith wsX1_foesOf := goodIn_r _ [22, 10, 23, 24, 25, 26, 4, 27, 28, 29, 30, 31, 32, 33, 34, 35, 36, 37, 38, 39, 40, 41, 42, 43, 44, 45, 46, 47, 48, 49, 50, 51, 52, 53, 54, 55, 56, 57, 58, 59, 60, 61, 62, 63, 64, 65, 66, 67, 68, 69, 70] (by decide +kernel) (by decide +kernel)
set_option maxRecDepth 20000 in
theorem gX1_inBreachWith_X1_foesOf : GoodIn wsX1_inBreachWith (wsV RX1 98 RX1 yX1_foesOf wsX1_foesOf) := goodIn_app (goodIn_of _ (by decide +kernel)) ggX1_inBreachWith_X1_foesOf
set_option maxRecDepth 20000 in
theorem ggX1_wrongs_X1_areWrong : GoodIn wsX1_wrongs wsX1_areWrong := goodIn_r _ [7, 8, 9, 10, 11, 12, 13, 6, 14, 15, 16, 17, 18, 19, 20, 21, 22, 23, 24, 25, 26, 27, 28, 29, 30, 31] (by decide +kernel) (by decide +kernel)
set_option maxRecDepth 20000 in
theorem gX1_wrongs_X1_areWrong : GoodIn wsX1_wrongs (wsV RX1 95 RX1 yX1_areWrong wsX1_areWrong) := goodIn_app (goodIn_of _ (by decide +kernel)) ggX1_wrongs_X1_areWrong
set_option maxRecDepth 20000 in
theorem ggX1_laysFoes_X1_foesOf : GoodIn wsX1_laysFoes wsX1_foesOf := goodIn_r _ [7, 1, 8, 9, 10, 11, 6, 12, 13, 14, 15, 16, 17, 18, 19, 20, 21, 22, 23, 24, 25, 26, 27, 28, 29, 30, 31, 32, 33, 34, 35, 36, 37, 38, 39, 40, 41, 42, 43, 44, 45, 46, 47, 48, 49, 50, 51, 52, 53, 54, 55] (by decide +kernel) (by decide +kernel)
set_option maxRecDepth 20000 in
theorem gX1_laysFoes_X1_foesOf : GoodIn wsX1_laysFoes (wsV RX1 98 RX1 yX1_foesOf wsX1_foesOf) := goodIn_app (goodIn_of _ (by decide +kernel)) ggX1_laysFoes_X1_foesOf
set_option maxRecDepth 20000 in
theorem ggX1_isClean_X1_laysFoes : GoodIn wsX1_isClean wsX1_laysFoes := goodIn_r _ [6, 7, 8, 9, 10, 11, 5, 12, 13, 14, 15, 16, 17, 18, 19, 20, 21, 22, 23, 24, 25, 26, 27, 28, 29, 30, 31, 32, 33, 34, 35, 36, 37, 38, 39, 40, 41, 42, 43, 44, 45, 46, 47, 48, 49, 63, 64, 65, 66, 67, 68, 69, 70, 71, 72, 73] (by decide +kernel) (by decide +kernel)
set_option maxRecDepth 20000 in
theorem gX1_isClean_X1_laysFoes : GoodIn wsX1_isClean (wsV RX1 102 RX1 yX1_laysFoes wsX1_laysFoes) := goodIn_app (goodIn_of _ (by decide +kernel)) ggX1_isClean_X1_laysFoes
set_option maxRecDepth 20000 in
theorem ggX1_isClean_X1_wrongs : GoodIn wsX1_isClean wsX1_wrongs := goodIn_r _ [53, 7, 13, 54, 55, 56, 5, 57, 26, 58, 25, 35, 36, 37, 38, 39, 40, 41, 42, 43, 44, 63, 64, 65, 66, 67, 68, 69, 70, 71, 72, 73] (by decide +kernel) (by decide +kernel)
set_option maxRecDepth 20000 in
theorem gX1_isClean_X1_wrongs : GoodIn wsX1_isClean (wsV RX1 105 RX1 yX1_wrongs wsX1_wrongs) := goodIn_app (goodIn_of _ (by decide +kernel)) ggX1_isClean_X1_wrongs
set_option maxRecDepth 20000 in
theorem ggX1_isClean_X1_isCleanWithout : GoodIn wsX1_isClean wsX1_isCleanWithout := goodIn_r _ [62, 7, 8, 63, 64, 65, 66, 67, 68, 69, 70, 71, 72, 73] (by decide +kernel) (by decide +kernel)
set_option maxRecDepth 20000 in
theorem gX1_isClean_X1_isCleanWithout : GoodIn wsX1_isClean (wsV RX1 109 RX1 yX1_isCleanWithout wsX1_isCleanWithout) := goodIn_app (goodIn_of _ (by decide +kernel)) ggX1_isClean_X1_isCleanWithout
set_option maxRecDepth 20000 in
theorem ggX1_isGood_X1_areWrong : GoodIn wsX1_isGood wsX1_areWrong := goodIn_r _ [6, 7, 8, 9, 10, 11, 12, 5, 13, 14, 15, 16, 17, 18, 19, 45, 46, 47, 48, 49, 50, 51, 52, 53, 54, 55] (by decide +kernel) (by decide +kernel)
set_option maxRecDepth 20000 in
theorem gX1_isGood_X1_areWrong : GoodIn wsX1_isGood (wsV RX1 95 RX1 yX1_areWrong wsX1_areWrong) := goodIn_app (goodIn_of _ (by decide +kernel)) ggX1_isGood_X1_areWrong
set_option maxRecDepth 20000 in
theorem ggX1_isGood_X1_areFoes : GoodIn wsX1_isGood wsX1_areFoes := goodIn_r _ [23, 24, 25, 26, 5, 27, 28, 29, 30, 31, 9, 7, 32, 33, 34, 35, 36, 37, 38, 39, 10, 11, 12, 13, 14, 15, 16, 17, 18, 19, 40, 41, 42, 43, 44, 45, 46, 47, 48, 49, 50, 51, 52, 53, 54, 55] (by decide +kernel) (by decide +kernel)
set_option maxRecDepth 20000 in
theorem gX1_isGood_X1_areFoes : GoodIn wsX1_isGood (wsV RX1 92 RX1 yX1_areFoes wsX1_areFoes) := goodIn_app (goodIn_of _ (by decide +kernel)) ggX1_isGood_X1_areFoes
set_option maxRecDepth 20000 in
theorem ggX1_canPut_X1_areGoods : GoodIn wsX1_canPut wsX1_areGoods := goodIn_r _ [5, 6, 7, 8, 4, 9, 64, 65, 66, 67, 68, 69, 70, 71, 72, 73, 74] (by decide +kernel) (by decide +kernel)
set_option maxRecDepth 20000 in
theorem gX1_canPut_X1_areGoods : GoodIn wsX1_canPut (wsV RX1 63 RX1 yX1_areGoods wsX1_areGoods) := goodIn_app (goodIn_of _ (by decide +kernel)) ggX1_canPut_X1_areGoods
set_option maxRecDepth 20000 in
theorem ggX1_canPut_X1_isPlace : GoodIn wsX1_canPut wsX1_isPlace := goodIn_r _ [12, 7, 8, 4, 9] (by decide +kernel) (by decide +kernel)
set_option maxRecDepth 20000 in
theorem gX1_canPut_X1_isPlace : GoodIn wsX1_canPut (va_wsS RX1 56 yX1_isPlace wsX1_isPlace) := goodIn_app (goodIn_of _ (by decide +kernel)) ggX1_canPut_X1_isPlace
set_option maxRecDepth 20000 in
theorem ggX1_canPut_X1_goes : GoodIn wsX1_canPut wsX1_goes := goodIn_r _ [16, 17, 64, 65, 66, 67, 68, 69, 70, 71, 72, 73, 74] (by decide +kernel) (by decide +kernel)
set_option maxRecDepth 20000 in
theorem gX1_canPut_X1_goes : GoodIn wsX1_canPut (wsV RX1 53 RX1 yX1_goes wsX1_goes) := goodIn_app (goodIn_of _ (by decide +kernel)) ggX1_canPut_X1_goes
set_option maxRecDepth 20000 in
theorem ggX1_canPut_X1_isGood : GoodIn wsX1_canPut wsX1_isGood := goodIn_r _ [21, 6, 22, 23, 24, 4, 25, 26, 27, 28, 29, 30, 31, 32, 33, 34, 35, 36, 37, 38, 39, 40, 41, 42, 43, 44, 45, 46, 47, 48, 49, 50, 51, 52, 53, 54, 55, 56, 57, 58, 59, 60, 61, 62, 63, 64, 65, 66, 67, 68, 69, 70, 71, 72, 73, 74] (by decide +kernel) (by decide +kernel)
set_option maxRecDepth 20000 in
theorem gX1_canPut_X1_isGood : GoodIn wsX1_canPut (wsV RX1 112 RX1 yX1_isGood wsX1_isGood) := goodIn_app (goodIn_of _ (by decide +kernel)) ggX1_canPut_X1_isGood
set_option maxRecDepth 20000 in
theorem ggX1_placeFor_X1_asks : GoodIn wsX1_placeFor wsX1_asks := goodIn_r _ [5, 6, 7, 8, 4, 9, 10, 11, 12, 13, 14, 15, 16, 17, 18, 65, 66, 67, 68, 69, 70, 71, 72, 73, 74, 75] (by decide +kernel) (by decide +kernel)
set_option maxRecDepth 20000 in
theorem gX1_placeFor_X1_asks : GoodIn wsX1_placeFor (wsV RX1 66 RX1 yX1_asks wsX1_asks) := goodIn_app (goodIn_of _ (by decide +kernel)) ggX1_placeFor_X1_asks
set_option maxRecDepth 20000 in
theorem ggX1_placeFor_X1_isGood : GoodIn wsX1_placeFor wsX1_isGood := goodIn_r _ [22, 10, 23, 24, 25, 4, 26, 27, 28, 29, 30, 31, 32, 33, 34, 35, 36, 37, 38, 39, 40, 41, 42, 43, 44, 45, 46, 47, 48, 49, 50, 51, 52, 53, 54, 55, 56, 57, 58, 59, 60, 61, 62, 63, 64, 65, 66, 67, 68, 69, 70, 71, 72, 73, 74, 75] (by decide +kernel) (by decide +kernel)
set_option maxRecDepth 20000 in
theorem gX1_placeFor_X1_isGood : GoodIn wsX1_placeFor (wsV RX1 112 RX1 yX1_isGood wsX1_isGood) := goodIn_app (goodIn_of _ (by decide +kernel)) ggX1_placeFor_X1_isGood
set_option maxRecDepth 20000 in
theorem ggX1_least_X1_laysFoes : GoodIn wsX1_least wsX1_laysFoes := goodIn_r _ [7, 1, 8, 9, 10, 11, 6, 12, 2, 13, 14, 15, 16, 17, 18, 19, 20, 21, 22, 23, 24, 25, 26, 27, 28, 29, 30, 31, 32, 33, 34, 35, 36, 37, 38, 39, 40, 41, 42, 43, 44, 45, 46, 47, 48, 65, 66, 67, 68, 69, 70, 71, 72, 73, 74, 75] (by decide +kernel) (by decide +kernel)
set_option maxRecDepth 20000 in
theorem gX1_least_X1_laysFoes : GoodIn wsX1_least (wsV RX1 102 RX1 yX1_laysFoes wsX1_laysFoes) := goodIn_app (goodIn_of _ (by decide +kernel)) ggX1_least_X1_laysFoes
set_option maxRecDepth 20000 in
theorem ggX1_least_X1_wrongs : GoodIn wsX1_least wsX1_wrongs := goodIn_r _ [52, 1, 2, 53, 54, 55, 6, 56, 25, 57, 24, 34, 35, 36, 37, 38, 39, 40, 41, 42, 43, 65, 66, 67, 68, 69, 70, 71, 72, 73, 74, 75] (by decide +kernel) (by decide +kernel)
end
section
set_option maxRecDepth 20000 in
theorem gX1_least_X1_wrongs : GoodIn wsX1_least (wsV RX1 105 RX1 yX1_wrongs wsX1_wrongs) := goodIn_app (goodIn_of _ (by decide +kernel)) ggX1_least_X1_wrongs
set_option maxRecDepth 20000 in
theorem ggX1_least_X1_count : GoodIn wsX1_least wsX1_count := goodIn_r _ [60] (by decide +kernel) (by decide +kernel)
set_option maxRecDepth 20000 in
theorem gX1_least_X1_count : GoodIn wsX1_least (va_wsS RX1 115 yX1_count wsX1_count) := goodIn_app (goodIn_of _ (by decide +kernel)) ggX1_least_X1_count
set_option maxRecDepth 20000 in
theorem ggX1_least_X1_isCleanWithout : GoodIn wsX1_least wsX1_isCleanWithout := goodIn_r _ [64, 1, 8, 65, 66, 67, 68, 69, 70, 71, 72, 73, 74, 75] (by decide +kernel) (by decide +kernel)
set_option maxRecDepth 20000 in
theorem gX1_least_X1_isCleanWithout : GoodIn wsX1_least (wsV RX1 109 RX1 yX1_isCleanWithout wsX1_isCleanWithout) := goodIn_app (goodIn_of _ (by decide +kernel)) ggX1_least_X1_isCleanWithout
set_option maxRecDepth 20000 in
theorem ggX1_fewest_X1_least : GoodIn wsX1_fewest wsX1_least := goodIn_r _ [6, 7, 8, 9, 10, 11, 5, 12, 13, 14, 15, 16, 17, 18, 19, 20, 21, 22, 23, 24, 25, 26, 27, 28, 29, 30, 31, 32, 33, 34, 35, 36, 37, 38, 39, 40, 41, 42, 43, 44, 45, 46, 47, 48, 49, 50, 51, 52, 53, 54, 55, 56, 57, 58, 59, 60, 61, 62, 63, 64, 65, 66, 67, 68, 69, 70, 71, 72, 73, 74, 75, 76, 77, 78, 79, 80] (by decide +kernel) (by decide +kernel)
set_option maxRecDepth 20000 in
theorem gX1_fewest_X1_least : GoodIn wsX1_fewest (wsV RX1 118 RX1 yX1_least wsX1_least) := goodIn_app (goodIn_of _ (by decide +kernel)) ggX1_fewest_X1_least
set_option maxRecDepth 20000 in
theorem ggX1_fewest_X1_count : GoodIn wsX1_fewest wsX1_count := goodIn_r _ [65] (by decide +kernel) (by decide +kernel)
set_option maxRecDepth 20000 in
theorem gX1_fewest_X1_count : GoodIn wsX1_fewest (va_wsS RX1 115 yX1_count wsX1_count) := goodIn_app (goodIn_of _ (by decide +kernel)) ggX1_fewest_X1_count
set_option maxRecDepth 20000 in
theorem ggX1_leaving_X1_least : GoodIn wsX1_leaving wsX1_least := goodIn_r _ [6, 7, 8, 9, 10, 11, 5, 12, 13, 14, 15, 16, 17, 18, 19, 20, 21, 22, 23, 24, 25, 26, 27, 28, 29, 30, 31, 32, 33, 34, 35, 36, 37, 38, 39, 40, 41, 42, 43, 44, 45, 46, 47, 48, 49, 50, 51, 52, 53, 54, 55, 56, 57, 58, 59, 60, 61, 62, 63, 64, 65, 66, 67, 68, 69, 70, 71, 72, 73, 74, 75, 76, 77, 78, 79, 80] (by decide +kernel) (by decide +kernel)
set_option maxRecDepth 20000 in
theorem gX1_leaving_X1_least : GoodIn wsX1_leaving (wsV RX1 118 RX1 yX1_least wsX1_least) := goodIn_app (goodIn_of _ (by decide +kernel)) ggX1_leaving_X1_least
end
section
theorem dX1_init_0 : decode cX1_init 0 = .ok (.aload_n 0, 1) := by decide +kernel
theorem dX1_init_1 : decode cX1_init 1 = .ok (.invokespecial 1, 3) := by decide +kernel
theorem dX1_init_4 : decode cX1_init 4 = .ok (.aload_n 0, 1) := by decide +kernel
theorem dX1_init_5 : decode cX1_init 5 = .ok (.bipush 100, 2) := by decide +kernel
theorem dX1_init_7 : decode cX1_init 7 = .ok (.newarray .int, 2) := by decide +kernel
theorem dX1_init_9 : decode cX1_init 9 = .ok (.putfield 7, 3) := by decide +kernel
theorem dX1_init_12 : decode cX1_init 12 = .ok (.aload_n 0, 1) := by decide +kernel
theorem dX1_init_13 : decode cX1_init 13 = .ok (.bipush 10, 2) := by decide +kernel
theorem dX1_init_15 : decode cX1_init 15 = .ok (.newarray .int, 2) := by decide +kernel
theorem dX1_init_17 : decode cX1_init 17 = .ok (.putfield 13, 3) := by decide +kernel
theorem dX1_init_20 : decode cX1_init 20 = .ok (.aload_n 0, 1) := by decide +kernel
theorem dX1_init_21 : decode cX1_init 21 = .ok (.bipush 10, 2) := by decide +kernel
theorem dX1_init_23 : decode cX1_init 23 = .ok (.newarray .int, 2) := by decide +kernel
theorem dX1_init_25 : decode cX1_init 25 = .ok (.putfield 16, 3) := by decide +kernel
theorem dX1_init_28 : decode cX1_init 28 = .ok (.aload_n 0, 1) := by decide +kernel
theorem dX1_init_29 : decode cX1_init 29 = .ok (.bipush 20, 2) := by decide +kernel
theorem dX1_init_31 : decode cX1_init 31 = .ok (.newarray .boolean, 2) := by decide +kernel
theorem dX1_init_33 : decode cX1_init 33 = .ok (.putfield 19, 3) := by decide +kernel
theorem dX1_init_36 : decode cX1_init 36 = .ok (.aload_n 0, 1) := by decide +kernel
theorem dX1_init_37 : decode cX1_init 37 = .ok (.bipush 16, 2) := by decide +kernel
theorem dX1_init_39 : decode cX1_init 39 = .ok (.newarray .int, 2) := by decide +kernel
theorem dX1_init_41 : decode cX1_init 41 = .ok (.putfield 23, 3) := by decide +kernel
theorem dX1_init_44 : decode cX1_init 44 = .ok (.aload_n 0, 1) := by decide +kernel
theorem dX1_init_45 : decode cX1_init 45 = .ok (.bipush 16, 2) := by decide +kernel
theorem dX1_init_47 : decode cX1_init 47 = .ok (.newarray .int, 2) := by decide +kernel
theorem dX1_init_49 : decode cX1_init 49 = .ok (.putfield 26, 3) := by decide +kernel
theorem dX1_init_52 : decode cX1_init 52 = .ok (.aload_n 0, 1) := by decide +kernel
theorem dX1_init_53 : decode cX1_init 53 = .ok (.bipush 16, 2) := by decide +kernel
theorem dX1_init_55 : decode cX1_init 55 = .ok (.newarray .int, 2) := by decide +kernel
theorem dX1_init_57 : decode cX1_init 57 = .ok (.putfield 29, 3) := by decide +kernel
theorem dX1_init_60 : decode cX1_init 60 = .ok (.aload_n 0, 1) := by decide +kernel
theorem dX1_init_61 : decode cX1_init 61 = .ok (.bipush 16, 2) := by decide +kernel
theorem dX1_init_63 : decode cX1_init 63 = .ok (.newarray .int, 2) := by decide +kernel
theorem dX1_init_65 : decode cX1_init 65 = .ok (.putfield 32, 3) := by decide +kernel
theorem dX1_init_68 : decode cX1_init 68 = .ok (.aload_n 0, 1) := by decide +kernel
theorem dX1_init_69 : decode cX1_init 69 = .ok (.bipush 16, 2) := by decide +kernel
theorem dX1_init_71 : decode cX1_init 71 = .ok (.newarray .int, 2) := by decide +kernel
theorem dX1_init_73 : decode cX1_init 73 = .ok (.putfield 35, 3) := by decide +kernel
theorem dX1_init_76 : decode cX1_init 76 = .ok (.return_, 1) := by decide +kernel
theorem dX1_thrown_0 : decode cX1_thrown 0 = .ok (.aload_n 0, 1) := by decide +kernel
theorem dX1_thrown_1 : decode cX1_thrown 1 = .ok (.getfield 38, 3) := by decide +kernel
theorem dX1_thrown_4 : decode cX1_thrown 4 = .ok (.ireturn, 1) := by decide +kernel
theorem dX1_goes_0 : decode cX1_goes 0 = .ok (.aload_n 0, 1) := by decide +kernel
theorem dX1_goes_1 : decode cX1_goes 1 = .ok (.iload_n 1, 1) := by decide +kernel
theorem dX1_goes_2 : decode cX1_goes 2 = .ok (.putfield 38, 3) := by decide +kernel
theorem dX1_goes_5 : decode cX1_goes 5 = .ok (.iload_n 1, 1) := by decide +kernel
theorem dX1_goes_6 : decode cX1_goes 6 = .ok (.ifCond .ne 7, 3) := by decide +kernel
theorem dX1_goes_9 : decode cX1_goes 9 = .ok (.iconst 1, 1) := by decide +kernel
theorem dX1_goes_10 : decode cX1_goes 10 = .ok (.goto 4, 3) := by decide +kernel
theorem dX1_goes_13 : decode cX1_goes 13 = .ok (.iconst 0, 1) := by decide +kernel
theorem dX1_goes_14 : decode cX1_goes 14 = .ok (.ireturn, 1) := by decide +kernel
theorem dX1_isIn_0 : decode cX1_isIn 0 = .ok (.iload_n 0, 1) := by decide +kernel
theorem dX1_isIn_1 : decode cX1_isIn 1 = .ok (.iload_n 1, 1) := by decide +kernel
theorem dX1_isIn_2 : decode cX1_isIn 2 = .ok (.if_icmp .lt 12, 3) := by decide +kernel
theorem dX1_isIn_5 : decode cX1_isIn 5 = .ok (.iload_n 0, 1) := by decide +kernel
theorem dX1_isIn_6 : decode cX1_isIn 6 = .ok (.iload_n 2, 1) := by decide +kernel
theorem dX1_isIn_7 : decode cX1_isIn 7 = .ok (.if_icmp .gt 7, 3) := by decide +kernel
theorem dX1_isIn_10 : decode cX1_isIn 10 = .ok (.iconst 1, 1) := by decide +kernel
theorem dX1_isIn_11 : decode cX1_isIn 11 = .ok (.goto 4, 3) := by decide +kernel
theorem dX1_isIn_14 : decode cX1_isIn 14 = .ok (.iconst 0, 1) := by decide +kernel
theorem dX1_isIn_15 : decode cX1_isIn 15 = .ok (.ireturn, 1) := by decide +kernel
theorem dX1_isClass_0 : decode cX1_isClass 0 = .ok (.iload_n 0, 1) := by decide +kernel
theorem dX1_isClass_1 : decode cX1_isClass 1 = .ok (.iconst 1, 1) := by decide +kernel
theorem dX1_isClass_2 : decode cX1_isClass 2 = .ok (.bipush 9, 2) := by decide +kernel
theorem dX1_isClass_4 : decode cX1_isClass 4 = .ok (.invokestatic 42, 3) := by decide +kernel
theorem dX1_isClass_7 : decode cX1_isClass 7 = .ok (.ireturn, 1) := by decide +kernel
theorem dX1_isPlace_0 : decode cX1_isPlace 0 = .ok (.iload_n 0, 1) := by decide +kernel
theorem dX1_isPlace_1 : decode cX1_isPlace 1 = .ok (.iconst 0, 1) := by decide +kernel
theorem dX1_isPlace_2 : decode cX1_isPlace 2 = .ok (.bipush 47, 2) := by decide +kernel
theorem dX1_isPlace_4 : decode cX1_isPlace 4 = .ok (.invokestatic 42, 3) := by decide +kernel
theorem dX1_isPlace_7 : decode cX1_isPlace 7 = .ok (.ireturn, 1) := by decide +kernel
theorem dX1_areGoods_0 : decode cX1_areGoods 0 = .ok (.iload_n 1, 1) := by decide +kernel
theorem dX1_areGoods_1 : decode cX1_areGoods 1 = .ok (.iconst 0, 1) := by decide +kernel
theorem dX1_areGoods_2 : decode cX1_areGoods 2 = .ok (.aload_n 0, 1) := by decide +kernel
theorem dX1_areGoods_3 : decode cX1_areGoods 3 = .ok (.getfield 46, 3) := by decide +kernel
theorem dX1_areGoods_6 : decode cX1_areGoods 6 = .ok (.iconst 1, 1) := by decide +kernel
theorem dX1_areGoods_7 : decode cX1_areGoods 7 = .ok (.isub, 1) := by decide +kernel
theorem dX1_areGoods_8 : decode cX1_areGoods 8 = .ok (.invokestatic 42, 3) := by decide +kernel
theorem dX1_areGoods_11 : decode cX1_areGoods 11 = .ok (.ireturn, 1) := by decide +kernel
theorem dX1_setDistance_0 : decode cX1_setDistance 0 = .ok (.aload_n 0, 1) := by decide +kernel
theorem dX1_setDistance_1 : decode cX1_setDistance 1 = .ok (.iload_n 1, 1) := by decide +kernel
theorem dX1_setDistance_2 : decode cX1_setDistance 2 = .ok (.invokestatic 49, 3) := by decide +kernel
theorem dX1_setDistance_5 : decode cX1_setDistance 5 = .ok (.ifCond .eq 23, 3) := by decide +kernel
theorem dX1_setDistance_8 : decode cX1_setDistance 8 = .ok (.iload_n 2, 1) := by decide +kernel
theorem dX1_setDistance_9 : decode cX1_setDistance 9 = .ok (.invokestatic 49, 3) := by decide +kernel
theorem dX1_setDistance_12 : decode cX1_setDistance 12 = .ok (.ifCond .eq 16, 3) := by decide +kernel
theorem dX1_setDistance_15 : decode cX1_setDistance 15 = .ok (.iload_n 3, 1) := by decide +kernel
theorem dX1_setDistance_16 : decode cX1_setDistance 16 = .ok (.iconst 0, 1) := by decide +kernel
theorem dX1_setDistance_17 : decode cX1_setDistance 17 = .ok (.iconst 4, 1) := by decide +kernel
theorem dX1_setDistance_18 : decode cX1_setDistance 18 = .ok (.invokestatic 42, 3) := by decide +kernel
theorem dX1_setDistance_21 : decode cX1_setDistance 21 = .ok (.ifCond .eq 7, 3) := by decide +kernel
theorem dX1_setDistance_24 : decode cX1_setDistance 24 = .ok (.iconst 0, 1) := by decide +kernel
theorem dX1_setDistance_25 : decode cX1_setDistance 25 = .ok (.goto 4, 3) := by decide +kernel
theorem dX1_setDistance_28 : decode cX1_setDistance 28 = .ok (.iconst 1, 1) := by decide +kernel
theorem dX1_setDistance_29 : decode cX1_setDistance 29 = .ok (.invokevirtual 53, 3) := by decide +kernel
theorem dX1_setDistance_32 : decode cX1_setDistance 32 = .ok (.ifCond .ne 5, 3) := by decide +kernel
theorem dX1_setDistance_35 : decode cX1_setDistance 35 = .ok (.iconst 0, 1) := by decide +kernel
theorem dX1_setDistance_36 : decode cX1_setDistance 36 = .ok (.ireturn, 1) := by decide +kernel
theorem dX1_setDistance_37 : decode cX1_setDistance 37 = .ok (.aload_n 0, 1) := by decide +kernel
theorem dX1_setDistance_38 : decode cX1_setDistance 38 = .ok (.getfield 7, 3) := by decide +kernel
theorem dX1_setDistance_41 : decode cX1_setDistance 41 = .ok (.bipush 10, 2) := by decide +kernel
theorem dX1_setDistance_43 : decode cX1_setDistance 43 = .ok (.iload_n 1, 1) := by decide +kernel
theorem dX1_setDistance_44 : decode cX1_setDistance 44 = .ok (.imul, 1) := by decide +kernel
theorem dX1_setDistance_45 : decode cX1_setDistance 45 = .ok (.iload_n 2, 1) := by decide +kernel
theorem dX1_setDistance_46 : decode cX1_setDistance 46 = .ok (.iadd, 1) := by decide +kernel
theorem dX1_setDistance_47 : decode cX1_setDistance 47 = .ok (.iaload, 1) := by decide +kernel
theorem dX1_setDistance_48 : decode cX1_setDistance 48 = .ok (.istore 4, 2) := by decide +kernel
theorem dX1_setDistance_50 : decode cX1_setDistance 50 = .ok (.aload_n 0, 1) := by decide +kernel
theorem dX1_setDistance_51 : decode cX1_setDistance 51 = .ok (.getfield 7, 3) := by decide +kernel
theorem dX1_setDistance_54 : decode cX1_setDistance 54 = .ok (.bipush 10, 2) := by decide +kernel
theorem dX1_setDistance_56 : decode cX1_setDistance 56 = .ok (.iload_n 1, 1) := by decide +kernel
theorem dX1_setDistance_57 : decode cX1_setDistance 57 = .ok (.imul, 1) := by decide +kernel
theorem dX1_setDistance_58 : decode cX1_setDistance 58 = .ok (.iload_n 2, 1) := by decide +kernel
theorem dX1_setDistance_59 : decode cX1_setDistance 59 = .ok (.iadd, 1) := by decide +kernel
theorem dX1_setDistance_60 : decode cX1_setDistance 60 = .ok (.iload_n 3, 1) := by decide +kernel
theorem dX1_setDistance_61 : decode cX1_setDistance 61 = .ok (.iastore, 1) := by decide +kernel
theorem dX1_setDistance_62 : decode cX1_setDistance 62 = .ok (.aload_n 0, 1) := by decide +kernel
theorem dX1_setDistance_63 : decode cX1_setDistance 63 = .ok (.getfield 7, 3) := by decide +kernel
theorem dX1_setDistance_66 : decode cX1_setDistance 66 = .ok (.bipush 10, 2) := by decide +kernel
theorem dX1_setDistance_68 : decode cX1_setDistance 68 = .ok (.iload_n 2, 1) := by decide +kernel
theorem dX1_setDistance_69 : decode cX1_setDistance 69 = .ok (.imul, 1) := by decide +kernel
theorem dX1_setDistance_70 : decode cX1_setDistance 70 = .ok (.iload_n 1, 1) := by decide +kernel
theorem dX1_setDistance_71 : decode cX1_setDistance 71 = .ok (.iadd, 1) := by decide +kernel
theorem dX1_setDistance_72 : decode cX1_setDistance 72 = .ok (.iload_n 3, 1) := by decide +kernel
theorem dX1_setDistance_73 : decode cX1_setDistance 73 = .ok (.iastore, 1) := by decide +kernel
theorem dX1_setDistance_74 : decode cX1_setDistance 74 = .ok (.iload 4, 2) := by decide +kernel
theorem dX1_setDistance_76 : decode cX1_setDistance 76 = .ok (.ireturn, 1) := by decide +kernel
theorem dX1_setQuantities_0 : decode cX1_setQuantities 0 = .ok (.aload_n 0, 1) := by decide +kernel
theorem dX1_setQuantities_1 : decode cX1_setQuantities 1 = .ok (.iload_n 1, 1) := by decide +kernel
theorem dX1_setQuantities_2 : decode cX1_setQuantities 2 = .ok (.invokestatic 49, 3) := by decide +kernel
theorem dX1_setQuantities_5 : decode cX1_setQuantities 5 = .ok (.ifCond .eq 27, 3) := by decide +kernel
theorem dX1_setQuantities_8 : decode cX1_setQuantities 8 = .ok (.iload_n 2, 1) := by decide +kernel
theorem dX1_setQuantities_9 : decode cX1_setQuantities 9 = .ok (.iconst 0, 1) := by decide +kernel
theorem dX1_setQuantities_10 : decode cX1_setQuantities 10 = .ok (.sipush 10000, 3) := by decide +kernel
theorem dX1_setQuantities_13 : decode cX1_setQuantities 13 = .ok (.invokestatic 42, 3) := by decide +kernel
theorem dX1_setQuantities_16 : decode cX1_setQuantities 16 = .ok (.ifCond .eq 16, 3) := by decide +kernel
theorem dX1_setQuantities_19 : decode cX1_setQuantities 19 = .ok (.iload_n 3, 1) := by decide +kernel
theorem dX1_setQuantities_20 : decode cX1_setQuantities 20 = .ok (.iconst 0, 1) := by decide +kernel
theorem dX1_setQuantities_21 : decode cX1_setQuantities 21 = .ok (.iload_n 2, 1) := by decide +kernel
theorem dX1_setQuantities_22 : decode cX1_setQuantities 22 = .ok (.invokestatic 42, 3) := by decide +kernel
theorem dX1_setQuantities_25 : decode cX1_setQuantities 25 = .ok (.ifCond .eq 7, 3) := by decide +kernel
theorem dX1_setQuantities_28 : decode cX1_setQuantities 28 = .ok (.iconst 0, 1) := by decide +kernel
theorem dX1_setQuantities_29 : decode cX1_setQuantities 29 = .ok (.goto 4, 3) := by decide +kernel
theorem dX1_setQuantities_32 : decode cX1_setQuantities 32 = .ok (.iconst 1, 1) := by decide +kernel
theorem dX1_setQuantities_33 : decode cX1_setQuantities 33 = .ok (.invokevirtual 53, 3) := by decide +kernel
theorem dX1_setQuantities_36 : decode cX1_setQuantities 36 = .ok (.ifCond .eq 17, 3) := by decide +kernel
theorem dX1_setQuantities_39 : decode cX1_setQuantities 39 = .ok (.aload_n 0, 1) := by decide +kernel
theorem dX1_setQuantities_40 : decode cX1_setQuantities 40 = .ok (.getfield 13, 3) := by decide +kernel
theorem dX1_setQuantities_43 : decode cX1_setQuantities 43 = .ok (.iload_n 1, 1) := by decide +kernel
theorem dX1_setQuantities_44 : decode cX1_setQuantities 44 = .ok (.iload_n 2, 1) := by decide +kernel
theorem dX1_setQuantities_45 : decode cX1_setQuantities 45 = .ok (.iastore, 1) := by decide +kernel
theorem dX1_setQuantities_46 : decode cX1_setQuantities 46 = .ok (.aload_n 0, 1) := by decide +kernel
theorem dX1_setQuantities_47 : decode cX1_setQuantities 47 = .ok (.getfield 16, 3) := by decide +kernel
theorem dX1_setQuantities_50 : decode cX1_setQuantities 50 = .ok (.iload_n 1, 1) := by decide +kernel
theorem dX1_setQuantities_51 : decode cX1_setQuantities 51 = .ok (.iload_n 3, 1) := by decide +kernel
theorem dX1_setQuantities_52 : decode cX1_setQuantities 52 = .ok (.iastore, 1) := by decide +kernel
theorem dX1_setQuantities_53 : decode cX1_setQuantities 53 = .ok (.return_, 1) := by decide +kernel
theorem dX1_bar_0 : decode cX1_bar 0 = .ok (.aload_n 0, 1) := by decide +kernel
theorem dX1_bar_1 : decode cX1_bar 1 = .ok (.iload_n 1, 1) := by decide +kernel
theorem dX1_bar_2 : decode cX1_bar 2 = .ok (.invokestatic 49, 3) := by decide +kernel
theorem dX1_bar_5 : decode cX1_bar 5 = .ok (.ifCond .eq 16, 3) := by decide +kernel
theorem dX1_bar_8 : decode cX1_bar 8 = .ok (.iload_n 2, 1) := by decide +kernel
theorem dX1_bar_9 : decode cX1_bar 9 = .ok (.iconst 0, 1) := by decide +kernel
theorem dX1_bar_10 : decode cX1_bar 10 = .ok (.iconst 1, 1) := by decide +kernel
theorem dX1_bar_11 : decode cX1_bar 11 = .ok (.invokestatic 42, 3) := by decide +kernel
theorem dX1_bar_14 : decode cX1_bar 14 = .ok (.ifCond .eq 7, 3) := by decide +kernel
theorem dX1_bar_17 : decode cX1_bar 17 = .ok (.iconst 0, 1) := by decide +kernel
theorem dX1_bar_18 : decode cX1_bar 18 = .ok (.goto 4, 3) := by decide +kernel
theorem dX1_bar_21 : decode cX1_bar 21 = .ok (.iconst 1, 1) := by decide +kernel
theorem dX1_bar_22 : decode cX1_bar 22 = .ok (.invokevirtual 53, 3) := by decide +kernel
theorem dX1_bar_25 : decode cX1_bar 25 = .ok (.ifCond .ne 5, 3) := by decide +kernel
theorem dX1_bar_28 : decode cX1_bar 28 = .ok (.iconst 0, 1) := by decide +kernel
theorem dX1_bar_29 : decode cX1_bar 29 = .ok (.ireturn, 1) := by decide +kernel
theorem dX1_bar_30 : decode cX1_bar 30 = .ok (.aload_n 0, 1) := by decide +kernel
theorem dX1_bar_31 : decode cX1_bar 31 = .ok (.getfield 19, 3) := by decide +kernel
theorem dX1_bar_34 : decode cX1_bar 34 = .ok (.iconst 2, 1) := by decide +kernel
theorem dX1_bar_35 : decode cX1_bar 35 = .ok (.iload_n 1, 1) := by decide +kernel
theorem dX1_bar_36 : decode cX1_bar 36 = .ok (.imul, 1) := by decide +kernel
theorem dX1_bar_37 : decode cX1_bar 37 = .ok (.iload_n 2, 1) := by decide +kernel
theorem dX1_bar_38 : decode cX1_bar 38 = .ok (.iadd, 1) := by decide +kernel
theorem dX1_bar_39 : decode cX1_bar 39 = .ok (.baload, 1) := by decide +kernel
theorem dX1_bar_40 : decode cX1_bar 40 = .ok (.istore 4, 2) := by decide +kernel
theorem dX1_bar_42 : decode cX1_bar 42 = .ok (.aload_n 0, 1) := by decide +kernel
theorem dX1_bar_43 : decode cX1_bar 43 = .ok (.getfield 19, 3) := by decide +kernel
theorem dX1_bar_46 : decode cX1_bar 46 = .ok (.iconst 2, 1) := by decide +kernel
theorem dX1_bar_47 : decode cX1_bar 47 = .ok (.iload_n 1, 1) := by decide +kernel
theorem dX1_bar_48 : decode cX1_bar 48 = .ok (.imul, 1) := by decide +kernel
theorem dX1_bar_49 : decode cX1_bar 49 = .ok (.iload_n 2, 1) := by decide +kernel
theorem dX1_bar_50 : decode cX1_bar 50 = .ok (.iadd, 1) := by decide +kernel
theorem dX1_bar_51 : decode cX1_bar 51 = .ok (.iload_n 3, 1) := by decide +kernel
theorem dX1_bar_52 : decode cX1_bar 52 = .ok (.bastore, 1) := by decide +kernel
theorem dX1_bar_53 : decode cX1_bar 53 = .ok (.iload 4, 2) := by decide +kernel
theorem dX1_bar_55 : decode cX1_bar 55 = .ok (.ireturn, 1) := by decide +kernel
theorem dX1_apart_0 : decode cX1_apart 0 = .ok (.iload_n 0, 1) := by decide +kernel
theorem dX1_apart_1 : decode cX1_apart 1 = .ok (.bipush 12, 2) := by decide +kernel
theorem dX1_apart_3 : decode cX1_apart 3 = .ok (.idiv, 1) := by decide +kernel
theorem dX1_apart_4 : decode cX1_apart 4 = .ok (.iload_n 1, 1) := by decide +kernel
theorem dX1_apart_5 : decode cX1_apart 5 = .ok (.bipush 12, 2) := by decide +kernel
theorem dX1_apart_7 : decode cX1_apart 7 = .ok (.idiv, 1) := by decide +kernel
theorem dX1_apart_8 : decode cX1_apart 8 = .ok (.isub, 1) := by decide +kernel
theorem dX1_apart_9 : decode cX1_apart 9 = .ok (.istore_n 2, 1) := by decide +kernel
theorem dX1_apart_10 : decode cX1_apart 10 = .ok (.iload_n 0, 1) := by decide +kernel
theorem dX1_apart_11 : decode cX1_apart 11 = .ok (.iconst 2, 1) := by decide +kernel
theorem dX1_apart_12 : decode cX1_apart 12 = .ok (.idiv, 1) := by decide +kernel
theorem dX1_apart_13 : decode cX1_apart 13 = .ok (.bipush 6, 2) := by decide +kernel
theorem dX1_apart_15 : decode cX1_apart 15 = .ok (.irem, 1) := by decide +kernel
theorem dX1_apart_16 : decode cX1_apart 16 = .ok (.iload_n 1, 1) := by decide +kernel
theorem dX1_apart_17 : decode cX1_apart 17 = .ok (.iconst 2, 1) := by decide +kernel
theorem dX1_apart_18 : decode cX1_apart 18 = .ok (.idiv, 1) := by decide +kernel
theorem dX1_apart_19 : decode cX1_apart 19 = .ok (.bipush 6, 2) := by decide +kernel
theorem dX1_apart_21 : decode cX1_apart 21 = .ok (.irem, 1) := by decide +kernel
theorem dX1_apart_22 : decode cX1_apart 22 = .ok (.isub, 1) := by decide +kernel
theorem dX1_apart_23 : decode cX1_apart 23 = .ok (.istore_n 3, 1) := by decide +kernel
theorem dX1_apart_24 : decode cX1_apart 24 = .ok (.iload_n 3, 1) := by decide +kernel
theorem dX1_apart_25 : decode cX1_apart 25 = .ok (.ifCond .ge 8, 3) := by decide +kernel
theorem dX1_apart_28 : decode cX1_apart 28 = .ok (.iload_n 3, 1) := by decide +kernel
theorem dX1_apart_29 : decode cX1_apart 29 = .ok (.ineg, 1) := by decide +kernel
theorem dX1_apart_30 : decode cX1_apart 30 = .ok (.goto 4, 3) := by decide +kernel
theorem dX1_apart_33 : decode cX1_apart 33 = .ok (.iload_n 3, 1) := by decide +kernel
theorem dX1_apart_34 : decode cX1_apart 34 = .ok (.istore 4, 2) := by decide +kernel
theorem dX1_apart_36 : decode cX1_apart 36 = .ok (.iload 4, 2) := by decide +kernel
theorem dX1_apart_38 : decode cX1_apart 38 = .ok (.iconst 2, 1) := by decide +kernel
theorem dX1_apart_39 : decode cX1_apart 39 = .ok (.if_icmp .gt 17, 3) := by decide +kernel
theorem dX1_apart_42 : decode cX1_apart 42 = .ok (.iload 4, 2) := by decide +kernel
theorem dX1_apart_44 : decode cX1_apart 44 = .ok (.ifCond .le 16, 3) := by decide +kernel
theorem dX1_apart_47 : decode cX1_apart 47 = .ok (.iload_n 0, 1) := by decide +kernel
theorem dX1_apart_48 : decode cX1_apart 48 = .ok (.iconst 2, 1) := by decide +kernel
theorem dX1_apart_49 : decode cX1_apart 49 = .ok (.irem, 1) := by decide +kernel
theorem dX1_apart_50 : decode cX1_apart 50 = .ok (.iload_n 1, 1) := by decide +kernel
theorem dX1_apart_51 : decode cX1_apart 51 = .ok (.iconst 2, 1) := by decide +kernel
theorem dX1_apart_52 : decode cX1_apart 52 = .ok (.irem, 1) := by decide +kernel
theorem dX1_apart_53 : decode cX1_apart 53 = .ok (.if_icmp .eq 7, 3) := by decide +kernel
theorem dX1_apart_56 : decode cX1_apart 56 = .ok (.iconst 1, 1) := by decide +kernel
theorem dX1_apart_57 : decode cX1_apart 57 = .ok (.goto 4, 3) := by decide +kernel
theorem dX1_apart_60 : decode cX1_apart 60 = .ok (.iconst 0, 1) := by decide +kernel
theorem dX1_apart_61 : decode cX1_apart 61 = .ok (.istore 5, 2) := by decide +kernel
theorem dX1_apart_63 : decode cX1_apart 63 = .ok (.iload_n 2, 1) := by decide +kernel
theorem dX1_apart_64 : decode cX1_apart 64 = .ok (.iconst 1, 1) := by decide +kernel
theorem dX1_apart_65 : decode cX1_apart 65 = .ok (.if_icmp .gt 8, 3) := by decide +kernel
theorem dX1_apart_68 : decode cX1_apart 68 = .ok (.iload_n 2, 1) := by decide +kernel
theorem dX1_apart_69 : decode cX1_apart 69 = .ok (.iconst (-1), 1) := by decide +kernel
theorem dX1_apart_70 : decode cX1_apart 70 = .ok (.if_icmp .ge 7, 3) := by decide +kernel
theorem dX1_apart_73 : decode cX1_apart 73 = .ok (.iconst 4, 1) := by decide +kernel
theorem dX1_apart_74 : decode cX1_apart 74 = .ok (.goto 30, 3) := by decide +kernel
theorem dX1_apart_77 : decode cX1_apart 77 = .ok (.iload_n 2, 1) := by decide +kernel
theorem dX1_apart_78 : decode cX1_apart 78 = .ok (.ifCond .eq 7, 3) := by decide +kernel
theorem dX1_apart_81 : decode cX1_apart 81 = .ok (.iconst 3, 1) := by decide +kernel
theorem dX1_apart_82 : decode cX1_apart 82 = .ok (.goto 22, 3) := by decide +kernel
theorem dX1_apart_85 : decode cX1_apart 85 = .ok (.iload 5, 2) := by decide +kernel
theorem dX1_apart_87 : decode cX1_apart 87 = .ok (.ifCond .eq 7, 3) := by decide +kernel
theorem dX1_apart_90 : decode cX1_apart 90 = .ok (.iconst 2, 1) := by decide +kernel
theorem dX1_apart_91 : decode cX1_apart 91 = .ok (.goto 13, 3) := by decide +kernel
theorem dX1_apart_94 : decode cX1_apart 94 = .ok (.iload_n 0, 1) := by decide +kernel
theorem dX1_apart_95 : decode cX1_apart 95 = .ok (.iload_n 1, 1) := by decide +kernel
theorem dX1_apart_96 : decode cX1_apart 96 = .ok (.if_icmp .eq 7, 3) := by decide +kernel
theorem dX1_apart_99 : decode cX1_apart 99 = .ok (.iconst 1, 1) := by decide +kernel
theorem dX1_apart_100 : decode cX1_apart 100 = .ok (.goto 4, 3) := by decide +kernel
theorem dX1_apart_103 : decode cX1_apart 103 = .ok (.iconst 0, 1) := by decide +kernel
theorem dX1_apart_104 : decode cX1_apart 104 = .ok (.ireturn, 1) := by decide +kernel
theorem dX1_distance_0 : decode cX1_distance 0 = .ok (.aload_n 0, 1) := by decide +kernel
theorem dX1_distance_1 : decode cX1_distance 1 = .ok (.iload_n 1, 1) := by decide +kernel
theorem dX1_distance_2 : decode cX1_distance 2 = .ok (.invokestatic 56, 3) := by decide +kernel
theorem dX1_distance_5 : decode cX1_distance 5 = .ok (.ifCond .eq 14, 3) := by decide +kernel
theorem dX1_distance_8 : decode cX1_distance 8 = .ok (.iload_n 2, 1) := by decide +kernel
theorem dX1_distance_9 : decode cX1_distance 9 = .ok (.invokestatic 56, 3) := by decide +kernel
theorem dX1_distance_12 : decode cX1_distance 12 = .ok (.ifCond .eq 7, 3) := by decide +kernel
theorem dX1_distance_15 : decode cX1_distance 15 = .ok (.iconst 0, 1) := by decide +kernel
theorem dX1_distance_16 : decode cX1_distance 16 = .ok (.goto 4, 3) := by decide +kernel
theorem dX1_distance_19 : decode cX1_distance 19 = .ok (.iconst 1, 1) := by decide +kernel
theorem dX1_distance_20 : decode cX1_distance 20 = .ok (.invokevirtual 53, 3) := by decide +kernel
theorem dX1_distance_23 : decode cX1_distance 23 = .ok (.ifCond .eq 11, 3) := by decide +kernel
theorem dX1_distance_26 : decode cX1_distance 26 = .ok (.iload_n 1, 1) := by decide +kernel
theorem dX1_distance_27 : decode cX1_distance 27 = .ok (.iload_n 2, 1) := by decide +kernel
theorem dX1_distance_28 : decode cX1_distance 28 = .ok (.invokestatic 59, 3) := by decide +kernel
theorem dX1_distance_31 : decode cX1_distance 31 = .ok (.goto 4, 3) := by decide +kernel
theorem dX1_distance_34 : decode cX1_distance 34 = .ok (.iconst 0, 1) := by decide +kernel
theorem dX1_distance_35 : decode cX1_distance 35 = .ok (.ireturn, 1) := by decide +kernel
theorem dX1_add_0 : decode cX1_add 0 = .ok (.iload_n 2, 1) := by decide +kernel
theorem dX1_add_1 : decode cX1_add 1 = .ok (.iconst (-1), 1) := by decide +kernel
theorem dX1_add_2 : decode cX1_add 2 = .ok (.if_icmp .eq 15, 3) := by decide +kernel
theorem dX1_add_5 : decode cX1_add 5 = .ok (.iload_n 2, 1) := by decide +kernel
theorem dX1_add_6 : decode cX1_add 6 = .ok (.invokestatic 49, 3) := by decide +kernel
theorem dX1_add_9 : decode cX1_add 9 = .ok (.ifCond .eq 12, 3) := by decide +kernel
theorem dX1_add_12 : decode cX1_add 12 = .ok (.iload_n 2, 1) := by decide +kernel
theorem dX1_add_13 : decode cX1_add 13 = .ok (.iload_n 1, 1) := by decide +kernel
theorem dX1_add_14 : decode cX1_add 14 = .ok (.if_icmp .eq 7, 3) := by decide +kernel
theorem dX1_add_17 : decode cX1_add 17 = .ok (.iconst 1, 1) := by decide +kernel
theorem dX1_add_18 : decode cX1_add 18 = .ok (.goto 4, 3) := by decide +kernel
theorem dX1_add_21 : decode cX1_add 21 = .ok (.iconst 0, 1) := by decide +kernel
theorem dX1_add_22 : decode cX1_add 22 = .ok (.istore 4, 2) := by decide +kernel
theorem dX1_add_24 : decode cX1_add 24 = .ok (.iload_n 1, 1) := by decide +kernel
theorem dX1_add_25 : decode cX1_add 25 = .ok (.invokestatic 49, 3) := by decide +kernel
theorem dX1_add_28 : decode cX1_add 28 = .ok (.ifCond .eq 23, 3) := by decide +kernel
theorem dX1_add_31 : decode cX1_add 31 = .ok (.iload 4, 2) := by decide +kernel
theorem dX1_add_33 : decode cX1_add 33 = .ok (.ifCond .eq 18, 3) := by decide +kernel
theorem dX1_add_36 : decode cX1_add 36 = .ok (.iload_n 3, 1) := by decide +kernel
theorem dX1_add_37 : decode cX1_add 37 = .ok (.iconst 1, 1) := by decide +kernel
theorem dX1_add_38 : decode cX1_add 38 = .ok (.sipush 10000, 3) := by decide +kernel
theorem dX1_add_41 : decode cX1_add 41 = .ok (.invokestatic 42, 3) := by decide +kernel
theorem dX1_add_44 : decode cX1_add 44 = .ok (.ifCond .eq 7, 3) := by decide +kernel
theorem dX1_add_47 : decode cX1_add 47 = .ok (.iconst 1, 1) := by decide +kernel
theorem dX1_add_48 : decode cX1_add 48 = .ok (.goto 4, 3) := by decide +kernel
theorem dX1_add_51 : decode cX1_add 51 = .ok (.iconst 0, 1) := by decide +kernel
theorem dX1_add_52 : decode cX1_add 52 = .ok (.istore 5, 2) := by decide +kernel
theorem dX1_add_54 : decode cX1_add 54 = .ok (.aload_n 0, 1) := by decide +kernel
theorem dX1_add_55 : decode cX1_add 55 = .ok (.iload 5, 2) := by decide +kernel
theorem dX1_add_57 : decode cX1_add 57 = .ok (.ifCond .ne 7, 3) := by decide +kernel
theorem dX1_add_60 : decode cX1_add 60 = .ok (.iconst 1, 1) := by decide +kernel
theorem dX1_add_61 : decode cX1_add 61 = .ok (.goto 17, 3) := by decide +kernel
theorem dX1_add_64 : decode cX1_add 64 = .ok (.aload_n 0, 1) := by decide +kernel
theorem dX1_add_65 : decode cX1_add 65 = .ok (.getfield 46, 3) := by decide +kernel
theorem dX1_add_68 : decode cX1_add 68 = .ok (.bipush 16, 2) := by decide +kernel
theorem dX1_add_70 : decode cX1_add 70 = .ok (.if_icmp .ne 7, 3) := by decide +kernel
theorem dX1_add_73 : decode cX1_add 73 = .ok (.iconst 2, 1) := by decide +kernel
theorem dX1_add_74 : decode cX1_add 74 = .ok (.goto 4, 3) := by decide +kernel
theorem dX1_add_77 : decode cX1_add 77 = .ok (.iconst 0, 1) := by decide +kernel
theorem dX1_add_78 : decode cX1_add 78 = .ok (.invokevirtual 53, 3) := by decide +kernel
theorem dX1_add_81 : decode cX1_add 81 = .ok (.ifCond .ne 5, 3) := by decide +kernel
theorem dX1_add_84 : decode cX1_add 84 = .ok (.iconst 0, 1) := by decide +kernel
theorem dX1_add_85 : decode cX1_add 85 = .ok (.ireturn, 1) := by decide +kernel
theorem dX1_add_86 : decode cX1_add 86 = .ok (.aload_n 0, 1) := by decide +kernel
theorem dX1_add_87 : decode cX1_add 87 = .ok (.getfield 23, 3) := by decide +kernel
theorem dX1_add_90 : decode cX1_add 90 = .ok (.aload_n 0, 1) := by decide +kernel
theorem dX1_add_91 : decode cX1_add 91 = .ok (.getfield 46, 3) := by decide +kernel
theorem dX1_add_94 : decode cX1_add 94 = .ok (.iload_n 1, 1) := by decide +kernel
theorem dX1_add_95 : decode cX1_add 95 = .ok (.iastore, 1) := by decide +kernel
theorem dX1_add_96 : decode cX1_add 96 = .ok (.aload_n 0, 1) := by decide +kernel
theorem dX1_add_97 : decode cX1_add 97 = .ok (.getfield 26, 3) := by decide +kernel
theorem dX1_add_100 : decode cX1_add 100 = .ok (.aload_n 0, 1) := by decide +kernel
theorem dX1_add_101 : decode cX1_add 101 = .ok (.getfield 46, 3) := by decide +kernel
theorem dX1_add_104 : decode cX1_add 104 = .ok (.iload_n 2, 1) := by decide +kernel
theorem dX1_add_105 : decode cX1_add 105 = .ok (.iastore, 1) := by decide +kernel
theorem dX1_add_106 : decode cX1_add 106 = .ok (.aload_n 0, 1) := by decide +kernel
theorem dX1_add_107 : decode cX1_add 107 = .ok (.getfield 29, 3) := by decide +kernel
theorem dX1_add_110 : decode cX1_add 110 = .ok (.aload_n 0, 1) := by decide +kernel
theorem dX1_add_111 : decode cX1_add 111 = .ok (.getfield 46, 3) := by decide +kernel
theorem dX1_add_114 : decode cX1_add 114 = .ok (.iload_n 3, 1) := by decide +kernel
theorem dX1_add_115 : decode cX1_add 115 = .ok (.iastore, 1) := by decide +kernel
theorem dX1_add_116 : decode cX1_add 116 = .ok (.aload_n 0, 1) := by decide +kernel
theorem dX1_add_117 : decode cX1_add 117 = .ok (.getfield 32, 3) := by decide +kernel
theorem dX1_add_120 : decode cX1_add 120 = .ok (.aload_n 0, 1) := by decide +kernel
theorem dX1_add_121 : decode cX1_add 121 = .ok (.getfield 46, 3) := by decide +kernel
theorem dX1_add_124 : decode cX1_add 124 = .ok (.iconst (-1), 1) := by decide +kernel
theorem dX1_add_125 : decode cX1_add 125 = .ok (.iastore, 1) := by decide +kernel
theorem dX1_add_126 : decode cX1_add 126 = .ok (.aload_n 0, 1) := by decide +kernel
theorem dX1_add_127 : decode cX1_add 127 = .ok (.dup, 1) := by decide +kernel
theorem dX1_add_128 : decode cX1_add 128 = .ok (.getfield 46, 3) := by decide +kernel
theorem dX1_add_131 : decode cX1_add 131 = .ok (.iconst 1, 1) := by decide +kernel
theorem dX1_add_132 : decode cX1_add 132 = .ok (.iadd, 1) := by decide +kernel
theorem dX1_add_133 : decode cX1_add 133 = .ok (.putfield 46, 3) := by decide +kernel
theorem dX1_add_136 : decode cX1_add 136 = .ok (.aload_n 0, 1) := by decide +kernel
theorem dX1_add_137 : decode cX1_add 137 = .ok (.getfield 46, 3) := by decide +kernel
theorem dX1_add_140 : decode cX1_add 140 = .ok (.iconst 1, 1) := by decide +kernel
theorem dX1_add_141 : decode cX1_add 141 = .ok (.isub, 1) := by decide +kernel
theorem dX1_add_142 : decode cX1_add 142 = .ok (.ireturn, 1) := by decide +kernel
theorem dX1_setQuantity_0 : decode cX1_setQuantity 0 = .ok (.aload_n 0, 1) := by decide +kernel
theorem dX1_setQuantity_1 : decode cX1_setQuantity 1 = .ok (.aload_n 0, 1) := by decide +kernel
theorem dX1_setQuantity_2 : decode cX1_setQuantity 2 = .ok (.iload_n 1, 1) := by decide +kernel
theorem dX1_setQuantity_3 : decode cX1_setQuantity 3 = .ok (.invokevirtual 63, 3) := by decide +kernel
theorem dX1_setQuantity_6 : decode cX1_setQuantity 6 = .ok (.ifCond .ne 7, 3) := by decide +kernel
theorem dX1_setQuantity_9 : decode cX1_setQuantity 9 = .ok (.iconst 1, 1) := by decide +kernel
theorem dX1_setQuantity_10 : decode cX1_setQuantity 10 = .ok (.goto 19, 3) := by decide +kernel
theorem dX1_setQuantity_13 : decode cX1_setQuantity 13 = .ok (.iload_n 2, 1) := by decide +kernel
theorem dX1_setQuantity_14 : decode cX1_setQuantity 14 = .ok (.iconst 1, 1) := by decide +kernel
theorem dX1_setQuantity_15 : decode cX1_setQuantity 15 = .ok (.sipush 10000, 3) := by decide +kernel
theorem dX1_setQuantity_18 : decode cX1_setQuantity 18 = .ok (.invokestatic 42, 3) := by decide +kernel
theorem dX1_setQuantity_21 : decode cX1_setQuantity 21 = .ok (.ifCond .eq 7, 3) := by decide +kernel
theorem dX1_setQuantity_24 : decode cX1_setQuantity 24 = .ok (.iconst 0, 1) := by decide +kernel
theorem dX1_setQuantity_25 : decode cX1_setQuantity 25 = .ok (.goto 4, 3) := by decide +kernel
theorem dX1_setQuantity_28 : decode cX1_setQuantity 28 = .ok (.iconst 2, 1) := by decide +kernel
theorem dX1_setQuantity_29 : decode cX1_setQuantity 29 = .ok (.invokevirtual 53, 3) := by decide +kernel
theorem dX1_setQuantity_32 : decode cX1_setQuantity 32 = .ok (.ifCond .ne 5, 3) := by decide +kernel
theorem dX1_setQuantity_35 : decode cX1_setQuantity 35 = .ok (.iconst 0, 1) := by decide +kernel
theorem dX1_setQuantity_36 : decode cX1_setQuantity 36 = .ok (.ireturn, 1) := by decide +kernel
theorem dX1_setQuantity_37 : decode cX1_setQuantity 37 = .ok (.aload_n 0, 1) := by decide +kernel
theorem dX1_setQuantity_38 : decode cX1_setQuantity 38 = .ok (.getfield 29, 3) := by decide +kernel
theorem dX1_setQuantity_41 : decode cX1_setQuantity 41 = .ok (.iload_n 1, 1) := by decide +kernel
theorem dX1_setQuantity_42 : decode cX1_setQuantity 42 = .ok (.iaload, 1) := by decide +kernel
theorem dX1_setQuantity_43 : decode cX1_setQuantity 43 = .ok (.istore_n 3, 1) := by decide +kernel
theorem dX1_setQuantity_44 : decode cX1_setQuantity 44 = .ok (.aload_n 0, 1) := by decide +kernel
theorem dX1_setQuantity_45 : decode cX1_setQuantity 45 = .ok (.getfield 29, 3) := by decide +kernel
theorem dX1_setQuantity_48 : decode cX1_setQuantity 48 = .ok (.iload_n 1, 1) := by decide +kernel
theorem dX1_setQuantity_49 : decode cX1_setQuantity 49 = .ok (.iload_n 2, 1) := by decide +kernel
theorem dX1_setQuantity_50 : decode cX1_setQuantity 50 = .ok (.iastore, 1) := by decide +kernel
theorem dX1_setQuantity_51 : decode cX1_setQuantity 51 = .ok (.iload_n 3, 1) := by decide +kernel
theorem dX1_setQuantity_52 : decode cX1_setQuantity 52 = .ok (.ireturn, 1) := by decide +kernel
theorem dX1_put_0 : decode cX1_put 0 = .ok (.aload_n 0, 1) := by decide +kernel
theorem dX1_put_1 : decode cX1_put 1 = .ok (.aload_n 0, 1) := by decide +kernel
theorem dX1_put_2 : decode cX1_put 2 = .ok (.iload_n 1, 1) := by decide +kernel
theorem dX1_put_3 : decode cX1_put 3 = .ok (.invokevirtual 63, 3) := by decide +kernel
theorem dX1_put_6 : decode cX1_put 6 = .ok (.ifCond .ne 7, 3) := by decide +kernel
theorem dX1_put_9 : decode cX1_put 9 = .ok (.iconst 1, 1) := by decide +kernel
theorem dX1_put_10 : decode cX1_put 10 = .ok (.goto 20, 3) := by decide +kernel
theorem dX1_put_13 : decode cX1_put 13 = .ok (.iload_n 2, 1) := by decide +kernel
theorem dX1_put_14 : decode cX1_put 14 = .ok (.iconst (-1), 1) := by decide +kernel
theorem dX1_put_15 : decode cX1_put 15 = .ok (.if_icmp .eq 10, 3) := by decide +kernel
theorem dX1_put_18 : decode cX1_put 18 = .ok (.iload_n 2, 1) := by decide +kernel
theorem dX1_put_19 : decode cX1_put 19 = .ok (.invokestatic 56, 3) := by decide +kernel
theorem dX1_put_22 : decode cX1_put 22 = .ok (.ifCond .eq 7, 3) := by decide +kernel
theorem dX1_put_25 : decode cX1_put 25 = .ok (.iconst 0, 1) := by decide +kernel
theorem dX1_put_26 : decode cX1_put 26 = .ok (.goto 4, 3) := by decide +kernel
theorem dX1_put_29 : decode cX1_put 29 = .ok (.iconst 2, 1) := by decide +kernel
theorem dX1_put_30 : decode cX1_put 30 = .ok (.invokevirtual 53, 3) := by decide +kernel
theorem dX1_put_33 : decode cX1_put 33 = .ok (.ifCond .ne 5, 3) := by decide +kernel
theorem dX1_put_36 : decode cX1_put 36 = .ok (.iconst 0, 1) := by decide +kernel
theorem dX1_put_37 : decode cX1_put 37 = .ok (.ireturn, 1) := by decide +kernel
theorem dX1_put_38 : decode cX1_put 38 = .ok (.aload_n 0, 1) := by decide +kernel
theorem dX1_put_39 : decode cX1_put 39 = .ok (.getfield 32, 3) := by decide +kernel
theorem dX1_put_42 : decode cX1_put 42 = .ok (.iload_n 1, 1) := by decide +kernel
theorem dX1_put_43 : decode cX1_put 43 = .ok (.iaload, 1) := by decide +kernel
theorem dX1_put_44 : decode cX1_put 44 = .ok (.istore_n 3, 1) := by decide +kernel
theorem dX1_put_45 : decode cX1_put 45 = .ok (.aload_n 0, 1) := by decide +kernel
theorem dX1_put_46 : decode cX1_put 46 = .ok (.getfield 32, 3) := by decide +kernel
theorem dX1_put_49 : decode cX1_put 49 = .ok (.iload_n 1, 1) := by decide +kernel
theorem dX1_put_50 : decode cX1_put 50 = .ok (.iload_n 2, 1) := by decide +kernel
theorem dX1_put_51 : decode cX1_put 51 = .ok (.iastore, 1) := by decide +kernel
theorem dX1_put_52 : decode cX1_put 52 = .ok (.iload_n 3, 1) := by decide +kernel
theorem dX1_put_53 : decode cX1_put 53 = .ok (.ireturn, 1) := by decide +kernel
theorem dX1_goods_0 : decode cX1_goods 0 = .ok (.aload_n 0, 1) := by decide +kernel
theorem dX1_goods_1 : decode cX1_goods 1 = .ok (.iconst 0, 1) := by decide +kernel
theorem dX1_goods_2 : decode cX1_goods 2 = .ok (.putfield 38, 3) := by decide +kernel
theorem dX1_goods_5 : decode cX1_goods 5 = .ok (.aload_n 0, 1) := by decide +kernel
theorem dX1_goods_6 : decode cX1_goods 6 = .ok (.getfield 46, 3) := by decide +kernel
theorem dX1_goods_9 : decode cX1_goods 9 = .ok (.ireturn, 1) := by decide +kernel
theorem dX1_asks_0 : decode cX1_asks 0 = .ok (.aload_n 0, 1) := by decide +kernel
theorem dX1_asks_1 : decode cX1_asks 1 = .ok (.aload_n 0, 1) := by decide +kernel
theorem dX1_asks_2 : decode cX1_asks 2 = .ok (.iload_n 1, 1) := by decide +kernel
theorem dX1_asks_3 : decode cX1_asks 3 = .ok (.invokevirtual 63, 3) := by decide +kernel
theorem dX1_asks_6 : decode cX1_asks 6 = .ok (.ifCond .eq 7, 3) := by decide +kernel
theorem dX1_asks_9 : decode cX1_asks 9 = .ok (.iconst 0, 1) := by decide +kernel
theorem dX1_asks_10 : decode cX1_asks 10 = .ok (.goto 4, 3) := by decide +kernel
theorem dX1_asks_13 : decode cX1_asks 13 = .ok (.iconst 1, 1) := by decide +kernel
theorem dX1_asks_14 : decode cX1_asks 14 = .ok (.invokevirtual 53, 3) := by decide +kernel
theorem dX1_asks_17 : decode cX1_asks 17 = .ok (.ireturn, 1) := by decide +kernel
theorem dX1_placeOf_0 : decode cX1_placeOf 0 = .ok (.aload_n 0, 1) := by decide +kernel
theorem dX1_placeOf_1 : decode cX1_placeOf 1 = .ok (.iload_n 1, 1) := by decide +kernel
theorem dX1_placeOf_2 : decode cX1_placeOf 2 = .ok (.invokevirtual 66, 3) := by decide +kernel
theorem dX1_placeOf_5 : decode cX1_placeOf 5 = .ok (.ifCond .eq 12, 3) := by decide +kernel
theorem dX1_placeOf_8 : decode cX1_placeOf 8 = .ok (.aload_n 0, 1) := by decide +kernel
theorem dX1_placeOf_9 : decode cX1_placeOf 9 = .ok (.getfield 32, 3) := by decide +kernel
theorem dX1_placeOf_12 : decode cX1_placeOf 12 = .ok (.iload_n 1, 1) := by decide +kernel
theorem dX1_placeOf_13 : decode cX1_placeOf 13 = .ok (.iaload, 1) := by decide +kernel
theorem dX1_placeOf_14 : decode cX1_placeOf 14 = .ok (.goto 4, 3) := by decide +kernel
theorem dX1_placeOf_17 : decode cX1_placeOf 17 = .ok (.iconst 0, 1) := by decide +kernel
theorem dX1_placeOf_18 : decode cX1_placeOf 18 = .ok (.ireturn, 1) := by decide +kernel
theorem dX1_isWithin_0 : decode cX1_isWithin 0 = .ok (.aload_n 0, 1) := by decide +kernel
theorem dX1_isWithin_1 : decode cX1_isWithin 1 = .ok (.getfield 26, 3) := by decide +kernel
theorem dX1_isWithin_4 : decode cX1_isWithin 4 = .ok (.iload_n 1, 1) := by decide +kernel
theorem dX1_isWithin_5 : decode cX1_isWithin 5 = .ok (.iaload, 1) := by decide +kernel
theorem dX1_isWithin_6 : decode cX1_isWithin 6 = .ok (.istore_n 3, 1) := by decide +kernel
theorem dX1_isWithin_7 : decode cX1_isWithin 7 = .ok (.aload_n 0, 1) := by decide +kernel
theorem dX1_isWithin_8 : decode cX1_isWithin 8 = .ok (.getfield 29, 3) := by decide +kernel
theorem dX1_isWithin_11 : decode cX1_isWithin 11 = .ok (.iload_n 1, 1) := by decide +kernel
theorem dX1_isWithin_12 : decode cX1_isWithin 12 = .ok (.iaload, 1) := by decide +kernel
theorem dX1_isWithin_13 : decode cX1_isWithin 13 = .ok (.aload_n 2, 1) := by decide +kernel
theorem dX1_isWithin_14 : decode cX1_isWithin 14 = .ok (.aload_n 0, 1) := by decide +kernel
theorem dX1_isWithin_15 : decode cX1_isWithin 15 = .ok (.getfield 23, 3) := by decide +kernel
theorem dX1_isWithin_18 : decode cX1_isWithin 18 = .ok (.iload_n 1, 1) := by decide +kernel
theorem dX1_isWithin_19 : decode cX1_isWithin 19 = .ok (.iaload, 1) := by decide +kernel
theorem dX1_isWithin_20 : decode cX1_isWithin 20 = .ok (.iaload, 1) := by decide +kernel
theorem dX1_isWithin_21 : decode cX1_isWithin 21 = .ok (.if_icmp .gt 24, 3) := by decide +kernel
theorem dX1_isWithin_24 : decode cX1_isWithin 24 = .ok (.iload_n 3, 1) := by decide +kernel
theorem dX1_isWithin_25 : decode cX1_isWithin 25 = .ok (.iconst (-1), 1) := by decide +kernel
theorem dX1_isWithin_26 : decode cX1_isWithin 26 = .ok (.if_icmp .eq 15, 3) := by decide +kernel
theorem dX1_isWithin_29 : decode cX1_isWithin 29 = .ok (.aload_n 0, 1) := by decide +kernel
theorem dX1_isWithin_30 : decode cX1_isWithin 30 = .ok (.getfield 29, 3) := by decide +kernel
theorem dX1_isWithin_33 : decode cX1_isWithin 33 = .ok (.iload_n 1, 1) := by decide +kernel
theorem dX1_isWithin_34 : decode cX1_isWithin 34 = .ok (.iaload, 1) := by decide +kernel
theorem dX1_isWithin_35 : decode cX1_isWithin 35 = .ok (.aload_n 2, 1) := by decide +kernel
theorem dX1_isWithin_36 : decode cX1_isWithin 36 = .ok (.iload_n 3, 1) := by decide +kernel
theorem dX1_isWithin_37 : decode cX1_isWithin 37 = .ok (.iaload, 1) := by decide +kernel
theorem dX1_isWithin_38 : decode cX1_isWithin 38 = .ok (.if_icmp .gt 7, 3) := by decide +kernel
theorem dX1_isWithin_41 : decode cX1_isWithin 41 = .ok (.iconst 1, 1) := by decide +kernel
theorem dX1_isWithin_42 : decode cX1_isWithin 42 = .ok (.goto 4, 3) := by decide +kernel
theorem dX1_isWithin_45 : decode cX1_isWithin 45 = .ok (.iconst 0, 1) := by decide +kernel
theorem dX1_isWithin_46 : decode cX1_isWithin 46 = .ok (.ireturn, 1) := by decide +kernel
theorem dX1_areExcepted_0 : decode cX1_areExcepted 0 = .ok (.aload_n 0, 1) := by decide +kernel
theorem dX1_areExcepted_1 : decode cX1_areExcepted 1 = .ok (.iload_n 1, 1) := by decide +kernel
theorem dX1_areExcepted_2 : decode cX1_areExcepted 2 = .ok (.aload_n 0, 1) := by decide +kernel
theorem dX1_areExcepted_3 : decode cX1_areExcepted 3 = .ok (.getfield 16, 3) := by decide +kernel
theorem dX1_areExcepted_6 : decode cX1_areExcepted 6 = .ok (.invokevirtual 69, 3) := by decide +kernel
theorem dX1_areExcepted_9 : decode cX1_areExcepted 9 = .ok (.ireturn, 1) := by decide +kernel
theorem dX1_areLimited_0 : decode cX1_areLimited 0 = .ok (.aload_n 0, 1) := by decide +kernel
theorem dX1_areLimited_1 : decode cX1_areLimited 1 = .ok (.iload_n 1, 1) := by decide +kernel
theorem dX1_areLimited_2 : decode cX1_areLimited 2 = .ok (.invokevirtual 73, 3) := by decide +kernel
theorem dX1_areLimited_5 : decode cX1_areLimited 5 = .ok (.ifCond .ne 19, 3) := by decide +kernel
theorem dX1_areLimited_8 : decode cX1_areLimited 8 = .ok (.aload_n 0, 1) := by decide +kernel
theorem dX1_areLimited_9 : decode cX1_areLimited 9 = .ok (.iload_n 1, 1) := by decide +kernel
theorem dX1_areLimited_10 : decode cX1_areLimited 10 = .ok (.aload_n 0, 1) := by decide +kernel
theorem dX1_areLimited_11 : decode cX1_areLimited 11 = .ok (.getfield 13, 3) := by decide +kernel
theorem dX1_areLimited_14 : decode cX1_areLimited 14 = .ok (.invokevirtual 69, 3) := by decide +kernel
theorem dX1_areLimited_17 : decode cX1_areLimited 17 = .ok (.ifCond .eq 7, 3) := by decide +kernel
theorem dX1_areLimited_20 : decode cX1_areLimited 20 = .ok (.iconst 1, 1) := by decide +kernel
theorem dX1_areLimited_21 : decode cX1_areLimited 21 = .ok (.goto 4, 3) := by decide +kernel
theorem dX1_areLimited_24 : decode cX1_areLimited 24 = .ok (.iconst 0, 1) := by decide +kernel
theorem dX1_areLimited_25 : decode cX1_areLimited 25 = .ok (.ireturn, 1) := by decide +kernel
theorem dX1_isLimited_0 : decode cX1_isLimited 0 = .ok (.aload_n 0, 1) := by decide +kernel
theorem dX1_isLimited_1 : decode cX1_isLimited 1 = .ok (.iload_n 1, 1) := by decide +kernel
theorem dX1_isLimited_2 : decode cX1_isLimited 2 = .ok (.invokevirtual 66, 3) := by decide +kernel
theorem dX1_isLimited_5 : decode cX1_isLimited 5 = .ok (.ifCond .eq 15, 3) := by decide +kernel
end
section
theorem dX1_isLimited_8 : decode cX1_isLimited 8 = .ok (.aload_n 0, 1) := by decide +kernel
theorem dX1_isLimited_9 : decode cX1_isLimited 9 = .ok (.iload_n 1, 1) := by decide +kernel
theorem dX1_isLimited_10 : decode cX1_isLimited 10 = .ok (.invokevirtual 76, 3) := by decide +kernel
theorem dX1_isLimited_13 : decode cX1_isLimited 13 = .ok (.ifCond .eq 7, 3) := by decide +kernel
theorem dX1_isLimited_16 : decode cX1_isLimited 16 = .ok (.iconst 1, 1) := by decide +kernel
theorem dX1_isLimited_17 : decode cX1_isLimited 17 = .ok (.goto 4, 3) := by decide +kernel
theorem dX1_isLimited_20 : decode cX1_isLimited 20 = .ok (.iconst 0, 1) := by decide +kernel
theorem dX1_isLimited_21 : decode cX1_isLimited 21 = .ok (.ireturn, 1) := by decide +kernel
theorem dX1_isExcepted_0 : decode cX1_isExcepted 0 = .ok (.aload_n 0, 1) := by decide +kernel
theorem dX1_isExcepted_1 : decode cX1_isExcepted 1 = .ok (.iload_n 1, 1) := by decide +kernel
theorem dX1_isExcepted_2 : decode cX1_isExcepted 2 = .ok (.invokevirtual 66, 3) := by decide +kernel
theorem dX1_isExcepted_5 : decode cX1_isExcepted 5 = .ok (.ifCond .eq 15, 3) := by decide +kernel
theorem dX1_isExcepted_8 : decode cX1_isExcepted 8 = .ok (.aload_n 0, 1) := by decide +kernel
theorem dX1_isExcepted_9 : decode cX1_isExcepted 9 = .ok (.iload_n 1, 1) := by decide +kernel
theorem dX1_isExcepted_10 : decode cX1_isExcepted 10 = .ok (.invokevirtual 73, 3) := by decide +kernel
theorem dX1_isExcepted_13 : decode cX1_isExcepted 13 = .ok (.ifCond .eq 7, 3) := by decide +kernel
theorem dX1_isExcepted_16 : decode cX1_isExcepted 16 = .ok (.iconst 1, 1) := by decide +kernel
theorem dX1_isExcepted_17 : decode cX1_isExcepted 17 = .ok (.goto 4, 3) := by decide +kernel
theorem dX1_isExcepted_20 : decode cX1_isExcepted 20 = .ok (.iconst 0, 1) := by decide +kernel
theorem dX1_isExcepted_21 : decode cX1_isExcepted 21 = .ok (.ireturn, 1) := by decide +kernel
theorem dX1_ofTable_0 : decode cX1_ofTable 0 = .ok (.iload_n 1, 1) := by decide +kernel
theorem dX1_ofTable_1 : decode cX1_ofTable 1 = .ok (.iconst (-1), 1) := by decide +kernel
theorem dX1_ofTable_2 : decode cX1_ofTable 2 = .ok (.if_icmp .eq 8, 3) := by decide +kernel
theorem dX1_ofTable_5 : decode cX1_ofTable 5 = .ok (.iload_n 2, 1) := by decide +kernel
theorem dX1_ofTable_6 : decode cX1_ofTable 6 = .ok (.iconst (-1), 1) := by decide +kernel
theorem dX1_ofTable_7 : decode cX1_ofTable 7 = .ok (.if_icmp .ne 7, 3) := by decide +kernel
theorem dX1_ofTable_10 : decode cX1_ofTable 10 = .ok (.iconst 0, 1) := by decide +kernel
theorem dX1_ofTable_11 : decode cX1_ofTable 11 = .ok (.goto 14, 3) := by decide +kernel
theorem dX1_ofTable_14 : decode cX1_ofTable 14 = .ok (.aload_n 0, 1) := by decide +kernel
theorem dX1_ofTable_15 : decode cX1_ofTable 15 = .ok (.getfield 7, 3) := by decide +kernel
theorem dX1_ofTable_18 : decode cX1_ofTable 18 = .ok (.bipush 10, 2) := by decide +kernel
theorem dX1_ofTable_20 : decode cX1_ofTable 20 = .ok (.iload_n 1, 1) := by decide +kernel
theorem dX1_ofTable_21 : decode cX1_ofTable 21 = .ok (.imul, 1) := by decide +kernel
theorem dX1_ofTable_22 : decode cX1_ofTable 22 = .ok (.iload_n 2, 1) := by decide +kernel
theorem dX1_ofTable_23 : decode cX1_ofTable 23 = .ok (.iadd, 1) := by decide +kernel
theorem dX1_ofTable_24 : decode cX1_ofTable 24 = .ok (.iaload, 1) := by decide +kernel
theorem dX1_ofTable_25 : decode cX1_ofTable 25 = .ok (.ireturn, 1) := by decide +kernel
theorem dX1_greater_0 : decode cX1_greater 0 = .ok (.iload_n 0, 1) := by decide +kernel
theorem dX1_greater_1 : decode cX1_greater 1 = .ok (.iload_n 1, 1) := by decide +kernel
theorem dX1_greater_2 : decode cX1_greater 2 = .ok (.if_icmp .le 7, 3) := by decide +kernel
theorem dX1_greater_5 : decode cX1_greater 5 = .ok (.iload_n 0, 1) := by decide +kernel
theorem dX1_greater_6 : decode cX1_greater 6 = .ok (.goto 4, 3) := by decide +kernel
theorem dX1_greater_9 : decode cX1_greater 9 = .ok (.iload_n 1, 1) := by decide +kernel
theorem dX1_greater_10 : decode cX1_greater 10 = .ok (.ireturn, 1) := by decide +kernel
theorem dX1_needs_0 : decode cX1_needs 0 = .ok (.aload_n 0, 1) := by decide +kernel
theorem dX1_needs_1 : decode cX1_needs 1 = .ok (.aload_n 0, 1) := by decide +kernel
theorem dX1_needs_2 : decode cX1_needs 2 = .ok (.getfield 23, 3) := by decide +kernel
theorem dX1_needs_5 : decode cX1_needs 5 = .ok (.iload_n 1, 1) := by decide +kernel
theorem dX1_needs_6 : decode cX1_needs 6 = .ok (.iaload, 1) := by decide +kernel
theorem dX1_needs_7 : decode cX1_needs 7 = .ok (.aload_n 0, 1) := by decide +kernel
theorem dX1_needs_8 : decode cX1_needs 8 = .ok (.getfield 23, 3) := by decide +kernel
theorem dX1_needs_11 : decode cX1_needs 11 = .ok (.iload_n 2, 1) := by decide +kernel
theorem dX1_needs_12 : decode cX1_needs 12 = .ok (.iaload, 1) := by decide +kernel
theorem dX1_needs_13 : decode cX1_needs 13 = .ok (.invokevirtual 79, 3) := by decide +kernel
theorem dX1_needs_16 : decode cX1_needs 16 = .ok (.aload_n 0, 1) := by decide +kernel
theorem dX1_needs_17 : decode cX1_needs 17 = .ok (.aload_n 0, 1) := by decide +kernel
theorem dX1_needs_18 : decode cX1_needs 18 = .ok (.getfield 23, 3) := by decide +kernel
theorem dX1_needs_21 : decode cX1_needs 21 = .ok (.iload_n 1, 1) := by decide +kernel
theorem dX1_needs_22 : decode cX1_needs 22 = .ok (.iaload, 1) := by decide +kernel
theorem dX1_needs_23 : decode cX1_needs 23 = .ok (.aload_n 0, 1) := by decide +kernel
theorem dX1_needs_24 : decode cX1_needs 24 = .ok (.getfield 26, 3) := by decide +kernel
theorem dX1_needs_27 : decode cX1_needs 27 = .ok (.iload_n 2, 1) := by decide +kernel
theorem dX1_needs_28 : decode cX1_needs 28 = .ok (.iaload, 1) := by decide +kernel
theorem dX1_needs_29 : decode cX1_needs 29 = .ok (.invokevirtual 79, 3) := by decide +kernel
theorem dX1_needs_32 : decode cX1_needs 32 = .ok (.invokestatic 82, 3) := by decide +kernel
theorem dX1_needs_35 : decode cX1_needs 35 = .ok (.istore_n 3, 1) := by decide +kernel
theorem dX1_needs_36 : decode cX1_needs 36 = .ok (.aload_n 0, 1) := by decide +kernel
theorem dX1_needs_37 : decode cX1_needs 37 = .ok (.aload_n 0, 1) := by decide +kernel
theorem dX1_needs_38 : decode cX1_needs 38 = .ok (.getfield 26, 3) := by decide +kernel
theorem dX1_needs_41 : decode cX1_needs 41 = .ok (.iload_n 1, 1) := by decide +kernel
theorem dX1_needs_42 : decode cX1_needs 42 = .ok (.iaload, 1) := by decide +kernel
theorem dX1_needs_43 : decode cX1_needs 43 = .ok (.aload_n 0, 1) := by decide +kernel
theorem dX1_needs_44 : decode cX1_needs 44 = .ok (.getfield 23, 3) := by decide +kernel
theorem dX1_needs_47 : decode cX1_needs 47 = .ok (.iload_n 2, 1) := by decide +kernel
theorem dX1_needs_48 : decode cX1_needs 48 = .ok (.iaload, 1) := by decide +kernel
theorem dX1_needs_49 : decode cX1_needs 49 = .ok (.invokevirtual 79, 3) := by decide +kernel
theorem dX1_needs_52 : decode cX1_needs 52 = .ok (.aload_n 0, 1) := by decide +kernel
theorem dX1_needs_53 : decode cX1_needs 53 = .ok (.aload_n 0, 1) := by decide +kernel
theorem dX1_needs_54 : decode cX1_needs 54 = .ok (.getfield 26, 3) := by decide +kernel
theorem dX1_needs_57 : decode cX1_needs 57 = .ok (.iload_n 1, 1) := by decide +kernel
theorem dX1_needs_58 : decode cX1_needs 58 = .ok (.iaload, 1) := by decide +kernel
theorem dX1_needs_59 : decode cX1_needs 59 = .ok (.aload_n 0, 1) := by decide +kernel
theorem dX1_needs_60 : decode cX1_needs 60 = .ok (.getfield 26, 3) := by decide +kernel
theorem dX1_needs_63 : decode cX1_needs 63 = .ok (.iload_n 2, 1) := by decide +kernel
theorem dX1_needs_64 : decode cX1_needs 64 = .ok (.iaload, 1) := by decide +kernel
theorem dX1_needs_65 : decode cX1_needs 65 = .ok (.invokevirtual 79, 3) := by decide +kernel
theorem dX1_needs_68 : decode cX1_needs 68 = .ok (.invokestatic 82, 3) := by decide +kernel
theorem dX1_needs_71 : decode cX1_needs 71 = .ok (.istore 4, 2) := by decide +kernel
theorem dX1_needs_73 : decode cX1_needs 73 = .ok (.iload_n 3, 1) := by decide +kernel
theorem dX1_needs_74 : decode cX1_needs 74 = .ok (.iload 4, 2) := by decide +kernel
theorem dX1_needs_76 : decode cX1_needs 76 = .ok (.invokestatic 82, 3) := by decide +kernel
theorem dX1_needs_79 : decode cX1_needs 79 = .ok (.istore 5, 2) := by decide +kernel
theorem dX1_needs_81 : decode cX1_needs 81 = .ok (.aload_n 0, 1) := by decide +kernel
theorem dX1_needs_82 : decode cX1_needs 82 = .ok (.iload_n 1, 1) := by decide +kernel
theorem dX1_needs_83 : decode cX1_needs 83 = .ok (.invokevirtual 73, 3) := by decide +kernel
theorem dX1_needs_86 : decode cX1_needs 86 = .ok (.ifCond .ne 11, 3) := by decide +kernel
theorem dX1_needs_89 : decode cX1_needs 89 = .ok (.aload_n 0, 1) := by decide +kernel
theorem dX1_needs_90 : decode cX1_needs 90 = .ok (.iload_n 2, 1) := by decide +kernel
theorem dX1_needs_91 : decode cX1_needs 91 = .ok (.invokevirtual 73, 3) := by decide +kernel
theorem dX1_needs_94 : decode cX1_needs 94 = .ok (.ifCond .eq 5, 3) := by decide +kernel
theorem dX1_needs_97 : decode cX1_needs 97 = .ok (.iconst 0, 1) := by decide +kernel
theorem dX1_needs_98 : decode cX1_needs 98 = .ok (.ireturn, 1) := by decide +kernel
theorem dX1_needs_99 : decode cX1_needs 99 = .ok (.iload 5, 2) := by decide +kernel
theorem dX1_needs_101 : decode cX1_needs 101 = .ok (.ifCond .le 26, 3) := by decide +kernel
theorem dX1_needs_104 : decode cX1_needs 104 = .ok (.aload_n 0, 1) := by decide +kernel
theorem dX1_needs_105 : decode cX1_needs 105 = .ok (.iload_n 1, 1) := by decide +kernel
theorem dX1_needs_106 : decode cX1_needs 106 = .ok (.invokevirtual 76, 3) := by decide +kernel
theorem dX1_needs_109 : decode cX1_needs 109 = .ok (.ifCond .ne 11, 3) := by decide +kernel
theorem dX1_needs_112 : decode cX1_needs 112 = .ok (.aload_n 0, 1) := by decide +kernel
theorem dX1_needs_113 : decode cX1_needs 113 = .ok (.iload_n 2, 1) := by decide +kernel
theorem dX1_needs_114 : decode cX1_needs 114 = .ok (.invokevirtual 76, 3) := by decide +kernel
theorem dX1_needs_117 : decode cX1_needs 117 = .ok (.ifCond .eq 10, 3) := by decide +kernel
theorem dX1_needs_120 : decode cX1_needs 120 = .ok (.iload 5, 2) := by decide +kernel
theorem dX1_needs_122 : decode cX1_needs 122 = .ok (.iconst 1, 1) := by decide +kernel
theorem dX1_needs_123 : decode cX1_needs 123 = .ok (.isub, 1) := by decide +kernel
theorem dX1_needs_124 : decode cX1_needs 124 = .ok (.goto 5, 3) := by decide +kernel
theorem dX1_needs_127 : decode cX1_needs 127 = .ok (.iload 5, 2) := by decide +kernel
theorem dX1_needs_129 : decode cX1_needs 129 = .ok (.ireturn, 1) := by decide +kernel
theorem dX1_asksTwo_0 : decode cX1_asksTwo 0 = .ok (.aload_n 0, 1) := by decide +kernel
theorem dX1_asksTwo_1 : decode cX1_asksTwo 1 = .ok (.aload_n 0, 1) := by decide +kernel
theorem dX1_asksTwo_2 : decode cX1_asksTwo 2 = .ok (.iload_n 1, 1) := by decide +kernel
theorem dX1_asksTwo_3 : decode cX1_asksTwo 3 = .ok (.invokevirtual 63, 3) := by decide +kernel
theorem dX1_asksTwo_6 : decode cX1_asksTwo 6 = .ok (.ifCond .eq 11, 3) := by decide +kernel
theorem dX1_asksTwo_9 : decode cX1_asksTwo 9 = .ok (.aload_n 0, 1) := by decide +kernel
theorem dX1_asksTwo_10 : decode cX1_asksTwo 10 = .ok (.iload_n 2, 1) := by decide +kernel
theorem dX1_asksTwo_11 : decode cX1_asksTwo 11 = .ok (.invokevirtual 63, 3) := by decide +kernel
theorem dX1_asksTwo_14 : decode cX1_asksTwo 14 = .ok (.ifCond .ne 7, 3) := by decide +kernel
theorem dX1_asksTwo_17 : decode cX1_asksTwo 17 = .ok (.iconst 1, 1) := by decide +kernel
theorem dX1_asksTwo_18 : decode cX1_asksTwo 18 = .ok (.goto 13, 3) := by decide +kernel
theorem dX1_asksTwo_21 : decode cX1_asksTwo 21 = .ok (.iload_n 1, 1) := by decide +kernel
theorem dX1_asksTwo_22 : decode cX1_asksTwo 22 = .ok (.iload_n 2, 1) := by decide +kernel
theorem dX1_asksTwo_23 : decode cX1_asksTwo 23 = .ok (.if_icmp .ne 7, 3) := by decide +kernel
theorem dX1_asksTwo_26 : decode cX1_asksTwo 26 = .ok (.iconst 2, 1) := by decide +kernel
theorem dX1_asksTwo_27 : decode cX1_asksTwo 27 = .ok (.goto 4, 3) := by decide +kernel
theorem dX1_asksTwo_30 : decode cX1_asksTwo 30 = .ok (.iconst 0, 1) := by decide +kernel
theorem dX1_asksTwo_31 : decode cX1_asksTwo 31 = .ok (.invokevirtual 53, 3) := by decide +kernel
theorem dX1_asksTwo_34 : decode cX1_asksTwo 34 = .ok (.ireturn, 1) := by decide +kernel
theorem dX1_need_0 : decode cX1_need 0 = .ok (.aload_n 0, 1) := by decide +kernel
theorem dX1_need_1 : decode cX1_need 1 = .ok (.iload_n 1, 1) := by decide +kernel
theorem dX1_need_2 : decode cX1_need 2 = .ok (.iload_n 2, 1) := by decide +kernel
theorem dX1_need_3 : decode cX1_need 3 = .ok (.invokevirtual 85, 3) := by decide +kernel
theorem dX1_need_6 : decode cX1_need 6 = .ok (.ifCond .eq 12, 3) := by decide +kernel
theorem dX1_need_9 : decode cX1_need 9 = .ok (.aload_n 0, 1) := by decide +kernel
theorem dX1_need_10 : decode cX1_need 10 = .ok (.iload_n 1, 1) := by decide +kernel
theorem dX1_need_11 : decode cX1_need 11 = .ok (.iload_n 2, 1) := by decide +kernel
theorem dX1_need_12 : decode cX1_need 12 = .ok (.invokevirtual 89, 3) := by decide +kernel
theorem dX1_need_15 : decode cX1_need 15 = .ok (.goto 4, 3) := by decide +kernel
theorem dX1_need_18 : decode cX1_need 18 = .ok (.iconst 0, 1) := by decide +kernel
theorem dX1_need_19 : decode cX1_need 19 = .ok (.ireturn, 1) := by decide +kernel
theorem dX1_areFoes_0 : decode cX1_areFoes 0 = .ok (.iload_n 1, 1) := by decide +kernel
theorem dX1_areFoes_1 : decode cX1_areFoes 1 = .ok (.iload_n 2, 1) := by decide +kernel
theorem dX1_areFoes_2 : decode cX1_areFoes 2 = .ok (.if_icmp .eq 36, 3) := by decide +kernel
theorem dX1_areFoes_5 : decode cX1_areFoes 5 = .ok (.aload_n 0, 1) := by decide +kernel
theorem dX1_areFoes_6 : decode cX1_areFoes 6 = .ok (.getfield 32, 3) := by decide +kernel
theorem dX1_areFoes_9 : decode cX1_areFoes 9 = .ok (.iload_n 2, 1) := by decide +kernel
theorem dX1_areFoes_10 : decode cX1_areFoes 10 = .ok (.iaload, 1) := by decide +kernel
theorem dX1_areFoes_11 : decode cX1_areFoes 11 = .ok (.iconst (-1), 1) := by decide +kernel
theorem dX1_areFoes_12 : decode cX1_areFoes 12 = .ok (.if_icmp .eq 26, 3) := by decide +kernel
theorem dX1_areFoes_15 : decode cX1_areFoes 15 = .ok (.iload_n 3, 1) := by decide +kernel
theorem dX1_areFoes_16 : decode cX1_areFoes 16 = .ok (.aload_n 0, 1) := by decide +kernel
theorem dX1_areFoes_17 : decode cX1_areFoes 17 = .ok (.getfield 32, 3) := by decide +kernel
theorem dX1_areFoes_20 : decode cX1_areFoes 20 = .ok (.iload_n 2, 1) := by decide +kernel
theorem dX1_areFoes_21 : decode cX1_areFoes 21 = .ok (.iaload, 1) := by decide +kernel
theorem dX1_areFoes_22 : decode cX1_areFoes 22 = .ok (.invokestatic 59, 3) := by decide +kernel
theorem dX1_areFoes_25 : decode cX1_areFoes 25 = .ok (.aload_n 0, 1) := by decide +kernel
theorem dX1_areFoes_26 : decode cX1_areFoes 26 = .ok (.iload_n 1, 1) := by decide +kernel
theorem dX1_areFoes_27 : decode cX1_areFoes 27 = .ok (.iload_n 2, 1) := by decide +kernel
theorem dX1_areFoes_28 : decode cX1_areFoes 28 = .ok (.invokevirtual 89, 3) := by decide +kernel
theorem dX1_areFoes_31 : decode cX1_areFoes 31 = .ok (.if_icmp .ge 7, 3) := by decide +kernel
theorem dX1_areFoes_34 : decode cX1_areFoes 34 = .ok (.iconst 1, 1) := by decide +kernel
theorem dX1_areFoes_35 : decode cX1_areFoes 35 = .ok (.goto 4, 3) := by decide +kernel
theorem dX1_areFoes_38 : decode cX1_areFoes 38 = .ok (.iconst 0, 1) := by decide +kernel
theorem dX1_areFoes_39 : decode cX1_areFoes 39 = .ok (.ireturn, 1) := by decide +kernel
theorem dX1_areWrong_0 : decode cX1_areWrong 0 = .ok (.aload_n 0, 1) := by decide +kernel
theorem dX1_areWrong_1 : decode cX1_areWrong 1 = .ok (.getfield 26, 3) := by decide +kernel
theorem dX1_areWrong_4 : decode cX1_areWrong 4 = .ok (.iload_n 1, 1) := by decide +kernel
theorem dX1_areWrong_5 : decode cX1_areWrong 5 = .ok (.iaload, 1) := by decide +kernel
theorem dX1_areWrong_6 : decode cX1_areWrong 6 = .ok (.istore_n 3, 1) := by decide +kernel
theorem dX1_areWrong_7 : decode cX1_areWrong 7 = .ok (.aload_n 0, 1) := by decide +kernel
theorem dX1_areWrong_8 : decode cX1_areWrong 8 = .ok (.getfield 19, 3) := by decide +kernel
theorem dX1_areWrong_11 : decode cX1_areWrong 11 = .ok (.iconst 2, 1) := by decide +kernel
theorem dX1_areWrong_12 : decode cX1_areWrong 12 = .ok (.aload_n 0, 1) := by decide +kernel
theorem dX1_areWrong_13 : decode cX1_areWrong 13 = .ok (.getfield 23, 3) := by decide +kernel
theorem dX1_areWrong_16 : decode cX1_areWrong 16 = .ok (.iload_n 1, 1) := by decide +kernel
theorem dX1_areWrong_17 : decode cX1_areWrong 17 = .ok (.iaload, 1) := by decide +kernel
theorem dX1_areWrong_18 : decode cX1_areWrong 18 = .ok (.imul, 1) := by decide +kernel
theorem dX1_areWrong_19 : decode cX1_areWrong 19 = .ok (.iload_n 2, 1) := by decide +kernel
theorem dX1_areWrong_20 : decode cX1_areWrong 20 = .ok (.iconst 2, 1) := by decide +kernel
theorem dX1_areWrong_21 : decode cX1_areWrong 21 = .ok (.irem, 1) := by decide +kernel
theorem dX1_areWrong_22 : decode cX1_areWrong 22 = .ok (.iadd, 1) := by decide +kernel
theorem dX1_areWrong_23 : decode cX1_areWrong 23 = .ok (.baload, 1) := by decide +kernel
theorem dX1_areWrong_24 : decode cX1_areWrong 24 = .ok (.ifCond .ne 23, 3) := by decide +kernel
theorem dX1_areWrong_27 : decode cX1_areWrong 27 = .ok (.iload_n 3, 1) := by decide +kernel
theorem dX1_areWrong_28 : decode cX1_areWrong 28 = .ok (.iconst (-1), 1) := by decide +kernel
theorem dX1_areWrong_29 : decode cX1_areWrong 29 = .ok (.if_icmp .eq 22, 3) := by decide +kernel
theorem dX1_areWrong_32 : decode cX1_areWrong 32 = .ok (.aload_n 0, 1) := by decide +kernel
theorem dX1_areWrong_33 : decode cX1_areWrong 33 = .ok (.getfield 19, 3) := by decide +kernel
theorem dX1_areWrong_36 : decode cX1_areWrong 36 = .ok (.iconst 2, 1) := by decide +kernel
theorem dX1_areWrong_37 : decode cX1_areWrong 37 = .ok (.iload_n 3, 1) := by decide +kernel
theorem dX1_areWrong_38 : decode cX1_areWrong 38 = .ok (.imul, 1) := by decide +kernel
theorem dX1_areWrong_39 : decode cX1_areWrong 39 = .ok (.iload_n 2, 1) := by decide +kernel
theorem dX1_areWrong_40 : decode cX1_areWrong 40 = .ok (.iconst 2, 1) := by decide +kernel
theorem dX1_areWrong_41 : decode cX1_areWrong 41 = .ok (.irem, 1) := by decide +kernel
theorem dX1_areWrong_42 : decode cX1_areWrong 42 = .ok (.iadd, 1) := by decide +kernel
theorem dX1_areWrong_43 : decode cX1_areWrong 43 = .ok (.baload, 1) := by decide +kernel
theorem dX1_areWrong_44 : decode cX1_areWrong 44 = .ok (.ifCond .eq 7, 3) := by decide +kernel
theorem dX1_areWrong_47 : decode cX1_areWrong 47 = .ok (.iconst 1, 1) := by decide +kernel
theorem dX1_areWrong_48 : decode cX1_areWrong 48 = .ok (.goto 4, 3) := by decide +kernel
theorem dX1_areWrong_51 : decode cX1_areWrong 51 = .ok (.iconst 0, 1) := by decide +kernel
theorem dX1_areWrong_52 : decode cX1_areWrong 52 = .ok (.istore 4, 2) := by decide +kernel
theorem dX1_areWrong_54 : decode cX1_areWrong 54 = .ok (.iload 4, 2) := by decide +kernel
theorem dX1_areWrong_56 : decode cX1_areWrong 56 = .ok (.ifCond .eq 15, 3) := by decide +kernel
theorem dX1_areWrong_59 : decode cX1_areWrong 59 = .ok (.aload_n 0, 1) := by decide +kernel
theorem dX1_areWrong_60 : decode cX1_areWrong 60 = .ok (.iload_n 1, 1) := by decide +kernel
theorem dX1_areWrong_61 : decode cX1_areWrong 61 = .ok (.invokevirtual 73, 3) := by decide +kernel
theorem dX1_areWrong_64 : decode cX1_areWrong 64 = .ok (.ifCond .ne 7, 3) := by decide +kernel
theorem dX1_areWrong_67 : decode cX1_areWrong 67 = .ok (.iconst 1, 1) := by decide +kernel
theorem dX1_areWrong_68 : decode cX1_areWrong 68 = .ok (.goto 4, 3) := by decide +kernel
theorem dX1_areWrong_71 : decode cX1_areWrong 71 = .ok (.iconst 0, 1) := by decide +kernel
theorem dX1_areWrong_72 : decode cX1_areWrong 72 = .ok (.ireturn, 1) := by decide +kernel
theorem dX1_areInBreach_0 : decode cX1_areInBreach 0 = .ok (.aload_n 0, 1) := by decide +kernel
theorem dX1_areInBreach_1 : decode cX1_areInBreach 1 = .ok (.iload_n 1, 1) := by decide +kernel
theorem dX1_areInBreach_2 : decode cX1_areInBreach 2 = .ok (.iload_n 2, 1) := by decide +kernel
theorem dX1_areInBreach_3 : decode cX1_areInBreach 3 = .ok (.invokevirtual 85, 3) := by decide +kernel
theorem dX1_areInBreach_6 : decode cX1_areInBreach 6 = .ok (.ifCond .eq 32, 3) := by decide +kernel
theorem dX1_areInBreach_9 : decode cX1_areInBreach 9 = .ok (.aload_n 0, 1) := by decide +kernel
theorem dX1_areInBreach_10 : decode cX1_areInBreach 10 = .ok (.getfield 32, 3) := by decide +kernel
theorem dX1_areInBreach_13 : decode cX1_areInBreach 13 = .ok (.iload_n 1, 1) := by decide +kernel
theorem dX1_areInBreach_14 : decode cX1_areInBreach 14 = .ok (.iaload, 1) := by decide +kernel
theorem dX1_areInBreach_15 : decode cX1_areInBreach 15 = .ok (.iconst (-1), 1) := by decide +kernel
theorem dX1_areInBreach_16 : decode cX1_areInBreach 16 = .ok (.if_icmp .eq 22, 3) := by decide +kernel
theorem dX1_areInBreach_19 : decode cX1_areInBreach 19 = .ok (.aload_n 0, 1) := by decide +kernel
theorem dX1_areInBreach_20 : decode cX1_areInBreach 20 = .ok (.iload_n 1, 1) := by decide +kernel
theorem dX1_areInBreach_21 : decode cX1_areInBreach 21 = .ok (.iload_n 2, 1) := by decide +kernel
theorem dX1_areInBreach_22 : decode cX1_areInBreach 22 = .ok (.aload_n 0, 1) := by decide +kernel
theorem dX1_areInBreach_23 : decode cX1_areInBreach 23 = .ok (.getfield 32, 3) := by decide +kernel
theorem dX1_areInBreach_26 : decode cX1_areInBreach 26 = .ok (.iload_n 1, 1) := by decide +kernel
theorem dX1_areInBreach_27 : decode cX1_areInBreach 27 = .ok (.iaload, 1) := by decide +kernel
theorem dX1_areInBreach_28 : decode cX1_areInBreach 28 = .ok (.invokevirtual 92, 3) := by decide +kernel
theorem dX1_areInBreach_31 : decode cX1_areInBreach 31 = .ok (.ifCond .eq 7, 3) := by decide +kernel
theorem dX1_areInBreach_34 : decode cX1_areInBreach 34 = .ok (.iconst 1, 1) := by decide +kernel
theorem dX1_areInBreach_35 : decode cX1_areInBreach 35 = .ok (.goto 4, 3) := by decide +kernel
theorem dX1_areInBreach_38 : decode cX1_areInBreach 38 = .ok (.iconst 0, 1) := by decide +kernel
theorem dX1_areInBreach_39 : decode cX1_areInBreach 39 = .ok (.ireturn, 1) := by decide +kernel
theorem dX1_isMisplaced_0 : decode cX1_isMisplaced 0 = .ok (.aload_n 0, 1) := by decide +kernel
theorem dX1_isMisplaced_1 : decode cX1_isMisplaced 1 = .ok (.iload_n 1, 1) := by decide +kernel
theorem dX1_isMisplaced_2 : decode cX1_isMisplaced 2 = .ok (.invokevirtual 66, 3) := by decide +kernel
theorem dX1_isMisplaced_5 : decode cX1_isMisplaced 5 = .ok (.ifCond .eq 31, 3) := by decide +kernel
theorem dX1_isMisplaced_8 : decode cX1_isMisplaced 8 = .ok (.aload_n 0, 1) := by decide +kernel
theorem dX1_isMisplaced_9 : decode cX1_isMisplaced 9 = .ok (.getfield 32, 3) := by decide +kernel
theorem dX1_isMisplaced_12 : decode cX1_isMisplaced 12 = .ok (.iload_n 1, 1) := by decide +kernel
theorem dX1_isMisplaced_13 : decode cX1_isMisplaced 13 = .ok (.iaload, 1) := by decide +kernel
theorem dX1_isMisplaced_14 : decode cX1_isMisplaced 14 = .ok (.iconst (-1), 1) := by decide +kernel
theorem dX1_isMisplaced_15 : decode cX1_isMisplaced 15 = .ok (.if_icmp .eq 21, 3) := by decide +kernel
theorem dX1_isMisplaced_18 : decode cX1_isMisplaced 18 = .ok (.aload_n 0, 1) := by decide +kernel
theorem dX1_isMisplaced_19 : decode cX1_isMisplaced 19 = .ok (.iload_n 1, 1) := by decide +kernel
theorem dX1_isMisplaced_20 : decode cX1_isMisplaced 20 = .ok (.aload_n 0, 1) := by decide +kernel
theorem dX1_isMisplaced_21 : decode cX1_isMisplaced 21 = .ok (.getfield 32, 3) := by decide +kernel
theorem dX1_isMisplaced_24 : decode cX1_isMisplaced 24 = .ok (.iload_n 1, 1) := by decide +kernel
theorem dX1_isMisplaced_25 : decode cX1_isMisplaced 25 = .ok (.iaload, 1) := by decide +kernel
theorem dX1_isMisplaced_26 : decode cX1_isMisplaced 26 = .ok (.invokevirtual 95, 3) := by decide +kernel
theorem dX1_isMisplaced_29 : decode cX1_isMisplaced 29 = .ok (.ifCond .eq 7, 3) := by decide +kernel
theorem dX1_isMisplaced_32 : decode cX1_isMisplaced 32 = .ok (.iconst 1, 1) := by decide +kernel
theorem dX1_isMisplaced_33 : decode cX1_isMisplaced 33 = .ok (.goto 4, 3) := by decide +kernel
theorem dX1_isMisplaced_36 : decode cX1_isMisplaced 36 = .ok (.iconst 0, 1) := by decide +kernel
theorem dX1_isMisplaced_37 : decode cX1_isMisplaced 37 = .ok (.ireturn, 1) := by decide +kernel
theorem dX1_foesOf_0 : decode cX1_foesOf 0 = .ok (.iconst 0, 1) := by decide +kernel
theorem dX1_foesOf_1 : decode cX1_foesOf 1 = .ok (.istore_n 2, 1) := by decide +kernel
theorem dX1_foesOf_2 : decode cX1_foesOf 2 = .ok (.iconst 0, 1) := by decide +kernel
theorem dX1_foesOf_3 : decode cX1_foesOf 3 = .ok (.istore_n 3, 1) := by decide +kernel
theorem dX1_foesOf_4 : decode cX1_foesOf 4 = .ok (.iload_n 3, 1) := by decide +kernel
theorem dX1_foesOf_5 : decode cX1_foesOf 5 = .ok (.aload_n 0, 1) := by decide +kernel
theorem dX1_foesOf_6 : decode cX1_foesOf 6 = .ok (.getfield 46, 3) := by decide +kernel
theorem dX1_foesOf_9 : decode cX1_foesOf 9 = .ok (.if_icmp .ge 44, 3) := by decide +kernel
theorem dX1_foesOf_12 : decode cX1_foesOf 12 = .ok (.iload_n 2, 1) := by decide +kernel
theorem dX1_foesOf_13 : decode cX1_foesOf 13 = .ok (.aload_n 0, 1) := by decide +kernel
theorem dX1_foesOf_14 : decode cX1_foesOf 14 = .ok (.getfield 32, 3) := by decide +kernel
theorem dX1_foesOf_17 : decode cX1_foesOf 17 = .ok (.iload_n 1, 1) := by decide +kernel
theorem dX1_foesOf_18 : decode cX1_foesOf 18 = .ok (.iaload, 1) := by decide +kernel
theorem dX1_foesOf_19 : decode cX1_foesOf 19 = .ok (.iconst (-1), 1) := by decide +kernel
theorem dX1_foesOf_20 : decode cX1_foesOf 20 = .ok (.if_icmp .eq 24, 3) := by decide +kernel
theorem dX1_foesOf_23 : decode cX1_foesOf 23 = .ok (.aload_n 0, 1) := by decide +kernel
theorem dX1_foesOf_24 : decode cX1_foesOf 24 = .ok (.iload_n 1, 1) := by decide +kernel
theorem dX1_foesOf_25 : decode cX1_foesOf 25 = .ok (.iload_n 3, 1) := by decide +kernel
theorem dX1_foesOf_26 : decode cX1_foesOf 26 = .ok (.aload_n 0, 1) := by decide +kernel
theorem dX1_foesOf_27 : decode cX1_foesOf 27 = .ok (.getfield 32, 3) := by decide +kernel
theorem dX1_foesOf_30 : decode cX1_foesOf 30 = .ok (.iload_n 1, 1) := by decide +kernel
theorem dX1_foesOf_31 : decode cX1_foesOf 31 = .ok (.iaload, 1) := by decide +kernel
theorem dX1_foesOf_32 : decode cX1_foesOf 32 = .ok (.invokevirtual 92, 3) := by decide +kernel
theorem dX1_foesOf_35 : decode cX1_foesOf 35 = .ok (.ifCond .eq 9, 3) := by decide +kernel
theorem dX1_foesOf_38 : decode cX1_foesOf 38 = .ok (.iconst 1, 1) := by decide +kernel
theorem dX1_foesOf_39 : decode cX1_foesOf 39 = .ok (.iload_n 3, 1) := by decide +kernel
theorem dX1_foesOf_40 : decode cX1_foesOf 40 = .ok (.ishl, 1) := by decide +kernel
theorem dX1_foesOf_41 : decode cX1_foesOf 41 = .ok (.goto 4, 3) := by decide +kernel
theorem dX1_foesOf_44 : decode cX1_foesOf 44 = .ok (.iconst 0, 1) := by decide +kernel
theorem dX1_foesOf_45 : decode cX1_foesOf 45 = .ok (.ior, 1) := by decide +kernel
theorem dX1_foesOf_46 : decode cX1_foesOf 46 = .ok (.istore_n 2, 1) := by decide +kernel
theorem dX1_foesOf_47 : decode cX1_foesOf 47 = .ok (.iinc 3 1, 3) := by decide +kernel
theorem dX1_foesOf_50 : decode cX1_foesOf 50 = .ok (.goto (-46), 3) := by decide +kernel
theorem dX1_foesOf_53 : decode cX1_foesOf 53 = .ok (.iload_n 2, 1) := by decide +kernel
theorem dX1_foesOf_54 : decode cX1_foesOf 54 = .ok (.ireturn, 1) := by decide +kernel
theorem dX1_breaches_0 : decode cX1_breaches 0 = .ok (.aload_n 0, 1) := by decide +kernel
theorem dX1_breaches_1 : decode cX1_breaches 1 = .ok (.iconst 0, 1) := by decide +kernel
theorem dX1_breaches_2 : decode cX1_breaches 2 = .ok (.putfield 38, 3) := by decide +kernel
theorem dX1_breaches_5 : decode cX1_breaches 5 = .ok (.iconst 0, 1) := by decide +kernel
theorem dX1_breaches_6 : decode cX1_breaches 6 = .ok (.istore_n 1, 1) := by decide +kernel
theorem dX1_breaches_7 : decode cX1_breaches 7 = .ok (.iconst 0, 1) := by decide +kernel
theorem dX1_breaches_8 : decode cX1_breaches 8 = .ok (.istore_n 2, 1) := by decide +kernel
theorem dX1_breaches_9 : decode cX1_breaches 9 = .ok (.iload_n 2, 1) := by decide +kernel
theorem dX1_breaches_10 : decode cX1_breaches 10 = .ok (.sipush 256, 3) := by decide +kernel
theorem dX1_breaches_13 : decode cX1_breaches 13 = .ok (.if_icmp .ge 47, 3) := by decide +kernel
theorem dX1_breaches_16 : decode cX1_breaches 16 = .ok (.iload_n 1, 1) := by decide +kernel
theorem dX1_breaches_17 : decode cX1_breaches 17 = .ok (.iload_n 2, 1) := by decide +kernel
theorem dX1_breaches_18 : decode cX1_breaches 18 = .ok (.bipush 16, 2) := by decide +kernel
theorem dX1_breaches_20 : decode cX1_breaches 20 = .ok (.idiv, 1) := by decide +kernel
theorem dX1_breaches_21 : decode cX1_breaches 21 = .ok (.aload_n 0, 1) := by decide +kernel
theorem dX1_breaches_22 : decode cX1_breaches 22 = .ok (.getfield 46, 3) := by decide +kernel
theorem dX1_breaches_25 : decode cX1_breaches 25 = .ok (.if_icmp .ge 26, 3) := by decide +kernel
theorem dX1_breaches_28 : decode cX1_breaches 28 = .ok (.aload_n 0, 1) := by decide +kernel
theorem dX1_breaches_29 : decode cX1_breaches 29 = .ok (.iload_n 2, 1) := by decide +kernel
theorem dX1_breaches_30 : decode cX1_breaches 30 = .ok (.bipush 16, 2) := by decide +kernel
theorem dX1_breaches_32 : decode cX1_breaches 32 = .ok (.idiv, 1) := by decide +kernel
theorem dX1_breaches_33 : decode cX1_breaches 33 = .ok (.invokevirtual 98, 3) := by decide +kernel
theorem dX1_breaches_36 : decode cX1_breaches 36 = .ok (.iload_n 2, 1) := by decide +kernel
theorem dX1_breaches_37 : decode cX1_breaches 37 = .ok (.bipush 16, 2) := by decide +kernel
theorem dX1_breaches_39 : decode cX1_breaches 39 = .ok (.irem, 1) := by decide +kernel
theorem dX1_breaches_40 : decode cX1_breaches 40 = .ok (.ishr, 1) := by decide +kernel
theorem dX1_breaches_41 : decode cX1_breaches 41 = .ok (.iconst 1, 1) := by decide +kernel
theorem dX1_breaches_42 : decode cX1_breaches 42 = .ok (.iand, 1) := by decide +kernel
theorem dX1_breaches_43 : decode cX1_breaches 43 = .ok (.iconst 1, 1) := by decide +kernel
theorem dX1_breaches_44 : decode cX1_breaches 44 = .ok (.if_icmp .ne 7, 3) := by decide +kernel
theorem dX1_breaches_47 : decode cX1_breaches 47 = .ok (.iconst 1, 1) := by decide +kernel
theorem dX1_breaches_48 : decode cX1_breaches 48 = .ok (.goto 4, 3) := by decide +kernel
theorem dX1_breaches_51 : decode cX1_breaches 51 = .ok (.iconst 0, 1) := by decide +kernel
theorem dX1_breaches_52 : decode cX1_breaches 52 = .ok (.iadd, 1) := by decide +kernel
theorem dX1_breaches_53 : decode cX1_breaches 53 = .ok (.istore_n 1, 1) := by decide +kernel
theorem dX1_breaches_54 : decode cX1_breaches 54 = .ok (.iinc 2 1, 3) := by decide +kernel
theorem dX1_breaches_57 : decode cX1_breaches 57 = .ok (.goto (-48), 3) := by decide +kernel
theorem dX1_breaches_60 : decode cX1_breaches 60 = .ok (.iload_n 1, 1) := by decide +kernel
theorem dX1_breaches_61 : decode cX1_breaches 61 = .ok (.iconst 2, 1) := by decide +kernel
theorem dX1_breaches_62 : decode cX1_breaches 62 = .ok (.idiv, 1) := by decide +kernel
theorem dX1_breaches_63 : decode cX1_breaches 63 = .ok (.ireturn, 1) := by decide +kernel
theorem dX1_inBreachWith_0 : decode cX1_inBreachWith 0 = .ok (.aload_n 0, 1) := by decide +kernel
theorem dX1_inBreachWith_1 : decode cX1_inBreachWith 1 = .ok (.iload_n 1, 1) := by decide +kernel
theorem dX1_inBreachWith_2 : decode cX1_inBreachWith 2 = .ok (.invokevirtual 66, 3) := by decide +kernel
theorem dX1_inBreachWith_5 : decode cX1_inBreachWith 5 = .ok (.ifCond .eq 11, 3) := by decide +kernel
theorem dX1_inBreachWith_8 : decode cX1_inBreachWith 8 = .ok (.aload_n 0, 1) := by decide +kernel
theorem dX1_inBreachWith_9 : decode cX1_inBreachWith 9 = .ok (.iload_n 1, 1) := by decide +kernel
theorem dX1_inBreachWith_10 : decode cX1_inBreachWith 10 = .ok (.invokevirtual 98, 3) := by decide +kernel
theorem dX1_inBreachWith_13 : decode cX1_inBreachWith 13 = .ok (.goto 4, 3) := by decide +kernel
theorem dX1_inBreachWith_16 : decode cX1_inBreachWith 16 = .ok (.iconst 0, 1) := by decide +kernel
theorem dX1_inBreachWith_17 : decode cX1_inBreachWith 17 = .ok (.ireturn, 1) := by decide +kernel
theorem dX1_wrongs_0 : decode cX1_wrongs 0 = .ok (.iconst 0, 1) := by decide +kernel
theorem dX1_wrongs_1 : decode cX1_wrongs 1 = .ok (.istore_n 1, 1) := by decide +kernel
theorem dX1_wrongs_2 : decode cX1_wrongs 2 = .ok (.iconst 0, 1) := by decide +kernel
theorem dX1_wrongs_3 : decode cX1_wrongs 3 = .ok (.istore_n 2, 1) := by decide +kernel
theorem dX1_wrongs_4 : decode cX1_wrongs 4 = .ok (.iload_n 2, 1) := by decide +kernel
theorem dX1_wrongs_5 : decode cX1_wrongs 5 = .ok (.aload_n 0, 1) := by decide +kernel
theorem dX1_wrongs_6 : decode cX1_wrongs 6 = .ok (.getfield 46, 3) := by decide +kernel
theorem dX1_wrongs_9 : decode cX1_wrongs 9 = .ok (.if_icmp .ge 43, 3) := by decide +kernel
theorem dX1_wrongs_12 : decode cX1_wrongs 12 = .ok (.iload_n 1, 1) := by decide +kernel
theorem dX1_wrongs_13 : decode cX1_wrongs 13 = .ok (.aload_n 0, 1) := by decide +kernel
theorem dX1_wrongs_14 : decode cX1_wrongs 14 = .ok (.getfield 32, 3) := by decide +kernel
theorem dX1_wrongs_17 : decode cX1_wrongs 17 = .ok (.iload_n 2, 1) := by decide +kernel
theorem dX1_wrongs_18 : decode cX1_wrongs 18 = .ok (.iaload, 1) := by decide +kernel
theorem dX1_wrongs_19 : decode cX1_wrongs 19 = .ok (.iconst (-1), 1) := by decide +kernel
theorem dX1_wrongs_20 : decode cX1_wrongs 20 = .ok (.if_icmp .eq 23, 3) := by decide +kernel
theorem dX1_wrongs_23 : decode cX1_wrongs 23 = .ok (.aload_n 0, 1) := by decide +kernel
theorem dX1_wrongs_24 : decode cX1_wrongs 24 = .ok (.iload_n 2, 1) := by decide +kernel
theorem dX1_wrongs_25 : decode cX1_wrongs 25 = .ok (.aload_n 0, 1) := by decide +kernel
theorem dX1_wrongs_26 : decode cX1_wrongs 26 = .ok (.getfield 32, 3) := by decide +kernel
theorem dX1_wrongs_29 : decode cX1_wrongs 29 = .ok (.iload_n 2, 1) := by decide +kernel
theorem dX1_wrongs_30 : decode cX1_wrongs 30 = .ok (.iaload, 1) := by decide +kernel
theorem dX1_wrongs_31 : decode cX1_wrongs 31 = .ok (.invokevirtual 95, 3) := by decide +kernel
theorem dX1_wrongs_34 : decode cX1_wrongs 34 = .ok (.ifCond .eq 9, 3) := by decide +kernel
theorem dX1_wrongs_37 : decode cX1_wrongs 37 = .ok (.iconst 1, 1) := by decide +kernel
theorem dX1_wrongs_38 : decode cX1_wrongs 38 = .ok (.iload_n 2, 1) := by decide +kernel
theorem dX1_wrongs_39 : decode cX1_wrongs 39 = .ok (.ishl, 1) := by decide +kernel
theorem dX1_wrongs_40 : decode cX1_wrongs 40 = .ok (.goto 4, 3) := by decide +kernel
theorem dX1_wrongs_43 : decode cX1_wrongs 43 = .ok (.iconst 0, 1) := by decide +kernel
theorem dX1_wrongs_44 : decode cX1_wrongs 44 = .ok (.ior, 1) := by decide +kernel
theorem dX1_wrongs_45 : decode cX1_wrongs 45 = .ok (.istore_n 1, 1) := by decide +kernel
theorem dX1_wrongs_46 : decode cX1_wrongs 46 = .ok (.iinc 2 1, 3) := by decide +kernel
theorem dX1_wrongs_49 : decode cX1_wrongs 49 = .ok (.goto (-45), 3) := by decide +kernel
theorem dX1_wrongs_52 : decode cX1_wrongs 52 = .ok (.iload_n 1, 1) := by decide +kernel
theorem dX1_wrongs_53 : decode cX1_wrongs 53 = .ok (.ireturn, 1) := by decide +kernel
theorem dX1_isCleanWithout_0 : decode cX1_isCleanWithout 0 = .ok (.iload_n 2, 1) := by decide +kernel
theorem dX1_isCleanWithout_1 : decode cX1_isCleanWithout 1 = .ok (.iload_n 1, 1) := by decide +kernel
theorem dX1_isCleanWithout_2 : decode cX1_isCleanWithout 2 = .ok (.iconst (-1), 1) := by decide +kernel
theorem dX1_isCleanWithout_3 : decode cX1_isCleanWithout 3 = .ok (.ixor, 1) := by decide +kernel
theorem dX1_isCleanWithout_4 : decode cX1_isCleanWithout 4 = .ok (.iand, 1) := by decide +kernel
theorem dX1_isCleanWithout_5 : decode cX1_isCleanWithout 5 = .ok (.ifCond .ne 7, 3) := by decide +kernel
theorem dX1_isCleanWithout_8 : decode cX1_isCleanWithout 8 = .ok (.iconst 1, 1) := by decide +kernel
theorem dX1_isCleanWithout_9 : decode cX1_isCleanWithout 9 = .ok (.goto 4, 3) := by decide +kernel
theorem dX1_isCleanWithout_12 : decode cX1_isCleanWithout 12 = .ok (.iconst 0, 1) := by decide +kernel
theorem dX1_isCleanWithout_13 : decode cX1_isCleanWithout 13 = .ok (.istore_n 3, 1) := by decide +kernel
theorem dX1_isCleanWithout_14 : decode cX1_isCleanWithout 14 = .ok (.iconst 0, 1) := by decide +kernel
theorem dX1_isCleanWithout_15 : decode cX1_isCleanWithout 15 = .ok (.istore 4, 2) := by decide +kernel
theorem dX1_isCleanWithout_17 : decode cX1_isCleanWithout 17 = .ok (.iload 4, 2) := by decide +kernel
theorem dX1_isCleanWithout_19 : decode cX1_isCleanWithout 19 = .ok (.aload_n 0, 1) := by decide +kernel
theorem dX1_isCleanWithout_20 : decode cX1_isCleanWithout 20 = .ok (.getfield 46, 3) := by decide +kernel
theorem dX1_isCleanWithout_23 : decode cX1_isCleanWithout 23 = .ok (.if_icmp .ge 43, 3) := by decide +kernel
theorem dX1_isCleanWithout_26 : decode cX1_isCleanWithout 26 = .ok (.iload_n 3, 1) := by decide +kernel
theorem dX1_isCleanWithout_27 : decode cX1_isCleanWithout 27 = .ok (.ifCond .eq 39, 3) := by decide +kernel
theorem dX1_isCleanWithout_30 : decode cX1_isCleanWithout 30 = .ok (.iload_n 1, 1) := by decide +kernel
theorem dX1_isCleanWithout_31 : decode cX1_isCleanWithout 31 = .ok (.iload 4, 2) := by decide +kernel
theorem dX1_isCleanWithout_33 : decode cX1_isCleanWithout 33 = .ok (.ishr, 1) := by decide +kernel
theorem dX1_isCleanWithout_34 : decode cX1_isCleanWithout 34 = .ok (.iconst 1, 1) := by decide +kernel
theorem dX1_isCleanWithout_35 : decode cX1_isCleanWithout 35 = .ok (.iand, 1) := by decide +kernel
theorem dX1_isCleanWithout_36 : decode cX1_isCleanWithout 36 = .ok (.iconst 1, 1) := by decide +kernel
theorem dX1_isCleanWithout_37 : decode cX1_isCleanWithout 37 = .ok (.if_icmp .eq 17, 3) := by decide +kernel
theorem dX1_isCleanWithout_40 : decode cX1_isCleanWithout 40 = .ok (.aload_n 0, 1) := by decide +kernel
theorem dX1_isCleanWithout_41 : decode cX1_isCleanWithout 41 = .ok (.getfield 35, 3) := by decide +kernel
theorem dX1_isCleanWithout_44 : decode cX1_isCleanWithout 44 = .ok (.iload 4, 2) := by decide +kernel
theorem dX1_isCleanWithout_46 : decode cX1_isCleanWithout 46 = .ok (.iaload, 1) := by decide +kernel
theorem dX1_isCleanWithout_47 : decode cX1_isCleanWithout 47 = .ok (.iload_n 1, 1) := by decide +kernel
theorem dX1_isCleanWithout_48 : decode cX1_isCleanWithout 48 = .ok (.iconst (-1), 1) := by decide +kernel
theorem dX1_isCleanWithout_49 : decode cX1_isCleanWithout 49 = .ok (.ixor, 1) := by decide +kernel
theorem dX1_isCleanWithout_50 : decode cX1_isCleanWithout 50 = .ok (.iand, 1) := by decide +kernel
theorem dX1_isCleanWithout_51 : decode cX1_isCleanWithout 51 = .ok (.ifCond .ne 7, 3) := by decide +kernel
theorem dX1_isCleanWithout_54 : decode cX1_isCleanWithout 54 = .ok (.iconst 1, 1) := by decide +kernel
theorem dX1_isCleanWithout_55 : decode cX1_isCleanWithout 55 = .ok (.goto 4, 3) := by decide +kernel
theorem dX1_isCleanWithout_58 : decode cX1_isCleanWithout 58 = .ok (.iconst 0, 1) := by decide +kernel
theorem dX1_isCleanWithout_59 : decode cX1_isCleanWithout 59 = .ok (.istore_n 3, 1) := by decide +kernel
theorem dX1_isCleanWithout_60 : decode cX1_isCleanWithout 60 = .ok (.iinc 4 1, 3) := by decide +kernel
theorem dX1_isCleanWithout_63 : decode cX1_isCleanWithout 63 = .ok (.goto (-46), 3) := by decide +kernel
theorem dX1_isCleanWithout_66 : decode cX1_isCleanWithout 66 = .ok (.iload_n 3, 1) := by decide +kernel
theorem dX1_isCleanWithout_67 : decode cX1_isCleanWithout 67 = .ok (.ireturn, 1) := by decide +kernel
theorem dX1_laysFoes_0 : decode cX1_laysFoes 0 = .ok (.iconst 0, 1) := by decide +kernel
theorem dX1_laysFoes_1 : decode cX1_laysFoes 1 = .ok (.istore_n 1, 1) := by decide +kernel
theorem dX1_laysFoes_2 : decode cX1_laysFoes 2 = .ok (.iload_n 1, 1) := by decide +kernel
theorem dX1_laysFoes_3 : decode cX1_laysFoes 3 = .ok (.aload_n 0, 1) := by decide +kernel
theorem dX1_laysFoes_4 : decode cX1_laysFoes 4 = .ok (.getfield 46, 3) := by decide +kernel
theorem dX1_laysFoes_7 : decode cX1_laysFoes 7 = .ok (.if_icmp .ge 20, 3) := by decide +kernel
theorem dX1_laysFoes_10 : decode cX1_laysFoes 10 = .ok (.aload_n 0, 1) := by decide +kernel
theorem dX1_laysFoes_11 : decode cX1_laysFoes 11 = .ok (.getfield 35, 3) := by decide +kernel
theorem dX1_laysFoes_14 : decode cX1_laysFoes 14 = .ok (.iload_n 1, 1) := by decide +kernel
theorem dX1_laysFoes_15 : decode cX1_laysFoes 15 = .ok (.aload_n 0, 1) := by decide +kernel
theorem dX1_laysFoes_16 : decode cX1_laysFoes 16 = .ok (.iload_n 1, 1) := by decide +kernel
theorem dX1_laysFoes_17 : decode cX1_laysFoes 17 = .ok (.invokevirtual 98, 3) := by decide +kernel
theorem dX1_laysFoes_20 : decode cX1_laysFoes 20 = .ok (.iastore, 1) := by decide +kernel
theorem dX1_laysFoes_21 : decode cX1_laysFoes 21 = .ok (.iinc 1 1, 3) := by decide +kernel
theorem dX1_laysFoes_24 : decode cX1_laysFoes 24 = .ok (.goto (-22), 3) := by decide +kernel
theorem dX1_laysFoes_27 : decode cX1_laysFoes 27 = .ok (.return_, 1) := by decide +kernel
theorem dX1_isClean_0 : decode cX1_isClean 0 = .ok (.aload_n 0, 1) := by decide +kernel
theorem dX1_isClean_1 : decode cX1_isClean 1 = .ok (.iconst 0, 1) := by decide +kernel
theorem dX1_isClean_2 : decode cX1_isClean 2 = .ok (.putfield 38, 3) := by decide +kernel
theorem dX1_isClean_5 : decode cX1_isClean 5 = .ok (.aload_n 0, 1) := by decide +kernel
theorem dX1_isClean_6 : decode cX1_isClean 6 = .ok (.invokevirtual 102, 3) := by decide +kernel
theorem dX1_isClean_9 : decode cX1_isClean 9 = .ok (.aload_n 0, 1) := by decide +kernel
theorem dX1_isClean_10 : decode cX1_isClean 10 = .ok (.iconst 0, 1) := by decide +kernel
theorem dX1_isClean_11 : decode cX1_isClean 11 = .ok (.aload_n 0, 1) := by decide +kernel
theorem dX1_isClean_12 : decode cX1_isClean 12 = .ok (.invokevirtual 105, 3) := by decide +kernel
theorem dX1_isClean_15 : decode cX1_isClean 15 = .ok (.invokevirtual 109, 3) := by decide +kernel
theorem dX1_isClean_18 : decode cX1_isClean 18 = .ok (.ireturn, 1) := by decide +kernel
theorem dX1_isGood_0 : decode cX1_isGood 0 = .ok (.aload_n 0, 1) := by decide +kernel
theorem dX1_isGood_1 : decode cX1_isGood 1 = .ok (.iload_n 1, 1) := by decide +kernel
theorem dX1_isGood_2 : decode cX1_isGood 2 = .ok (.iload_n 2, 1) := by decide +kernel
theorem dX1_isGood_3 : decode cX1_isGood 3 = .ok (.invokevirtual 95, 3) := by decide +kernel
theorem dX1_isGood_6 : decode cX1_isGood 6 = .ok (.ifCond .ne 7, 3) := by decide +kernel
theorem dX1_isGood_9 : decode cX1_isGood 9 = .ok (.iconst 1, 1) := by decide +kernel
theorem dX1_isGood_10 : decode cX1_isGood 10 = .ok (.goto 4, 3) := by decide +kernel
theorem dX1_isGood_13 : decode cX1_isGood 13 = .ok (.iconst 0, 1) := by decide +kernel
theorem dX1_isGood_14 : decode cX1_isGood 14 = .ok (.istore_n 3, 1) := by decide +kernel
theorem dX1_isGood_15 : decode cX1_isGood 15 = .ok (.iconst 0, 1) := by decide +kernel
theorem dX1_isGood_16 : decode cX1_isGood 16 = .ok (.istore 4, 2) := by decide +kernel
theorem dX1_isGood_18 : decode cX1_isGood 18 = .ok (.iload 4, 2) := by decide +kernel
theorem dX1_isGood_20 : decode cX1_isGood 20 = .ok (.aload_n 0, 1) := by decide +kernel
theorem dX1_isGood_21 : decode cX1_isGood 21 = .ok (.getfield 46, 3) := by decide +kernel
theorem dX1_isGood_24 : decode cX1_isGood 24 = .ok (.if_icmp .ge 30, 3) := by decide +kernel
theorem dX1_isGood_27 : decode cX1_isGood 27 = .ok (.iload_n 3, 1) := by decide +kernel
theorem dX1_isGood_28 : decode cX1_isGood 28 = .ok (.ifCond .eq 26, 3) := by decide +kernel
theorem dX1_isGood_31 : decode cX1_isGood 31 = .ok (.aload_n 0, 1) := by decide +kernel
theorem dX1_isGood_32 : decode cX1_isGood 32 = .ok (.iload_n 1, 1) := by decide +kernel
theorem dX1_isGood_33 : decode cX1_isGood 33 = .ok (.iload 4, 2) := by decide +kernel
theorem dX1_isGood_35 : decode cX1_isGood 35 = .ok (.iload_n 2, 1) := by decide +kernel
theorem dX1_isGood_36 : decode cX1_isGood 36 = .ok (.invokevirtual 92, 3) := by decide +kernel
theorem dX1_isGood_39 : decode cX1_isGood 39 = .ok (.ifCond .ne 7, 3) := by decide +kernel
theorem dX1_isGood_42 : decode cX1_isGood 42 = .ok (.iconst 1, 1) := by decide +kernel
theorem dX1_isGood_43 : decode cX1_isGood 43 = .ok (.goto 4, 3) := by decide +kernel
theorem dX1_isGood_46 : decode cX1_isGood 46 = .ok (.iconst 0, 1) := by decide +kernel
theorem dX1_isGood_47 : decode cX1_isGood 47 = .ok (.istore_n 3, 1) := by decide +kernel
theorem dX1_isGood_48 : decode cX1_isGood 48 = .ok (.iinc 4 1, 3) := by decide +kernel
theorem dX1_isGood_51 : decode cX1_isGood 51 = .ok (.goto (-33), 3) := by decide +kernel
theorem dX1_isGood_54 : decode cX1_isGood 54 = .ok (.iload_n 3, 1) := by decide +kernel
theorem dX1_isGood_55 : decode cX1_isGood 55 = .ok (.ireturn, 1) := by decide +kernel
theorem dX1_canPut_0 : decode cX1_canPut 0 = .ok (.aload_n 0, 1) := by decide +kernel
theorem dX1_canPut_1 : decode cX1_canPut 1 = .ok (.aload_n 0, 1) := by decide +kernel
theorem dX1_canPut_2 : decode cX1_canPut 2 = .ok (.iload_n 1, 1) := by decide +kernel
theorem dX1_canPut_3 : decode cX1_canPut 3 = .ok (.invokevirtual 63, 3) := by decide +kernel
theorem dX1_canPut_6 : decode cX1_canPut 6 = .ok (.ifCond .ne 7, 3) := by decide +kernel
theorem dX1_canPut_9 : decode cX1_canPut 9 = .ok (.iconst 1, 1) := by decide +kernel
theorem dX1_canPut_10 : decode cX1_canPut 10 = .ok (.goto 15, 3) := by decide +kernel
theorem dX1_canPut_13 : decode cX1_canPut 13 = .ok (.iload_n 2, 1) := by decide +kernel
theorem dX1_canPut_14 : decode cX1_canPut 14 = .ok (.invokestatic 56, 3) := by decide +kernel
theorem dX1_canPut_17 : decode cX1_canPut 17 = .ok (.ifCond .eq 7, 3) := by decide +kernel
theorem dX1_canPut_20 : decode cX1_canPut 20 = .ok (.iconst 0, 1) := by decide +kernel
theorem dX1_canPut_21 : decode cX1_canPut 21 = .ok (.goto 4, 3) := by decide +kernel
theorem dX1_canPut_24 : decode cX1_canPut 24 = .ok (.iconst 2, 1) := by decide +kernel
theorem dX1_canPut_25 : decode cX1_canPut 25 = .ok (.invokevirtual 53, 3) := by decide +kernel
end
section
theorem dX1_canPut_28 : decode cX1_canPut 28 = .ok (.ifCond .eq 16, 3) := by decide +kernel
theorem dX1_canPut_31 : decode cX1_canPut 31 = .ok (.aload_n 0, 1) := by decide +kernel
theorem dX1_canPut_32 : decode cX1_canPut 32 = .ok (.iload_n 1, 1) := by decide +kernel
theorem dX1_canPut_33 : decode cX1_canPut 33 = .ok (.iload_n 2, 1) := by decide +kernel
theorem dX1_canPut_34 : decode cX1_canPut 34 = .ok (.invokevirtual 112, 3) := by decide +kernel
theorem dX1_canPut_37 : decode cX1_canPut 37 = .ok (.ifCond .eq 7, 3) := by decide +kernel
theorem dX1_canPut_40 : decode cX1_canPut 40 = .ok (.iconst 1, 1) := by decide +kernel
theorem dX1_canPut_41 : decode cX1_canPut 41 = .ok (.goto 4, 3) := by decide +kernel
theorem dX1_canPut_44 : decode cX1_canPut 44 = .ok (.iconst 0, 1) := by decide +kernel
theorem dX1_canPut_45 : decode cX1_canPut 45 = .ok (.ireturn, 1) := by decide +kernel
theorem dX1_placeFor_0 : decode cX1_placeFor 0 = .ok (.aload_n 0, 1) := by decide +kernel
theorem dX1_placeFor_1 : decode cX1_placeFor 1 = .ok (.iload_n 1, 1) := by decide +kernel
theorem dX1_placeFor_2 : decode cX1_placeFor 2 = .ok (.invokevirtual 66, 3) := by decide +kernel
theorem dX1_placeFor_5 : decode cX1_placeFor 5 = .ok (.ifCond .ne 5, 3) := by decide +kernel
theorem dX1_placeFor_8 : decode cX1_placeFor 8 = .ok (.iconst 0, 1) := by decide +kernel
theorem dX1_placeFor_9 : decode cX1_placeFor 9 = .ok (.ireturn, 1) := by decide +kernel
theorem dX1_placeFor_10 : decode cX1_placeFor 10 = .ok (.iconst (-1), 1) := by decide +kernel
theorem dX1_placeFor_11 : decode cX1_placeFor 11 = .ok (.istore_n 2, 1) := by decide +kernel
theorem dX1_placeFor_12 : decode cX1_placeFor 12 = .ok (.bipush 47, 2) := by decide +kernel
theorem dX1_placeFor_14 : decode cX1_placeFor 14 = .ok (.istore_n 3, 1) := by decide +kernel
theorem dX1_placeFor_15 : decode cX1_placeFor 15 = .ok (.iload_n 3, 1) := by decide +kernel
theorem dX1_placeFor_16 : decode cX1_placeFor 16 = .ok (.ifCond .lt 24, 3) := by decide +kernel
theorem dX1_placeFor_19 : decode cX1_placeFor 19 = .ok (.aload_n 0, 1) := by decide +kernel
theorem dX1_placeFor_20 : decode cX1_placeFor 20 = .ok (.iload_n 1, 1) := by decide +kernel
theorem dX1_placeFor_21 : decode cX1_placeFor 21 = .ok (.iload_n 3, 1) := by decide +kernel
theorem dX1_placeFor_22 : decode cX1_placeFor 22 = .ok (.invokevirtual 112, 3) := by decide +kernel
theorem dX1_placeFor_25 : decode cX1_placeFor 25 = .ok (.ifCond .eq 7, 3) := by decide +kernel
theorem dX1_placeFor_28 : decode cX1_placeFor 28 = .ok (.iload_n 3, 1) := by decide +kernel
theorem dX1_placeFor_29 : decode cX1_placeFor 29 = .ok (.goto 4, 3) := by decide +kernel
theorem dX1_placeFor_32 : decode cX1_placeFor 32 = .ok (.iload_n 2, 1) := by decide +kernel
theorem dX1_placeFor_33 : decode cX1_placeFor 33 = .ok (.istore_n 2, 1) := by decide +kernel
theorem dX1_placeFor_34 : decode cX1_placeFor 34 = .ok (.iinc 3 (-1), 3) := by decide +kernel
theorem dX1_placeFor_37 : decode cX1_placeFor 37 = .ok (.goto (-22), 3) := by decide +kernel
theorem dX1_placeFor_40 : decode cX1_placeFor 40 = .ok (.iload_n 2, 1) := by decide +kernel
theorem dX1_placeFor_41 : decode cX1_placeFor 41 = .ok (.ireturn, 1) := by decide +kernel
theorem dX1_count_0 : decode cX1_count 0 = .ok (.iconst 0, 1) := by decide +kernel
theorem dX1_count_1 : decode cX1_count 1 = .ok (.istore_n 1, 1) := by decide +kernel
theorem dX1_count_2 : decode cX1_count 2 = .ok (.iload_n 0, 1) := by decide +kernel
theorem dX1_count_3 : decode cX1_count 3 = .ok (.istore_n 2, 1) := by decide +kernel
theorem dX1_count_4 : decode cX1_count 4 = .ok (.iload_n 2, 1) := by decide +kernel
theorem dX1_count_5 : decode cX1_count 5 = .ok (.ifCond .le 16, 3) := by decide +kernel
theorem dX1_count_8 : decode cX1_count 8 = .ok (.iload_n 1, 1) := by decide +kernel
theorem dX1_count_9 : decode cX1_count 9 = .ok (.iload_n 2, 1) := by decide +kernel
theorem dX1_count_10 : decode cX1_count 10 = .ok (.iconst 2, 1) := by decide +kernel
theorem dX1_count_11 : decode cX1_count 11 = .ok (.irem, 1) := by decide +kernel
theorem dX1_count_12 : decode cX1_count 12 = .ok (.iadd, 1) := by decide +kernel
theorem dX1_count_13 : decode cX1_count 13 = .ok (.istore_n 1, 1) := by decide +kernel
theorem dX1_count_14 : decode cX1_count 14 = .ok (.iload_n 2, 1) := by decide +kernel
theorem dX1_count_15 : decode cX1_count 15 = .ok (.iconst 2, 1) := by decide +kernel
theorem dX1_count_16 : decode cX1_count 16 = .ok (.idiv, 1) := by decide +kernel
theorem dX1_count_17 : decode cX1_count 17 = .ok (.istore_n 2, 1) := by decide +kernel
theorem dX1_count_18 : decode cX1_count 18 = .ok (.goto (-14), 3) := by decide +kernel
theorem dX1_count_21 : decode cX1_count 21 = .ok (.iload_n 1, 1) := by decide +kernel
theorem dX1_count_22 : decode cX1_count 22 = .ok (.ireturn, 1) := by decide +kernel
theorem dX1_least_0 : decode cX1_least 0 = .ok (.aload_n 0, 1) := by decide +kernel
theorem dX1_least_1 : decode cX1_least 1 = .ok (.invokevirtual 102, 3) := by decide +kernel
theorem dX1_least_4 : decode cX1_least 4 = .ok (.aload_n 0, 1) := by decide +kernel
theorem dX1_least_5 : decode cX1_least 5 = .ok (.invokevirtual 105, 3) := by decide +kernel
theorem dX1_least_8 : decode cX1_least 8 = .ok (.istore_n 1, 1) := by decide +kernel
theorem dX1_least_9 : decode cX1_least 9 = .ok (.iconst 0, 1) := by decide +kernel
theorem dX1_least_10 : decode cX1_least 10 = .ok (.istore_n 2, 1) := by decide +kernel
theorem dX1_least_11 : decode cX1_least 11 = .ok (.iconst 0, 1) := by decide +kernel
theorem dX1_least_12 : decode cX1_least 12 = .ok (.istore_n 3, 1) := by decide +kernel
theorem dX1_least_13 : decode cX1_least 13 = .ok (.iload_n 3, 1) := by decide +kernel
theorem dX1_least_14 : decode cX1_least 14 = .ok (.aload_n 0, 1) := by decide +kernel
theorem dX1_least_15 : decode cX1_least 15 = .ok (.getfield 46, 3) := by decide +kernel
theorem dX1_least_18 : decode cX1_least 18 = .ok (.if_icmp .ge 29, 3) := by decide +kernel
theorem dX1_least_21 : decode cX1_least 21 = .ok (.iload_n 2, 1) := by decide +kernel
theorem dX1_least_22 : decode cX1_least 22 = .ok (.aload_n 0, 1) := by decide +kernel
theorem dX1_least_23 : decode cX1_least 23 = .ok (.getfield 32, 3) := by decide +kernel
theorem dX1_least_26 : decode cX1_least 26 = .ok (.iload_n 3, 1) := by decide +kernel
theorem dX1_least_27 : decode cX1_least 27 = .ok (.iaload, 1) := by decide +kernel
theorem dX1_least_28 : decode cX1_least 28 = .ok (.iconst (-1), 1) := by decide +kernel
theorem dX1_least_29 : decode cX1_least 29 = .ok (.if_icmp .eq 9, 3) := by decide +kernel
theorem dX1_least_32 : decode cX1_least 32 = .ok (.iconst 1, 1) := by decide +kernel
theorem dX1_least_33 : decode cX1_least 33 = .ok (.iload_n 3, 1) := by decide +kernel
theorem dX1_least_34 : decode cX1_least 34 = .ok (.ishl, 1) := by decide +kernel
theorem dX1_least_35 : decode cX1_least 35 = .ok (.goto 4, 3) := by decide +kernel
theorem dX1_least_38 : decode cX1_least 38 = .ok (.iconst 0, 1) := by decide +kernel
theorem dX1_least_39 : decode cX1_least 39 = .ok (.ior, 1) := by decide +kernel
theorem dX1_least_40 : decode cX1_least 40 = .ok (.istore_n 2, 1) := by decide +kernel
theorem dX1_least_41 : decode cX1_least 41 = .ok (.iinc 3 1, 3) := by decide +kernel
theorem dX1_least_44 : decode cX1_least 44 = .ok (.goto (-31), 3) := by decide +kernel
theorem dX1_least_47 : decode cX1_least 47 = .ok (.iload_n 2, 1) := by decide +kernel
theorem dX1_least_48 : decode cX1_least 48 = .ok (.istore_n 3, 1) := by decide +kernel
theorem dX1_least_49 : decode cX1_least 49 = .ok (.iload_n 2, 1) := by decide +kernel
theorem dX1_least_50 : decode cX1_least 50 = .ok (.invokestatic 115, 3) := by decide +kernel
theorem dX1_least_53 : decode cX1_least 53 = .ok (.istore 4, 2) := by decide +kernel
theorem dX1_least_55 : decode cX1_least 55 = .ok (.iload_n 2, 1) := by decide +kernel
theorem dX1_least_56 : decode cX1_least 56 = .ok (.istore 5, 2) := by decide +kernel
theorem dX1_least_58 : decode cX1_least 58 = .ok (.iload 5, 2) := by decide +kernel
theorem dX1_least_60 : decode cX1_least 60 = .ok (.ifCond .le 44, 3) := by decide +kernel
theorem dX1_least_63 : decode cX1_least 63 = .ok (.aload_n 0, 1) := by decide +kernel
theorem dX1_least_64 : decode cX1_least 64 = .ok (.iload 5, 2) := by decide +kernel
theorem dX1_least_66 : decode cX1_least 66 = .ok (.iload_n 1, 1) := by decide +kernel
theorem dX1_least_67 : decode cX1_least 67 = .ok (.invokevirtual 109, 3) := by decide +kernel
theorem dX1_least_70 : decode cX1_least 70 = .ok (.ifCond .eq 23, 3) := by decide +kernel
theorem dX1_least_73 : decode cX1_least 73 = .ok (.iload 5, 2) := by decide +kernel
theorem dX1_least_75 : decode cX1_least 75 = .ok (.invokestatic 115, 3) := by decide +kernel
theorem dX1_least_78 : decode cX1_least 78 = .ok (.iload 4, 2) := by decide +kernel
theorem dX1_least_80 : decode cX1_least 80 = .ok (.if_icmp .gt 13, 3) := by decide +kernel
theorem dX1_least_83 : decode cX1_least 83 = .ok (.iload 5, 2) := by decide +kernel
theorem dX1_least_85 : decode cX1_least 85 = .ok (.istore_n 3, 1) := by decide +kernel
theorem dX1_least_86 : decode cX1_least 86 = .ok (.iload 5, 2) := by decide +kernel
theorem dX1_least_88 : decode cX1_least 88 = .ok (.invokestatic 115, 3) := by decide +kernel
theorem dX1_least_91 : decode cX1_least 91 = .ok (.istore 4, 2) := by decide +kernel
theorem dX1_least_93 : decode cX1_least 93 = .ok (.iload 5, 2) := by decide +kernel
theorem dX1_least_95 : decode cX1_least 95 = .ok (.iconst 1, 1) := by decide +kernel
theorem dX1_least_96 : decode cX1_least 96 = .ok (.isub, 1) := by decide +kernel
theorem dX1_least_97 : decode cX1_least 97 = .ok (.iload_n 2, 1) := by decide +kernel
theorem dX1_least_98 : decode cX1_least 98 = .ok (.iand, 1) := by decide +kernel
theorem dX1_least_99 : decode cX1_least 99 = .ok (.istore 5, 2) := by decide +kernel
theorem dX1_least_101 : decode cX1_least 101 = .ok (.goto (-43), 3) := by decide +kernel
theorem dX1_least_104 : decode cX1_least 104 = .ok (.aload_n 0, 1) := by decide +kernel
theorem dX1_least_105 : decode cX1_least 105 = .ok (.iconst 0, 1) := by decide +kernel
theorem dX1_least_106 : decode cX1_least 106 = .ok (.iload_n 1, 1) := by decide +kernel
theorem dX1_least_107 : decode cX1_least 107 = .ok (.invokevirtual 109, 3) := by decide +kernel
theorem dX1_least_110 : decode cX1_least 110 = .ok (.ifCond .eq 7, 3) := by decide +kernel
theorem dX1_least_113 : decode cX1_least 113 = .ok (.iconst 0, 1) := by decide +kernel
theorem dX1_least_114 : decode cX1_least 114 = .ok (.goto 4, 3) := by decide +kernel
theorem dX1_least_117 : decode cX1_least 117 = .ok (.iload_n 3, 1) := by decide +kernel
theorem dX1_least_118 : decode cX1_least 118 = .ok (.ireturn, 1) := by decide +kernel
theorem dX1_fewest_0 : decode cX1_fewest 0 = .ok (.aload_n 0, 1) := by decide +kernel
theorem dX1_fewest_1 : decode cX1_fewest 1 = .ok (.iconst 0, 1) := by decide +kernel
theorem dX1_fewest_2 : decode cX1_fewest 2 = .ok (.putfield 38, 3) := by decide +kernel
theorem dX1_fewest_5 : decode cX1_fewest 5 = .ok (.aload_n 0, 1) := by decide +kernel
theorem dX1_fewest_6 : decode cX1_fewest 6 = .ok (.invokevirtual 118, 3) := by decide +kernel
theorem dX1_fewest_9 : decode cX1_fewest 9 = .ok (.invokestatic 115, 3) := by decide +kernel
theorem dX1_fewest_12 : decode cX1_fewest 12 = .ok (.ireturn, 1) := by decide +kernel
theorem dX1_leaving_0 : decode cX1_leaving 0 = .ok (.aload_n 0, 1) := by decide +kernel
theorem dX1_leaving_1 : decode cX1_leaving 1 = .ok (.iconst 0, 1) := by decide +kernel
theorem dX1_leaving_2 : decode cX1_leaving 2 = .ok (.putfield 38, 3) := by decide +kernel
theorem dX1_leaving_5 : decode cX1_leaving 5 = .ok (.aload_n 0, 1) := by decide +kernel
theorem dX1_leaving_6 : decode cX1_leaving 6 = .ok (.invokevirtual 118, 3) := by decide +kernel
theorem dX1_leaving_9 : decode cX1_leaving 9 = .ok (.ireturn, 1) := by decide +kernel
end
section
theorem dJ6_bitCount_0f7a4_0 : decode cJ6_bitCount_0f7a4 0 = .ok (.iload_n 0, 1) := by decide +kernel
theorem dJ6_bitCount_0f7a4_1 : decode cJ6_bitCount_0f7a4 1 = .ok (.iload_n 0, 1) := by decide +kernel
theorem dJ6_bitCount_0f7a4_2 : decode cJ6_bitCount_0f7a4 2 = .ok (.iconst 1, 1) := by decide +kernel
theorem dJ6_bitCount_0f7a4_3 : decode cJ6_bitCount_0f7a4 3 = .ok (.iushr, 1) := by decide +kernel
theorem dJ6_bitCount_0f7a4_4 : decode cJ6_bitCount_0f7a4 4 = .ok (.ldc_w 265, 3) := by decide +kernel
theorem dJ6_bitCount_0f7a4_7 : decode cJ6_bitCount_0f7a4 7 = .ok (.iand, 1) := by decide +kernel
theorem dJ6_bitCount_0f7a4_8 : decode cJ6_bitCount_0f7a4 8 = .ok (.isub, 1) := by decide +kernel
theorem dJ6_bitCount_0f7a4_9 : decode cJ6_bitCount_0f7a4 9 = .ok (.istore_n 0, 1) := by decide +kernel
theorem dJ6_bitCount_0f7a4_10 : decode cJ6_bitCount_0f7a4 10 = .ok (.iload_n 0, 1) := by decide +kernel
theorem dJ6_bitCount_0f7a4_11 : decode cJ6_bitCount_0f7a4 11 = .ok (.ldc_w 266, 3) := by decide +kernel
theorem dJ6_bitCount_0f7a4_14 : decode cJ6_bitCount_0f7a4 14 = .ok (.iand, 1) := by decide +kernel
theorem dJ6_bitCount_0f7a4_15 : decode cJ6_bitCount_0f7a4 15 = .ok (.iload_n 0, 1) := by decide +kernel
theorem dJ6_bitCount_0f7a4_16 : decode cJ6_bitCount_0f7a4 16 = .ok (.iconst 2, 1) := by decide +kernel
theorem dJ6_bitCount_0f7a4_17 : decode cJ6_bitCount_0f7a4 17 = .ok (.iushr, 1) := by decide +kernel
theorem dJ6_bitCount_0f7a4_18 : decode cJ6_bitCount_0f7a4 18 = .ok (.ldc_w 266, 3) := by decide +kernel
theorem dJ6_bitCount_0f7a4_21 : decode cJ6_bitCount_0f7a4 21 = .ok (.iand, 1) := by decide +kernel
theorem dJ6_bitCount_0f7a4_22 : decode cJ6_bitCount_0f7a4 22 = .ok (.iadd, 1) := by decide +kernel
theorem dJ6_bitCount_0f7a4_23 : decode cJ6_bitCount_0f7a4 23 = .ok (.istore_n 0, 1) := by decide +kernel
theorem dJ6_bitCount_0f7a4_24 : decode cJ6_bitCount_0f7a4 24 = .ok (.iload_n 0, 1) := by decide +kernel
theorem dJ6_bitCount_0f7a4_25 : decode cJ6_bitCount_0f7a4 25 = .ok (.iload_n 0, 1) := by decide +kernel
theorem dJ6_bitCount_0f7a4_26 : decode cJ6_bitCount_0f7a4 26 = .ok (.iconst 4, 1) := by decide +kernel
theorem dJ6_bitCount_0f7a4_27 : decode cJ6_bitCount_0f7a4 27 = .ok (.iushr, 1) := by decide +kernel
theorem dJ6_bitCount_0f7a4_28 : decode cJ6_bitCount_0f7a4 28 = .ok (.iadd, 1) := by decide +kernel
theorem dJ6_bitCount_0f7a4_29 : decode cJ6_bitCount_0f7a4 29 = .ok (.ldc_w 267, 3) := by decide +kernel
theorem dJ6_bitCount_0f7a4_32 : decode cJ6_bitCount_0f7a4 32 = .ok (.iand, 1) := by decide +kernel
theorem dJ6_bitCount_0f7a4_33 : decode cJ6_bitCount_0f7a4 33 = .ok (.istore_n 0, 1) := by decide +kernel
theorem dJ6_bitCount_0f7a4_34 : decode cJ6_bitCount_0f7a4 34 = .ok (.iload_n 0, 1) := by decide +kernel
theorem dJ6_bitCount_0f7a4_35 : decode cJ6_bitCount_0f7a4 35 = .ok (.iload_n 0, 1) := by decide +kernel
theorem dJ6_bitCount_0f7a4_36 : decode cJ6_bitCount_0f7a4 36 = .ok (.bipush 8, 2) := by decide +kernel
theorem dJ6_bitCount_0f7a4_38 : decode cJ6_bitCount_0f7a4 38 = .ok (.iushr, 1) := by decide +kernel
theorem dJ6_bitCount_0f7a4_39 : decode cJ6_bitCount_0f7a4 39 = .ok (.iadd, 1) := by decide +kernel
theorem dJ6_bitCount_0f7a4_40 : decode cJ6_bitCount_0f7a4 40 = .ok (.istore_n 0, 1) := by decide +kernel
theorem dJ6_bitCount_0f7a4_41 : decode cJ6_bitCount_0f7a4 41 = .ok (.iload_n 0, 1) := by decide +kernel
theorem dJ6_bitCount_0f7a4_42 : decode cJ6_bitCount_0f7a4 42 = .ok (.iload_n 0, 1) := by decide +kernel
theorem dJ6_bitCount_0f7a4_43 : decode cJ6_bitCount_0f7a4 43 = .ok (.bipush 16, 2) := by decide +kernel
theorem dJ6_bitCount_0f7a4_45 : decode cJ6_bitCount_0f7a4 45 = .ok (.iushr, 1) := by decide +kernel
theorem dJ6_bitCount_0f7a4_46 : decode cJ6_bitCount_0f7a4 46 = .ok (.iadd, 1) := by decide +kernel
theorem dJ6_bitCount_0f7a4_47 : decode cJ6_bitCount_0f7a4 47 = .ok (.istore_n 0, 1) := by decide +kernel
theorem dJ6_bitCount_0f7a4_48 : decode cJ6_bitCount_0f7a4 48 = .ok (.iload_n 0, 1) := by decide +kernel
theorem dJ6_bitCount_0f7a4_49 : decode cJ6_bitCount_0f7a4 49 = .ok (.bipush 63, 2) := by decide +kernel
theorem dJ6_bitCount_0f7a4_51 : decode cJ6_bitCount_0f7a4 51 = .ok (.iand, 1) := by decide +kernel
theorem dJ6_bitCount_0f7a4_52 : decode cJ6_bitCount_0f7a4 52 = .ok (.ireturn, 1) := by decide +kernel
end
section
theorem dJ9_abs_0f7a4_0 : decode cJ9_abs_0f7a4 0 = .ok (.iload_n 0, 1) := by decide +kernel
theorem dJ9_abs_0f7a4_1 : decode cJ9_abs_0f7a4 1 = .ok (.ifCond .ge 8, 3) := by decide +kernel
theorem dJ9_abs_0f7a4_4 : decode cJ9_abs_0f7a4 4 = .ok (.iload_n 0, 1) := by decide +kernel
theorem dJ9_abs_0f7a4_5 : decode cJ9_abs_0f7a4 5 = .ok (.ineg, 1) := by decide +kernel
theorem dJ9_abs_0f7a4_6 : decode cJ9_abs_0f7a4 6 = .ok (.goto 4, 3) := by decide +kernel
theorem dJ9_abs_0f7a4_9 : decode cJ9_abs_0f7a4 9 = .ok (.iload_n 0, 1) := by decide +kernel
theorem dJ9_abs_0f7a4_10 : decode cJ9_abs_0f7a4 10 = .ok (.ireturn, 1) := by decide +kernel
theorem dJ9_max_7cf53_0 : decode cJ9_max_7cf53 0 = .ok (.iload_n 0, 1) := by decide +kernel
theorem dJ9_max_7cf53_1 : decode cJ9_max_7cf53 1 = .ok (.iload_n 1, 1) := by decide +kernel
theorem dJ9_max_7cf53_2 : decode cJ9_max_7cf53 2 = .ok (.if_icmp .lt 7, 3) := by decide +kernel
theorem dJ9_max_7cf53_5 : decode cJ9_max_7cf53 5 = .ok (.iload_n 0, 1) := by decide +kernel
theorem dJ9_max_7cf53_6 : decode cJ9_max_7cf53 6 = .ok (.goto 4, 3) := by decide +kernel
theorem dJ9_max_7cf53_9 : decode cJ9_max_7cf53 9 = .ok (.iload_n 1, 1) := by decide +kernel
theorem dJ9_max_7cf53_10 : decode cJ9_max_7cf53 10 = .ok (.ireturn, 1) := by decide +kernel
end
section
set_option maxRecDepth 20000 in
theorem ggL_setDistance_X0_setDistance : GoodIn wsL_setDistance wsX0_setDistance := goodIn_ca (goodIn_r _ [6, 7, 8, 9, 5, 10, 11, 12, 13, 14, 15, 16, 17, 18, 19, 20, 21, 22, 23, 24, 25, 26, 27, 28, 29] (by decide +kernel) (by decide +kernel)) (goodIn_sub (fun _ h => List.mem_cons_of_mem _ (List.mem_append_right _ h)) (by decide +kernel))
set_option maxRecDepth 20000 in
theorem gL_setDistance_X0_setDistance : GoodIn wsL_setDistance (wsV RL 7 RX0 yX0_setDistance wsX0_setDistance) := goodIn_app (goodIn_of _ (by decide +kernel)) ggL_setDistance_X0_setDistance
set_option maxRecDepth 20000 in
theorem ggL_setQuantities_X0_setQuantities : GoodIn wsL_setQuantities wsX0_setQuantities := goodIn_ca (goodIn_r _ [6, 7, 8, 9, 10, 5, 11, 12, 13, 14, 15, 16, 17, 18, 19, 20, 21, 22, 23, 24, 25, 26] (by decide +kernel) (by decide +kernel)) (goodIn_sub (fun _ h => List.mem_cons_of_mem _ (List.mem_append_right _ h)) (by decide +kernel))
set_option maxRecDepth 20000 in
theorem gL_setQuantities_X0_setQuantities : GoodIn wsL_setQuantities (wsV RL 15 RX0 yX0_setQuantities wsX0_setQuantities) := goodIn_app (goodIn_of _ (by decide +kernel)) ggL_setQuantities_X0_setQuantities
set_option maxRecDepth 20000 in
theorem ggL_bar_X0_bar : GoodIn wsL_bar wsX0_bar := goodIn_ca (goodIn_r _ [6, 7, 8, 9, 5, 10, 11, 12, 13, 14, 15, 16, 17, 18, 19, 20, 21, 22, 23, 24, 25] (by decide +kernel) (by decide +kernel)) (goodIn_sub (fun _ h => List.mem_cons_of_mem _ (List.mem_append_right _ h)) (by decide +kernel))
set_option maxRecDepth 20000 in
theorem gL_bar_X0_bar : GoodIn wsL_bar (wsV RL 19 RX0 yX0_bar wsX0_bar) := goodIn_app (goodIn_of _ (by decide +kernel)) ggL_bar_X0_bar
set_option maxRecDepth 20000 in
theorem ggL_distance_X0_distance : GoodIn wsL_distance wsX0_distance := goodIn_ca (goodIn_r _ [6, 7, 8, 5, 9, 10, 11, 12, 13, 14, 15, 16, 17, 18, 19, 20, 21, 22, 23, 24, 25, 26, 27, 28, 29, 30] (by decide +kernel) (by decide +kernel)) (goodIn_sub (fun _ h => List.mem_cons_of_mem _ (List.mem_append_right _ h)) (by decide +kernel))
set_option maxRecDepth 20000 in
theorem gL_distance_X0_distance : GoodIn wsL_distance (wsV RL 23 RX0 yX0_distance wsX0_distance) := goodIn_app (goodIn_of _ (by decide +kernel)) ggL_distance_X0_distance
set_option maxRecDepth 20000 in
theorem ggL_add_X0_add : GoodIn wsL_add wsX0_add := goodIn_ca (goodIn_ca (goodIn_r _ [7, 8, 9, 10, 11, 12, 13, 14, 15, 16, 6, 17, 18, 19, 20, 21, 22, 23, 24, 25, 26, 27, 28, 29, 30, 31, 32, 33, 34, 35, 36, 37, 38] (by decide +kernel) (by decide +kernel)) (goodIn_sub (fun _ h => List.mem_cons_of_mem _ (List.mem_append_left _ (List.mem_append_right _ h))) (by decide +kernel))) (goodIn_sub (fun _ h => List.mem_cons_of_mem _ (List.mem_append_right _ h)) (by decide +kernel))
set_option maxRecDepth 20000 in
theorem gL_add_X0_add : GoodIn wsL_add (wsV RL 27 RX0 yX0_add wsX0_add) := goodIn_app (goodIn_of _ (by decide +kernel)) ggL_add_X0_add
set_option maxRecDepth 20000 in
theorem ggL_setQuantity_X0_setQuantity : GoodIn wsL_setQuantity wsX0_setQuantity := goodIn_ca (goodIn_ca (goodIn_r _ [7, 8, 9, 10, 11, 6, 12, 13, 14, 15, 16, 17, 18, 19, 20, 21, 22, 23, 24, 25, 26, 27, 28, 29, 30, 31, 32, 33] (by decide +kernel) (by decide +kernel)) (goodIn_sub (fun _ h => List.mem_cons_of_mem _ (List.mem_append_left _ (List.mem_append_right _ h))) (by decide +kernel))) (goodIn_sub (fun _ h => List.mem_cons_of_mem _ (List.mem_append_right _ h)) (by decide +kernel))
set_option maxRecDepth 20000 in
theorem gL_setQuantity_X0_setQuantity : GoodIn wsL_setQuantity (wsV RL 32 RX0 yX0_setQuantity wsX0_setQuantity) := goodIn_app (goodIn_of _ (by decide +kernel)) ggL_setQuantity_X0_setQuantity
set_option maxRecDepth 20000 in
theorem ggL_put_X0_put : GoodIn wsL_put wsX0_put := goodIn_ca (goodIn_ca (goodIn_r _ [7, 8, 9, 10, 11, 6, 12, 13, 14, 15, 16, 17, 18, 19, 20, 21, 22, 23, 24, 25, 26, 27, 28, 29, 30, 31, 32, 33] (by decide +kernel) (by decide +kernel)) (goodIn_sub (fun _ h => List.mem_cons_of_mem _ (List.mem_append_left _ (List.mem_append_right _ h))) (by decide +kernel))) (goodIn_sub (fun _ h => List.mem_cons_of_mem _ (List.mem_append_right _ h)) (by decide +kernel))
set_option maxRecDepth 20000 in
theorem gL_put_X0_put : GoodIn wsL_put (wsV RL 37 RX0 yX0_put wsX0_put) := goodIn_app (goodIn_of _ (by decide +kernel)) ggL_put_X0_put
set_option maxRecDepth 20000 in
theorem ggL_placeOf_X0_placeOf : GoodIn wsL_placeOf wsX0_placeOf := goodIn_ca (goodIn_r _ [6, 7, 8, 9, 10, 5, 11, 12, 13, 14, 15, 16, 17, 18, 19, 20, 21, 22, 23, 24] (by decide +kernel) (by decide +kernel)) (goodIn_sub (fun _ h => List.mem_cons_of_mem _ (List.mem_append_right _ h)) (by decide +kernel))
set_option maxRecDepth 20000 in
theorem gL_placeOf_X0_placeOf : GoodIn wsL_placeOf (wsV RL 40 RX0 yX0_placeOf wsX0_placeOf) := goodIn_app (goodIn_of _ (by decide +kernel)) ggL_placeOf_X0_placeOf
set_option maxRecDepth 20000 in
theorem ggL_isLimited_X0_isLimited : GoodIn wsL_isLimited wsX0_isLimited := goodIn_ca (goodIn_r _ [6, 7, 8, 9, 5, 10, 11, 12, 13, 14, 15, 16, 17, 18, 19, 20, 21, 22, 23, 24, 25, 26, 27, 28, 29, 30, 31, 32, 33, 34, 35, 36] (by decide +kernel) (by decide +kernel)) (goodIn_sub (fun _ h => List.mem_cons_of_mem _ (List.mem_append_right _ h)) (by decide +kernel))
set_option maxRecDepth 20000 in
theorem gL_isLimited_X0_isLimited : GoodIn wsL_isLimited (wsV RL 44 RX0 yX0_isLimited wsX0_isLimited) := goodIn_app (goodIn_of _ (by decide +kernel)) ggL_isLimited_X0_isLimited
set_option maxRecDepth 20000 in
theorem ggL_isExcepted_X0_isExcepted : GoodIn wsL_isExcepted wsX0_isExcepted := goodIn_ca (goodIn_r _ [6, 7, 8, 9, 5, 10, 11, 12, 13, 14, 15, 16, 17, 18, 19, 20, 21, 22, 23, 24, 25, 26, 27, 28, 29, 30, 31, 32, 33, 34, 35] (by decide +kernel) (by decide +kernel)) (goodIn_sub (fun _ h => List.mem_cons_of_mem _ (List.mem_append_right _ h)) (by decide +kernel))
set_option maxRecDepth 20000 in
theorem gL_isExcepted_X0_isExcepted : GoodIn wsL_isExcepted (wsV RL 48 RX0 yX0_isExcepted wsX0_isExcepted) := goodIn_app (goodIn_of _ (by decide +kernel)) ggL_isExcepted_X0_isExcepted
set_option maxRecDepth 20000 in
theorem ggL_need_X0_need : GoodIn wsL_need wsX0_need := goodIn_ca (goodIn_ca (goodIn_r _ [7, 8, 9, 10, 6, 11, 12, 13, 14, 15, 16, 17, 18, 19, 20, 21, 22, 23, 24, 25, 26, 27, 28, 29, 30, 31, 32, 33, 34, 35, 36, 37, 38, 39, 40, 41, 42, 43, 44, 45, 46, 47, 48, 49, 50, 51, 52, 53, 54, 55, 56, 57, 58, 59, 60, 61, 62, 63, 64] (by decide +kernel) (by decide +kernel)) (goodIn_sub (fun _ h => List.mem_cons_of_mem _ (List.mem_append_left _ (List.mem_append_right _ h))) (by decide +kernel))) (goodIn_sub (fun _ h => List.mem_cons_of_mem _ (List.mem_append_right _ h)) (by decide +kernel))
set_option maxRecDepth 20000 in
theorem gL_need_X0_need : GoodIn wsL_need (wsV RL 51 RX0 yX0_need wsX0_need) := goodIn_app (goodIn_of _ (by decide +kernel)) ggL_need_X0_need
set_option maxRecDepth 20000 in
theorem ggL_areInBreach_X0_areInBreach : GoodIn wsL_areInBreach wsX0_areInBreach := goodIn_ca (goodIn_ca (goodIn_r _ [7, 8, 9, 10, 11, 6, 12, 13, 14, 15, 16, 17, 18, 19, 20, 21, 22, 23, 24, 25, 26, 27, 28, 29, 30, 31, 32, 33, 34, 35, 36, 37, 38, 39, 40, 41, 42, 43, 44, 45, 46, 47, 48, 49, 50, 51, 52, 53, 54, 55, 56, 57, 58, 59, 60, 61, 62, 63, 64, 65, 66, 67, 68, 69, 70, 71, 72, 73, 74, 75, 76, 77, 78, 79, 80, 81, 82, 83, 84] (by decide +kernel) (by decide +kernel)) (goodIn_sub (fun _ h => List.mem_cons_of_mem _ (List.mem_append_left _ (List.mem_append_right _ h))) (by decide +kernel))) (goodIn_sub (fun _ h => List.mem_cons_of_mem _ (List.mem_append_right _ h)) (by decide +kernel))
set_option maxRecDepth 20000 in
theorem gL_areInBreach_X0_areInBreach : GoodIn wsL_areInBreach (wsV RL 54 RX0 yX0_areInBreach wsX0_areInBreach) := goodIn_app (goodIn_of _ (by decide +kernel)) ggL_areInBreach_X0_areInBreach
set_option maxRecDepth 20000 in
theorem ggL_isMisplaced_X0_isMisplaced : GoodIn wsL_isMisplaced wsX0_isMisplaced := goodIn_ca (goodIn_r _ [6, 7, 8, 9, 10, 5, 11, 12, 13, 14, 15, 16, 17, 18, 19, 20, 21, 22, 23, 24, 25, 26, 27, 28, 29, 30, 31, 32, 33, 34, 35, 36, 37, 38, 39, 40, 41, 42, 43, 44, 45, 46, 47, 48] (by decide +kernel) (by decide +kernel)) (goodIn_sub (fun _ h => List.mem_cons_of_mem _ (List.mem_append_right _ h)) (by decide +kernel))
set_option maxRecDepth 20000 in
theorem gL_isMisplaced_X0_isMisplaced : GoodIn wsL_isMisplaced (wsV RL 58 RX0 yX0_isMisplaced wsX0_isMisplaced) := goodIn_app (goodIn_of _ (by decide +kernel)) ggL_isMisplaced_X0_isMisplaced
set_option maxRecDepth 20000 in
theorem ggL_inBreachWith_X0_inBreachWith : GoodIn wsL_inBreachWith wsX0_inBreachWith := goodIn_ca (goodIn_r _ [6, 7, 8, 9, 10, 5, 11, 12, 13, 14, 15, 16, 17, 18, 19, 20, 21, 22, 23, 24, 25, 26, 27, 28, 29, 30, 31, 32, 33, 34, 35, 36, 37, 38, 39, 40, 41, 42, 43, 44, 45, 46, 47, 48, 49, 50, 51, 52, 53, 54, 55, 56, 57, 58, 59, 60, 61, 62, 63, 64, 65, 66, 67, 68, 69, 70, 71, 72, 73, 74, 75, 76, 77, 78, 79, 80, 81] (by decide +kernel) (by decide +kernel)) (goodIn_sub (fun _ h => List.mem_cons_of_mem _ (List.mem_append_right _ h)) (by decide +kernel))
set_option maxRecDepth 20000 in
theorem gL_inBreachWith_X0_inBreachWith : GoodIn wsL_inBreachWith (wsV RL 61 RX0 yX0_inBreachWith wsX0_inBreachWith) := goodIn_app (goodIn_of _ (by decide +kernel)) ggL_inBreachWith_X0_inBreachWith
set_option maxRecDepth 20000 in
theorem ggL_canPut_X0_canPut : GoodIn wsL_canPut wsX0_canPut := goodIn_ca (goodIn_ca (goodIn_r _ [7, 8, 9, 10, 6, 11, 12, 13, 14, 15, 16, 17, 18, 19, 20, 21, 22, 23, 24, 25, 26, 27, 28, 29, 30, 31, 32, 33, 34, 35, 36, 37, 38, 39, 40, 41, 42, 43, 44, 45, 46, 47, 48, 49, 50, 51, 52, 53, 54, 55, 56, 57, 58, 59, 60, 61, 62, 63, 64, 65, 66, 67, 68, 69, 70, 71, 72, 73, 74, 75, 76, 77, 78, 79, 80, 81, 82, 83, 84, 85, 86, 87, 88, 89, 90, 91, 92, 93, 94, 95, 96, 97, 98, 99, 100, 101, 102, 103] (by decide +kernel) (by decide +kernel)) (goodIn_sub (fun _ h => List.mem_cons_of_mem _ (List.mem_append_left _ (List.mem_append_right _ h))) (by decide +kernel))) (goodIn_sub (fun _ h => List.mem_cons_of_mem _ (List.mem_append_right _ h)) (by decide +kernel))
set_option maxRecDepth 20000 in
theorem gL_canPut_X0_canPut : GoodIn wsL_canPut (wsV RL 64 RX0 yX0_canPut wsX0_canPut) := goodIn_app (goodIn_of _ (by decide +kernel)) ggL_canPut_X0_canPut
set_option maxRecDepth 20000 in
theorem ggL_placeFor_X0_placeFor : GoodIn wsL_placeFor wsX0_placeFor := goodIn_ca (goodIn_r _ [6, 7, 8, 9, 5, 10, 11, 12, 13, 14, 15, 16, 17, 18, 19, 20, 21, 22, 23, 24, 25, 26, 27, 28, 29, 30, 31, 32, 33, 34, 35, 36, 37, 38, 39, 40, 41, 42, 43, 44, 45, 46, 47, 48, 49, 50, 51, 52, 53, 54, 55, 56, 57, 58, 59, 60, 61, 62, 63, 64, 65, 66, 67, 68, 69, 70, 71, 72, 73, 74, 75, 76, 77, 78, 79, 80, 81, 82, 83, 84, 85, 86, 87, 88, 89, 90, 91, 92, 93, 94] (by decide +kernel) (by decide +kernel)) (goodIn_sub (fun _ h => List.mem_cons_of_mem _ (List.mem_append_right _ h)) (by decide +kernel))
set_option maxRecDepth 20000 in
theorem gL_placeFor_X0_placeFor : GoodIn wsL_placeFor (wsV RL 67 RX0 yX0_placeFor wsX0_placeFor) := goodIn_app (goodIn_of _ (by decide +kernel)) ggL_placeFor_X0_placeFor
end
section
theorem dL_setDistance_0 : decode cL_setDistance 0 = .ok (.aload 4, 2) := by decide +kernel
theorem dL_setDistance_2 : decode cL_setDistance 2 = .ok (.iconst 0, 1) := by decide +kernel
theorem dL_setDistance_3 : decode cL_setDistance 3 = .ok (.aload_n 0, 1) := by decide +kernel
theorem dL_setDistance_4 : decode cL_setDistance 4 = .ok (.iload_n 1, 1) := by decide +kernel
theorem dL_setDistance_5 : decode cL_setDistance 5 = .ok (.iload_n 2, 1) := by decide +kernel
theorem dL_setDistance_6 : decode cL_setDistance 6 = .ok (.iload_n 3, 1) := by decide +kernel
theorem dL_setDistance_7 : decode cL_setDistance 7 = .ok (.invokevirtual 7, 3) := by decide +kernel
theorem dL_setDistance_10 : decode cL_setDistance 10 = .ok (.i2l, 1) := by decide +kernel
theorem dL_setDistance_11 : decode cL_setDistance 11 = .ok (.lastore, 1) := by decide +kernel
theorem dL_setDistance_12 : decode cL_setDistance 12 = .ok (.goto 7, 3) := by decide +kernel
theorem dL_setDistance_15 : decode cL_setDistance 15 = .ok (.astore 5, 2) := by decide +kernel
theorem dL_setDistance_17 : decode cL_setDistance 17 = .ok (.iconst 1, 1) := by decide +kernel
theorem dL_setDistance_18 : decode cL_setDistance 18 = .ok (.ireturn, 1) := by decide +kernel
theorem dL_setDistance_19 : decode cL_setDistance 19 = .ok (.iconst 0, 1) := by decide +kernel
theorem dL_setDistance_20 : decode cL_setDistance 20 = .ok (.ireturn, 1) := by decide +kernel
theorem dL_setQuantities_0 : decode cL_setQuantities 0 = .ok (.aload_n 0, 1) := by decide +kernel
theorem dL_setQuantities_1 : decode cL_setQuantities 1 = .ok (.iload_n 1, 1) := by decide +kernel
theorem dL_setQuantities_2 : decode cL_setQuantities 2 = .ok (.iload_n 2, 1) := by decide +kernel
theorem dL_setQuantities_3 : decode cL_setQuantities 3 = .ok (.iload_n 3, 1) := by decide +kernel
theorem dL_setQuantities_4 : decode cL_setQuantities 4 = .ok (.invokevirtual 15, 3) := by decide +kernel
theorem dL_setQuantities_7 : decode cL_setQuantities 7 = .ok (.goto 7, 3) := by decide +kernel
theorem dL_setQuantities_10 : decode cL_setQuantities 10 = .ok (.astore 4, 2) := by decide +kernel
theorem dL_setQuantities_12 : decode cL_setQuantities 12 = .ok (.iconst 1, 1) := by decide +kernel
theorem dL_setQuantities_13 : decode cL_setQuantities 13 = .ok (.ireturn, 1) := by decide +kernel
theorem dL_setQuantities_14 : decode cL_setQuantities 14 = .ok (.iconst 0, 1) := by decide +kernel
theorem dL_setQuantities_15 : decode cL_setQuantities 15 = .ok (.ireturn, 1) := by decide +kernel
theorem dL_bar_0 : decode cL_bar 0 = .ok (.aload 4, 2) := by decide +kernel
theorem dL_bar_2 : decode cL_bar 2 = .ok (.iconst 0, 1) := by decide +kernel
theorem dL_bar_3 : decode cL_bar 3 = .ok (.aload_n 0, 1) := by decide +kernel
theorem dL_bar_4 : decode cL_bar 4 = .ok (.iload_n 1, 1) := by decide +kernel
theorem dL_bar_5 : decode cL_bar 5 = .ok (.iload_n 2, 1) := by decide +kernel
theorem dL_bar_6 : decode cL_bar 6 = .ok (.iload_n 3, 1) := by decide +kernel
theorem dL_bar_7 : decode cL_bar 7 = .ok (.invokevirtual 19, 3) := by decide +kernel
theorem dL_bar_10 : decode cL_bar 10 = .ok (.ifCond .eq 7, 3) := by decide +kernel
theorem dL_bar_13 : decode cL_bar 13 = .ok (.lconst 1, 1) := by decide +kernel
theorem dL_bar_14 : decode cL_bar 14 = .ok (.goto 4, 3) := by decide +kernel
theorem dL_bar_17 : decode cL_bar 17 = .ok (.lconst 0, 1) := by decide +kernel
theorem dL_bar_18 : decode cL_bar 18 = .ok (.lastore, 1) := by decide +kernel
theorem dL_bar_19 : decode cL_bar 19 = .ok (.goto 7, 3) := by decide +kernel
theorem dL_bar_22 : decode cL_bar 22 = .ok (.astore 5, 2) := by decide +kernel
theorem dL_bar_24 : decode cL_bar 24 = .ok (.iconst 1, 1) := by decide +kernel
theorem dL_bar_25 : decode cL_bar 25 = .ok (.ireturn, 1) := by decide +kernel
theorem dL_bar_26 : decode cL_bar 26 = .ok (.iconst 0, 1) := by decide +kernel
theorem dL_bar_27 : decode cL_bar 27 = .ok (.ireturn, 1) := by decide +kernel
theorem dL_distance_0 : decode cL_distance 0 = .ok (.aload_n 3, 1) := by decide +kernel
theorem dL_distance_1 : decode cL_distance 1 = .ok (.iconst 0, 1) := by decide +kernel
theorem dL_distance_2 : decode cL_distance 2 = .ok (.aload_n 0, 1) := by decide +kernel
theorem dL_distance_3 : decode cL_distance 3 = .ok (.iload_n 1, 1) := by decide +kernel
theorem dL_distance_4 : decode cL_distance 4 = .ok (.iload_n 2, 1) := by decide +kernel
theorem dL_distance_5 : decode cL_distance 5 = .ok (.invokevirtual 23, 3) := by decide +kernel
theorem dL_distance_8 : decode cL_distance 8 = .ok (.i2l, 1) := by decide +kernel
theorem dL_distance_9 : decode cL_distance 9 = .ok (.lastore, 1) := by decide +kernel
theorem dL_distance_10 : decode cL_distance 10 = .ok (.goto 7, 3) := by decide +kernel
theorem dL_distance_13 : decode cL_distance 13 = .ok (.astore 4, 2) := by decide +kernel
theorem dL_distance_15 : decode cL_distance 15 = .ok (.iconst 1, 1) := by decide +kernel
theorem dL_distance_16 : decode cL_distance 16 = .ok (.ireturn, 1) := by decide +kernel
theorem dL_distance_17 : decode cL_distance 17 = .ok (.iconst 0, 1) := by decide +kernel
theorem dL_distance_18 : decode cL_distance 18 = .ok (.ireturn, 1) := by decide +kernel
theorem dL_add_0 : decode cL_add 0 = .ok (.aload 4, 2) := by decide +kernel
theorem dL_add_2 : decode cL_add 2 = .ok (.iconst 0, 1) := by decide +kernel
theorem dL_add_3 : decode cL_add 3 = .ok (.aload_n 0, 1) := by decide +kernel
theorem dL_add_4 : decode cL_add 4 = .ok (.iload_n 1, 1) := by decide +kernel
theorem dL_add_5 : decode cL_add 5 = .ok (.iload_n 2, 1) := by decide +kernel
theorem dL_add_6 : decode cL_add 6 = .ok (.iload_n 3, 1) := by decide +kernel
theorem dL_add_7 : decode cL_add 7 = .ok (.invokevirtual 27, 3) := by decide +kernel
theorem dL_add_10 : decode cL_add 10 = .ok (.i2l, 1) := by decide +kernel
theorem dL_add_11 : decode cL_add 11 = .ok (.lastore, 1) := by decide +kernel
theorem dL_add_12 : decode cL_add 12 = .ok (.goto 11, 3) := by decide +kernel
theorem dL_add_15 : decode cL_add 15 = .ok (.astore 5, 2) := by decide +kernel
theorem dL_add_17 : decode cL_add 17 = .ok (.iconst 1, 1) := by decide +kernel
theorem dL_add_18 : decode cL_add 18 = .ok (.ireturn, 1) := by decide +kernel
theorem dL_add_19 : decode cL_add 19 = .ok (.astore 5, 2) := by decide +kernel
theorem dL_add_21 : decode cL_add 21 = .ok (.iconst 2, 1) := by decide +kernel
theorem dL_add_22 : decode cL_add 22 = .ok (.ireturn, 1) := by decide +kernel
theorem dL_add_23 : decode cL_add 23 = .ok (.iconst 0, 1) := by decide +kernel
theorem dL_add_24 : decode cL_add 24 = .ok (.ireturn, 1) := by decide +kernel
theorem dL_setQuantity_0 : decode cL_setQuantity 0 = .ok (.aload_n 3, 1) := by decide +kernel
theorem dL_setQuantity_1 : decode cL_setQuantity 1 = .ok (.iconst 0, 1) := by decide +kernel
theorem dL_setQuantity_2 : decode cL_setQuantity 2 = .ok (.aload_n 0, 1) := by decide +kernel
theorem dL_setQuantity_3 : decode cL_setQuantity 3 = .ok (.iload_n 1, 1) := by decide +kernel
theorem dL_setQuantity_4 : decode cL_setQuantity 4 = .ok (.iload_n 2, 1) := by decide +kernel
theorem dL_setQuantity_5 : decode cL_setQuantity 5 = .ok (.invokevirtual 32, 3) := by decide +kernel
theorem dL_setQuantity_8 : decode cL_setQuantity 8 = .ok (.i2l, 1) := by decide +kernel
theorem dL_setQuantity_9 : decode cL_setQuantity 9 = .ok (.lastore, 1) := by decide +kernel
theorem dL_setQuantity_10 : decode cL_setQuantity 10 = .ok (.goto 11, 3) := by decide +kernel
theorem dL_setQuantity_13 : decode cL_setQuantity 13 = .ok (.astore 4, 2) := by decide +kernel
theorem dL_setQuantity_15 : decode cL_setQuantity 15 = .ok (.iconst 1, 1) := by decide +kernel
theorem dL_setQuantity_16 : decode cL_setQuantity 16 = .ok (.ireturn, 1) := by decide +kernel
theorem dL_setQuantity_17 : decode cL_setQuantity 17 = .ok (.astore 4, 2) := by decide +kernel
theorem dL_setQuantity_19 : decode cL_setQuantity 19 = .ok (.iconst 2, 1) := by decide +kernel
theorem dL_setQuantity_20 : decode cL_setQuantity 20 = .ok (.ireturn, 1) := by decide +kernel
theorem dL_setQuantity_21 : decode cL_setQuantity 21 = .ok (.iconst 0, 1) := by decide +kernel
theorem dL_setQuantity_22 : decode cL_setQuantity 22 = .ok (.ireturn, 1) := by decide +kernel
theorem dL_put_0 : decode cL_put 0 = .ok (.aload_n 3, 1) := by decide +kernel
theorem dL_put_1 : decode cL_put 1 = .ok (.iconst 0, 1) := by decide +kernel
theorem dL_put_2 : decode cL_put 2 = .ok (.aload_n 0, 1) := by decide +kernel
theorem dL_put_3 : decode cL_put 3 = .ok (.iload_n 1, 1) := by decide +kernel
theorem dL_put_4 : decode cL_put 4 = .ok (.iload_n 2, 1) := by decide +kernel
theorem dL_put_5 : decode cL_put 5 = .ok (.invokevirtual 37, 3) := by decide +kernel
theorem dL_put_8 : decode cL_put 8 = .ok (.i2l, 1) := by decide +kernel
theorem dL_put_9 : decode cL_put 9 = .ok (.lastore, 1) := by decide +kernel
theorem dL_put_10 : decode cL_put 10 = .ok (.goto 11, 3) := by decide +kernel
theorem dL_put_13 : decode cL_put 13 = .ok (.astore 4, 2) := by decide +kernel
theorem dL_put_15 : decode cL_put 15 = .ok (.iconst 1, 1) := by decide +kernel
theorem dL_put_16 : decode cL_put 16 = .ok (.ireturn, 1) := by decide +kernel
theorem dL_put_17 : decode cL_put 17 = .ok (.astore 4, 2) := by decide +kernel
theorem dL_put_19 : decode cL_put 19 = .ok (.iconst 2, 1) := by decide +kernel
theorem dL_put_20 : decode cL_put 20 = .ok (.ireturn, 1) := by decide +kernel
theorem dL_put_21 : decode cL_put 21 = .ok (.iconst 0, 1) := by decide +kernel
theorem dL_put_22 : decode cL_put 22 = .ok (.ireturn, 1) := by decide +kernel
theorem dL_placeOf_0 : decode cL_placeOf 0 = .ok (.aload_n 2, 1) := by decide +kernel
theorem dL_placeOf_1 : decode cL_placeOf 1 = .ok (.iconst 0, 1) := by decide +kernel
theorem dL_placeOf_2 : decode cL_placeOf 2 = .ok (.aload_n 0, 1) := by decide +kernel
theorem dL_placeOf_3 : decode cL_placeOf 3 = .ok (.iload_n 1, 1) := by decide +kernel
theorem dL_placeOf_4 : decode cL_placeOf 4 = .ok (.invokevirtual 40, 3) := by decide +kernel
theorem dL_placeOf_7 : decode cL_placeOf 7 = .ok (.i2l, 1) := by decide +kernel
theorem dL_placeOf_8 : decode cL_placeOf 8 = .ok (.lastore, 1) := by decide +kernel
theorem dL_placeOf_9 : decode cL_placeOf 9 = .ok (.goto 6, 3) := by decide +kernel
theorem dL_placeOf_12 : decode cL_placeOf 12 = .ok (.astore_n 3, 1) := by decide +kernel
theorem dL_placeOf_13 : decode cL_placeOf 13 = .ok (.iconst 1, 1) := by decide +kernel
theorem dL_placeOf_14 : decode cL_placeOf 14 = .ok (.ireturn, 1) := by decide +kernel
theorem dL_placeOf_15 : decode cL_placeOf 15 = .ok (.iconst 0, 1) := by decide +kernel
theorem dL_placeOf_16 : decode cL_placeOf 16 = .ok (.ireturn, 1) := by decide +kernel
theorem dL_isLimited_0 : decode cL_isLimited 0 = .ok (.aload_n 2, 1) := by decide +kernel
theorem dL_isLimited_1 : decode cL_isLimited 1 = .ok (.iconst 0, 1) := by decide +kernel
theorem dL_isLimited_2 : decode cL_isLimited 2 = .ok (.aload_n 0, 1) := by decide +kernel
theorem dL_isLimited_3 : decode cL_isLimited 3 = .ok (.iload_n 1, 1) := by decide +kernel
theorem dL_isLimited_4 : decode cL_isLimited 4 = .ok (.invokevirtual 44, 3) := by decide +kernel
theorem dL_isLimited_7 : decode cL_isLimited 7 = .ok (.ifCond .eq 7, 3) := by decide +kernel
theorem dL_isLimited_10 : decode cL_isLimited 10 = .ok (.lconst 1, 1) := by decide +kernel
theorem dL_isLimited_11 : decode cL_isLimited 11 = .ok (.goto 4, 3) := by decide +kernel
theorem dL_isLimited_14 : decode cL_isLimited 14 = .ok (.lconst 0, 1) := by decide +kernel
theorem dL_isLimited_15 : decode cL_isLimited 15 = .ok (.lastore, 1) := by decide +kernel
theorem dL_isLimited_16 : decode cL_isLimited 16 = .ok (.goto 6, 3) := by decide +kernel
theorem dL_isLimited_19 : decode cL_isLimited 19 = .ok (.astore_n 3, 1) := by decide +kernel
theorem dL_isLimited_20 : decode cL_isLimited 20 = .ok (.iconst 1, 1) := by decide +kernel
theorem dL_isLimited_21 : decode cL_isLimited 21 = .ok (.ireturn, 1) := by decide +kernel
theorem dL_isLimited_22 : decode cL_isLimited 22 = .ok (.iconst 0, 1) := by decide +kernel
theorem dL_isLimited_23 : decode cL_isLimited 23 = .ok (.ireturn, 1) := by decide +kernel
theorem dL_isExcepted_0 : decode cL_isExcepted 0 = .ok (.aload_n 2, 1) := by decide +kernel
theorem dL_isExcepted_1 : decode cL_isExcepted 1 = .ok (.iconst 0, 1) := by decide +kernel
theorem dL_isExcepted_2 : decode cL_isExcepted 2 = .ok (.aload_n 0, 1) := by decide +kernel
theorem dL_isExcepted_3 : decode cL_isExcepted 3 = .ok (.iload_n 1, 1) := by decide +kernel
theorem dL_isExcepted_4 : decode cL_isExcepted 4 = .ok (.invokevirtual 48, 3) := by decide +kernel
theorem dL_isExcepted_7 : decode cL_isExcepted 7 = .ok (.ifCond .eq 7, 3) := by decide +kernel
theorem dL_isExcepted_10 : decode cL_isExcepted 10 = .ok (.lconst 1, 1) := by decide +kernel
theorem dL_isExcepted_11 : decode cL_isExcepted 11 = .ok (.goto 4, 3) := by decide +kernel
theorem dL_isExcepted_14 : decode cL_isExcepted 14 = .ok (.lconst 0, 1) := by decide +kernel
theorem dL_isExcepted_15 : decode cL_isExcepted 15 = .ok (.lastore, 1) := by decide +kernel
theorem dL_isExcepted_16 : decode cL_isExcepted 16 = .ok (.goto 6, 3) := by decide +kernel
theorem dL_isExcepted_19 : decode cL_isExcepted 19 = .ok (.astore_n 3, 1) := by decide +kernel
theorem dL_isExcepted_20 : decode cL_isExcepted 20 = .ok (.iconst 1, 1) := by decide +kernel
theorem dL_isExcepted_21 : decode cL_isExcepted 21 = .ok (.ireturn, 1) := by decide +kernel
theorem dL_isExcepted_22 : decode cL_isExcepted 22 = .ok (.iconst 0, 1) := by decide +kernel
theorem dL_isExcepted_23 : decode cL_isExcepted 23 = .ok (.ireturn, 1) := by decide +kernel
theorem dL_need_0 : decode cL_need 0 = .ok (.aload_n 3, 1) := by decide +kernel
theorem dL_need_1 : decode cL_need 1 = .ok (.iconst 0, 1) := by decide +kernel
theorem dL_need_2 : decode cL_need 2 = .ok (.aload_n 0, 1) := by decide +kernel
theorem dL_need_3 : decode cL_need 3 = .ok (.iload_n 1, 1) := by decide +kernel
theorem dL_need_4 : decode cL_need 4 = .ok (.iload_n 2, 1) := by decide +kernel
theorem dL_need_5 : decode cL_need 5 = .ok (.invokevirtual 51, 3) := by decide +kernel
theorem dL_need_8 : decode cL_need 8 = .ok (.i2l, 1) := by decide +kernel
theorem dL_need_9 : decode cL_need 9 = .ok (.lastore, 1) := by decide +kernel
theorem dL_need_10 : decode cL_need 10 = .ok (.goto 11, 3) := by decide +kernel
theorem dL_need_13 : decode cL_need 13 = .ok (.astore 4, 2) := by decide +kernel
theorem dL_need_15 : decode cL_need 15 = .ok (.iconst 1, 1) := by decide +kernel
theorem dL_need_16 : decode cL_need 16 = .ok (.ireturn, 1) := by decide +kernel
theorem dL_need_17 : decode cL_need 17 = .ok (.astore 4, 2) := by decide +kernel
theorem dL_need_19 : decode cL_need 19 = .ok (.iconst 2, 1) := by decide +kernel
theorem dL_need_20 : decode cL_need 20 = .ok (.ireturn, 1) := by decide +kernel
theorem dL_need_21 : decode cL_need 21 = .ok (.iconst 0, 1) := by decide +kernel
theorem dL_need_22 : decode cL_need 22 = .ok (.ireturn, 1) := by decide +kernel
theorem dL_areInBreach_0 : decode cL_areInBreach 0 = .ok (.aload_n 3, 1) := by decide +kernel
theorem dL_areInBreach_1 : decode cL_areInBreach 1 = .ok (.iconst 0, 1) := by decide +kernel
theorem dL_areInBreach_2 : decode cL_areInBreach 2 = .ok (.aload_n 0, 1) := by decide +kernel
theorem dL_areInBreach_3 : decode cL_areInBreach 3 = .ok (.iload_n 1, 1) := by decide +kernel
theorem dL_areInBreach_4 : decode cL_areInBreach 4 = .ok (.iload_n 2, 1) := by decide +kernel
theorem dL_areInBreach_5 : decode cL_areInBreach 5 = .ok (.invokevirtual 54, 3) := by decide +kernel
theorem dL_areInBreach_8 : decode cL_areInBreach 8 = .ok (.ifCond .eq 7, 3) := by decide +kernel
theorem dL_areInBreach_11 : decode cL_areInBreach 11 = .ok (.lconst 1, 1) := by decide +kernel
theorem dL_areInBreach_12 : decode cL_areInBreach 12 = .ok (.goto 4, 3) := by decide +kernel
theorem dL_areInBreach_15 : decode cL_areInBreach 15 = .ok (.lconst 0, 1) := by decide +kernel
theorem dL_areInBreach_16 : decode cL_areInBreach 16 = .ok (.lastore, 1) := by decide +kernel
theorem dL_areInBreach_17 : decode cL_areInBreach 17 = .ok (.goto 11, 3) := by decide +kernel
theorem dL_areInBreach_20 : decode cL_areInBreach 20 = .ok (.astore 4, 2) := by decide +kernel
theorem dL_areInBreach_22 : decode cL_areInBreach 22 = .ok (.iconst 1, 1) := by decide +kernel
theorem dL_areInBreach_23 : decode cL_areInBreach 23 = .ok (.ireturn, 1) := by decide +kernel
theorem dL_areInBreach_24 : decode cL_areInBreach 24 = .ok (.astore 4, 2) := by decide +kernel
theorem dL_areInBreach_26 : decode cL_areInBreach 26 = .ok (.iconst 2, 1) := by decide +kernel
theorem dL_areInBreach_27 : decode cL_areInBreach 27 = .ok (.ireturn, 1) := by decide +kernel
theorem dL_areInBreach_28 : decode cL_areInBreach 28 = .ok (.iconst 0, 1) := by decide +kernel
theorem dL_areInBreach_29 : decode cL_areInBreach 29 = .ok (.ireturn, 1) := by decide +kernel
theorem dL_isMisplaced_0 : decode cL_isMisplaced 0 = .ok (.aload_n 2, 1) := by decide +kernel
theorem dL_isMisplaced_1 : decode cL_isMisplaced 1 = .ok (.iconst 0, 1) := by decide +kernel
theorem dL_isMisplaced_2 : decode cL_isMisplaced 2 = .ok (.aload_n 0, 1) := by decide +kernel
theorem dL_isMisplaced_3 : decode cL_isMisplaced 3 = .ok (.iload_n 1, 1) := by decide +kernel
theorem dL_isMisplaced_4 : decode cL_isMisplaced 4 = .ok (.invokevirtual 58, 3) := by decide +kernel
theorem dL_isMisplaced_7 : decode cL_isMisplaced 7 = .ok (.ifCond .eq 7, 3) := by decide +kernel
theorem dL_isMisplaced_10 : decode cL_isMisplaced 10 = .ok (.lconst 1, 1) := by decide +kernel
theorem dL_isMisplaced_11 : decode cL_isMisplaced 11 = .ok (.goto 4, 3) := by decide +kernel
theorem dL_isMisplaced_14 : decode cL_isMisplaced 14 = .ok (.lconst 0, 1) := by decide +kernel
theorem dL_isMisplaced_15 : decode cL_isMisplaced 15 = .ok (.lastore, 1) := by decide +kernel
theorem dL_isMisplaced_16 : decode cL_isMisplaced 16 = .ok (.goto 6, 3) := by decide +kernel
theorem dL_isMisplaced_19 : decode cL_isMisplaced 19 = .ok (.astore_n 3, 1) := by decide +kernel
theorem dL_isMisplaced_20 : decode cL_isMisplaced 20 = .ok (.iconst 1, 1) := by decide +kernel
theorem dL_isMisplaced_21 : decode cL_isMisplaced 21 = .ok (.ireturn, 1) := by decide +kernel
theorem dL_isMisplaced_22 : decode cL_isMisplaced 22 = .ok (.iconst 0, 1) := by decide +kernel
theorem dL_isMisplaced_23 : decode cL_isMisplaced 23 = .ok (.ireturn, 1) := by decide +kernel
theorem dL_inBreachWith_0 : decode cL_inBreachWith 0 = .ok (.aload_n 2, 1) := by decide +kernel
theorem dL_inBreachWith_1 : decode cL_inBreachWith 1 = .ok (.iconst 0, 1) := by decide +kernel
theorem dL_inBreachWith_2 : decode cL_inBreachWith 2 = .ok (.aload_n 0, 1) := by decide +kernel
theorem dL_inBreachWith_3 : decode cL_inBreachWith 3 = .ok (.iload_n 1, 1) := by decide +kernel
theorem dL_inBreachWith_4 : decode cL_inBreachWith 4 = .ok (.invokevirtual 61, 3) := by decide +kernel
theorem dL_inBreachWith_7 : decode cL_inBreachWith 7 = .ok (.i2l, 1) := by decide +kernel
theorem dL_inBreachWith_8 : decode cL_inBreachWith 8 = .ok (.lastore, 1) := by decide +kernel
theorem dL_inBreachWith_9 : decode cL_inBreachWith 9 = .ok (.goto 6, 3) := by decide +kernel
theorem dL_inBreachWith_12 : decode cL_inBreachWith 12 = .ok (.astore_n 3, 1) := by decide +kernel
theorem dL_inBreachWith_13 : decode cL_inBreachWith 13 = .ok (.iconst 1, 1) := by decide +kernel
theorem dL_inBreachWith_14 : decode cL_inBreachWith 14 = .ok (.ireturn, 1) := by decide +kernel
theorem dL_inBreachWith_15 : decode cL_inBreachWith 15 = .ok (.iconst 0, 1) := by decide +kernel
theorem dL_inBreachWith_16 : decode cL_inBreachWith 16 = .ok (.ireturn, 1) := by decide +kernel
theorem dL_canPut_0 : decode cL_canPut 0 = .ok (.aload_n 3, 1) := by decide +kernel
theorem dL_canPut_1 : decode cL_canPut 1 = .ok (.iconst 0, 1) := by decide +kernel
theorem dL_canPut_2 : decode cL_canPut 2 = .ok (.aload_n 0, 1) := by decide +kernel
theorem dL_canPut_3 : decode cL_canPut 3 = .ok (.iload_n 1, 1) := by decide +kernel
theorem dL_canPut_4 : decode cL_canPut 4 = .ok (.iload_n 2, 1) := by decide +kernel
theorem dL_canPut_5 : decode cL_canPut 5 = .ok (.invokevirtual 64, 3) := by decide +kernel
theorem dL_canPut_8 : decode cL_canPut 8 = .ok (.ifCond .eq 7, 3) := by decide +kernel
theorem dL_canPut_11 : decode cL_canPut 11 = .ok (.lconst 1, 1) := by decide +kernel
theorem dL_canPut_12 : decode cL_canPut 12 = .ok (.goto 4, 3) := by decide +kernel
theorem dL_canPut_15 : decode cL_canPut 15 = .ok (.lconst 0, 1) := by decide +kernel
theorem dL_canPut_16 : decode cL_canPut 16 = .ok (.lastore, 1) := by decide +kernel
theorem dL_canPut_17 : decode cL_canPut 17 = .ok (.goto 11, 3) := by decide +kernel
theorem dL_canPut_20 : decode cL_canPut 20 = .ok (.astore 4, 2) := by decide +kernel
theorem dL_canPut_22 : decode cL_canPut 22 = .ok (.iconst 1, 1) := by decide +kernel
theorem dL_canPut_23 : decode cL_canPut 23 = .ok (.ireturn, 1) := by decide +kernel
theorem dL_canPut_24 : decode cL_canPut 24 = .ok (.astore 4, 2) := by decide +kernel
theorem dL_canPut_26 : decode cL_canPut 26 = .ok (.iconst 2, 1) := by decide +kernel
theorem dL_canPut_27 : decode cL_canPut 27 = .ok (.ireturn, 1) := by decide +kernel
theorem dL_canPut_28 : decode cL_canPut 28 = .ok (.iconst 0, 1) := by decide +kernel
theorem dL_canPut_29 : decode cL_canPut 29 = .ok (.ireturn, 1) := by decide +kernel
theorem dL_placeFor_0 : decode cL_placeFor 0 = .ok (.aload_n 2, 1) := by decide +kernel
theorem dL_placeFor_1 : decode cL_placeFor 1 = .ok (.iconst 0, 1) := by decide +kernel
theorem dL_placeFor_2 : decode cL_placeFor 2 = .ok (.aload_n 0, 1) := by decide +kernel
theorem dL_placeFor_3 : decode cL_placeFor 3 = .ok (.iload_n 1, 1) := by decide +kernel
theorem dL_placeFor_4 : decode cL_placeFor 4 = .ok (.invokevirtual 67, 3) := by decide +kernel
theorem dL_placeFor_7 : decode cL_placeFor 7 = .ok (.i2l, 1) := by decide +kernel
theorem dL_placeFor_8 : decode cL_placeFor 8 = .ok (.lastore, 1) := by decide +kernel
theorem dL_placeFor_9 : decode cL_placeFor 9 = .ok (.goto 6, 3) := by decide +kernel
theorem dL_placeFor_12 : decode cL_placeFor 12 = .ok (.astore_n 3, 1) := by decide +kernel
theorem dL_placeFor_13 : decode cL_placeFor 13 = .ok (.iconst 1, 1) := by decide +kernel
theorem dL_placeFor_14 : decode cL_placeFor 14 = .ok (.ireturn, 1) := by decide +kernel
theorem dL_placeFor_15 : decode cL_placeFor 15 = .ok (.iconst 0, 1) := by decide +kernel
theorem dL_placeFor_16 : decode cL_placeFor 16 = .ok (.ireturn, 1) := by decide +kernel
end
section
set_option maxRecDepth 20000 in
theorem ggL_law_X0_init : GoodIn wsL_law wsX0_init := goodIn_r _ [9, 10, 11, 12, 13, 14, 15, 16, 17, 18, 19, 20, 21, 22, 23, 24, 456, 457, 458, 459, 460, 461, 462, 463, 464, 465] (by decide +kernel) (by decide +kernel)
set_option maxRecDepth 20000 in
theorem gL_law_X0_init : GoodIn wsL_law (wsX0_init) := ggL_law_X0_init
set_option maxRecDepth 20000 in
theorem ggL_law_X1_init : GoodIn wsL_law wsX1_init := goodIn_r _ [27, 28, 11, 12, 13, 29, 30, 31, 17, 32, 33, 34, 35, 36, 37, 466, 467, 468, 469, 470, 471, 472, 473, 474, 475, 476] (by decide +kernel) (by decide +kernel)
set_option maxRecDepth 20000 in
theorem gL_law_X1_init : GoodIn wsL_law (wsX1_init) := ggL_law_X1_init
set_option maxRecDepth 20000 in
theorem ggL_law_L_setDistance : GoodIn wsL_law wsL_setDistance := goodIn_ca (goodIn_r _ [41, 42, 43, 44, 45, 2, 46, 14, 47, 48, 49, 50, 51, 52, 53, 54, 55, 56, 57, 58, 456, 457, 458, 459, 460, 461, 462, 463, 464, 465] (by decide +kernel) (by decide +kernel)) (goodIn_sub (fun _ h => List.mem_append_left _ (List.mem_append_left _ (List.mem_append_right _ h))) (by decide +kernel))
set_option maxRecDepth 20000 in
theorem gL_law_L_setDistance : GoodIn wsL_law (va_wsS RL 74 yL_setDistance wsL_setDistance) := goodIn_app (goodIn_of _ (by decide +kernel)) ggL_law_L_setDistance
set_option maxRecDepth 20000 in
theorem ggL_law_X1_setDistance : GoodIn wsL_law wsX1_setDistance := goodIn_r _ [62, 29, 63, 64, 5, 65, 66, 67, 68, 69, 70, 71, 72, 73, 466, 467, 468, 469, 470, 471, 472, 473, 474, 475, 476] (by decide +kernel) (by decide +kernel)
set_option maxRecDepth 20000 in
theorem gL_law_X1_setDistance : GoodIn wsL_law (wsV RL 79 RX1 yX1_setDistance wsX1_setDistance) := goodIn_app (goodIn_of _ (by decide +kernel)) ggL_law_X1_setDistance
set_option maxRecDepth 20000 in
theorem ggL_law_X1_thrown : GoodIn wsL_law wsX1_thrown := goodIn_r _ [77, 73, 466, 467, 468, 469, 470, 471, 472, 473, 474, 475, 476] (by decide +kernel) (by decide +kernel)
set_option maxRecDepth 20000 in
theorem gL_law_X1_thrown : GoodIn wsL_law (wsV RL 80 RX1 yX1_thrown wsX1_thrown) := goodIn_app (goodIn_of _ (by decide +kernel)) ggL_law_X1_thrown
set_option maxRecDepth 20000 in
theorem ggL_law_L_setQuantities : GoodIn wsL_law wsL_setQuantities := goodIn_ca (goodIn_r _ [80, 42, 81, 82, 83, 2, 84, 15, 16, 47, 48, 49, 50, 51, 52, 53, 54, 456, 457, 458, 459, 460, 461, 462, 463, 464, 465] (by decide +kernel) (by decide +kernel)) (goodIn_sub (fun _ h => List.mem_append_left _ (List.mem_append_left _ (List.mem_append_right _ h))) (by decide +kernel))
set_option maxRecDepth 20000 in
theorem gL_law_L_setQuantities : GoodIn wsL_law (va_wsS RL 84 yL_setQuantities wsL_setQuantities) := goodIn_app (goodIn_of _ (by decide +kernel)) ggL_law_L_setQuantities
set_option maxRecDepth 20000 in
theorem ggL_law_X1_setQuantities : GoodIn wsL_law wsX1_setQuantities := goodIn_r _ [88, 30, 31, 63, 64, 5, 65, 66, 67, 68, 69, 70, 71, 72, 73, 466, 467, 468, 469, 470, 471, 472, 473, 474, 475, 476] (by decide +kernel) (by decide +kernel)
set_option maxRecDepth 20000 in
theorem gL_law_X1_setQuantities : GoodIn wsL_law (wsV RL 87 RX1 yX1_setQuantities wsX1_setQuantities) := goodIn_app (goodIn_of _ (by decide +kernel)) ggL_law_X1_setQuantities
set_option maxRecDepth 20000 in
theorem ggL_law_L_bar : GoodIn wsL_law wsL_bar := goodIn_ca (goodIn_r _ [91, 42, 92, 93, 94, 2, 95, 18, 47, 48, 49, 50, 51, 52, 53, 54, 456, 457, 458, 459, 460, 461, 462, 463, 464, 465] (by decide +kernel) (by decide +kernel)) (goodIn_sub (fun _ h => List.mem_append_left _ (List.mem_append_left _ (List.mem_append_right _ h))) (by decide +kernel))
set_option maxRecDepth 20000 in
theorem gL_law_L_bar : GoodIn wsL_law (va_wsS RL 88 yL_bar wsL_bar) := goodIn_app (goodIn_of _ (by decide +kernel)) ggL_law_L_bar
set_option maxRecDepth 20000 in
theorem ggL_law_X1_bar : GoodIn wsL_law wsX1_bar := goodIn_r _ [99, 32, 63, 64, 5, 65, 66, 67, 68, 69, 70, 71, 72, 73, 466, 467, 468, 469, 470, 471, 472, 473, 474, 475, 476] (by decide +kernel) (by decide +kernel)
set_option maxRecDepth 20000 in
theorem gL_law_X1_bar : GoodIn wsL_law (wsV RL 91 RX1 yX1_bar wsX1_bar) := goodIn_app (goodIn_of _ (by decide +kernel)) ggL_law_X1_bar
set_option maxRecDepth 20000 in
theorem ggL_law_L_distance : GoodIn wsL_law wsL_distance := goodIn_ca (goodIn_r _ [102, 42, 103, 104, 105, 2, 106, 107, 108, 109, 50, 51, 52, 53, 54, 110, 111, 112, 113, 114, 115, 116, 117, 118, 119, 120, 121, 122, 123, 124, 125] (by decide +kernel) (by decide +kernel)) (goodIn_sub (fun _ h => List.mem_append_left _ (List.mem_append_left _ (List.mem_append_right _ h))) (by decide +kernel))
set_option maxRecDepth 20000 in
theorem gL_law_L_distance : GoodIn wsL_law (va_wsS RL 92 yL_distance wsL_distance) := goodIn_app (goodIn_of _ (by decide +kernel)) ggL_law_L_distance
set_option maxRecDepth 20000 in
theorem ggL_law_X1_distance : GoodIn wsL_law wsX1_distance := goodIn_r _ [129, 130, 131, 5, 132, 66, 67, 68, 69, 70, 71, 72, 73, 133, 134, 135, 466, 467, 468, 469, 470, 471, 472, 473, 474, 475, 476] (by decide +kernel) (by decide +kernel)
set_option maxRecDepth 20000 in
theorem gL_law_X1_distance : GoodIn wsL_law (wsV RL 95 RX1 yX1_distance wsX1_distance) := goodIn_app (goodIn_of _ (by decide +kernel)) ggL_law_X1_distance
set_option maxRecDepth 20000 in
theorem ggL_law_L_add : GoodIn wsL_law wsL_add := goodIn_ca (goodIn_ca (goodIn_r _ [138, 42, 139, 140, 141, 142, 2, 143, 144, 145, 23, 19, 20, 21, 22, 47, 48, 49, 50, 51, 52, 53, 54, 146, 147, 148, 149, 150, 151, 456, 457, 458, 459, 460, 461, 462, 463, 464, 465] (by decide +kernel) (by decide +kernel)) (goodIn_sub (fun _ h => List.mem_append_left _ (List.mem_append_right _ h)) (by decide +kernel))) (goodIn_sub (fun _ h => List.mem_append_left _ (List.mem_append_left _ (List.mem_append_right _ h))) (by decide +kernel))
set_option maxRecDepth 20000 in
theorem gL_law_L_add : GoodIn wsL_law (va_wsS RL 96 yL_add wsL_add) := goodIn_app (goodIn_of _ (by decide +kernel)) ggL_law_L_add
set_option maxRecDepth 20000 in
theorem ggL_law_X1_add : GoodIn wsL_law wsX1_add := goodIn_r _ [155, 156, 33, 34, 35, 36, 63, 64, 5, 65, 66, 67, 68, 69, 70, 71, 72, 73, 466, 467, 468, 469, 470, 471, 472, 473, 474, 475, 476] (by decide +kernel) (by decide +kernel)
set_option maxRecDepth 20000 in
theorem gL_law_X1_add : GoodIn wsL_law (wsV RL 98 RX1 yX1_add wsX1_add) := goodIn_app (goodIn_of _ (by decide +kernel)) ggL_law_X1_add
set_option maxRecDepth 20000 in
theorem ggL_law_L_setQuantity : GoodIn wsL_law wsL_setQuantity := goodIn_ca (goodIn_ca (goodIn_r _ [159, 160, 42, 161, 162, 163, 2, 164, 21, 165, 166, 167, 168, 169, 170, 23, 149, 150, 151, 50, 51, 52, 53, 54, 456, 457, 458, 459, 460, 461, 462, 463, 464, 465] (by decide +kernel) (by decide +kernel)) (goodIn_sub (fun _ h => List.mem_append_right _ h) (by decide +kernel))) (goodIn_sub (fun _ h => List.mem_append_left _ (List.mem_append_left _ (List.mem_append_right _ h))) (by decide +kernel))
set_option maxRecDepth 20000 in
theorem gL_law_L_setQuantity : GoodIn wsL_law (va_wsS RL 99 yL_setQuantity wsL_setQuantity) := goodIn_app (goodIn_of _ (by decide +kernel)) ggL_law_L_setQuantity
set_option maxRecDepth 20000 in
theorem ggL_law_X1_setQuantity : GoodIn wsL_law wsX1_setQuantity := goodIn_r _ [174, 35, 175, 176, 177, 5, 178, 156, 66, 67, 68, 69, 70, 71, 72, 73, 466, 467, 468, 469, 470, 471, 472, 473, 474, 475, 476] (by decide +kernel) (by decide +kernel)
set_option maxRecDepth 20000 in
theorem gL_law_X1_setQuantity : GoodIn wsL_law (wsV RL 101 RX1 yX1_setQuantity wsX1_setQuantity) := goodIn_app (goodIn_of _ (by decide +kernel)) ggL_law_X1_setQuantity
set_option maxRecDepth 20000 in
theorem ggL_law_L_put : GoodIn wsL_law wsL_put := goodIn_ca (goodIn_ca (goodIn_r _ [181, 160, 42, 182, 183, 184, 2, 185, 22, 165, 166, 167, 168, 169, 170, 23, 107, 108, 109, 50, 51, 52, 53, 54, 456, 457, 458, 459, 460, 461, 462, 463, 464, 465] (by decide +kernel) (by decide +kernel)) (goodIn_sub (fun _ h => List.mem_append_right _ h) (by decide +kernel))) (goodIn_sub (fun _ h => List.mem_append_left _ (List.mem_append_left _ (List.mem_append_right _ h))) (by decide +kernel))
set_option maxRecDepth 20000 in
theorem gL_law_L_put : GoodIn wsL_law (va_wsS RL 102 yL_put wsL_put) := goodIn_app (goodIn_of _ (by decide +kernel)) ggL_law_L_put
set_option maxRecDepth 20000 in
theorem ggL_law_X1_put : GoodIn wsL_law wsX1_put := goodIn_r _ [189, 36, 175, 176, 177, 5, 178, 156, 66, 67, 68, 130, 131, 132, 69, 70, 71, 72, 73, 466, 467, 468, 469, 470, 471, 472, 473, 474, 475, 476] (by decide +kernel) (by decide +kernel)
set_option maxRecDepth 20000 in
theorem gL_law_X1_put : GoodIn wsL_law (wsV RL 104 RX1 yX1_put wsX1_put) := goodIn_app (goodIn_of _ (by decide +kernel)) ggL_law_X1_put
set_option maxRecDepth 20000 in
theorem ggL_law_X0_goods : GoodIn wsL_law wsX0_goods := goodIn_r _ [193, 23, 456, 457, 458, 459, 460, 461, 462, 463, 464, 465] (by decide +kernel) (by decide +kernel)
set_option maxRecDepth 20000 in
theorem gL_law_X0_goods : GoodIn wsL_law (wsV RL 105 RX0 yX0_goods wsX0_goods) := goodIn_app (goodIn_of _ (by decide +kernel)) ggL_law_X0_goods
set_option maxRecDepth 20000 in
theorem ggL_law_X1_goods : GoodIn wsL_law wsX1_goods := goodIn_r _ [197, 73, 156, 466, 467, 468, 469, 470, 471, 472, 473, 474, 475, 476] (by decide +kernel) (by decide +kernel)
set_option maxRecDepth 20000 in
theorem gL_law_X1_goods : GoodIn wsL_law (wsV RL 108 RX1 yX1_goods wsX1_goods) := goodIn_app (goodIn_of _ (by decide +kernel)) ggL_law_X1_goods
set_option maxRecDepth 20000 in
theorem ggL_law_L_placeOf : GoodIn wsL_law wsL_placeOf := goodIn_ca (goodIn_r _ [200, 160, 201, 202, 203, 2, 204, 22, 165, 166, 167, 168, 169, 170, 23, 456, 457, 458, 459, 460, 461, 462, 463, 464, 465] (by decide +kernel) (by decide +kernel)) (goodIn_sub (fun _ h => List.mem_append_right _ h) (by decide +kernel))
set_option maxRecDepth 20000 in
theorem gL_law_L_placeOf : GoodIn wsL_law (va_wsS RL 109 yL_placeOf wsL_placeOf) := goodIn_app (goodIn_of _ (by decide +kernel)) ggL_law_L_placeOf
set_option maxRecDepth 20000 in
theorem ggL_law_X1_placeOf : GoodIn wsL_law wsX1_placeOf := goodIn_r _ [208, 36, 209, 210, 211, 5, 212, 175, 176, 177, 178, 156, 66, 67, 68, 69, 70, 71, 72, 73, 466, 467, 468, 469, 470, 471, 472, 473, 474, 475, 476] (by decide +kernel) (by decide +kernel)
set_option maxRecDepth 20000 in
theorem gL_law_X1_placeOf : GoodIn wsL_law (wsV RL 112 RX1 yX1_placeOf wsX1_placeOf) := goodIn_app (goodIn_of _ (by decide +kernel)) ggL_law_X1_placeOf
set_option maxRecDepth 20000 in
theorem ggL_law_L_isLimited : GoodIn wsL_law wsL_isLimited := goodIn_ca (goodIn_r _ [215, 160, 216, 217, 218, 2, 219, 165, 166, 167, 168, 169, 170, 23, 220, 221, 222, 223, 16, 15, 224, 225, 226, 227, 21, 20, 19, 456, 457, 458, 459, 460, 461, 462, 463, 464, 465] (by decide +kernel) (by decide +kernel)) (goodIn_sub (fun _ h => List.mem_append_right _ h) (by decide +kernel))
set_option maxRecDepth 20000 in
theorem gL_law_L_isLimited : GoodIn wsL_law (va_wsS RL 113 yL_isLimited wsL_isLimited) := goodIn_app (goodIn_of _ (by decide +kernel)) ggL_law_L_isLimited
set_option maxRecDepth 20000 in
theorem ggL_law_X1_isLimited : GoodIn wsL_law wsX1_isLimited := goodIn_r _ [231, 209, 210, 211, 5, 212, 175, 176, 177, 178, 156, 66, 67, 68, 69, 70, 71, 72, 73, 232, 233, 234, 235, 30, 236, 237, 238, 239, 31, 240, 241, 242, 243, 34, 35, 33, 466, 467, 468, 469, 470, 471, 472, 473, 474, 475, 476] (by decide +kernel) (by decide +kernel)
end
section
set_option maxRecDepth 20000 in
theorem gL_law_X1_isLimited : GoodIn wsL_law (wsV RL 115 RX1 yX1_isLimited wsX1_isLimited) := goodIn_app (goodIn_of _ (by decide +kernel)) ggL_law_X1_isLimited
set_option maxRecDepth 20000 in
theorem ggL_law_L_isExcepted : GoodIn wsL_law wsL_isExcepted := goodIn_ca (goodIn_r _ [246, 160, 247, 248, 249, 2, 250, 165, 166, 167, 168, 169, 170, 23, 251, 252, 253, 254, 16, 224, 225, 226, 227, 21, 20, 19, 456, 457, 458, 459, 460, 461, 462, 463, 464, 465] (by decide +kernel) (by decide +kernel)) (goodIn_sub (fun _ h => List.mem_append_right _ h) (by decide +kernel))
set_option maxRecDepth 20000 in
theorem gL_law_L_isExcepted : GoodIn wsL_law (va_wsS RL 116 yL_isExcepted wsL_isExcepted) := goodIn_app (goodIn_of _ (by decide +kernel)) ggL_law_L_isExcepted
set_option maxRecDepth 20000 in
theorem ggL_law_X1_isExcepted : GoodIn wsL_law wsX1_isExcepted := goodIn_r _ [258, 209, 210, 211, 5, 212, 175, 176, 177, 178, 156, 66, 67, 68, 69, 70, 71, 72, 73, 236, 237, 238, 239, 31, 240, 241, 242, 243, 34, 35, 33, 466, 467, 468, 469, 470, 471, 472, 473, 474, 475, 476] (by decide +kernel) (by decide +kernel)
set_option maxRecDepth 20000 in
theorem gL_law_X1_isExcepted : GoodIn wsL_law (wsV RL 118 RX1 yX1_isExcepted wsX1_isExcepted) := goodIn_app (goodIn_of _ (by decide +kernel)) ggL_law_X1_isExcepted
set_option maxRecDepth 20000 in
theorem ggL_law_L_need : GoodIn wsL_law wsL_need := goodIn_ca (goodIn_ca (goodIn_r _ [261, 160, 42, 262, 263, 264, 2, 265, 266, 267, 268, 269, 53, 54, 165, 166, 167, 168, 169, 170, 23, 270, 271, 272, 273, 274, 275, 115, 276, 251, 252, 253, 254, 16, 224, 225, 226, 227, 21, 20, 19, 277, 278, 279, 280, 55, 56, 57, 58, 14, 220, 221, 222, 223, 15, 456, 457, 458, 459, 460, 461, 462, 463, 464, 465] (by decide +kernel) (by decide +kernel)) (goodIn_sub (fun _ h => List.mem_append_left _ (List.mem_append_left _ (List.mem_append_right _ h))) (by decide +kernel))) (goodIn_sub (fun _ h => List.mem_append_right _ h) (by decide +kernel))
set_option maxRecDepth 20000 in
theorem gL_law_L_need : GoodIn wsL_law (va_wsS RL 119 yL_need wsL_need) := goodIn_app (goodIn_of _ (by decide +kernel)) ggL_law_L_need
set_option maxRecDepth 20000 in
theorem ggL_law_X1_need : GoodIn wsL_law wsX1_need := goodIn_r _ [284, 285, 286, 287, 5, 288, 175, 176, 177, 178, 156, 66, 67, 68, 69, 70, 71, 72, 73, 289, 290, 291, 292, 33, 34, 293, 294, 295, 296, 29, 297, 298, 299, 236, 237, 238, 239, 31, 240, 241, 242, 243, 35, 232, 233, 234, 235, 30, 466, 467, 468, 469, 470, 471, 472, 473, 474, 475, 476] (by decide +kernel) (by decide +kernel)
set_option maxRecDepth 20000 in
theorem gL_law_X1_need : GoodIn wsL_law (wsV RL 121 RX1 yX1_need wsX1_need) := goodIn_app (goodIn_of _ (by decide +kernel)) ggL_law_X1_need
set_option maxRecDepth 20000 in
theorem ggL_law_L_areInBreach : GoodIn wsL_law wsL_areInBreach := goodIn_ca (goodIn_ca (goodIn_r _ [302, 160, 42, 303, 304, 305, 2, 306, 22, 266, 267, 268, 269, 53, 54, 165, 166, 167, 168, 169, 170, 23, 307, 308, 309, 310, 110, 111, 112, 113, 114, 115, 116, 117, 118, 119, 120, 121, 122, 123, 124, 125, 270, 271, 272, 273, 274, 275, 276, 251, 252, 253, 254, 16, 224, 225, 226, 227, 21, 20, 19, 277, 278, 279, 280, 55, 56, 57, 58, 14, 220, 221, 222, 223, 15, 456, 457, 458, 459, 460, 461, 462, 463, 464, 465] (by decide +kernel) (by decide +kernel)) (goodIn_sub (fun _ h => List.mem_append_left _ (List.mem_append_left _ (List.mem_append_right _ h))) (by decide +kernel))) (goodIn_sub (fun _ h => List.mem_append_right _ h) (by decide +kernel))
set_option maxRecDepth 20000 in
theorem gL_law_L_areInBreach : GoodIn wsL_law (va_wsS RL 122 yL_areInBreach wsL_areInBreach) := goodIn_app (goodIn_of _ (by decide +kernel)) ggL_law_L_areInBreach
set_option maxRecDepth 20000 in
theorem ggL_law_X1_areInBreach : GoodIn wsL_law wsX1_areInBreach := goodIn_r _ [314, 36, 285, 286, 287, 5, 288, 175, 176, 177, 178, 156, 66, 67, 68, 69, 70, 71, 72, 73, 315, 316, 317, 318, 133, 134, 135, 289, 290, 291, 292, 33, 34, 293, 294, 295, 296, 29, 297, 298, 299, 236, 237, 238, 239, 31, 240, 241, 242, 243, 35, 232, 233, 234, 235, 30, 466, 467, 468, 469, 470, 471, 472, 473, 474, 475, 476] (by decide +kernel) (by decide +kernel)
set_option maxRecDepth 20000 in
theorem gL_law_X1_areInBreach : GoodIn wsL_law (wsV RL 124 RX1 yX1_areInBreach wsX1_areInBreach) := goodIn_app (goodIn_of _ (by decide +kernel)) ggL_law_X1_areInBreach
set_option maxRecDepth 20000 in
theorem ggL_law_L_isMisplaced : GoodIn wsL_law wsL_isMisplaced := goodIn_ca (goodIn_r _ [321, 160, 322, 323, 324, 2, 325, 22, 165, 166, 167, 168, 169, 170, 23, 326, 327, 328, 329, 19, 20, 251, 252, 253, 254, 16, 224, 225, 226, 227, 21, 123, 124, 125, 330, 331, 332, 333, 18, 456, 457, 458, 459, 460, 461, 462, 463, 464, 465] (by decide +kernel) (by decide +kernel)) (goodIn_sub (fun _ h => List.mem_append_right _ h) (by decide +kernel))
set_option maxRecDepth 20000 in
theorem gL_law_L_isMisplaced : GoodIn wsL_law (va_wsS RL 125 yL_isMisplaced wsL_isMisplaced) := goodIn_app (goodIn_of _ (by decide +kernel)) ggL_law_L_isMisplaced
set_option maxRecDepth 20000 in
theorem ggL_law_X1_isMisplaced : GoodIn wsL_law wsX1_isMisplaced := goodIn_r _ [337, 36, 209, 210, 211, 5, 212, 175, 176, 177, 178, 156, 66, 67, 68, 69, 70, 71, 72, 73, 338, 339, 340, 341, 34, 32, 33, 236, 237, 238, 239, 31, 240, 241, 242, 243, 35, 466, 467, 468, 469, 470, 471, 472, 473, 474, 475, 476] (by decide +kernel) (by decide +kernel)
set_option maxRecDepth 20000 in
theorem gL_law_X1_isMisplaced : GoodIn wsL_law (wsV RL 127 RX1 yX1_isMisplaced wsX1_isMisplaced) := goodIn_app (goodIn_of _ (by decide +kernel)) ggL_law_X1_isMisplaced
set_option maxRecDepth 20000 in
theorem ggL_law_X0_breaches : GoodIn wsL_law wsX0_breaches := goodIn_r _ [345, 23, 22, 307, 308, 309, 2, 310, 110, 111, 112, 113, 114, 115, 116, 117, 118, 119, 120, 121, 122, 123, 124, 125, 270, 271, 272, 273, 274, 275, 276, 251, 252, 253, 254, 16, 224, 225, 226, 227, 21, 20, 19, 277, 278, 279, 280, 55, 56, 57, 58, 14, 220, 221, 222, 223, 15, 456, 457, 458, 459, 460, 461, 462, 463, 464, 465] (by decide +kernel) (by decide +kernel)
set_option maxRecDepth 20000 in
theorem gL_law_X0_breaches : GoodIn wsL_law (wsV RL 128 RX0 yX0_breaches wsX0_breaches) := goodIn_app (goodIn_of _ (by decide +kernel)) ggL_law_X0_breaches
set_option maxRecDepth 20000 in
theorem ggL_law_X1_breaches : GoodIn wsL_law wsX1_breaches := goodIn_r _ [349, 73, 156, 350, 351, 352, 5, 353, 36, 315, 316, 317, 318, 133, 134, 135, 289, 290, 291, 292, 33, 34, 293, 294, 295, 296, 29, 297, 298, 299, 236, 237, 238, 239, 31, 240, 241, 242, 243, 35, 232, 233, 234, 235, 30, 466, 467, 468, 469, 470, 471, 472, 473, 474, 475, 476] (by decide +kernel) (by decide +kernel)
set_option maxRecDepth 20000 in
theorem gL_law_X1_breaches : GoodIn wsL_law (wsV RL 131 RX1 yX1_breaches wsX1_breaches) := goodIn_app (goodIn_of _ (by decide +kernel)) ggL_law_X1_breaches
set_option maxRecDepth 20000 in
theorem ggL_law_L_inBreachWith : GoodIn wsL_law wsL_inBreachWith := goodIn_ca (goodIn_r _ [356, 160, 357, 358, 359, 2, 360, 22, 165, 166, 167, 168, 169, 170, 23, 361, 362, 363, 364, 307, 308, 309, 310, 110, 111, 112, 113, 114, 115, 116, 117, 118, 119, 120, 121, 122, 123, 124, 125, 270, 271, 272, 273, 274, 275, 276, 251, 252, 253, 254, 16, 224, 225, 226, 227, 21, 20, 19, 277, 278, 279, 280, 55, 56, 57, 58, 14, 220, 221, 222, 223, 15, 456, 457, 458, 459, 460, 461, 462, 463, 464, 465] (by decide +kernel) (by decide +kernel)) (goodIn_sub (fun _ h => List.mem_append_right _ h) (by decide +kernel))
set_option maxRecDepth 20000 in
theorem gL_law_L_inBreachWith : GoodIn wsL_law (va_wsS RL 132 yL_inBreachWith wsL_inBreachWith) := goodIn_app (goodIn_of _ (by decide +kernel)) ggL_law_L_inBreachWith
set_option maxRecDepth 20000 in
theorem ggL_law_X1_inBreachWith : GoodIn wsL_law wsX1_inBreachWith := goodIn_r _ [368, 209, 210, 211, 5, 212, 175, 176, 177, 178, 156, 66, 67, 68, 69, 70, 71, 72, 73, 350, 351, 352, 353, 36, 315, 316, 317, 318, 133, 134, 135, 289, 290, 291, 292, 33, 34, 293, 294, 295, 296, 29, 297, 298, 299, 236, 237, 238, 239, 31, 240, 241, 242, 243, 35, 232, 233, 234, 235, 30, 466, 467, 468, 469, 470, 471, 472, 473, 474, 475, 476] (by decide +kernel) (by decide +kernel)
set_option maxRecDepth 20000 in
theorem gL_law_X1_inBreachWith : GoodIn wsL_law (wsV RL 134 RX1 yX1_inBreachWith wsX1_inBreachWith) := goodIn_app (goodIn_of _ (by decide +kernel)) ggL_law_X1_inBreachWith
set_option maxRecDepth 20000 in
theorem ggL_law_X0_isClean : GoodIn wsL_law wsX0_isClean := goodIn_r _ [372, 23, 22, 373, 374, 375, 2, 376, 326, 327, 328, 329, 19, 20, 251, 252, 253, 254, 16, 224, 225, 226, 227, 21, 123, 124, 125, 330, 331, 332, 333, 18, 361, 362, 363, 364, 307, 308, 309, 310, 110, 111, 112, 113, 114, 115, 116, 117, 118, 119, 120, 121, 122, 270, 271, 272, 273, 274, 275, 276, 277, 278, 279, 280, 55, 56, 57, 58, 14, 220, 221, 222, 223, 15, 456, 457, 458, 459, 460, 461, 462, 463, 464, 465] (by decide +kernel) (by decide +kernel)
set_option maxRecDepth 20000 in
theorem gL_law_X0_isClean : GoodIn wsL_law (wsV RL 135 RX0 yX0_isClean wsX0_isClean) := goodIn_app (goodIn_of _ (by decide +kernel)) ggL_law_X0_isClean
set_option maxRecDepth 20000 in
theorem ggL_law_X1_isClean : GoodIn wsL_law wsX1_isClean := goodIn_r _ [380, 73, 381, 382, 383, 5, 384, 156, 37, 350, 351, 352, 353, 36, 315, 316, 317, 318, 133, 134, 135, 289, 290, 291, 292, 33, 34, 293, 294, 295, 296, 29, 297, 298, 299, 236, 237, 238, 239, 31, 240, 241, 242, 243, 35, 232, 233, 234, 235, 30, 385, 386, 387, 388, 338, 339, 340, 341, 32, 389, 390, 391, 392, 466, 467, 468, 469, 470, 471, 472, 473, 474, 475, 476] (by decide +kernel) (by decide +kernel)
set_option maxRecDepth 20000 in
theorem gL_law_X1_isClean : GoodIn wsL_law (wsV RL 139 RX1 yX1_isClean wsX1_isClean) := goodIn_app (goodIn_of _ (by decide +kernel)) ggL_law_X1_isClean
set_option maxRecDepth 20000 in
theorem ggL_law_L_canPut : GoodIn wsL_law wsL_canPut := goodIn_ca (goodIn_ca (goodIn_r _ [395, 160, 42, 396, 397, 398, 2, 399, 165, 166, 167, 168, 169, 170, 23, 107, 108, 109, 50, 51, 52, 53, 54, 373, 374, 375, 376, 326, 327, 328, 329, 19, 20, 251, 252, 253, 254, 16, 224, 225, 226, 227, 21, 123, 124, 125, 330, 331, 332, 333, 18, 361, 362, 363, 364, 307, 308, 309, 310, 22, 110, 111, 112, 113, 114, 115, 116, 117, 118, 119, 120, 121, 122, 270, 271, 272, 273, 274, 275, 276, 277, 278, 279, 280, 55, 56, 57, 58, 14, 220, 221, 222, 223, 15, 456, 457, 458, 459, 460, 461, 462, 463, 464, 465] (by decide +kernel) (by decide +kernel)) (goodIn_sub (fun _ h => List.mem_append_right _ h) (by decide +kernel))) (goodIn_sub (fun _ h => List.mem_append_left _ (List.mem_append_left _ (List.mem_append_right _ h))) (by decide +kernel))
set_option maxRecDepth 20000 in
theorem gL_law_L_canPut : GoodIn wsL_law (va_wsS RL 140 yL_canPut wsL_canPut) := goodIn_app (goodIn_of _ (by decide +kernel)) ggL_law_L_canPut
set_option maxRecDepth 20000 in
theorem ggL_law_X1_canPut : GoodIn wsL_law wsX1_canPut := goodIn_r _ [403, 175, 176, 177, 5, 178, 156, 66, 67, 68, 130, 131, 132, 69, 70, 71, 72, 73, 404, 405, 406, 407, 338, 339, 340, 341, 34, 32, 33, 236, 237, 238, 239, 31, 240, 241, 242, 243, 35, 315, 316, 317, 318, 36, 133, 134, 135, 289, 290, 291, 292, 293, 294, 295, 296, 29, 297, 298, 299, 232, 233, 234, 235, 30, 466, 467, 468, 469, 470, 471, 472, 473, 474, 475, 476] (by decide +kernel) (by decide +kernel)
set_option maxRecDepth 20000 in
theorem gL_law_X1_canPut : GoodIn wsL_law (wsV RL 142 RX1 yX1_canPut wsX1_canPut) := goodIn_app (goodIn_of _ (by decide +kernel)) ggL_law_X1_canPut
set_option maxRecDepth 20000 in
theorem ggL_law_L_placeFor : GoodIn wsL_law wsL_placeFor := goodIn_ca (goodIn_r _ [410, 160, 411, 412, 413, 2, 414, 165, 166, 167, 168, 169, 170, 23, 373, 374, 375, 376, 326, 327, 328, 329, 19, 20, 251, 252, 253, 254, 16, 224, 225, 226, 227, 21, 123, 124, 125, 330, 331, 332, 333, 18, 361, 362, 363, 364, 307, 308, 309, 310, 22, 110, 111, 112, 113, 114, 115, 116, 117, 118, 119, 120, 121, 122, 270, 271, 272, 273, 274, 275, 276, 277, 278, 279, 280, 55, 56, 57, 58, 14, 220, 221, 222, 223, 15, 456, 457, 458, 459, 460, 461, 462, 463, 464, 465] (by decide +kernel) (by decide +kernel)) (goodIn_sub (fun _ h => List.mem_append_right _ h) (by decide +kernel))
set_option maxRecDepth 20000 in
theorem gL_law_L_placeFor : GoodIn wsL_law (va_wsS RL 143 yL_placeFor wsL_placeFor) := goodIn_app (goodIn_of _ (by decide +kernel)) ggL_law_L_placeFor
set_option maxRecDepth 20000 in
theorem ggL_law_X1_placeFor : GoodIn wsL_law wsX1_placeFor := goodIn_r _ [418, 209, 210, 211, 5, 212, 175, 176, 177, 178, 156, 66, 67, 68, 69, 70, 71, 72, 73, 404, 405, 406, 407, 338, 339, 340, 341, 34, 32, 33, 236, 237, 238, 239, 31, 240, 241, 242, 243, 35, 315, 316, 317, 318, 36, 133, 134, 135, 289, 290, 291, 292, 293, 294, 295, 296, 29, 297, 298, 299, 232, 233, 234, 235, 30, 466, 467, 468, 469, 470, 471, 472, 473, 474, 475, 476] (by decide +kernel) (by decide +kernel)
set_option maxRecDepth 20000 in
theorem gL_law_X1_placeFor : GoodIn wsL_law (wsV RL 145 RX1 yX1_placeFor wsX1_placeFor) := goodIn_app (goodIn_of _ (by decide +kernel)) ggL_law_X1_placeFor
set_option maxRecDepth 20000 in
theorem ggL_law_X0_fewest : GoodIn wsL_law wsX0_fewest := goodIn_r _ [422, 423, 424, 425, 2, 426, 23, 24, 22, 361, 362, 363, 364, 307, 308, 309, 310, 110, 111, 112, 113, 114, 115, 116, 117, 118, 119, 120, 121, 122, 123, 124, 125, 270, 271, 272, 273, 274, 275, 276, 251, 252, 253, 254, 16, 224, 225, 226, 227, 21, 20, 19, 277, 278, 279, 280, 55, 56, 57, 58, 14, 220, 221, 222, 223, 15, 326, 327, 328, 329, 330, 331, 332, 333, 18, 427, 428, 429, 430, 431, 432, 433, 434, 435, 436, 456, 457, 458, 459, 460, 461, 462, 463, 464, 465] (by decide +kernel) (by decide +kernel)
set_option maxRecDepth 20000 in
theorem gL_law_X0_fewest : GoodIn wsL_law (wsV RL 146 RX0 yX0_fewest wsX0_fewest) := goodIn_app (goodIn_of _ (by decide +kernel)) ggL_law_X0_fewest
set_option maxRecDepth 20000 in
theorem ggL_law_X1_fewest : GoodIn wsL_law wsX1_fewest := goodIn_r _ [440, 73, 441, 442, 443, 5, 444, 156, 36, 381, 382, 383, 384, 37, 350, 351, 352, 353, 315, 316, 317, 318, 133, 134, 135, 289, 290, 291, 292, 33, 34, 293, 294, 295, 296, 29, 297, 298, 299, 236, 237, 238, 239, 31, 240, 241, 242, 243, 35, 232, 233, 234, 235, 30, 385, 386, 387, 388, 338, 339, 340, 341, 32, 445, 446, 447, 389, 390, 391, 392, 466, 467, 468, 469, 470, 471, 472, 473, 474, 475, 476] (by decide +kernel) (by decide +kernel)
set_option maxRecDepth 20000 in
theorem gL_law_X1_fewest : GoodIn wsL_law (wsV RL 149 RX1 yX1_fewest wsX1_fewest) := goodIn_app (goodIn_of _ (by decide +kernel)) ggL_law_X1_fewest
set_option maxRecDepth 20000 in
theorem ggL_law_X0_leaving : GoodIn wsL_law wsX0_leaving := goodIn_r _ [451, 423, 424, 425, 2, 426, 23, 24, 22, 361, 362, 363, 364, 307, 308, 309, 310, 110, 111, 112, 113, 114, 115, 116, 117, 118, 119, 120, 121, 122, 123, 124, 125, 270, 271, 272, 273, 274, 275, 276, 251, 252, 253, 254, 16, 224, 225, 226, 227, 21, 20, 19, 277, 278, 279, 280, 55, 56, 57, 58, 14, 220, 221, 222, 223, 15, 326, 327, 328, 329, 330, 331, 332, 333, 18, 427, 428, 429, 430, 431, 432, 433, 434, 435, 436, 456, 457, 458, 459, 460, 461, 462, 463, 464, 465] (by decide +kernel) (by decide +kernel)
set_option maxRecDepth 20000 in
theorem gL_law_X0_leaving : GoodIn wsL_law (wsV RL 150 RX0 yX0_leaving wsX0_leaving) := goodIn_app (goodIn_of _ (by decide +kernel)) ggL_law_X0_leaving
set_option maxRecDepth 20000 in
theorem ggL_law_X1_leaving : GoodIn wsL_law wsX1_leaving := goodIn_r _ [455, 73, 441, 442, 443, 5, 444, 156, 36, 381, 382, 383, 384, 37, 350, 351, 352, 353, 315, 316, 317, 318, 133, 134, 135, 289, 290, 291, 292, 33, 34, 293, 294, 295, 296, 29, 297, 298, 299, 236, 237, 238, 239, 31, 240, 241, 242, 243, 35, 232, 233, 234, 235, 30, 385, 386, 387, 388, 338, 339, 340, 341, 32, 445, 446, 447, 389, 390, 391, 392, 466, 467, 468, 469, 470, 471, 472, 473, 474, 475, 476] (by decide +kernel) (by decide +kernel)
set_option maxRecDepth 20000 in
theorem gL_law_X1_leaving : GoodIn wsL_law (wsV RL 153 RX1 yX1_leaving wsX1_leaving) := goodIn_app (goodIn_of _ (by decide +kernel)) ggL_law_X1_leaving
end
section
theorem dL_law_0 : decode cL_law 0 = .ok (.new 8, 3) := by decide +kernel
theorem dL_law_3 : decode cL_law 3 = .ok (.dup, 1) := by decide +kernel
theorem dL_law_4 : decode cL_law 4 = .ok (.invokespecial 70, 3) := by decide +kernel
theorem dL_law_7 : decode cL_law 7 = .ok (.astore_n 1, 1) := by decide +kernel
theorem dL_law_8 : decode cL_law 8 = .ok (.new 71, 3) := by decide +kernel
theorem dL_law_11 : decode cL_law 11 = .ok (.dup, 1) := by decide +kernel
theorem dL_law_12 : decode cL_law 12 = .ok (.invokespecial 73, 3) := by decide +kernel
theorem dL_law_15 : decode cL_law 15 = .ok (.astore_n 2, 1) := by decide +kernel
theorem dL_law_16 : decode cL_law 16 = .ok (.iconst 1, 1) := by decide +kernel
theorem dL_law_17 : decode cL_law 17 = .ok (.newarray .long, 2) := by decide +kernel
theorem dL_law_19 : decode cL_law 19 = .ok (.astore_n 3, 1) := by decide +kernel
theorem dL_law_20 : decode cL_law 20 = .ok (.iconst 0, 1) := by decide +kernel
theorem dL_law_21 : decode cL_law 21 = .ok (.istore 4, 2) := by decide +kernel
theorem dL_law_23 : decode cL_law 23 = .ok (.iload 4, 2) := by decide +kernel
theorem dL_law_25 : decode cL_law 25 = .ok (.aload_n 0, 1) := by decide +kernel
theorem dL_law_26 : decode cL_law 26 = .ok (.arraylength, 1) := by decide +kernel
theorem dL_law_27 : decode cL_law 27 = .ok (.iconst 4, 1) := by decide +kernel
theorem dL_law_28 : decode cL_law 28 = .ok (.isub, 1) := by decide +kernel
theorem dL_law_29 : decode cL_law 29 = .ok (.if_icmp .gt 1280, 3) := by decide +kernel
theorem dL_law_32 : decode cL_law 32 = .ok (.aload_n 0, 1) := by decide +kernel
theorem dL_law_33 : decode cL_law 33 = .ok (.iload 4, 2) := by decide +kernel
theorem dL_law_35 : decode cL_law 35 = .ok (.iaload, 1) := by decide +kernel
theorem dL_law_36 : decode cL_law 36 = .ok (.bipush 31, 2) := by decide +kernel
theorem dL_law_38 : decode cL_law 38 = .ok (.iand, 1) := by decide +kernel
theorem dL_law_39 : decode cL_law 39 = .ok (.tableswitch 1264 0 20 #[97, 177, 237, 340, 408, 488, 556, 624, 637, 693, 756, 819, 887, 962, 1025, 1038, 1094, 1107, 1182, 1238, 1251], 97) := by decide +kernel
theorem dL_law_136 : decode cL_law 136 = .ok (.aload_n 1, 1) := by decide +kernel
theorem dL_law_137 : decode cL_law 137 = .ok (.aload_n 0, 1) := by decide +kernel
theorem dL_law_138 : decode cL_law 138 = .ok (.iload 4, 2) := by decide +kernel
theorem dL_law_140 : decode cL_law 140 = .ok (.iconst 1, 1) := by decide +kernel
theorem dL_law_141 : decode cL_law 141 = .ok (.iadd, 1) := by decide +kernel
theorem dL_law_142 : decode cL_law 142 = .ok (.iaload, 1) := by decide +kernel
theorem dL_law_143 : decode cL_law 143 = .ok (.aload_n 0, 1) := by decide +kernel
theorem dL_law_144 : decode cL_law 144 = .ok (.iload 4, 2) := by decide +kernel
theorem dL_law_146 : decode cL_law 146 = .ok (.iconst 2, 1) := by decide +kernel
theorem dL_law_147 : decode cL_law 147 = .ok (.iadd, 1) := by decide +kernel
theorem dL_law_148 : decode cL_law 148 = .ok (.iaload, 1) := by decide +kernel
theorem dL_law_149 : decode cL_law 149 = .ok (.aload_n 0, 1) := by decide +kernel
theorem dL_law_150 : decode cL_law 150 = .ok (.iload 4, 2) := by decide +kernel
theorem dL_law_152 : decode cL_law 152 = .ok (.iconst 3, 1) := by decide +kernel
theorem dL_law_153 : decode cL_law 153 = .ok (.iadd, 1) := by decide +kernel
theorem dL_law_154 : decode cL_law 154 = .ok (.iaload, 1) := by decide +kernel
theorem dL_law_155 : decode cL_law 155 = .ok (.aload_n 3, 1) := by decide +kernel
theorem dL_law_156 : decode cL_law 156 = .ok (.invokestatic 74, 3) := by decide +kernel
theorem dL_law_159 : decode cL_law 159 = .ok (.istore 5, 2) := by decide +kernel
theorem dL_law_161 : decode cL_law 161 = .ok (.aload_n 2, 1) := by decide +kernel
theorem dL_law_162 : decode cL_law 162 = .ok (.aload_n 0, 1) := by decide +kernel
theorem dL_law_163 : decode cL_law 163 = .ok (.iload 4, 2) := by decide +kernel
theorem dL_law_165 : decode cL_law 165 = .ok (.iconst 1, 1) := by decide +kernel
theorem dL_law_166 : decode cL_law 166 = .ok (.iadd, 1) := by decide +kernel
theorem dL_law_167 : decode cL_law 167 = .ok (.iaload, 1) := by decide +kernel
theorem dL_law_168 : decode cL_law 168 = .ok (.aload_n 0, 1) := by decide +kernel
theorem dL_law_169 : decode cL_law 169 = .ok (.iload 4, 2) := by decide +kernel
theorem dL_law_171 : decode cL_law 171 = .ok (.iconst 2, 1) := by decide +kernel
theorem dL_law_172 : decode cL_law 172 = .ok (.iadd, 1) := by decide +kernel
theorem dL_law_173 : decode cL_law 173 = .ok (.iaload, 1) := by decide +kernel
theorem dL_law_174 : decode cL_law 174 = .ok (.aload_n 0, 1) := by decide +kernel
theorem dL_law_175 : decode cL_law 175 = .ok (.iload 4, 2) := by decide +kernel
theorem dL_law_177 : decode cL_law 177 = .ok (.iconst 3, 1) := by decide +kernel
theorem dL_law_178 : decode cL_law 178 = .ok (.iadd, 1) := by decide +kernel
theorem dL_law_179 : decode cL_law 179 = .ok (.iaload, 1) := by decide +kernel
theorem dL_law_180 : decode cL_law 180 = .ok (.invokevirtual 79, 3) := by decide +kernel
theorem dL_law_183 : decode cL_law 183 = .ok (.istore 6, 2) := by decide +kernel
theorem dL_law_185 : decode cL_law 185 = .ok (.aload_n 2, 1) := by decide +kernel
theorem dL_law_186 : decode cL_law 186 = .ok (.invokevirtual 80, 3) := by decide +kernel
theorem dL_law_189 : decode cL_law 189 = .ok (.iload 5, 2) := by decide +kernel
theorem dL_law_191 : decode cL_law 191 = .ok (.if_icmp .eq 5, 3) := by decide +kernel
theorem dL_law_194 : decode cL_law 194 = .ok (.iconst 0, 1) := by decide +kernel
theorem dL_law_195 : decode cL_law 195 = .ok (.ireturn, 1) := by decide +kernel
theorem dL_law_196 : decode cL_law 196 = .ok (.iload 5, 2) := by decide +kernel
theorem dL_law_198 : decode cL_law 198 = .ok (.ifCond .ne 15, 3) := by decide +kernel
theorem dL_law_201 : decode cL_law 201 = .ok (.aload_n 3, 1) := by decide +kernel
theorem dL_law_202 : decode cL_law 202 = .ok (.iconst 0, 1) := by decide +kernel
theorem dL_law_203 : decode cL_law 203 = .ok (.laload, 1) := by decide +kernel
theorem dL_law_204 : decode cL_law 204 = .ok (.iload 6, 2) := by decide +kernel
theorem dL_law_206 : decode cL_law 206 = .ok (.i2l, 1) := by decide +kernel
theorem dL_law_207 : decode cL_law 207 = .ok (.lcmp, 1) := by decide +kernel
theorem dL_law_208 : decode cL_law 208 = .ok (.ifCond .eq 5, 3) := by decide +kernel
theorem dL_law_211 : decode cL_law 211 = .ok (.iconst 0, 1) := by decide +kernel
theorem dL_law_212 : decode cL_law 212 = .ok (.ireturn, 1) := by decide +kernel
theorem dL_law_213 : decode cL_law 213 = .ok (.goto 1090, 3) := by decide +kernel
theorem dL_law_216 : decode cL_law 216 = .ok (.aload_n 1, 1) := by decide +kernel
theorem dL_law_217 : decode cL_law 217 = .ok (.aload_n 0, 1) := by decide +kernel
theorem dL_law_218 : decode cL_law 218 = .ok (.iload 4, 2) := by decide +kernel
theorem dL_law_220 : decode cL_law 220 = .ok (.iconst 1, 1) := by decide +kernel
theorem dL_law_221 : decode cL_law 221 = .ok (.iadd, 1) := by decide +kernel
theorem dL_law_222 : decode cL_law 222 = .ok (.iaload, 1) := by decide +kernel
theorem dL_law_223 : decode cL_law 223 = .ok (.aload_n 0, 1) := by decide +kernel
theorem dL_law_224 : decode cL_law 224 = .ok (.iload 4, 2) := by decide +kernel
theorem dL_law_226 : decode cL_law 226 = .ok (.iconst 2, 1) := by decide +kernel
theorem dL_law_227 : decode cL_law 227 = .ok (.iadd, 1) := by decide +kernel
theorem dL_law_228 : decode cL_law 228 = .ok (.iaload, 1) := by decide +kernel
theorem dL_law_229 : decode cL_law 229 = .ok (.aload_n 0, 1) := by decide +kernel
theorem dL_law_230 : decode cL_law 230 = .ok (.iload 4, 2) := by decide +kernel
theorem dL_law_232 : decode cL_law 232 = .ok (.iconst 3, 1) := by decide +kernel
theorem dL_law_233 : decode cL_law 233 = .ok (.iadd, 1) := by decide +kernel
theorem dL_law_234 : decode cL_law 234 = .ok (.iaload, 1) := by decide +kernel
theorem dL_law_235 : decode cL_law 235 = .ok (.invokestatic 84, 3) := by decide +kernel
theorem dL_law_238 : decode cL_law 238 = .ok (.istore 5, 2) := by decide +kernel
theorem dL_law_240 : decode cL_law 240 = .ok (.aload_n 2, 1) := by decide +kernel
theorem dL_law_241 : decode cL_law 241 = .ok (.aload_n 0, 1) := by decide +kernel
end
section
theorem dL_law_242 : decode cL_law 242 = .ok (.iload 4, 2) := by decide +kernel
theorem dL_law_244 : decode cL_law 244 = .ok (.iconst 1, 1) := by decide +kernel
theorem dL_law_245 : decode cL_law 245 = .ok (.iadd, 1) := by decide +kernel
theorem dL_law_246 : decode cL_law 246 = .ok (.iaload, 1) := by decide +kernel
theorem dL_law_247 : decode cL_law 247 = .ok (.aload_n 0, 1) := by decide +kernel
theorem dL_law_248 : decode cL_law 248 = .ok (.iload 4, 2) := by decide +kernel
theorem dL_law_250 : decode cL_law 250 = .ok (.iconst 2, 1) := by decide +kernel
theorem dL_law_251 : decode cL_law 251 = .ok (.iadd, 1) := by decide +kernel
theorem dL_law_252 : decode cL_law 252 = .ok (.iaload, 1) := by decide +kernel
theorem dL_law_253 : decode cL_law 253 = .ok (.aload_n 0, 1) := by decide +kernel
theorem dL_law_254 : decode cL_law 254 = .ok (.iload 4, 2) := by decide +kernel
theorem dL_law_256 : decode cL_law 256 = .ok (.iconst 3, 1) := by decide +kernel
theorem dL_law_257 : decode cL_law 257 = .ok (.iadd, 1) := by decide +kernel
theorem dL_law_258 : decode cL_law 258 = .ok (.iaload, 1) := by decide +kernel
theorem dL_law_259 : decode cL_law 259 = .ok (.invokevirtual 87, 3) := by decide +kernel
theorem dL_law_262 : decode cL_law 262 = .ok (.aload_n 2, 1) := by decide +kernel
theorem dL_law_263 : decode cL_law 263 = .ok (.invokevirtual 80, 3) := by decide +kernel
theorem dL_law_266 : decode cL_law 266 = .ok (.iload 5, 2) := by decide +kernel
theorem dL_law_268 : decode cL_law 268 = .ok (.if_icmp .eq 5, 3) := by decide +kernel
theorem dL_law_271 : decode cL_law 271 = .ok (.iconst 0, 1) := by decide +kernel
theorem dL_law_272 : decode cL_law 272 = .ok (.ireturn, 1) := by decide +kernel
theorem dL_law_273 : decode cL_law 273 = .ok (.goto 1030, 3) := by decide +kernel
theorem dL_law_276 : decode cL_law 276 = .ok (.aload_n 1, 1) := by decide +kernel
theorem dL_law_277 : decode cL_law 277 = .ok (.aload_n 0, 1) := by decide +kernel
theorem dL_law_278 : decode cL_law 278 = .ok (.iload 4, 2) := by decide +kernel
theorem dL_law_280 : decode cL_law 280 = .ok (.iconst 1, 1) := by decide +kernel
theorem dL_law_281 : decode cL_law 281 = .ok (.iadd, 1) := by decide +kernel
theorem dL_law_282 : decode cL_law 282 = .ok (.iaload, 1) := by decide +kernel
theorem dL_law_283 : decode cL_law 283 = .ok (.aload_n 0, 1) := by decide +kernel
theorem dL_law_284 : decode cL_law 284 = .ok (.iload 4, 2) := by decide +kernel
theorem dL_law_286 : decode cL_law 286 = .ok (.iconst 2, 1) := by decide +kernel
theorem dL_law_287 : decode cL_law 287 = .ok (.iadd, 1) := by decide +kernel
theorem dL_law_288 : decode cL_law 288 = .ok (.iaload, 1) := by decide +kernel
theorem dL_law_289 : decode cL_law 289 = .ok (.aload_n 0, 1) := by decide +kernel
theorem dL_law_290 : decode cL_law 290 = .ok (.iload 4, 2) := by decide +kernel
theorem dL_law_292 : decode cL_law 292 = .ok (.iconst 3, 1) := by decide +kernel
theorem dL_law_293 : decode cL_law 293 = .ok (.iadd, 1) := by decide +kernel
theorem dL_law_294 : decode cL_law 294 = .ok (.iaload, 1) := by decide +kernel
theorem dL_law_295 : decode cL_law 295 = .ok (.ifCond .eq 7, 3) := by decide +kernel
theorem dL_law_298 : decode cL_law 298 = .ok (.iconst 1, 1) := by decide +kernel
theorem dL_law_299 : decode cL_law 299 = .ok (.goto 4, 3) := by decide +kernel
theorem dL_law_302 : decode cL_law 302 = .ok (.iconst 0, 1) := by decide +kernel
theorem dL_law_303 : decode cL_law 303 = .ok (.aload_n 3, 1) := by decide +kernel
theorem dL_law_304 : decode cL_law 304 = .ok (.invokestatic 88, 3) := by decide +kernel
theorem dL_law_307 : decode cL_law 307 = .ok (.istore 5, 2) := by decide +kernel
theorem dL_law_309 : decode cL_law 309 = .ok (.aload_n 2, 1) := by decide +kernel
theorem dL_law_310 : decode cL_law 310 = .ok (.aload_n 0, 1) := by decide +kernel
theorem dL_law_311 : decode cL_law 311 = .ok (.iload 4, 2) := by decide +kernel
theorem dL_law_313 : decode cL_law 313 = .ok (.iconst 1, 1) := by decide +kernel
theorem dL_law_314 : decode cL_law 314 = .ok (.iadd, 1) := by decide +kernel
theorem dL_law_315 : decode cL_law 315 = .ok (.iaload, 1) := by decide +kernel
theorem dL_law_316 : decode cL_law 316 = .ok (.aload_n 0, 1) := by decide +kernel
theorem dL_law_317 : decode cL_law 317 = .ok (.iload 4, 2) := by decide +kernel
theorem dL_law_319 : decode cL_law 319 = .ok (.iconst 2, 1) := by decide +kernel
theorem dL_law_320 : decode cL_law 320 = .ok (.iadd, 1) := by decide +kernel
theorem dL_law_321 : decode cL_law 321 = .ok (.iaload, 1) := by decide +kernel
theorem dL_law_322 : decode cL_law 322 = .ok (.aload_n 0, 1) := by decide +kernel
theorem dL_law_323 : decode cL_law 323 = .ok (.iload 4, 2) := by decide +kernel
theorem dL_law_325 : decode cL_law 325 = .ok (.iconst 3, 1) := by decide +kernel
theorem dL_law_326 : decode cL_law 326 = .ok (.iadd, 1) := by decide +kernel
theorem dL_law_327 : decode cL_law 327 = .ok (.iaload, 1) := by decide +kernel
theorem dL_law_328 : decode cL_law 328 = .ok (.ifCond .eq 7, 3) := by decide +kernel
theorem dL_law_331 : decode cL_law 331 = .ok (.iconst 1, 1) := by decide +kernel
theorem dL_law_332 : decode cL_law 332 = .ok (.goto 4, 3) := by decide +kernel
theorem dL_law_335 : decode cL_law 335 = .ok (.iconst 0, 1) := by decide +kernel
theorem dL_law_336 : decode cL_law 336 = .ok (.invokevirtual 91, 3) := by decide +kernel
theorem dL_law_339 : decode cL_law 339 = .ok (.istore 6, 2) := by decide +kernel
theorem dL_law_341 : decode cL_law 341 = .ok (.aload_n 2, 1) := by decide +kernel
theorem dL_law_342 : decode cL_law 342 = .ok (.invokevirtual 80, 3) := by decide +kernel
theorem dL_law_345 : decode cL_law 345 = .ok (.iload 5, 2) := by decide +kernel
theorem dL_law_347 : decode cL_law 347 = .ok (.if_icmp .eq 5, 3) := by decide +kernel
theorem dL_law_350 : decode cL_law 350 = .ok (.iconst 0, 1) := by decide +kernel
theorem dL_law_351 : decode cL_law 351 = .ok (.ireturn, 1) := by decide +kernel
theorem dL_law_352 : decode cL_law 352 = .ok (.iload 5, 2) := by decide +kernel
theorem dL_law_354 : decode cL_law 354 = .ok (.ifCond .ne 22, 3) := by decide +kernel
theorem dL_law_357 : decode cL_law 357 = .ok (.aload_n 3, 1) := by decide +kernel
theorem dL_law_358 : decode cL_law 358 = .ok (.iconst 0, 1) := by decide +kernel
theorem dL_law_359 : decode cL_law 359 = .ok (.laload, 1) := by decide +kernel
theorem dL_law_360 : decode cL_law 360 = .ok (.iload 6, 2) := by decide +kernel
theorem dL_law_362 : decode cL_law 362 = .ok (.ifCond .eq 7, 3) := by decide +kernel
theorem dL_law_365 : decode cL_law 365 = .ok (.lconst 1, 1) := by decide +kernel
theorem dL_law_366 : decode cL_law 366 = .ok (.goto 4, 3) := by decide +kernel
theorem dL_law_369 : decode cL_law 369 = .ok (.lconst 0, 1) := by decide +kernel
theorem dL_law_370 : decode cL_law 370 = .ok (.lcmp, 1) := by decide +kernel
theorem dL_law_371 : decode cL_law 371 = .ok (.ifCond .eq 5, 3) := by decide +kernel
theorem dL_law_374 : decode cL_law 374 = .ok (.iconst 0, 1) := by decide +kernel
theorem dL_law_375 : decode cL_law 375 = .ok (.ireturn, 1) := by decide +kernel
theorem dL_law_376 : decode cL_law 376 = .ok (.goto 927, 3) := by decide +kernel
theorem dL_law_379 : decode cL_law 379 = .ok (.aload_n 1, 1) := by decide +kernel
theorem dL_law_380 : decode cL_law 380 = .ok (.aload_n 0, 1) := by decide +kernel
theorem dL_law_381 : decode cL_law 381 = .ok (.iload 4, 2) := by decide +kernel
theorem dL_law_383 : decode cL_law 383 = .ok (.iconst 1, 1) := by decide +kernel
theorem dL_law_384 : decode cL_law 384 = .ok (.iadd, 1) := by decide +kernel
theorem dL_law_385 : decode cL_law 385 = .ok (.iaload, 1) := by decide +kernel
theorem dL_law_386 : decode cL_law 386 = .ok (.aload_n 0, 1) := by decide +kernel
theorem dL_law_387 : decode cL_law 387 = .ok (.iload 4, 2) := by decide +kernel
theorem dL_law_389 : decode cL_law 389 = .ok (.iconst 2, 1) := by decide +kernel
theorem dL_law_390 : decode cL_law 390 = .ok (.iadd, 1) := by decide +kernel
theorem dL_law_391 : decode cL_law 391 = .ok (.iaload, 1) := by decide +kernel
theorem dL_law_392 : decode cL_law 392 = .ok (.aload_n 3, 1) := by decide +kernel
end
section
theorem dL_law_393 : decode cL_law 393 = .ok (.invokestatic 92, 3) := by decide +kernel
theorem dL_law_396 : decode cL_law 396 = .ok (.istore 5, 2) := by decide +kernel
theorem dL_law_398 : decode cL_law 398 = .ok (.aload_n 2, 1) := by decide +kernel
theorem dL_law_399 : decode cL_law 399 = .ok (.aload_n 0, 1) := by decide +kernel
theorem dL_law_400 : decode cL_law 400 = .ok (.iload 4, 2) := by decide +kernel
theorem dL_law_402 : decode cL_law 402 = .ok (.iconst 1, 1) := by decide +kernel
theorem dL_law_403 : decode cL_law 403 = .ok (.iadd, 1) := by decide +kernel
theorem dL_law_404 : decode cL_law 404 = .ok (.iaload, 1) := by decide +kernel
theorem dL_law_405 : decode cL_law 405 = .ok (.aload_n 0, 1) := by decide +kernel
theorem dL_law_406 : decode cL_law 406 = .ok (.iload 4, 2) := by decide +kernel
theorem dL_law_408 : decode cL_law 408 = .ok (.iconst 2, 1) := by decide +kernel
theorem dL_law_409 : decode cL_law 409 = .ok (.iadd, 1) := by decide +kernel
theorem dL_law_410 : decode cL_law 410 = .ok (.iaload, 1) := by decide +kernel
theorem dL_law_411 : decode cL_law 411 = .ok (.invokevirtual 95, 3) := by decide +kernel
theorem dL_law_414 : decode cL_law 414 = .ok (.istore 6, 2) := by decide +kernel
theorem dL_law_416 : decode cL_law 416 = .ok (.aload_n 2, 1) := by decide +kernel
theorem dL_law_417 : decode cL_law 417 = .ok (.invokevirtual 80, 3) := by decide +kernel
theorem dL_law_420 : decode cL_law 420 = .ok (.iload 5, 2) := by decide +kernel
theorem dL_law_422 : decode cL_law 422 = .ok (.if_icmp .eq 5, 3) := by decide +kernel
theorem dL_law_425 : decode cL_law 425 = .ok (.iconst 0, 1) := by decide +kernel
theorem dL_law_426 : decode cL_law 426 = .ok (.ireturn, 1) := by decide +kernel
theorem dL_law_427 : decode cL_law 427 = .ok (.iload 5, 2) := by decide +kernel
theorem dL_law_429 : decode cL_law 429 = .ok (.ifCond .ne 15, 3) := by decide +kernel
theorem dL_law_432 : decode cL_law 432 = .ok (.aload_n 3, 1) := by decide +kernel
theorem dL_law_433 : decode cL_law 433 = .ok (.iconst 0, 1) := by decide +kernel
theorem dL_law_434 : decode cL_law 434 = .ok (.laload, 1) := by decide +kernel
theorem dL_law_435 : decode cL_law 435 = .ok (.iload 6, 2) := by decide +kernel
theorem dL_law_437 : decode cL_law 437 = .ok (.i2l, 1) := by decide +kernel
theorem dL_law_438 : decode cL_law 438 = .ok (.lcmp, 1) := by decide +kernel
theorem dL_law_439 : decode cL_law 439 = .ok (.ifCond .eq 5, 3) := by decide +kernel
theorem dL_law_442 : decode cL_law 442 = .ok (.iconst 0, 1) := by decide +kernel
theorem dL_law_443 : decode cL_law 443 = .ok (.ireturn, 1) := by decide +kernel
theorem dL_law_444 : decode cL_law 444 = .ok (.goto 859, 3) := by decide +kernel
theorem dL_law_447 : decode cL_law 447 = .ok (.aload_n 1, 1) := by decide +kernel
theorem dL_law_448 : decode cL_law 448 = .ok (.aload_n 0, 1) := by decide +kernel
theorem dL_law_449 : decode cL_law 449 = .ok (.iload 4, 2) := by decide +kernel
theorem dL_law_451 : decode cL_law 451 = .ok (.iconst 1, 1) := by decide +kernel
theorem dL_law_452 : decode cL_law 452 = .ok (.iadd, 1) := by decide +kernel
theorem dL_law_453 : decode cL_law 453 = .ok (.iaload, 1) := by decide +kernel
theorem dL_law_454 : decode cL_law 454 = .ok (.aload_n 0, 1) := by decide +kernel
theorem dL_law_455 : decode cL_law 455 = .ok (.iload 4, 2) := by decide +kernel
theorem dL_law_457 : decode cL_law 457 = .ok (.iconst 2, 1) := by decide +kernel
theorem dL_law_458 : decode cL_law 458 = .ok (.iadd, 1) := by decide +kernel
theorem dL_law_459 : decode cL_law 459 = .ok (.iaload, 1) := by decide +kernel
theorem dL_law_460 : decode cL_law 460 = .ok (.aload_n 0, 1) := by decide +kernel
theorem dL_law_461 : decode cL_law 461 = .ok (.iload 4, 2) := by decide +kernel
theorem dL_law_463 : decode cL_law 463 = .ok (.iconst 3, 1) := by decide +kernel
theorem dL_law_464 : decode cL_law 464 = .ok (.iadd, 1) := by decide +kernel
theorem dL_law_465 : decode cL_law 465 = .ok (.iaload, 1) := by decide +kernel
theorem dL_law_466 : decode cL_law 466 = .ok (.aload_n 3, 1) := by decide +kernel
theorem dL_law_467 : decode cL_law 467 = .ok (.invokestatic 96, 3) := by decide +kernel
theorem dL_law_470 : decode cL_law 470 = .ok (.istore 5, 2) := by decide +kernel
theorem dL_law_472 : decode cL_law 472 = .ok (.aload_n 2, 1) := by decide +kernel
theorem dL_law_473 : decode cL_law 473 = .ok (.aload_n 0, 1) := by decide +kernel
theorem dL_law_474 : decode cL_law 474 = .ok (.iload 4, 2) := by decide +kernel
theorem dL_law_476 : decode cL_law 476 = .ok (.iconst 1, 1) := by decide +kernel
theorem dL_law_477 : decode cL_law 477 = .ok (.iadd, 1) := by decide +kernel
theorem dL_law_478 : decode cL_law 478 = .ok (.iaload, 1) := by decide +kernel
theorem dL_law_479 : decode cL_law 479 = .ok (.aload_n 0, 1) := by decide +kernel
theorem dL_law_480 : decode cL_law 480 = .ok (.iload 4, 2) := by decide +kernel
theorem dL_law_482 : decode cL_law 482 = .ok (.iconst 2, 1) := by decide +kernel
theorem dL_law_483 : decode cL_law 483 = .ok (.iadd, 1) := by decide +kernel
theorem dL_law_484 : decode cL_law 484 = .ok (.iaload, 1) := by decide +kernel
theorem dL_law_485 : decode cL_law 485 = .ok (.aload_n 0, 1) := by decide +kernel
theorem dL_law_486 : decode cL_law 486 = .ok (.iload 4, 2) := by decide +kernel
theorem dL_law_488 : decode cL_law 488 = .ok (.iconst 3, 1) := by decide +kernel
theorem dL_law_489 : decode cL_law 489 = .ok (.iadd, 1) := by decide +kernel
theorem dL_law_490 : decode cL_law 490 = .ok (.iaload, 1) := by decide +kernel
theorem dL_law_491 : decode cL_law 491 = .ok (.invokevirtual 98, 3) := by decide +kernel
theorem dL_law_494 : decode cL_law 494 = .ok (.istore 6, 2) := by decide +kernel
theorem dL_law_496 : decode cL_law 496 = .ok (.aload_n 2, 1) := by decide +kernel
theorem dL_law_497 : decode cL_law 497 = .ok (.invokevirtual 80, 3) := by decide +kernel
theorem dL_law_500 : decode cL_law 500 = .ok (.iload 5, 2) := by decide +kernel
theorem dL_law_502 : decode cL_law 502 = .ok (.if_icmp .eq 5, 3) := by decide +kernel
theorem dL_law_505 : decode cL_law 505 = .ok (.iconst 0, 1) := by decide +kernel
theorem dL_law_506 : decode cL_law 506 = .ok (.ireturn, 1) := by decide +kernel
theorem dL_law_507 : decode cL_law 507 = .ok (.iload 5, 2) := by decide +kernel
theorem dL_law_509 : decode cL_law 509 = .ok (.ifCond .ne 15, 3) := by decide +kernel
theorem dL_law_512 : decode cL_law 512 = .ok (.aload_n 3, 1) := by decide +kernel
theorem dL_law_513 : decode cL_law 513 = .ok (.iconst 0, 1) := by decide +kernel
theorem dL_law_514 : decode cL_law 514 = .ok (.laload, 1) := by decide +kernel
theorem dL_law_515 : decode cL_law 515 = .ok (.iload 6, 2) := by decide +kernel
theorem dL_law_517 : decode cL_law 517 = .ok (.i2l, 1) := by decide +kernel
theorem dL_law_518 : decode cL_law 518 = .ok (.lcmp, 1) := by decide +kernel
theorem dL_law_519 : decode cL_law 519 = .ok (.ifCond .eq 5, 3) := by decide +kernel
theorem dL_law_522 : decode cL_law 522 = .ok (.iconst 0, 1) := by decide +kernel
theorem dL_law_523 : decode cL_law 523 = .ok (.ireturn, 1) := by decide +kernel
theorem dL_law_524 : decode cL_law 524 = .ok (.goto 779, 3) := by decide +kernel
theorem dL_law_527 : decode cL_law 527 = .ok (.aload_n 1, 1) := by decide +kernel
theorem dL_law_528 : decode cL_law 528 = .ok (.aload_n 0, 1) := by decide +kernel
theorem dL_law_529 : decode cL_law 529 = .ok (.iload 4, 2) := by decide +kernel
theorem dL_law_531 : decode cL_law 531 = .ok (.iconst 1, 1) := by decide +kernel
theorem dL_law_532 : decode cL_law 532 = .ok (.iadd, 1) := by decide +kernel
theorem dL_law_533 : decode cL_law 533 = .ok (.iaload, 1) := by decide +kernel
theorem dL_law_534 : decode cL_law 534 = .ok (.aload_n 0, 1) := by decide +kernel
theorem dL_law_535 : decode cL_law 535 = .ok (.iload 4, 2) := by decide +kernel
theorem dL_law_537 : decode cL_law 537 = .ok (.iconst 2, 1) := by decide +kernel
theorem dL_law_538 : decode cL_law 538 = .ok (.iadd, 1) := by decide +kernel
theorem dL_law_539 : decode cL_law 539 = .ok (.iaload, 1) := by decide +kernel
theorem dL_law_540 : decode cL_law 540 = .ok (.aload_n 3, 1) := by decide +kernel
end
section
theorem dL_law_541 : decode cL_law 541 = .ok (.invokestatic 99, 3) := by decide +kernel
theorem dL_law_544 : decode cL_law 544 = .ok (.istore 5, 2) := by decide +kernel
theorem dL_law_546 : decode cL_law 546 = .ok (.aload_n 2, 1) := by decide +kernel
theorem dL_law_547 : decode cL_law 547 = .ok (.aload_n 0, 1) := by decide +kernel
theorem dL_law_548 : decode cL_law 548 = .ok (.iload 4, 2) := by decide +kernel
theorem dL_law_550 : decode cL_law 550 = .ok (.iconst 1, 1) := by decide +kernel
theorem dL_law_551 : decode cL_law 551 = .ok (.iadd, 1) := by decide +kernel
theorem dL_law_552 : decode cL_law 552 = .ok (.iaload, 1) := by decide +kernel
theorem dL_law_553 : decode cL_law 553 = .ok (.aload_n 0, 1) := by decide +kernel
theorem dL_law_554 : decode cL_law 554 = .ok (.iload 4, 2) := by decide +kernel
theorem dL_law_556 : decode cL_law 556 = .ok (.iconst 2, 1) := by decide +kernel
theorem dL_law_557 : decode cL_law 557 = .ok (.iadd, 1) := by decide +kernel
theorem dL_law_558 : decode cL_law 558 = .ok (.iaload, 1) := by decide +kernel
theorem dL_law_559 : decode cL_law 559 = .ok (.invokevirtual 101, 3) := by decide +kernel
theorem dL_law_562 : decode cL_law 562 = .ok (.istore 6, 2) := by decide +kernel
theorem dL_law_564 : decode cL_law 564 = .ok (.aload_n 2, 1) := by decide +kernel
theorem dL_law_565 : decode cL_law 565 = .ok (.invokevirtual 80, 3) := by decide +kernel
theorem dL_law_568 : decode cL_law 568 = .ok (.iload 5, 2) := by decide +kernel
theorem dL_law_570 : decode cL_law 570 = .ok (.if_icmp .eq 5, 3) := by decide +kernel
theorem dL_law_573 : decode cL_law 573 = .ok (.iconst 0, 1) := by decide +kernel
theorem dL_law_574 : decode cL_law 574 = .ok (.ireturn, 1) := by decide +kernel
theorem dL_law_575 : decode cL_law 575 = .ok (.iload 5, 2) := by decide +kernel
theorem dL_law_577 : decode cL_law 577 = .ok (.ifCond .ne 15, 3) := by decide +kernel
theorem dL_law_580 : decode cL_law 580 = .ok (.aload_n 3, 1) := by decide +kernel
theorem dL_law_581 : decode cL_law 581 = .ok (.iconst 0, 1) := by decide +kernel
theorem dL_law_582 : decode cL_law 582 = .ok (.laload, 1) := by decide +kernel
theorem dL_law_583 : decode cL_law 583 = .ok (.iload 6, 2) := by decide +kernel
theorem dL_law_585 : decode cL_law 585 = .ok (.i2l, 1) := by decide +kernel
theorem dL_law_586 : decode cL_law 586 = .ok (.lcmp, 1) := by decide +kernel
theorem dL_law_587 : decode cL_law 587 = .ok (.ifCond .eq 5, 3) := by decide +kernel
theorem dL_law_590 : decode cL_law 590 = .ok (.iconst 0, 1) := by decide +kernel
theorem dL_law_591 : decode cL_law 591 = .ok (.ireturn, 1) := by decide +kernel
theorem dL_law_592 : decode cL_law 592 = .ok (.goto 711, 3) := by decide +kernel
theorem dL_law_595 : decode cL_law 595 = .ok (.aload_n 1, 1) := by decide +kernel
theorem dL_law_596 : decode cL_law 596 = .ok (.aload_n 0, 1) := by decide +kernel
theorem dL_law_597 : decode cL_law 597 = .ok (.iload 4, 2) := by decide +kernel
theorem dL_law_599 : decode cL_law 599 = .ok (.iconst 1, 1) := by decide +kernel
theorem dL_law_600 : decode cL_law 600 = .ok (.iadd, 1) := by decide +kernel
theorem dL_law_601 : decode cL_law 601 = .ok (.iaload, 1) := by decide +kernel
theorem dL_law_602 : decode cL_law 602 = .ok (.aload_n 0, 1) := by decide +kernel
theorem dL_law_603 : decode cL_law 603 = .ok (.iload 4, 2) := by decide +kernel
theorem dL_law_605 : decode cL_law 605 = .ok (.iconst 2, 1) := by decide +kernel
theorem dL_law_606 : decode cL_law 606 = .ok (.iadd, 1) := by decide +kernel
theorem dL_law_607 : decode cL_law 607 = .ok (.iaload, 1) := by decide +kernel
theorem dL_law_608 : decode cL_law 608 = .ok (.aload_n 3, 1) := by decide +kernel
theorem dL_law_609 : decode cL_law 609 = .ok (.invokestatic 102, 3) := by decide +kernel
theorem dL_law_612 : decode cL_law 612 = .ok (.istore 5, 2) := by decide +kernel
theorem dL_law_614 : decode cL_law 614 = .ok (.aload_n 2, 1) := by decide +kernel
theorem dL_law_615 : decode cL_law 615 = .ok (.aload_n 0, 1) := by decide +kernel
theorem dL_law_616 : decode cL_law 616 = .ok (.iload 4, 2) := by decide +kernel
theorem dL_law_618 : decode cL_law 618 = .ok (.iconst 1, 1) := by decide +kernel
theorem dL_law_619 : decode cL_law 619 = .ok (.iadd, 1) := by decide +kernel
theorem dL_law_620 : decode cL_law 620 = .ok (.iaload, 1) := by decide +kernel
theorem dL_law_621 : decode cL_law 621 = .ok (.aload_n 0, 1) := by decide +kernel
theorem dL_law_622 : decode cL_law 622 = .ok (.iload 4, 2) := by decide +kernel
theorem dL_law_624 : decode cL_law 624 = .ok (.iconst 2, 1) := by decide +kernel
theorem dL_law_625 : decode cL_law 625 = .ok (.iadd, 1) := by decide +kernel
theorem dL_law_626 : decode cL_law 626 = .ok (.iaload, 1) := by decide +kernel
theorem dL_law_627 : decode cL_law 627 = .ok (.invokevirtual 104, 3) := by decide +kernel
theorem dL_law_630 : decode cL_law 630 = .ok (.istore 6, 2) := by decide +kernel
theorem dL_law_632 : decode cL_law 632 = .ok (.aload_n 2, 1) := by decide +kernel
theorem dL_law_633 : decode cL_law 633 = .ok (.invokevirtual 80, 3) := by decide +kernel
theorem dL_law_636 : decode cL_law 636 = .ok (.iload 5, 2) := by decide +kernel
theorem dL_law_638 : decode cL_law 638 = .ok (.if_icmp .eq 5, 3) := by decide +kernel
theorem dL_law_641 : decode cL_law 641 = .ok (.iconst 0, 1) := by decide +kernel
theorem dL_law_642 : decode cL_law 642 = .ok (.ireturn, 1) := by decide +kernel
theorem dL_law_643 : decode cL_law 643 = .ok (.iload 5, 2) := by decide +kernel
theorem dL_law_645 : decode cL_law 645 = .ok (.ifCond .ne 15, 3) := by decide +kernel
theorem dL_law_648 : decode cL_law 648 = .ok (.aload_n 3, 1) := by decide +kernel
theorem dL_law_649 : decode cL_law 649 = .ok (.iconst 0, 1) := by decide +kernel
theorem dL_law_650 : decode cL_law 650 = .ok (.laload, 1) := by decide +kernel
theorem dL_law_651 : decode cL_law 651 = .ok (.iload 6, 2) := by decide +kernel
theorem dL_law_653 : decode cL_law 653 = .ok (.i2l, 1) := by decide +kernel
theorem dL_law_654 : decode cL_law 654 = .ok (.lcmp, 1) := by decide +kernel
theorem dL_law_655 : decode cL_law 655 = .ok (.ifCond .eq 5, 3) := by decide +kernel
theorem dL_law_658 : decode cL_law 658 = .ok (.iconst 0, 1) := by decide +kernel
theorem dL_law_659 : decode cL_law 659 = .ok (.ireturn, 1) := by decide +kernel
theorem dL_law_660 : decode cL_law 660 = .ok (.goto 643, 3) := by decide +kernel
theorem dL_law_663 : decode cL_law 663 = .ok (.aload_n 1, 1) := by decide +kernel
theorem dL_law_664 : decode cL_law 664 = .ok (.invokevirtual 105, 3) := by decide +kernel
theorem dL_law_667 : decode cL_law 667 = .ok (.aload_n 2, 1) := by decide +kernel
theorem dL_law_668 : decode cL_law 668 = .ok (.invokevirtual 108, 3) := by decide +kernel
theorem dL_law_671 : decode cL_law 671 = .ok (.if_icmp .eq 632, 3) := by decide +kernel
theorem dL_law_674 : decode cL_law 674 = .ok (.iconst 0, 1) := by decide +kernel
theorem dL_law_675 : decode cL_law 675 = .ok (.ireturn, 1) := by decide +kernel
theorem dL_law_676 : decode cL_law 676 = .ok (.aload_n 1, 1) := by decide +kernel
theorem dL_law_677 : decode cL_law 677 = .ok (.aload_n 0, 1) := by decide +kernel
theorem dL_law_678 : decode cL_law 678 = .ok (.iload 4, 2) := by decide +kernel
theorem dL_law_680 : decode cL_law 680 = .ok (.iconst 1, 1) := by decide +kernel
theorem dL_law_681 : decode cL_law 681 = .ok (.iadd, 1) := by decide +kernel
theorem dL_law_682 : decode cL_law 682 = .ok (.iaload, 1) := by decide +kernel
theorem dL_law_683 : decode cL_law 683 = .ok (.aload_n 3, 1) := by decide +kernel
theorem dL_law_684 : decode cL_law 684 = .ok (.invokestatic 109, 3) := by decide +kernel
theorem dL_law_687 : decode cL_law 687 = .ok (.istore 5, 2) := by decide +kernel
theorem dL_law_689 : decode cL_law 689 = .ok (.aload_n 2, 1) := by decide +kernel
theorem dL_law_690 : decode cL_law 690 = .ok (.aload_n 0, 1) := by decide +kernel
theorem dL_law_691 : decode cL_law 691 = .ok (.iload 4, 2) := by decide +kernel
theorem dL_law_693 : decode cL_law 693 = .ok (.iconst 1, 1) := by decide +kernel
theorem dL_law_694 : decode cL_law 694 = .ok (.iadd, 1) := by decide +kernel
theorem dL_law_695 : decode cL_law 695 = .ok (.iaload, 1) := by decide +kernel
end
section
theorem dL_law_696 : decode cL_law 696 = .ok (.invokevirtual 112, 3) := by decide +kernel
theorem dL_law_699 : decode cL_law 699 = .ok (.istore 6, 2) := by decide +kernel
theorem dL_law_701 : decode cL_law 701 = .ok (.aload_n 2, 1) := by decide +kernel
theorem dL_law_702 : decode cL_law 702 = .ok (.invokevirtual 80, 3) := by decide +kernel
theorem dL_law_705 : decode cL_law 705 = .ok (.iload 5, 2) := by decide +kernel
theorem dL_law_707 : decode cL_law 707 = .ok (.if_icmp .eq 5, 3) := by decide +kernel
theorem dL_law_710 : decode cL_law 710 = .ok (.iconst 0, 1) := by decide +kernel
theorem dL_law_711 : decode cL_law 711 = .ok (.ireturn, 1) := by decide +kernel
theorem dL_law_712 : decode cL_law 712 = .ok (.iload 5, 2) := by decide +kernel
theorem dL_law_714 : decode cL_law 714 = .ok (.ifCond .ne 15, 3) := by decide +kernel
theorem dL_law_717 : decode cL_law 717 = .ok (.aload_n 3, 1) := by decide +kernel
theorem dL_law_718 : decode cL_law 718 = .ok (.iconst 0, 1) := by decide +kernel
theorem dL_law_719 : decode cL_law 719 = .ok (.laload, 1) := by decide +kernel
theorem dL_law_720 : decode cL_law 720 = .ok (.iload 6, 2) := by decide +kernel
theorem dL_law_722 : decode cL_law 722 = .ok (.i2l, 1) := by decide +kernel
theorem dL_law_723 : decode cL_law 723 = .ok (.lcmp, 1) := by decide +kernel
theorem dL_law_724 : decode cL_law 724 = .ok (.ifCond .eq 5, 3) := by decide +kernel
theorem dL_law_727 : decode cL_law 727 = .ok (.iconst 0, 1) := by decide +kernel
theorem dL_law_728 : decode cL_law 728 = .ok (.ireturn, 1) := by decide +kernel
theorem dL_law_729 : decode cL_law 729 = .ok (.goto 574, 3) := by decide +kernel
theorem dL_law_732 : decode cL_law 732 = .ok (.aload_n 1, 1) := by decide +kernel
theorem dL_law_733 : decode cL_law 733 = .ok (.aload_n 0, 1) := by decide +kernel
theorem dL_law_734 : decode cL_law 734 = .ok (.iload 4, 2) := by decide +kernel
theorem dL_law_736 : decode cL_law 736 = .ok (.iconst 1, 1) := by decide +kernel
theorem dL_law_737 : decode cL_law 737 = .ok (.iadd, 1) := by decide +kernel
theorem dL_law_738 : decode cL_law 738 = .ok (.iaload, 1) := by decide +kernel
theorem dL_law_739 : decode cL_law 739 = .ok (.aload_n 3, 1) := by decide +kernel
theorem dL_law_740 : decode cL_law 740 = .ok (.invokestatic 113, 3) := by decide +kernel
theorem dL_law_743 : decode cL_law 743 = .ok (.istore 5, 2) := by decide +kernel
theorem dL_law_745 : decode cL_law 745 = .ok (.aload_n 2, 1) := by decide +kernel
theorem dL_law_746 : decode cL_law 746 = .ok (.aload_n 0, 1) := by decide +kernel
theorem dL_law_747 : decode cL_law 747 = .ok (.iload 4, 2) := by decide +kernel
theorem dL_law_749 : decode cL_law 749 = .ok (.iconst 1, 1) := by decide +kernel
theorem dL_law_750 : decode cL_law 750 = .ok (.iadd, 1) := by decide +kernel
theorem dL_law_751 : decode cL_law 751 = .ok (.iaload, 1) := by decide +kernel
theorem dL_law_752 : decode cL_law 752 = .ok (.invokevirtual 115, 3) := by decide +kernel
theorem dL_law_755 : decode cL_law 755 = .ok (.istore 6, 2) := by decide +kernel
theorem dL_law_757 : decode cL_law 757 = .ok (.aload_n 2, 1) := by decide +kernel
theorem dL_law_758 : decode cL_law 758 = .ok (.invokevirtual 80, 3) := by decide +kernel
theorem dL_law_761 : decode cL_law 761 = .ok (.iload 5, 2) := by decide +kernel
theorem dL_law_763 : decode cL_law 763 = .ok (.if_icmp .eq 5, 3) := by decide +kernel
theorem dL_law_766 : decode cL_law 766 = .ok (.iconst 0, 1) := by decide +kernel
theorem dL_law_767 : decode cL_law 767 = .ok (.ireturn, 1) := by decide +kernel
theorem dL_law_768 : decode cL_law 768 = .ok (.iload 5, 2) := by decide +kernel
theorem dL_law_770 : decode cL_law 770 = .ok (.ifCond .ne 22, 3) := by decide +kernel
theorem dL_law_773 : decode cL_law 773 = .ok (.aload_n 3, 1) := by decide +kernel
theorem dL_law_774 : decode cL_law 774 = .ok (.iconst 0, 1) := by decide +kernel
theorem dL_law_775 : decode cL_law 775 = .ok (.laload, 1) := by decide +kernel
theorem dL_law_776 : decode cL_law 776 = .ok (.iload 6, 2) := by decide +kernel
theorem dL_law_778 : decode cL_law 778 = .ok (.ifCond .eq 7, 3) := by decide +kernel
theorem dL_law_781 : decode cL_law 781 = .ok (.lconst 1, 1) := by decide +kernel
theorem dL_law_782 : decode cL_law 782 = .ok (.goto 4, 3) := by decide +kernel
theorem dL_law_785 : decode cL_law 785 = .ok (.lconst 0, 1) := by decide +kernel
theorem dL_law_786 : decode cL_law 786 = .ok (.lcmp, 1) := by decide +kernel
theorem dL_law_787 : decode cL_law 787 = .ok (.ifCond .eq 5, 3) := by decide +kernel
theorem dL_law_790 : decode cL_law 790 = .ok (.iconst 0, 1) := by decide +kernel
theorem dL_law_791 : decode cL_law 791 = .ok (.ireturn, 1) := by decide +kernel
theorem dL_law_792 : decode cL_law 792 = .ok (.goto 511, 3) := by decide +kernel
theorem dL_law_795 : decode cL_law 795 = .ok (.aload_n 1, 1) := by decide +kernel
theorem dL_law_796 : decode cL_law 796 = .ok (.aload_n 0, 1) := by decide +kernel
theorem dL_law_797 : decode cL_law 797 = .ok (.iload 4, 2) := by decide +kernel
theorem dL_law_799 : decode cL_law 799 = .ok (.iconst 1, 1) := by decide +kernel
theorem dL_law_800 : decode cL_law 800 = .ok (.iadd, 1) := by decide +kernel
theorem dL_law_801 : decode cL_law 801 = .ok (.iaload, 1) := by decide +kernel
theorem dL_law_802 : decode cL_law 802 = .ok (.aload_n 3, 1) := by decide +kernel
theorem dL_law_803 : decode cL_law 803 = .ok (.invokestatic 116, 3) := by decide +kernel
theorem dL_law_806 : decode cL_law 806 = .ok (.istore 5, 2) := by decide +kernel
theorem dL_law_808 : decode cL_law 808 = .ok (.aload_n 2, 1) := by decide +kernel
theorem dL_law_809 : decode cL_law 809 = .ok (.aload_n 0, 1) := by decide +kernel
theorem dL_law_810 : decode cL_law 810 = .ok (.iload 4, 2) := by decide +kernel
theorem dL_law_812 : decode cL_law 812 = .ok (.iconst 1, 1) := by decide +kernel
theorem dL_law_813 : decode cL_law 813 = .ok (.iadd, 1) := by decide +kernel
theorem dL_law_814 : decode cL_law 814 = .ok (.iaload, 1) := by decide +kernel
theorem dL_law_815 : decode cL_law 815 = .ok (.invokevirtual 118, 3) := by decide +kernel
theorem dL_law_818 : decode cL_law 818 = .ok (.istore 6, 2) := by decide +kernel
theorem dL_law_820 : decode cL_law 820 = .ok (.aload_n 2, 1) := by decide +kernel
theorem dL_law_821 : decode cL_law 821 = .ok (.invokevirtual 80, 3) := by decide +kernel
theorem dL_law_824 : decode cL_law 824 = .ok (.iload 5, 2) := by decide +kernel
theorem dL_law_826 : decode cL_law 826 = .ok (.if_icmp .eq 5, 3) := by decide +kernel
theorem dL_law_829 : decode cL_law 829 = .ok (.iconst 0, 1) := by decide +kernel
theorem dL_law_830 : decode cL_law 830 = .ok (.ireturn, 1) := by decide +kernel
theorem dL_law_831 : decode cL_law 831 = .ok (.iload 5, 2) := by decide +kernel
theorem dL_law_833 : decode cL_law 833 = .ok (.ifCond .ne 22, 3) := by decide +kernel
theorem dL_law_836 : decode cL_law 836 = .ok (.aload_n 3, 1) := by decide +kernel
theorem dL_law_837 : decode cL_law 837 = .ok (.iconst 0, 1) := by decide +kernel
theorem dL_law_838 : decode cL_law 838 = .ok (.laload, 1) := by decide +kernel
theorem dL_law_839 : decode cL_law 839 = .ok (.iload 6, 2) := by decide +kernel
theorem dL_law_841 : decode cL_law 841 = .ok (.ifCond .eq 7, 3) := by decide +kernel
theorem dL_law_844 : decode cL_law 844 = .ok (.lconst 1, 1) := by decide +kernel
theorem dL_law_845 : decode cL_law 845 = .ok (.goto 4, 3) := by decide +kernel
theorem dL_law_848 : decode cL_law 848 = .ok (.lconst 0, 1) := by decide +kernel
theorem dL_law_849 : decode cL_law 849 = .ok (.lcmp, 1) := by decide +kernel
theorem dL_law_850 : decode cL_law 850 = .ok (.ifCond .eq 5, 3) := by decide +kernel
theorem dL_law_853 : decode cL_law 853 = .ok (.iconst 0, 1) := by decide +kernel
theorem dL_law_854 : decode cL_law 854 = .ok (.ireturn, 1) := by decide +kernel
theorem dL_law_855 : decode cL_law 855 = .ok (.goto 448, 3) := by decide +kernel
theorem dL_law_858 : decode cL_law 858 = .ok (.aload_n 1, 1) := by decide +kernel
theorem dL_law_859 : decode cL_law 859 = .ok (.aload_n 0, 1) := by decide +kernel
theorem dL_law_860 : decode cL_law 860 = .ok (.iload 4, 2) := by decide +kernel
theorem dL_law_862 : decode cL_law 862 = .ok (.iconst 1, 1) := by decide +kernel
end
section
theorem dL_law_863 : decode cL_law 863 = .ok (.iadd, 1) := by decide +kernel
theorem dL_law_864 : decode cL_law 864 = .ok (.iaload, 1) := by decide +kernel
theorem dL_law_865 : decode cL_law 865 = .ok (.aload_n 0, 1) := by decide +kernel
theorem dL_law_866 : decode cL_law 866 = .ok (.iload 4, 2) := by decide +kernel
theorem dL_law_868 : decode cL_law 868 = .ok (.iconst 2, 1) := by decide +kernel
theorem dL_law_869 : decode cL_law 869 = .ok (.iadd, 1) := by decide +kernel
theorem dL_law_870 : decode cL_law 870 = .ok (.iaload, 1) := by decide +kernel
theorem dL_law_871 : decode cL_law 871 = .ok (.aload_n 3, 1) := by decide +kernel
theorem dL_law_872 : decode cL_law 872 = .ok (.invokestatic 119, 3) := by decide +kernel
theorem dL_law_875 : decode cL_law 875 = .ok (.istore 5, 2) := by decide +kernel
theorem dL_law_877 : decode cL_law 877 = .ok (.aload_n 2, 1) := by decide +kernel
theorem dL_law_878 : decode cL_law 878 = .ok (.aload_n 0, 1) := by decide +kernel
theorem dL_law_879 : decode cL_law 879 = .ok (.iload 4, 2) := by decide +kernel
theorem dL_law_881 : decode cL_law 881 = .ok (.iconst 1, 1) := by decide +kernel
theorem dL_law_882 : decode cL_law 882 = .ok (.iadd, 1) := by decide +kernel
theorem dL_law_883 : decode cL_law 883 = .ok (.iaload, 1) := by decide +kernel
theorem dL_law_884 : decode cL_law 884 = .ok (.aload_n 0, 1) := by decide +kernel
theorem dL_law_885 : decode cL_law 885 = .ok (.iload 4, 2) := by decide +kernel
theorem dL_law_887 : decode cL_law 887 = .ok (.iconst 2, 1) := by decide +kernel
theorem dL_law_888 : decode cL_law 888 = .ok (.iadd, 1) := by decide +kernel
theorem dL_law_889 : decode cL_law 889 = .ok (.iaload, 1) := by decide +kernel
theorem dL_law_890 : decode cL_law 890 = .ok (.invokevirtual 121, 3) := by decide +kernel
theorem dL_law_893 : decode cL_law 893 = .ok (.istore 6, 2) := by decide +kernel
theorem dL_law_895 : decode cL_law 895 = .ok (.aload_n 2, 1) := by decide +kernel
theorem dL_law_896 : decode cL_law 896 = .ok (.invokevirtual 80, 3) := by decide +kernel
theorem dL_law_899 : decode cL_law 899 = .ok (.iload 5, 2) := by decide +kernel
theorem dL_law_901 : decode cL_law 901 = .ok (.if_icmp .eq 5, 3) := by decide +kernel
theorem dL_law_904 : decode cL_law 904 = .ok (.iconst 0, 1) := by decide +kernel
theorem dL_law_905 : decode cL_law 905 = .ok (.ireturn, 1) := by decide +kernel
theorem dL_law_906 : decode cL_law 906 = .ok (.iload 5, 2) := by decide +kernel
theorem dL_law_908 : decode cL_law 908 = .ok (.ifCond .ne 15, 3) := by decide +kernel
theorem dL_law_911 : decode cL_law 911 = .ok (.aload_n 3, 1) := by decide +kernel
theorem dL_law_912 : decode cL_law 912 = .ok (.iconst 0, 1) := by decide +kernel
theorem dL_law_913 : decode cL_law 913 = .ok (.laload, 1) := by decide +kernel
theorem dL_law_914 : decode cL_law 914 = .ok (.iload 6, 2) := by decide +kernel
theorem dL_law_916 : decode cL_law 916 = .ok (.i2l, 1) := by decide +kernel
theorem dL_law_917 : decode cL_law 917 = .ok (.lcmp, 1) := by decide +kernel
theorem dL_law_918 : decode cL_law 918 = .ok (.ifCond .eq 5, 3) := by decide +kernel
theorem dL_law_921 : decode cL_law 921 = .ok (.iconst 0, 1) := by decide +kernel
theorem dL_law_922 : decode cL_law 922 = .ok (.ireturn, 1) := by decide +kernel
theorem dL_law_923 : decode cL_law 923 = .ok (.goto 380, 3) := by decide +kernel
theorem dL_law_926 : decode cL_law 926 = .ok (.aload_n 1, 1) := by decide +kernel
theorem dL_law_927 : decode cL_law 927 = .ok (.aload_n 0, 1) := by decide +kernel
theorem dL_law_928 : decode cL_law 928 = .ok (.iload 4, 2) := by decide +kernel
theorem dL_law_930 : decode cL_law 930 = .ok (.iconst 1, 1) := by decide +kernel
theorem dL_law_931 : decode cL_law 931 = .ok (.iadd, 1) := by decide +kernel
theorem dL_law_932 : decode cL_law 932 = .ok (.iaload, 1) := by decide +kernel
theorem dL_law_933 : decode cL_law 933 = .ok (.aload_n 0, 1) := by decide +kernel
theorem dL_law_934 : decode cL_law 934 = .ok (.iload 4, 2) := by decide +kernel
theorem dL_law_936 : decode cL_law 936 = .ok (.iconst 2, 1) := by decide +kernel
theorem dL_law_937 : decode cL_law 937 = .ok (.iadd, 1) := by decide +kernel
theorem dL_law_938 : decode cL_law 938 = .ok (.iaload, 1) := by decide +kernel
theorem dL_law_939 : decode cL_law 939 = .ok (.aload_n 3, 1) := by decide +kernel
theorem dL_law_940 : decode cL_law 940 = .ok (.invokestatic 122, 3) := by decide +kernel
theorem dL_law_943 : decode cL_law 943 = .ok (.istore 5, 2) := by decide +kernel
theorem dL_law_945 : decode cL_law 945 = .ok (.aload_n 2, 1) := by decide +kernel
theorem dL_law_946 : decode cL_law 946 = .ok (.aload_n 0, 1) := by decide +kernel
theorem dL_law_947 : decode cL_law 947 = .ok (.iload 4, 2) := by decide +kernel
theorem dL_law_949 : decode cL_law 949 = .ok (.iconst 1, 1) := by decide +kernel
theorem dL_law_950 : decode cL_law 950 = .ok (.iadd, 1) := by decide +kernel
theorem dL_law_951 : decode cL_law 951 = .ok (.iaload, 1) := by decide +kernel
theorem dL_law_952 : decode cL_law 952 = .ok (.aload_n 0, 1) := by decide +kernel
theorem dL_law_953 : decode cL_law 953 = .ok (.iload 4, 2) := by decide +kernel
theorem dL_law_955 : decode cL_law 955 = .ok (.iconst 2, 1) := by decide +kernel
theorem dL_law_956 : decode cL_law 956 = .ok (.iadd, 1) := by decide +kernel
theorem dL_law_957 : decode cL_law 957 = .ok (.iaload, 1) := by decide +kernel
theorem dL_law_958 : decode cL_law 958 = .ok (.invokevirtual 124, 3) := by decide +kernel
theorem dL_law_961 : decode cL_law 961 = .ok (.istore 6, 2) := by decide +kernel
theorem dL_law_963 : decode cL_law 963 = .ok (.aload_n 2, 1) := by decide +kernel
theorem dL_law_964 : decode cL_law 964 = .ok (.invokevirtual 80, 3) := by decide +kernel
theorem dL_law_967 : decode cL_law 967 = .ok (.iload 5, 2) := by decide +kernel
theorem dL_law_969 : decode cL_law 969 = .ok (.if_icmp .eq 5, 3) := by decide +kernel
theorem dL_law_972 : decode cL_law 972 = .ok (.iconst 0, 1) := by decide +kernel
theorem dL_law_973 : decode cL_law 973 = .ok (.ireturn, 1) := by decide +kernel
theorem dL_law_974 : decode cL_law 974 = .ok (.iload 5, 2) := by decide +kernel
theorem dL_law_976 : decode cL_law 976 = .ok (.ifCond .ne 22, 3) := by decide +kernel
theorem dL_law_979 : decode cL_law 979 = .ok (.aload_n 3, 1) := by decide +kernel
theorem dL_law_980 : decode cL_law 980 = .ok (.iconst 0, 1) := by decide +kernel
theorem dL_law_981 : decode cL_law 981 = .ok (.laload, 1) := by decide +kernel
theorem dL_law_982 : decode cL_law 982 = .ok (.iload 6, 2) := by decide +kernel
theorem dL_law_984 : decode cL_law 984 = .ok (.ifCond .eq 7, 3) := by decide +kernel
theorem dL_law_987 : decode cL_law 987 = .ok (.lconst 1, 1) := by decide +kernel
theorem dL_law_988 : decode cL_law 988 = .ok (.goto 4, 3) := by decide +kernel
theorem dL_law_991 : decode cL_law 991 = .ok (.lconst 0, 1) := by decide +kernel
theorem dL_law_992 : decode cL_law 992 = .ok (.lcmp, 1) := by decide +kernel
theorem dL_law_993 : decode cL_law 993 = .ok (.ifCond .eq 5, 3) := by decide +kernel
theorem dL_law_996 : decode cL_law 996 = .ok (.iconst 0, 1) := by decide +kernel
theorem dL_law_997 : decode cL_law 997 = .ok (.ireturn, 1) := by decide +kernel
theorem dL_law_998 : decode cL_law 998 = .ok (.goto 305, 3) := by decide +kernel
theorem dL_law_1001 : decode cL_law 1001 = .ok (.aload_n 1, 1) := by decide +kernel
theorem dL_law_1002 : decode cL_law 1002 = .ok (.aload_n 0, 1) := by decide +kernel
theorem dL_law_1003 : decode cL_law 1003 = .ok (.iload 4, 2) := by decide +kernel
theorem dL_law_1005 : decode cL_law 1005 = .ok (.iconst 1, 1) := by decide +kernel
theorem dL_law_1006 : decode cL_law 1006 = .ok (.iadd, 1) := by decide +kernel
theorem dL_law_1007 : decode cL_law 1007 = .ok (.iaload, 1) := by decide +kernel
theorem dL_law_1008 : decode cL_law 1008 = .ok (.aload_n 3, 1) := by decide +kernel
theorem dL_law_1009 : decode cL_law 1009 = .ok (.invokestatic 125, 3) := by decide +kernel
theorem dL_law_1012 : decode cL_law 1012 = .ok (.istore 5, 2) := by decide +kernel
theorem dL_law_1014 : decode cL_law 1014 = .ok (.aload_n 2, 1) := by decide +kernel
theorem dL_law_1015 : decode cL_law 1015 = .ok (.aload_n 0, 1) := by decide +kernel
end
section
theorem dL_law_1016 : decode cL_law 1016 = .ok (.iload 4, 2) := by decide +kernel
theorem dL_law_1018 : decode cL_law 1018 = .ok (.iconst 1, 1) := by decide +kernel
theorem dL_law_1019 : decode cL_law 1019 = .ok (.iadd, 1) := by decide +kernel
theorem dL_law_1020 : decode cL_law 1020 = .ok (.iaload, 1) := by decide +kernel
theorem dL_law_1021 : decode cL_law 1021 = .ok (.invokevirtual 127, 3) := by decide +kernel
theorem dL_law_1024 : decode cL_law 1024 = .ok (.istore 6, 2) := by decide +kernel
theorem dL_law_1026 : decode cL_law 1026 = .ok (.aload_n 2, 1) := by decide +kernel
theorem dL_law_1027 : decode cL_law 1027 = .ok (.invokevirtual 80, 3) := by decide +kernel
theorem dL_law_1030 : decode cL_law 1030 = .ok (.iload 5, 2) := by decide +kernel
theorem dL_law_1032 : decode cL_law 1032 = .ok (.if_icmp .eq 5, 3) := by decide +kernel
theorem dL_law_1035 : decode cL_law 1035 = .ok (.iconst 0, 1) := by decide +kernel
theorem dL_law_1036 : decode cL_law 1036 = .ok (.ireturn, 1) := by decide +kernel
theorem dL_law_1037 : decode cL_law 1037 = .ok (.iload 5, 2) := by decide +kernel
theorem dL_law_1039 : decode cL_law 1039 = .ok (.ifCond .ne 22, 3) := by decide +kernel
theorem dL_law_1042 : decode cL_law 1042 = .ok (.aload_n 3, 1) := by decide +kernel
theorem dL_law_1043 : decode cL_law 1043 = .ok (.iconst 0, 1) := by decide +kernel
theorem dL_law_1044 : decode cL_law 1044 = .ok (.laload, 1) := by decide +kernel
theorem dL_law_1045 : decode cL_law 1045 = .ok (.iload 6, 2) := by decide +kernel
theorem dL_law_1047 : decode cL_law 1047 = .ok (.ifCond .eq 7, 3) := by decide +kernel
theorem dL_law_1050 : decode cL_law 1050 = .ok (.lconst 1, 1) := by decide +kernel
theorem dL_law_1051 : decode cL_law 1051 = .ok (.goto 4, 3) := by decide +kernel
theorem dL_law_1054 : decode cL_law 1054 = .ok (.lconst 0, 1) := by decide +kernel
theorem dL_law_1055 : decode cL_law 1055 = .ok (.lcmp, 1) := by decide +kernel
theorem dL_law_1056 : decode cL_law 1056 = .ok (.ifCond .eq 5, 3) := by decide +kernel
theorem dL_law_1059 : decode cL_law 1059 = .ok (.iconst 0, 1) := by decide +kernel
theorem dL_law_1060 : decode cL_law 1060 = .ok (.ireturn, 1) := by decide +kernel
theorem dL_law_1061 : decode cL_law 1061 = .ok (.goto 242, 3) := by decide +kernel
theorem dL_law_1064 : decode cL_law 1064 = .ok (.aload_n 1, 1) := by decide +kernel
theorem dL_law_1065 : decode cL_law 1065 = .ok (.invokevirtual 128, 3) := by decide +kernel
theorem dL_law_1068 : decode cL_law 1068 = .ok (.aload_n 2, 1) := by decide +kernel
theorem dL_law_1069 : decode cL_law 1069 = .ok (.invokevirtual 131, 3) := by decide +kernel
theorem dL_law_1072 : decode cL_law 1072 = .ok (.if_icmp .eq 231, 3) := by decide +kernel
theorem dL_law_1075 : decode cL_law 1075 = .ok (.iconst 0, 1) := by decide +kernel
theorem dL_law_1076 : decode cL_law 1076 = .ok (.ireturn, 1) := by decide +kernel
theorem dL_law_1077 : decode cL_law 1077 = .ok (.aload_n 1, 1) := by decide +kernel
theorem dL_law_1078 : decode cL_law 1078 = .ok (.aload_n 0, 1) := by decide +kernel
theorem dL_law_1079 : decode cL_law 1079 = .ok (.iload 4, 2) := by decide +kernel
theorem dL_law_1081 : decode cL_law 1081 = .ok (.iconst 1, 1) := by decide +kernel
theorem dL_law_1082 : decode cL_law 1082 = .ok (.iadd, 1) := by decide +kernel
theorem dL_law_1083 : decode cL_law 1083 = .ok (.iaload, 1) := by decide +kernel
theorem dL_law_1084 : decode cL_law 1084 = .ok (.aload_n 3, 1) := by decide +kernel
theorem dL_law_1085 : decode cL_law 1085 = .ok (.invokestatic 132, 3) := by decide +kernel
theorem dL_law_1088 : decode cL_law 1088 = .ok (.istore 5, 2) := by decide +kernel
theorem dL_law_1090 : decode cL_law 1090 = .ok (.aload_n 2, 1) := by decide +kernel
theorem dL_law_1091 : decode cL_law 1091 = .ok (.aload_n 0, 1) := by decide +kernel
theorem dL_law_1092 : decode cL_law 1092 = .ok (.iload 4, 2) := by decide +kernel
theorem dL_law_1094 : decode cL_law 1094 = .ok (.iconst 1, 1) := by decide +kernel
theorem dL_law_1095 : decode cL_law 1095 = .ok (.iadd, 1) := by decide +kernel
theorem dL_law_1096 : decode cL_law 1096 = .ok (.iaload, 1) := by decide +kernel
theorem dL_law_1097 : decode cL_law 1097 = .ok (.invokevirtual 134, 3) := by decide +kernel
theorem dL_law_1100 : decode cL_law 1100 = .ok (.istore 6, 2) := by decide +kernel
theorem dL_law_1102 : decode cL_law 1102 = .ok (.aload_n 2, 1) := by decide +kernel
theorem dL_law_1103 : decode cL_law 1103 = .ok (.invokevirtual 80, 3) := by decide +kernel
theorem dL_law_1106 : decode cL_law 1106 = .ok (.iload 5, 2) := by decide +kernel
theorem dL_law_1108 : decode cL_law 1108 = .ok (.if_icmp .eq 5, 3) := by decide +kernel
theorem dL_law_1111 : decode cL_law 1111 = .ok (.iconst 0, 1) := by decide +kernel
theorem dL_law_1112 : decode cL_law 1112 = .ok (.ireturn, 1) := by decide +kernel
theorem dL_law_1113 : decode cL_law 1113 = .ok (.iload 5, 2) := by decide +kernel
theorem dL_law_1115 : decode cL_law 1115 = .ok (.ifCond .ne 15, 3) := by decide +kernel
theorem dL_law_1118 : decode cL_law 1118 = .ok (.aload_n 3, 1) := by decide +kernel
theorem dL_law_1119 : decode cL_law 1119 = .ok (.iconst 0, 1) := by decide +kernel
theorem dL_law_1120 : decode cL_law 1120 = .ok (.laload, 1) := by decide +kernel
theorem dL_law_1121 : decode cL_law 1121 = .ok (.iload 6, 2) := by decide +kernel
theorem dL_law_1123 : decode cL_law 1123 = .ok (.i2l, 1) := by decide +kernel
theorem dL_law_1124 : decode cL_law 1124 = .ok (.lcmp, 1) := by decide +kernel
theorem dL_law_1125 : decode cL_law 1125 = .ok (.ifCond .eq 5, 3) := by decide +kernel
theorem dL_law_1128 : decode cL_law 1128 = .ok (.iconst 0, 1) := by decide +kernel
theorem dL_law_1129 : decode cL_law 1129 = .ok (.ireturn, 1) := by decide +kernel
theorem dL_law_1130 : decode cL_law 1130 = .ok (.goto 173, 3) := by decide +kernel
theorem dL_law_1133 : decode cL_law 1133 = .ok (.aload_n 1, 1) := by decide +kernel
theorem dL_law_1134 : decode cL_law 1134 = .ok (.invokevirtual 135, 3) := by decide +kernel
theorem dL_law_1137 : decode cL_law 1137 = .ok (.aload_n 2, 1) := by decide +kernel
theorem dL_law_1138 : decode cL_law 1138 = .ok (.invokevirtual 139, 3) := by decide +kernel
theorem dL_law_1141 : decode cL_law 1141 = .ok (.if_icmp .eq 162, 3) := by decide +kernel
theorem dL_law_1144 : decode cL_law 1144 = .ok (.iconst 0, 1) := by decide +kernel
theorem dL_law_1145 : decode cL_law 1145 = .ok (.ireturn, 1) := by decide +kernel
theorem dL_law_1146 : decode cL_law 1146 = .ok (.aload_n 1, 1) := by decide +kernel
theorem dL_law_1147 : decode cL_law 1147 = .ok (.aload_n 0, 1) := by decide +kernel
theorem dL_law_1148 : decode cL_law 1148 = .ok (.iload 4, 2) := by decide +kernel
theorem dL_law_1150 : decode cL_law 1150 = .ok (.iconst 1, 1) := by decide +kernel
theorem dL_law_1151 : decode cL_law 1151 = .ok (.iadd, 1) := by decide +kernel
theorem dL_law_1152 : decode cL_law 1152 = .ok (.iaload, 1) := by decide +kernel
theorem dL_law_1153 : decode cL_law 1153 = .ok (.aload_n 0, 1) := by decide +kernel
theorem dL_law_1154 : decode cL_law 1154 = .ok (.iload 4, 2) := by decide +kernel
theorem dL_law_1156 : decode cL_law 1156 = .ok (.iconst 2, 1) := by decide +kernel
theorem dL_law_1157 : decode cL_law 1157 = .ok (.iadd, 1) := by decide +kernel
theorem dL_law_1158 : decode cL_law 1158 = .ok (.iaload, 1) := by decide +kernel
theorem dL_law_1159 : decode cL_law 1159 = .ok (.aload_n 3, 1) := by decide +kernel
theorem dL_law_1160 : decode cL_law 1160 = .ok (.invokestatic 140, 3) := by decide +kernel
theorem dL_law_1163 : decode cL_law 1163 = .ok (.istore 5, 2) := by decide +kernel
theorem dL_law_1165 : decode cL_law 1165 = .ok (.aload_n 2, 1) := by decide +kernel
theorem dL_law_1166 : decode cL_law 1166 = .ok (.aload_n 0, 1) := by decide +kernel
theorem dL_law_1167 : decode cL_law 1167 = .ok (.iload 4, 2) := by decide +kernel
theorem dL_law_1169 : decode cL_law 1169 = .ok (.iconst 1, 1) := by decide +kernel
theorem dL_law_1170 : decode cL_law 1170 = .ok (.iadd, 1) := by decide +kernel
theorem dL_law_1171 : decode cL_law 1171 = .ok (.iaload, 1) := by decide +kernel
theorem dL_law_1172 : decode cL_law 1172 = .ok (.aload_n 0, 1) := by decide +kernel
theorem dL_law_1173 : decode cL_law 1173 = .ok (.iload 4, 2) := by decide +kernel
theorem dL_law_1175 : decode cL_law 1175 = .ok (.iconst 2, 1) := by decide +kernel
theorem dL_law_1176 : decode cL_law 1176 = .ok (.iadd, 1) := by decide +kernel
end
section
theorem dL_law_1177 : decode cL_law 1177 = .ok (.iaload, 1) := by decide +kernel
theorem dL_law_1178 : decode cL_law 1178 = .ok (.invokevirtual 142, 3) := by decide +kernel
theorem dL_law_1181 : decode cL_law 1181 = .ok (.istore 6, 2) := by decide +kernel
theorem dL_law_1183 : decode cL_law 1183 = .ok (.aload_n 2, 1) := by decide +kernel
theorem dL_law_1184 : decode cL_law 1184 = .ok (.invokevirtual 80, 3) := by decide +kernel
theorem dL_law_1187 : decode cL_law 1187 = .ok (.iload 5, 2) := by decide +kernel
theorem dL_law_1189 : decode cL_law 1189 = .ok (.if_icmp .eq 5, 3) := by decide +kernel
theorem dL_law_1192 : decode cL_law 1192 = .ok (.iconst 0, 1) := by decide +kernel
theorem dL_law_1193 : decode cL_law 1193 = .ok (.ireturn, 1) := by decide +kernel
theorem dL_law_1194 : decode cL_law 1194 = .ok (.iload 5, 2) := by decide +kernel
theorem dL_law_1196 : decode cL_law 1196 = .ok (.ifCond .ne 22, 3) := by decide +kernel
theorem dL_law_1199 : decode cL_law 1199 = .ok (.aload_n 3, 1) := by decide +kernel
theorem dL_law_1200 : decode cL_law 1200 = .ok (.iconst 0, 1) := by decide +kernel
theorem dL_law_1201 : decode cL_law 1201 = .ok (.laload, 1) := by decide +kernel
theorem dL_law_1202 : decode cL_law 1202 = .ok (.iload 6, 2) := by decide +kernel
theorem dL_law_1204 : decode cL_law 1204 = .ok (.ifCond .eq 7, 3) := by decide +kernel
theorem dL_law_1207 : decode cL_law 1207 = .ok (.lconst 1, 1) := by decide +kernel
theorem dL_law_1208 : decode cL_law 1208 = .ok (.goto 4, 3) := by decide +kernel
theorem dL_law_1211 : decode cL_law 1211 = .ok (.lconst 0, 1) := by decide +kernel
theorem dL_law_1212 : decode cL_law 1212 = .ok (.lcmp, 1) := by decide +kernel
theorem dL_law_1213 : decode cL_law 1213 = .ok (.ifCond .eq 5, 3) := by decide +kernel
theorem dL_law_1216 : decode cL_law 1216 = .ok (.iconst 0, 1) := by decide +kernel
theorem dL_law_1217 : decode cL_law 1217 = .ok (.ireturn, 1) := by decide +kernel
theorem dL_law_1218 : decode cL_law 1218 = .ok (.goto 85, 3) := by decide +kernel
theorem dL_law_1221 : decode cL_law 1221 = .ok (.aload_n 1, 1) := by decide +kernel
theorem dL_law_1222 : decode cL_law 1222 = .ok (.aload_n 0, 1) := by decide +kernel
theorem dL_law_1223 : decode cL_law 1223 = .ok (.iload 4, 2) := by decide +kernel
theorem dL_law_1225 : decode cL_law 1225 = .ok (.iconst 1, 1) := by decide +kernel
theorem dL_law_1226 : decode cL_law 1226 = .ok (.iadd, 1) := by decide +kernel
theorem dL_law_1227 : decode cL_law 1227 = .ok (.iaload, 1) := by decide +kernel
theorem dL_law_1228 : decode cL_law 1228 = .ok (.aload_n 3, 1) := by decide +kernel
theorem dL_law_1229 : decode cL_law 1229 = .ok (.invokestatic 143, 3) := by decide +kernel
theorem dL_law_1232 : decode cL_law 1232 = .ok (.istore 5, 2) := by decide +kernel
theorem dL_law_1234 : decode cL_law 1234 = .ok (.aload_n 2, 1) := by decide +kernel
theorem dL_law_1235 : decode cL_law 1235 = .ok (.aload_n 0, 1) := by decide +kernel
theorem dL_law_1236 : decode cL_law 1236 = .ok (.iload 4, 2) := by decide +kernel
theorem dL_law_1238 : decode cL_law 1238 = .ok (.iconst 1, 1) := by decide +kernel
theorem dL_law_1239 : decode cL_law 1239 = .ok (.iadd, 1) := by decide +kernel
theorem dL_law_1240 : decode cL_law 1240 = .ok (.iaload, 1) := by decide +kernel
theorem dL_law_1241 : decode cL_law 1241 = .ok (.invokevirtual 145, 3) := by decide +kernel
theorem dL_law_1244 : decode cL_law 1244 = .ok (.istore 6, 2) := by decide +kernel
theorem dL_law_1246 : decode cL_law 1246 = .ok (.aload_n 2, 1) := by decide +kernel
theorem dL_law_1247 : decode cL_law 1247 = .ok (.invokevirtual 80, 3) := by decide +kernel
theorem dL_law_1250 : decode cL_law 1250 = .ok (.iload 5, 2) := by decide +kernel
theorem dL_law_1252 : decode cL_law 1252 = .ok (.if_icmp .eq 5, 3) := by decide +kernel
theorem dL_law_1255 : decode cL_law 1255 = .ok (.iconst 0, 1) := by decide +kernel
theorem dL_law_1256 : decode cL_law 1256 = .ok (.ireturn, 1) := by decide +kernel
theorem dL_law_1257 : decode cL_law 1257 = .ok (.iload 5, 2) := by decide +kernel
theorem dL_law_1259 : decode cL_law 1259 = .ok (.ifCond .ne 15, 3) := by decide +kernel
theorem dL_law_1262 : decode cL_law 1262 = .ok (.aload_n 3, 1) := by decide +kernel
theorem dL_law_1263 : decode cL_law 1263 = .ok (.iconst 0, 1) := by decide +kernel
theorem dL_law_1264 : decode cL_law 1264 = .ok (.laload, 1) := by decide +kernel
theorem dL_law_1265 : decode cL_law 1265 = .ok (.iload 6, 2) := by decide +kernel
theorem dL_law_1267 : decode cL_law 1267 = .ok (.i2l, 1) := by decide +kernel
theorem dL_law_1268 : decode cL_law 1268 = .ok (.lcmp, 1) := by decide +kernel
theorem dL_law_1269 : decode cL_law 1269 = .ok (.ifCond .eq 5, 3) := by decide +kernel
theorem dL_law_1272 : decode cL_law 1272 = .ok (.iconst 0, 1) := by decide +kernel
theorem dL_law_1273 : decode cL_law 1273 = .ok (.ireturn, 1) := by decide +kernel
theorem dL_law_1274 : decode cL_law 1274 = .ok (.goto 29, 3) := by decide +kernel
theorem dL_law_1277 : decode cL_law 1277 = .ok (.aload_n 1, 1) := by decide +kernel
theorem dL_law_1278 : decode cL_law 1278 = .ok (.invokevirtual 146, 3) := by decide +kernel
theorem dL_law_1281 : decode cL_law 1281 = .ok (.aload_n 2, 1) := by decide +kernel
theorem dL_law_1282 : decode cL_law 1282 = .ok (.invokevirtual 149, 3) := by decide +kernel
theorem dL_law_1285 : decode cL_law 1285 = .ok (.if_icmp .eq 18, 3) := by decide +kernel
theorem dL_law_1288 : decode cL_law 1288 = .ok (.iconst 0, 1) := by decide +kernel
theorem dL_law_1289 : decode cL_law 1289 = .ok (.ireturn, 1) := by decide +kernel
theorem dL_law_1290 : decode cL_law 1290 = .ok (.aload_n 1, 1) := by decide +kernel
theorem dL_law_1291 : decode cL_law 1291 = .ok (.invokevirtual 150, 3) := by decide +kernel
theorem dL_law_1294 : decode cL_law 1294 = .ok (.aload_n 2, 1) := by decide +kernel
theorem dL_law_1295 : decode cL_law 1295 = .ok (.invokevirtual 153, 3) := by decide +kernel
theorem dL_law_1298 : decode cL_law 1298 = .ok (.if_icmp .eq 5, 3) := by decide +kernel
theorem dL_law_1301 : decode cL_law 1301 = .ok (.iconst 0, 1) := by decide +kernel
theorem dL_law_1302 : decode cL_law 1302 = .ok (.ireturn, 1) := by decide +kernel
theorem dL_law_1303 : decode cL_law 1303 = .ok (.iinc 4 4, 3) := by decide +kernel
theorem dL_law_1306 : decode cL_law 1306 = .ok (.goto (-1283), 3) := by decide +kernel
theorem dL_law_1309 : decode cL_law 1309 = .ok (.iconst 1, 1) := by decide +kernel
theorem dL_law_1310 : decode cL_law 1310 = .ok (.ireturn, 1) := by decide +kernel
end
section
/-! words for the state: booleans as ints, the two objects' cells, reading calls, checking calls -/
def bi (b : Bool) : Int32 := if b = true then 1 else 0
theorem bi_t : bi true = 1 := rfl
theorem bi_f : bi false = 0 := rfl
theorem bi_e0 {b : Bool} : bi b = 0 ↔ b = false := by cases b <;> decide
theorem bi_n0 {b : Bool} : ¬ bi b = 0 ↔ b = true := by cases b <;> decide
theorem bi_e1 {b : Bool} : bi b = 1 ↔ b = true := by cases b <;> decide
theorem bi_nar (b : Bool) : narrow .boolean (.int (bi b)) = .int (bi b) := by cases b <;> rfl
theorem bi_fit (b : Bool) : fits .boolean (.int (bi b)) = true := by cases b <;> rfl
theorem bi_vn (b : Bool) : vp_nar .boolean (bi b) = bi b := by cases b <;> rfl
theorem zn0 : narrow .boolean (.int 0) = .int 0 := rfl
theorem zn1 : narrow .boolean (.int 1) = .int 1 := rfl
abbrev tIZ (cI cZ : ClassId) : List (ClassId × FieldType) := [(cI, .int), (cZ, .boolean)]
/-- the desk's ten cells: F k is what its row k holds (0 table .. 7 places), n the count, R the row kept for its own use -/
abbrev wX (q : Nat → Nat) (F : Nat → Nat → Int32) (n : Int32) (R : Nat → Int32) (cI cZ : ClassId) : va_W := [(q 9, .inr (0, [.ref (q 0), .ref (q 1), .ref (q 2), .ref (q 3), .ref (q 4), .ref (q 5), .ref (q 6), .ref (q 7), .int n, .ref (q 8)])), (q 0, .inl (cI, 100, .inl (F 0))), (q 1, .inl (cI, 10, .inl (F 1))), (q 2, .inl (cI, 10, .inl (F 2))), (q 3, .inl (cZ, 20, .inl (F 3))), (q 4, .inl (cI, 16, .inl (F 4))), (q 5, .inl (cI, 16, .inl (F 5))), (q 6, .inl (cI, 16, .inl (F 6))), (q 7, .inl (cI, 16, .inl (F 7))), (q 8, .inl (cI, 16, .inl R))]
/-- the reference's ten cells, th: which exception its latest call would have thrown -/
abbrev wM (q : Nat → Nat) (F : Nat → Nat → Int32) (n : Int32) (R : Nat → Int32) (th : Int32) (cI cZ : ClassId) : va_W := [(q 9, .inr (1, [.ref (q 0), .ref (q 1), .ref (q 2), .ref (q 3), .int n, .ref (q 4), .ref (q 5), .ref (q 6), .ref (q 7), .ref (q 8), .int th])), (q 0, .inl (cI, 100, .inl (F 0))), (q 1, .inl (cI, 10, .inl (F 1))), (q 2, .inl (cI, 10, .inl (F 2))), (q 3, .inl (cZ, 20, .inl (F 3))), (q 4, .inl (cI, 16, .inl (F 4))), (q 5, .inl (cI, 16, .inl (F 5))), (q 6, .inl (cI, 16, .inl (F 6))), (q 7, .inl (cI, 16, .inl (F 7))), (q 8, .inl (cI, 16, .inl R))]
def uF (F : Nat → Nat → Int32) (k : Nat) (g : Nat → Int32) : Nat → Nat → Int32 := fun j => cond (Nat.beq j k) g (F j)
/-- a world that is only read -/
def rW (D : va_G) (w : va_W) (tys : List (ClassId × FieldType)) (U : State) : Prop := va_P D vwCl w U.heap ∧ va_K D vwCl tys U
abbrev nA : Nat → Prop := fun _ => False
abbrev RO (post : Int32 → Prop) : Array Value → State → Outcome → State → Prop := va_Qi (fun r (_ : Unit) => post r) (fun _ _ => True) nA
abbrev ROv (post : Prop) : Array Value → State → Outcome → State → Prop := va_Qv (fun (_ : Unit) => post) (fun _ _ => True) nA
theorem rW_blind {av : List Value} {D : va_G} {w : va_W} {tys : List (ClassId × FieldType)} : FrameBlind (va_Pc av (rW D w tys)) := fun a U g mk q => ⟨q.1, q.2.1, va_K.moved (u := U) (U := U.calling g mk a) (Vm.Alike.refl U.vm) q.2.2⟩
theorem rT_blind {av : List Value} : FrameBlind (va_Pc av (fun _ => True)) := fun _ _ _ _ q => ⟨q.1, trivial⟩
theorem nA_S {A : Nat → Prop} {H0 H : Heap} {locs : List Loc} (h : va_S nA H0 H locs) : va_S A H0 H locs := ⟨h.1, fun q h1 _ => h.2.1 q h1 id, fun l hl => (h.2.2 l hl).elim⟩
section ROC
variable {p : Program} {l : Launch} {e : Env} {R : Room} {s : State} {m : MethodId} {args : Array Value} {below : List Frame} {meth : Method} {c : Code} {H H0 : Heap} {locs : List Loc} {cells slots : Nat} {Q : State → Prop}
variable {y : MethodName} {bytes cc : ByteArray} {maxL nL n index pc : Nat} {ret : Option FieldType} {ws : List Cond} {rm : Room} {Ts : List Cond} {own C : String} {b : Addr} {As rest st0 : List Value} {ls : Array Slot} {A0 : Nat → Prop} {D : va_G} {w wc : va_W} {tys tysc : List (ClassId × FieldType)} {post : Int32 → Prop}
/-- a call of a method that only reads: the world stays -/
theorem ro_V (S : CallFix p m c cc nL s args Ts own) (hM : Met l y ws rm (va_Pc (.ref b :: As) (rW D wc tysc)) (RO post) 0 0 nA) (cw : CallW R s args own C index y bytes maxL ret ws rm 0 0 n) (hKc : va_K D vwCl tysc s) (hP : va_P D vwCl w H) (hPc : va_P D vwCl wc H) (hr : ∃ cell : Cell, H[b]? = some cell ∧ cell.vm.isStatics = false ∧ s.vm.findClass C = some cell.cls) (hS : va_S A0 H0 H locs) (hn : As.length = n) (hsize : ls.size = nL) (hst : st0 = As.reverse ++ .ref b :: rest) (hW : (rest.map fun v => v.category).sum ≤ 8) (hdg : decode cc pc = .ok (.invokevirtual index, 3)) (hf : cells ≤ R.cells ∧ slots ≤ R.slots)
    (kk : ∀ (r : Int32) (H1 : Heap) (locs1 : List Loc), post r → va_P D vwCl w H1 → va_S A0 H0 H1 locs1 → W p l e R s m args below meth c H1 locs1 cells slots Q (F0 m (pc + 3) ls (.int r :: rest))) : W p l e R s m args below meth c H locs cells slots Q (F0 m pc ls st0) := by
  refine va_calli (A1 := nA) (va_runV (As := As) (rest := rest) S hM cw ⟨rW_blind, hr, fun U hU hW => ⟨rfl, by rw [hU]; exact hPc, hKc.moved hW.alike⟩⟩ rfl hn hsize hst (lv_room hW) hdg ⟨hf.1, hf.2⟩) hS (fun _ _ h => h.elim) (fun _ h => h.elim) (fun r u t H1 locs1 ht hvm hw hB hz hk hS1 => ?_)
  exact kk r H1 locs1 hw (hP.kept (fun k q hq => hk q.1 (hP k q hq).lt id)) hS1
/-- a static call of a method that looks at its ints alone -/
theorem ro_S (S : CallFix p m c cc nL s args Ts own) (hM : Met l y ws rm (va_Pc As (fun _ => True)) (RO post) 0 0 nA) (cw : CallB R s args own index y bytes maxL ret ws rm 0 0 n ∧ (Cond.static y).before args s = true) (hP : va_P D vwCl w H) (hS : va_S A0 H0 H locs) (hn : As.length = n) (hsize : ls.size = nL) (hst : st0 = As.reverse ++ rest) (hW : (rest.map fun v => v.category).sum ≤ 8) (hdg : decode cc pc = .ok (.invokestatic index, 3)) (hf : cells ≤ R.cells ∧ slots ≤ R.slots)
    (kk : ∀ (r : Int32) (H1 : Heap) (locs1 : List Loc), post r → va_P D vwCl w H1 → va_S A0 H0 H1 locs1 → W p l e R s m args below meth c H1 locs1 cells slots Q (F0 m (pc + 3) ls (.int r :: rest))) : W p l e R s m args below meth c H locs cells slots Q (F0 m pc ls st0) := by
  refine va_calli (A1 := nA) (va_runS (As := As) (rest := rest) S hM cw ⟨rT_blind, fun U hU hW => ⟨rfl, trivial⟩⟩ rfl hn hsize hst (lv_room hW) hdg ⟨hf.1, hf.2⟩) hS (fun _ _ h => h.elim) (fun _ h => h.elim) (fun r u t H1 locs1 ht hvm hw hB hz hk hS1 => ?_)
  exact kk r H1 locs1 hw (hP.kept (fun k q hq => hk q.1 (hP k q hq).lt id)) hS1
/-- .. and of one that reads a world -/
theorem ro_SW (S : CallFix p m c cc nL s args Ts own) (hM : Met l y ws rm (va_Pc As (rW D wc tysc)) (RO post) 0 0 nA) (cw : CallB R s args own index y bytes maxL ret ws rm 0 0 n ∧ (Cond.static y).before args s = true) (hKc : va_K D vwCl tysc s) (hP : va_P D vwCl w H) (hPc : va_P D vwCl wc H) (hS : va_S A0 H0 H locs) (hn : As.length = n) (hsize : ls.size = nL) (hst : st0 = As.reverse ++ rest) (hW : (rest.map fun v => v.category).sum ≤ 8) (hdg : decode cc pc = .ok (.invokestatic index, 3)) (hf : cells ≤ R.cells ∧ slots ≤ R.slots)
    (kk : ∀ (r : Int32) (H1 : Heap) (locs1 : List Loc), post r → va_P D vwCl w H1 → va_S A0 H0 H1 locs1 → W p l e R s m args below meth c H1 locs1 cells slots Q (F0 m (pc + 3) ls (.int r :: rest))) : W p l e R s m args below meth c H locs cells slots Q (F0 m pc ls st0) := by
  refine va_calli (A1 := nA) (va_runS (As := As) (rest := rest) S hM cw ⟨rW_blind, fun U hU hW => ⟨rfl, by rw [hU]; exact hPc, hKc.moved hW.alike⟩⟩ rfl hn hsize hst (lv_room hW) hdg ⟨hf.1, hf.2⟩) hS (fun _ _ h => h.elim) (fun _ h => h.elim) (fun r u t H1 locs1 ht hvm hw hB hz hk hS1 => ?_)
  exact kk r H1 locs1 hw (hP.kept (fun k q hq => hk q.1 (hP k q hq).lt id)) hS1
end ROC
/-- a reading method from its entry -/
theorem ro_of {l : Launch} {y : MethodName} {ws ws' : List Cond} {rm : Room} {av : List Value} {D : va_G} {w : va_W} {tys : List (ClassId × FieldType)} {post : Int32 → Prop} {cc : ByteArray} {maxL : Nat} {ret : Option FieldType} {own : String} (hy : plainName y.cls = true) (hown : y.cls = own) (hw : ws = Cond.code y cc maxL ret :: ws') (hav : (lg_sl av).length ≤ maxL)
    (body : ∀ p e s m args below meth c (ls : Array Slot), p.tables.exec = Jvm.exec → c.code = cc → meth.sig.returnType = ret → c.maxLocals = maxL → meth.locks = false → s.vm.findClass own = some m.cls → (∀ w ∈ ws, w.before args s = true) → va_P D vwCl w s.heap → va_K D vwCl tys s → lv_has ls maxL (lv_args 0 av) →
      W p l e rm s m args below meth c s.heap [] 0 0 (MQ below (RO post) args s 0 0 nA) (F0 m 0 ls [])) : Met l y ws rm (va_Pc av (rW D w tys)) (RO post) 0 0 nA := by
  refine Met.ofW (cc := cc) (maxL := maxL) (ret := ret) hy hw ?_
  intro p e s m args below meth c s₁ B hml hv
  obtain ⟨rfl, hP, hK⟩ := hv
  have hown2 : s.vm.findClass own = some m.cls := by rw [← hown]; exact findClass_of_methodNamed B.named
  have hl := lv_entry av (n := maxL) hav
  rw [lg_entry_eq]
  generalize (lg_sl av ++ List.replicate (maxL - (lg_sl av).length) Slot.unset).toArray = ls at hl ⊢
  exact body p e s m _ below meth c ls B.exec B.bytes B.returns hml B.notSynchronized hown2 (atoms_spec (ws := ws) B.pre) hP hK hl
/-- a method of ints alone from its entry -/
theorem ro_ofS {l : Launch} {y : MethodName} {ws ws' : List Cond} {rm : Room} {av : List Value} {post : Int32 → Prop} {cc : ByteArray} {maxL : Nat} {ret : Option FieldType} {own : String} (hy : plainName y.cls = true) (hown : y.cls = own) (hw : ws = Cond.code y cc maxL ret :: ws') (hav : (lg_sl av).length ≤ maxL)
    (body : ∀ p e s m args below meth c (ls : Array Slot), p.tables.exec = Jvm.exec → c.code = cc → meth.sig.returnType = ret → c.maxLocals = maxL → meth.locks = false → s.vm.findClass own = some m.cls → (∀ w ∈ ws, w.before args s = true) → va_P (fun _ => 0, fun _ _ => 0) vwCl [] s.heap → lv_has ls maxL (lv_args 0 av) →
      W p l e rm s m args below meth c s.heap [] 0 0 (MQ below (RO post) args s 0 0 nA) (F0 m 0 ls [])) : Met l y ws rm (va_Pc av (fun _ => True)) (RO post) 0 0 nA := by
  refine Met.ofW (cc := cc) (maxL := maxL) (ret := ret) hy hw ?_
  intro p e s m args below meth c s₁ B hml hv
  obtain ⟨rfl, -⟩ := hv
  have hown2 : s.vm.findClass own = some m.cls := by rw [← hown]; exact findClass_of_methodNamed B.named
  have hl := lv_entry av (n := maxL) hav
  rw [lg_entry_eq]
  generalize (lg_sl av ++ List.replicate (maxL - (lg_sl av).length) Slot.unset).toArray = ls at hl ⊢
  exact body p e s m _ below meth c ls B.exec B.bytes B.returns hml B.notSynchronized hown2 (atoms_spec (ws := ws) B.pre) (fun k q h => by simp at h) hl
end
section
/-! what each method answers, in the words of the state (F: the rows, n: the count) -/
theorem xiald {p : Program} {l : Launch} {e : Env} {R : Room} {s : State} {m : MethodId} {args : Array Value} {below : List Frame} {meth : Method} {c : Code} {H : Heap} {locs : List Loc} {cells slots : Nat} {Q : State → Prop} {cc : ByteArray} {pc : Nat} {ls : Array Slot} {rest : List Value} {D : va_G} {cl : List vw_C} {a : Nat} {tys : List (ClassId × FieldType)} {ws : va_W}
    (hexec : p.tables.exec = Jvm.exec) (hb : c.code = cc) (hK : va_K D cl tys s) (hP : va_P D cl ws H) (q0 t0 : Nat) {cA : ClassId} {n : Nat} {f : Nat → Int32} (ha : ws[q0]? = some (a, .inl (cA, n, .inl f))) (ht : tys[t0]? = some (cA, .int)) {g : Nat} (hg : g < n) (hn : n < 2 ^ 31) (hdg : decode cc pc = .ok (.iaload, 1))
    (kk : W p l e R s m args below meth c H locs cells slots Q (F0 m (pc + 1) ls (.int (f g) :: rest))) : W p l e R s m args below meth c H locs cells slots Q (F0 m pc ls (.int (nI g) :: .ref a :: rest)) := by
  refine va_iald hexec hb hK hP q0 t0 ha ht (vp_in_nI hg hn) hdg ?_
  rw [nI_clamp (Nat.lt_trans hg hn)]
  exact kk
theorem xzald {p : Program} {l : Launch} {e : Env} {R : Room} {s : State} {m : MethodId} {args : Array Value} {below : List Frame} {meth : Method} {c : Code} {H : Heap} {locs : List Loc} {cells slots : Nat} {Q : State → Prop} {cc : ByteArray} {pc : Nat} {ls : Array Slot} {rest : List Value} {D : va_G} {cl : List vw_C} {a : Nat} {tys : List (ClassId × FieldType)} {ws : va_W}
    (hexec : p.tables.exec = Jvm.exec) (hb : c.code = cc) (hK : va_K D cl tys s) (hP : va_P D cl ws H) (q0 t0 : Nat) {cA : ClassId} {n : Nat} {f : Nat → Int32} (ha : ws[q0]? = some (a, .inl (cA, n, .inl f))) (ht : tys[t0]? = some (cA, .boolean)) {g : Nat} (hg : g < n) (hn : n < 2 ^ 31) (hdg : decode cc pc = .ok (.baload, 1))
    (kk : W p l e R s m args below meth c H locs cells slots Q (F0 m (pc + 1) ls (.int (f g) :: rest))) : W p l e R s m args below meth c H locs cells slots Q (F0 m pc ls (.int (nI g) :: .ref a :: rest)) := by
  refine va_zald hexec hb hK hP q0 t0 ha ht (vp_in_nI hg hn) hdg ?_
  rw [nI_clamp (Nat.lt_trans hg hn)]
  exact kk
theorem xiast {p : Program} {l : Launch} {e : Env} {R : Room} {s : State} {m : MethodId} {args : Array Value} {below : List Frame} {meth : Method} {c : Code} {H H0 : Heap} {locs : List Loc} {cells slots : Nat} {Q : State → Prop} {cc : ByteArray} {pc : Nat} {ls : Array Slot} {rest : List Value} {D : va_G} {cl : List vw_C} {A : Nat → Prop} {a : Nat} {tys : List (ClassId × FieldType)} {ws : va_W}
    (hexec : p.tables.exec = Jvm.exec) (hb : c.code = cc) (hK : va_K D cl tys s) (hP : va_P D cl ws H) (hD : va_D A ws) (hS : va_S A H0 H locs) (q0 t0 : Nat) {cA : ClassId} {n : Nat} {f : Nat → Int32} (ha : ws[q0]? = some (a, .inl (cA, n, .inl f))) (ht : tys[t0]? = some (cA, .int)) {g : Nat} {x : Int32} (hg : g < n) (hn : n < 2 ^ 31) (hdg : decode cc pc = .ok (.iastore, 1))
    (kk : ∀ (H1 : Heap) (locs1 : List Loc), va_P D cl (ws.set q0 (a, .inl (cA, n, .inl (upd f g x)))) H1 → va_D A (ws.set q0 (a, .inl (cA, n, .inl (upd f g x)))) → va_S A H0 H1 locs1 → W p l e R s m args below meth c H1 locs1 cells slots Q (F0 m (pc + 1) ls rest)) : W p l e R s m args below meth c H locs cells slots Q (F0 m pc ls (.int x :: .int (nI g) :: .ref a :: rest)) := by
  refine va_iast hexec hb hK hP hD hS q0 t0 ha ht (vp_in_nI hg hn) hdg ?_
  rw [nI_clamp (Nat.lt_trans hg hn)]
  exact kk
def okC (c : Int32) : Prop := c = -1 ∨ ∃ k, 1 ≤ k ∧ k ≤ 9 ∧ c = nI k
def okP (p : Int32) : Prop := p = -1 ∨ ∃ k, k < 48 ∧ p = nI k
def WF (F : Nat → Nat → Int32) (n : Nat) : Prop := n ≤ 16 ∧ (∀ g, g < n → okC (F 4 g) ∧ F 4 g ≠ -1) ∧ (∀ g, g < n → okC (F 5 g)) ∧ (∀ g, g < n → okP (F 7 g)) ∧ (∀ i, i < 100 → ∃ d, d ≤ 4 ∧ F 0 i = nI d) ∧ (∀ i, i < 20 → F 3 i = 0 ∨ F 3 i = 1)
theorem WF.n {F : Nat → Nat → Int32} {n : Nat} (h : WF F n) : n ≤ 16 := h.1
theorem WF.g {F : Nat → Nat → Int32} {n g : Nat} (h : WF F n) (hg : g < n) : g < 16 := Nat.lt_of_lt_of_le hg h.1
theorem okC.in {c : Int32} (h : okC c) (h1 : ¬ c = -1) : vp_in c 10 := by
  rcases h with h | ⟨k, h2, h3, rfl⟩
  · exact absurd h h1
  · exact vp_in_nI (by omega) (by decide)
theorem WF.c4 {F : Nat → Nat → Int32} {n g : Nat} (h : WF F n) (hg : g < n) : okC (F 4 g) := (h.2.1 g hg).1
theorem WF.c4n {F : Nat → Nat → Int32} {n g : Nat} (h : WF F n) (hg : g < n) : ¬ F 4 g = -1 := (h.2.1 g hg).2
theorem WF.c5 {F : Nat → Nat → Int32} {n g : Nat} (h : WF F n) (hg : g < n) : okC (F 5 g) := h.2.2.1 g hg
theorem WF.p7 {F : Nat → Nat → Int32} {n g : Nat} (h : WF F n) (hg : g < n) : okP (F 7 g) := h.2.2.2.1 g hg
theorem WF.t0 {F : Nat → Nat → Int32} {n i : Nat} (h : WF F n) (hi : i < 100) : ∃ d, d ≤ 4 ∧ F 0 i = nI d := h.2.2.2.2.1 i hi
theorem WF.b3 {F : Nat → Nat → Int32} {n i : Nat} (h : WF F n) (hi : i < 20) : F 3 i = 0 ∨ F 3 i = 1 := h.2.2.2.2.2 i hi
theorem nI_lit (k : Nat) : (OfNat.ofNat k : Int32) = nI k := rfl
theorem tab_ix {c d : Int32} (hc : okC c) (hd : okC d) (h1 : ¬ c = -1) (h2 : ¬ d = -1) : ∃ i, i < 100 ∧ c * 10 + d = nI i ∧ 10 * c + d = nI i := by
  rcases hc with h | ⟨a, a1, a2, rfl⟩
  · exact absurd h h1
  rcases hd with h | ⟨b, b1, b2, rfl⟩
  · exact absurd h h2
  refine ⟨a * 10 + b, by omega, ?_, ?_⟩
  · show nI a * nI 10 + nI b = _
    rw [pk_mul, nI_add]
  · show nI 10 * nI a + nI b = _
    rw [pk_mul, nI_add, Nat.mul_comm]
theorem tab_in {c d : Int32} (hc : okC c) (hd : okC d) (h1 : ¬ c = -1) (h2 : ¬ d = -1) : vp_in (c * 10 + d) 100 := by
  obtain ⟨i, h, e, -⟩ := tab_ix hc hd h1 h2
  rw [e]; exact vp_in_nI h (by decide)
theorem tab_in2 {c d : Int32} (hc : okC c) (hd : okC d) (h1 : ¬ c = -1) (h2 : ¬ d = -1) : vp_in (10 * c + d) 100 := by
  obtain ⟨i, h, -, e⟩ := tab_ix hc hd h1 h2
  rw [e]; exact vp_in_nI h (by decide)
theorem bar_ix {c d : Int32} (hc : okC c) (h1 : ¬ c = -1) (hd : d = 0 ∨ d = 1) : ∃ i, i < 20 ∧ c * 2 + d = nI i ∧ 2 * c + d = nI i := by
  rcases hc with h | ⟨a, a1, a2, rfl⟩
  · exact absurd h h1
  have key : ∀ b, b < 2 → ∃ i, i < 20 ∧ nI a * 2 + nI b = nI i ∧ 2 * nI a + nI b = nI i := by
    intro b hb
    refine ⟨a * 2 + b, by omega, ?_, ?_⟩
    · show nI a * nI 2 + nI b = _
      rw [pk_mul, nI_add]
    · show nI 2 * nI a + nI b = _
      rw [pk_mul, nI_add, Nat.mul_comm]
  rcases hd with rfl | rfl
  · exact key 0 (by decide)
  · exact key 1 (by decide)
theorem bar_in {c d : Int32} (hc : okC c) (h1 : ¬ c = -1) (hd : d = 0 ∨ d = 1) : vp_in (c * 2 + d) 20 := by
  obtain ⟨i, h, e, -⟩ := bar_ix hc h1 hd
  rw [e]; exact vp_in_nI h (by decide)
theorem bar_in2 {c d : Int32} (hc : okC c) (h1 : ¬ c = -1) (hd : d = 0 ∨ d = 1) : vp_in (2 * c + d) 20 := by
  obtain ⟨i, h, -, e⟩ := bar_ix hc h1 hd
  rw [e]; exact vp_in_nI h (by decide)
theorem deck_01 {p : Int32} (hp : okP p) (h1 : ¬ p = -1) : p - p / 2 * 2 = 0 ∨ p - p / 2 * 2 = 1 := by
  rcases hp with h | ⟨k, hk, rfl⟩
  · exact absurd h h1
  · have := pk_rem (a := k) (d := 2) (by omega) (by decide) (by decide)
    rw [show (2 : Int32) = nI 2 from rfl, this]
    rcases Nat.mod_two_eq_zero_or_one k with h | h <;> rw [h]
    · exact Or.inl rfl
    · exact Or.inr rfl
def iMax (x y : Int32) : Int32 := if x < y then y else x
def iAbs (x : Int32) : Int32 := if 0 ≤ x then x else 0 - x
def sHold (p : Int32) : Int32 := p / 12
def sBay (p : Int32) : Int32 := (p - p / 12 * 12) / 2
def sDeck (p : Int32) : Int32 := p - p / 2 * 2
def sDist (a b : Int32) : Int32 := if iAbs (sHold a - sHold b) < 2 then (if iAbs (sHold a - sHold b) = 1 then 3 else if 3 ≤ iAbs (sBay a - sBay b) then 2 else if iAbs (sBay a - sBay b) ≤ 0 then (if a = b then 0 else 1) else if sDeck a = sDeck b then (if a = b then 0 else 1) else 2) else 4
def sTab (F : Nat → Nat → Int32) (c d : Int32) : Int32 := if c = -1 then 0 else if d = -1 then 0 else F 0 (c * 10 + d).toNatClampNeg
def sGreat (F : Nat → Nat → Int32) (g h : Nat) : Int32 := iMax (iMax (sTab F (F 4 g) (F 4 h)) (sTab F (F 4 g) (F 5 h))) (iMax (sTab F (F 5 g) (F 4 h)) (sTab F (F 5 g) (F 5 h)))
def sWithin (F : Nat → Nat → Int32) (k g : Nat) : Bool := if F k (F 4 g).toNatClampNeg < F 6 g then false else if F 5 g = -1 then true else if F k (F 5 g).toNatClampNeg < F 6 g then false else true
def sExc (F : Nat → Nat → Int32) (g : Nat) : Bool := sWithin F 2 g
def sLim (F : Nat → Nat → Int32) (g : Nat) : Bool := !(sWithin F 2 g) && sWithin F 1 g
def sNeed (F : Nat → Nat → Int32) (g h : Nat) : Int32 := if sExc F g = true then 0 else if sExc F h = true then 0 else if sLim F g = true then iMax (sGreat F g h - 1) 0 else if sLim F h = true then iMax (sGreat F g h - 1) 0 else sGreat F g h
def sBreach (F : Nat → Nat → Int32) (g : Nat) (p : Int32) (h : Nat) : Bool := if p = -1 then false else if F 7 h = -1 then false else decide (sDist p (F 7 h) < sNeed F g h)
/-- the set of the first k with a property, as a number -/
def bs (P : Nat → Bool) : Nat → Nat
  | 0 => 0
  | k + 1 => bs P k + (if P k = true then 2 ^ k else 0)
def sAt (F : Nat → Nat → Int32) (n g : Nat) (p : Int32) : Nat := bs (fun k => !(decide (k = g)) && sBreach F g p k) n
def sBarred (F : Nat → Nat → Int32) (c d : Int32) : Bool := if c = -1 then false else !(decide (F 3 (c * 2 + d).toNatClampNeg = 0))
def sMis (F : Nat → Nat → Int32) (g : Nat) (p : Int32) : Bool := if p = -1 then false else if sExc F g = true then false else sBarred F (F 4 g) (sDeck p) || sBarred F (F 5 g) (sDeck p)
def sClean (F : Nat → Nat → Int32) (n g : Nat) (p : Int32) : Bool := !(sMis F g p) && decide (sAt F n g p = 0)
theorem nI_lt_of {k n : Nat} (h : ¬ nI n ≤ nI k) (hk : k < 2 ^ 31) : k < n := by
  rcases Nat.lt_or_ge k n with q | q
  · exact q
  · exact absurd (nI_le q hk) h
theorem nI_ge_of {k n : Nat} (h : nI n ≤ nI k) (hk : k < 2 ^ 31) (hn : n < 2 ^ 31) : n ≤ k := (nI_leI hn hk).mp h
theorem bs_lt (P : Nat → Bool) : ∀ k, bs P k < 2 ^ k
  | 0 => Nat.zero_lt_one
  | k + 1 => by
    have h := bs_lt P k
    have e : 2 ^ (k + 1) = 2 ^ k + 2 ^ k := by rw [Nat.pow_succ]; omega
    unfold bs
    split <;> omega
theorem sh_1 : ∀ k, k < 31 → (1 : Int32) <<< (nI k &&& 31) = nI (2 ^ k) := by decide +kernel
theorem or_hi {a k : Nat} (h : a < 2 ^ k) : a ||| 2 ^ k = a + 2 ^ k := by
  have := Nat.two_pow_add_eq_or_of_lt h 1
  rw [Nat.mul_one] at this
  rw [Nat.or_comm, ← this, Nat.add_comm]
theorem nI_or (a b : Nat) : nI a ||| nI b = nI (a ||| b) := by
  apply Int32.toBitVec_inj.1
  show BitVec.ofNat 32 a ||| BitVec.ofNat 32 b = BitVec.ofNat 32 (a ||| b)
  apply BitVec.eq_of_getLsbD_eq
  intro i hi
  simp [hi]
theorem bs_t {P : Nat → Bool} {k : Nat} (hk : k < 16) (h : P k = true) : nI (bs P k) ||| ((1 : Int32) <<< (nI k &&& 31)) = nI (bs P (k + 1)) := by
  rw [sh_1 k (by omega), nI_or, or_hi (bs_lt P k)]
  show _ = nI (bs P k + if P k = true then 2 ^ k else 0)
  rw [if_pos h]
theorem bs_f {P : Nat → Bool} {k : Nat} (h : P k = false) : nI (bs P k) = nI (bs P (k + 1)) := by
  show _ = nI (bs P k + if P k = true then 2 ^ k else 0)
  rw [h]; rfl
theorem bs_z {P : Nat → Bool} {k : Nat} (h : P k = false) : nI (bs P k) ||| 0 = nI (bs P (k + 1)) := by
  rw [show (0 : Int32) = nI 0 from rfl, nI_or, Nat.or_zero, bs_f h]
/-! the reference's own shapes -/
def mIn (v lo hi : Int32) : Bool := if v < lo then false else if hi < v then false else true
def mB (p : Int32) : Int32 := p / 2 - p / 2 / 6 * 6
def mFar (a b : Int32) : Int32 := if 0 ≤ mB a - mB b then mB a - mB b else -(mB a - mB b)
def mIsFar (a b : Int32) : Bool := if 2 < mFar a b then true else if mFar a b ≤ 0 then false else if sDeck a = sDeck b then false else true
def mApart (a b : Int32) : Int32 := if 1 < a / 12 - b / 12 then 4 else if -1 ≤ a / 12 - b / 12 then (if a / 12 - b / 12 = 0 then (if mIsFar a b = true then 2 else if a = b then 0 else 1) else 3) else 4
def mTab (F : Nat → Nat → Int32) (c d : Int32) : Int32 := if c = -1 then 0 else if d = -1 then 0 else F 0 (10 * c + d).toNatClampNeg
def mGt (a b : Int32) : Int32 := if a ≤ b then b else a
def mGreat (F : Nat → Nat → Int32) (g h : Nat) : Int32 := mGt (mGt (mTab F (F 4 g) (F 4 h)) (mTab F (F 4 g) (F 5 h))) (mGt (mTab F (F 5 g) (F 4 h)) (mTab F (F 5 g) (F 5 h)))
def mNeed (F : Nat → Nat → Int32) (g h : Nat) : Int32 := if sExc F g = true then 0 else if sExc F h = true then 0 else if mGreat F g h ≤ 0 then mGreat F g h else if sLim F g = true then mGreat F g h - 1 else if sLim F h = true then mGreat F g h - 1 else mGreat F g h
def mFoe (F : Nat → Nat → Int32) (g h : Nat) (p : Int32) : Bool := if g = h then false else if F 7 h = -1 then false else decide (mApart p (F 7 h) < mNeed F g h)
def mBar2 (F : Nat → Nat → Int32) (g : Nat) (p : Int32) : Bool := if F 3 (2 * F 4 g + sDeck p).toNatClampNeg = 0 then (if F 5 g = -1 then false else if F 3 (2 * F 5 g + sDeck p).toNatClampNeg = 0 then false else true) else true
def mWrong (F : Nat → Nat → Int32) (g : Nat) (p : Int32) : Bool := if mBar2 F g p = true then (if sExc F g = true then false else true) else false
def mFoes (F : Nat → Nat → Int32) (n g : Nat) : Nat := bs (fun h => if F 7 g = -1 then false else mFoe F g h (F 7 g)) n
def mWrongs (F : Nat → Nat → Int32) (n : Nat) : Nat := bs (fun g => if F 7 g = -1 then false else mWrong F g (F 7 g)) n
end
section
/-! the class: its reading methods without loops -/
set_option maxHeartbeats 4000000 in
set_option maxRecDepth 100000 in
theorem c_X0_holdOf (l : Launch) (p : Int32) : Met l yX0_holdOf wsX0_holdOf ({ frames := 0, cells := 0, slots := 0, locals := 0 }) (va_Pc [.int p] (fun _ => True)) (RO (fun r => r = sHold p)) 0 0 nA := by
  refine ro_ofS (own := RX0) (cc := cX0_holdOf) (maxL := 1) (ret := (some .int)) (by decide) rfl rfl (Nat.le_of_ble_eq_true rfl) ?_
  intro p9 e9 s m9 a9 below meth c9 ls hx hb hr hml hlocks hown hts hP hl
  have hS : va_S nA s.heap s.heap [] := va_S.rf
  have hl : lv_has ls 1 [(0, .int p)] := hl
  refine lv_iload_n hx hb dX0_holdOf_0 rfl (lv_at hl 0 rfl) ?_
  refine lv_bipush (v := 12) hx hb dX0_holdOf_1 (by decide) ?_
  refine lv_idiv hx hb (x := p) (y := 12) dX0_holdOf_3 (by decide) ?_
  exact W.iret hx hb hr (fun t ht hW => ⟨⟨_, (), rfl, rfl, trivial⟩, hS.F ht⟩) hS.2.2 dX0_holdOf_4
set_option maxHeartbeats 4000000 in
set_option maxRecDepth 100000 in
theorem c_X0_bayOf (l : Launch) (p : Int32) : Met l yX0_bayOf wsX0_bayOf ({ frames := 0, cells := 0, slots := 0, locals := 0 }) (va_Pc [.int p] (fun _ => True)) (RO (fun r => r = sBay p)) 0 0 nA := by
  refine ro_ofS (own := RX0) (cc := cX0_bayOf) (maxL := 1) (ret := (some .int)) (by decide) rfl rfl (Nat.le_of_ble_eq_true rfl) ?_
  intro p9 e9 s m9 a9 below meth c9 ls hx hb hr hml hlocks hown hts hP hl
  have hS : va_S nA s.heap s.heap [] := va_S.rf
  have hl : lv_has ls 1 [(0, .int p)] := hl
  refine lv_iload_n hx hb dX0_bayOf_0 rfl (lv_at hl 0 rfl) ?_
  refine lv_bipush (v := 12) hx hb dX0_bayOf_1 (by decide) ?_
  refine lv_irem hx hb (x := p) (y := 12) dX0_bayOf_3 (by decide) ?_
  refine lv_iconst (v := 2) hx hb dX0_bayOf_4 (by decide) ?_
  refine lv_idiv hx hb (x := (p - p / 12 * 12)) (y := 2) dX0_bayOf_5 (by decide) ?_
  exact W.iret hx hb hr (fun t ht hW => ⟨⟨_, (), rfl, rfl, trivial⟩, hS.F ht⟩) hS.2.2 dX0_bayOf_6
set_option maxHeartbeats 4000000 in
set_option maxRecDepth 100000 in
theorem c_X0_deckOf (l : Launch) (p : Int32) : Met l yX0_deckOf wsX0_deckOf ({ frames := 0, cells := 0, slots := 0, locals := 0 }) (va_Pc [.int p] (fun _ => True)) (RO (fun r => r = sDeck p)) 0 0 nA := by
  refine ro_ofS (own := RX0) (cc := cX0_deckOf) (maxL := 1) (ret := (some .int)) (by decide) rfl rfl (Nat.le_of_ble_eq_true rfl) ?_
  intro p9 e9 s m9 a9 below meth c9 ls hx hb hr hml hlocks hown hts hP hl
  have hS : va_S nA s.heap s.heap [] := va_S.rf
  have hl : lv_has ls 1 [(0, .int p)] := hl
  refine lv_iload_n hx hb dX0_deckOf_0 rfl (lv_at hl 0 rfl) ?_
  refine lv_iconst (v := 2) hx hb dX0_deckOf_1 (by decide) ?_
  refine lv_irem hx hb (x := p) (y := 2) dX0_deckOf_2 (by decide) ?_
  exact W.iret hx hb hr (fun t ht hW => ⟨⟨_, (), rfl, rfl, trivial⟩, hS.F ht⟩) hS.2.2 dX0_deckOf_3
set_option maxHeartbeats 4000000 in
set_option maxRecDepth 100000 in
theorem c_X0_distanceBetween (l : Launch) (a : Int32) (b : Int32) : Met l yX0_distanceBetween wsX0_distanceBetween ({ frames := 1, cells := 0, slots := 0, locals := 40 }) (va_Pc [.int a, .int b] (fun _ => True)) (RO (fun r => r = sDist a b)) 0 0 nA := by
  refine ro_ofS (own := RX0) (cc := cX0_distanceBetween) (maxL := 4) (ret := (some .int)) (by decide) rfl rfl (Nat.le_of_ble_eq_true rfl) ?_
  intro p9 e9 s m9 a9 below meth c9 ls hx hb hr hml hlocks hown hts hP hl
  have m131_l := hts (.methodLink RX0 131 Lib.Math.abs.name) (by decide +kernel)
  have m131_s := hts (.static Lib.Math.abs.name) (by decide +kernel)
  have m131_i := hts (.initialized "java/lang/Math") (by decide +kernel)
  have m131_c := hts (.code Lib.Math.abs.name Lib.Math.abs.code 1 (some .int)) (by decide +kernel)
  have hS : va_S nA s.heap s.heap [] := va_S.rf
  have hl : lv_has ls 4 [(0, .int a), (1, .int b)] := hl
  refine lv_iload_n hx hb dX0_distanceBetween_0 rfl (lv_at hl 0 rfl) ?_
  refine ro_S (As := [.int a]) (rest := []) ⟨hx, hb, hml, hown, hts⟩ (c_X0_holdOf l a) (va_cwS 1 hts gX0_distanceBetween_X0_holdOf rfl rfl rfl (by decide +kernel) ⟨Nat.le_of_ble_eq_true rfl, Nat.le_of_ble_eq_true rfl⟩) hP hS rfl hl.1 rfl (Nat.le_of_ble_eq_true rfl) dX0_distanceBetween_1 ⟨Nat.le_of_ble_eq_true rfl, Nat.le_of_ble_eq_true rfl⟩ (fun r H locs hr9 hP hS => ?_)
  subst hr9
  refine lv_iload_n hx hb dX0_distanceBetween_4 rfl (lv_at hl 1 rfl) ?_
  refine ro_S (As := [.int b]) (rest := [.int (sHold a)]) ⟨hx, hb, hml, hown, hts⟩ (c_X0_holdOf l b) (va_cwS 1 hts gX0_distanceBetween_X0_holdOf rfl rfl rfl (by decide +kernel) ⟨Nat.le_of_ble_eq_true rfl, Nat.le_of_ble_eq_true rfl⟩) hP hS rfl hl.1 rfl (Nat.le_of_ble_eq_true rfl) dX0_distanceBetween_5 ⟨Nat.le_of_ble_eq_true rfl, Nat.le_of_ble_eq_true rfl⟩ (fun r H locs hr9 hP hS => ?_)
  subst hr9
  refine lv_isub hx hb (x := (sHold a)) (y := (sHold b)) dX0_distanceBetween_8 ?_
  refine va_mabs hx hb (hml.trans hl.1.symm) hown m131_l m131_s m131_i m131_c (Nat.le_of_ble_eq_true rfl) (Nat.le_of_ble_eq_true rfl) (Nat.zero_le _) (Nat.zero_le _) dX0_distanceBetween_9 ?_
  refine lv_istore_n (lv' := [(2, .int (iAbs ((sHold a) - (sHold b)))), (0, .int a), (1, .int b)]) hx hb dX0_distanceBetween_12 rfl hl (by decide) rfl (fun ls hl => ?_)
  refine lv_iload_n hx hb dX0_distanceBetween_13 rfl (lv_at hl 0 rfl) ?_
  refine lv_iconst (v := 2) hx hb dX0_distanceBetween_14 (by decide) ?_
  refine lv_icmp_lt (x := (iAbs ((sHold a) - (sHold b)))) (y := 2) (tgt := 20) hx hb dX0_distanceBetween_15 (by decide) (fun c_15 => ?_) (fun c_15 => ?_)
  · skip
    refine lv_iload_n hx hb dX0_distanceBetween_20 rfl (lv_at hl 0 rfl) ?_
    refine lv_iconst (v := 1) hx hb dX0_distanceBetween_21 (by decide) ?_
    refine lv_icmp_ne (x := (iAbs ((sHold a) - (sHold b)))) (y := 1) (tgt := 27) hx hb dX0_distanceBetween_22 (by decide) (fun c_22 => ?_) (fun c_22 => ?_)
    · skip
      refine lv_iload_n hx hb dX0_distanceBetween_27 rfl (lv_at hl 1 rfl) ?_
      refine ro_S (As := [.int a]) (rest := []) ⟨hx, hb, hml, hown, hts⟩ (c_X0_bayOf l a) (va_cwS 1 hts gX0_distanceBetween_X0_bayOf rfl rfl rfl (by decide +kernel) ⟨Nat.le_of_ble_eq_true rfl, Nat.le_of_ble_eq_true rfl⟩) hP hS rfl hl.1 rfl (Nat.le_of_ble_eq_true rfl) dX0_distanceBetween_28 ⟨Nat.le_of_ble_eq_true rfl, Nat.le_of_ble_eq_true rfl⟩ (fun r H locs hr9 hP hS => ?_)
      subst hr9
      refine lv_iload_n hx hb dX0_distanceBetween_31 rfl (lv_at hl 2 rfl) ?_
      refine ro_S (As := [.int b]) (rest := [.int (sBay a)]) ⟨hx, hb, hml, hown, hts⟩ (c_X0_bayOf l b) (va_cwS 1 hts gX0_distanceBetween_X0_bayOf rfl rfl rfl (by decide +kernel) ⟨Nat.le_of_ble_eq_true rfl, Nat.le_of_ble_eq_true rfl⟩) hP hS rfl hl.1 rfl (Nat.le_of_ble_eq_true rfl) dX0_distanceBetween_32 ⟨Nat.le_of_ble_eq_true rfl, Nat.le_of_ble_eq_true rfl⟩ (fun r H locs hr9 hP hS => ?_)
      subst hr9
      refine lv_isub hx hb (x := (sBay a)) (y := (sBay b)) dX0_distanceBetween_35 ?_
      refine va_mabs hx hb (hml.trans hl.1.symm) hown m131_l m131_s m131_i m131_c (Nat.le_of_ble_eq_true rfl) (Nat.le_of_ble_eq_true rfl) (Nat.zero_le _) (Nat.zero_le _) dX0_distanceBetween_36 ?_
      refine lv_istore_n (lv' := [(3, .int (iAbs ((sBay a) - (sBay b)))), (2, .int (iAbs ((sHold a) - (sHold b)))), (0, .int a), (1, .int b)]) hx hb dX0_distanceBetween_39 rfl hl (by decide) rfl (fun ls hl => ?_)
      refine lv_iload_n hx hb dX0_distanceBetween_40 rfl (lv_at hl 0 rfl) ?_
      refine lv_iconst (v := 3) hx hb dX0_distanceBetween_41 (by decide) ?_
      refine lv_icmp_ge (x := (iAbs ((sBay a) - (sBay b)))) (y := 3) (tgt := 60) hx hb dX0_distanceBetween_42 (by decide) (fun c_42 => ?_) (fun c_42 => ?_)
      · skip
        refine lv_iconst (v := 2) hx hb dX0_distanceBetween_60 (by decide) ?_
        exact W.iret hx hb hr (fun t ht hW => ⟨⟨_, (), rfl, (by show 2 = sDist a b; first | (simp only [sDist, eq_true c_15, eq_false c_22, eq_true c_42, reduceIte, Bool.false_eq_true, Bool.true_eq_false]; done) | (simp [sDist, eq_true c_15, eq_false c_22, eq_true c_42]; done)), trivial⟩, hS.F ht⟩) hS.2.2 dX0_distanceBetween_61
      · skip
        refine lv_iload_n hx hb dX0_distanceBetween_45 rfl (lv_at hl 0 rfl) ?_
        refine lv_if_le (x := (iAbs ((sBay a) - (sBay b)))) (tgt := 62) hx hb dX0_distanceBetween_46 (by decide) (fun c_46 => ?_) (fun c_46 => ?_)
        · skip
          refine lv_iload_n hx hb dX0_distanceBetween_62 rfl (lv_at hl 2 rfl) ?_
          refine lv_iload_n hx hb dX0_distanceBetween_63 rfl (lv_at hl 3 rfl) ?_
          refine lv_icmp_ne (x := a) (y := b) (tgt := 71) hx hb dX0_distanceBetween_64 (by decide) (fun c_64 => ?_) (fun c_64 => ?_)
          · skip
            refine lv_iconst (v := 1) hx hb dX0_distanceBetween_71 (by decide) ?_
            exact W.iret hx hb hr (fun t ht hW => ⟨⟨_, (), rfl, (by show 1 = sDist a b; first | (simp only [sDist, eq_true c_15, eq_false c_22, eq_false c_42, eq_true c_46, eq_false c_64, reduceIte, Bool.false_eq_true, Bool.true_eq_false]; done) | (simp [sDist, eq_true c_15, eq_false c_22, eq_false c_42, eq_true c_46, eq_false c_64]; done)), trivial⟩, hS.F ht⟩) hS.2.2 dX0_distanceBetween_72
          · skip
            refine lv_iconst (v := 0) hx hb dX0_distanceBetween_67 (by decide) ?_
            refine lv_goto (tgt := 72) hx hb dX0_distanceBetween_68 (by decide) ?_
            exact W.iret hx hb hr (fun t ht hW => ⟨⟨_, (), rfl, (by show 0 = sDist a b; first | (simp only [sDist, eq_true c_15, eq_false c_22, eq_false c_42, eq_true c_46, eq_true c_64, reduceIte, Bool.false_eq_true, Bool.true_eq_false]; done) | (simp [sDist, eq_true c_15, eq_false c_22, eq_false c_42, eq_true c_46, eq_true c_64]; done)), trivial⟩, hS.F ht⟩) hS.2.2 dX0_distanceBetween_72
        · skip
          refine lv_iload_n hx hb dX0_distanceBetween_49 rfl (lv_at hl 2 rfl) ?_
          refine ro_S (As := [.int a]) (rest := []) ⟨hx, hb, hml, hown, hts⟩ (c_X0_deckOf l a) (va_cwS 1 hts gX0_distanceBetween_X0_deckOf rfl rfl rfl (by decide +kernel) ⟨Nat.le_of_ble_eq_true rfl, Nat.le_of_ble_eq_true rfl⟩) hP hS rfl hl.1 rfl (Nat.le_of_ble_eq_true rfl) dX0_distanceBetween_50 ⟨Nat.le_of_ble_eq_true rfl, Nat.le_of_ble_eq_true rfl⟩ (fun r H locs hr9 hP hS => ?_)
          subst hr9
          refine lv_iload_n hx hb dX0_distanceBetween_53 rfl (lv_at hl 3 rfl) ?_
          refine ro_S (As := [.int b]) (rest := [.int (sDeck a)]) ⟨hx, hb, hml, hown, hts⟩ (c_X0_deckOf l b) (va_cwS 1 hts gX0_distanceBetween_X0_deckOf rfl rfl rfl (by decide +kernel) ⟨Nat.le_of_ble_eq_true rfl, Nat.le_of_ble_eq_true rfl⟩) hP hS rfl hl.1 rfl (Nat.le_of_ble_eq_true rfl) dX0_distanceBetween_54 ⟨Nat.le_of_ble_eq_true rfl, Nat.le_of_ble_eq_true rfl⟩ (fun r H locs hr9 hP hS => ?_)
          subst hr9
          refine lv_icmp_eq (x := (sDeck a)) (y := (sDeck b)) (tgt := 62) hx hb dX0_distanceBetween_57 (by decide) (fun c_57 => ?_) (fun c_57 => ?_)
          · skip
            refine lv_iload_n hx hb dX0_distanceBetween_62 rfl (lv_at hl 2 rfl) ?_
            refine lv_iload_n hx hb dX0_distanceBetween_63 rfl (lv_at hl 3 rfl) ?_
            refine lv_icmp_ne (x := a) (y := b) (tgt := 71) hx hb dX0_distanceBetween_64 (by decide) (fun c_64 => ?_) (fun c_64 => ?_)
            · skip
              refine lv_iconst (v := 1) hx hb dX0_distanceBetween_71 (by decide) ?_
              exact W.iret hx hb hr (fun t ht hW => ⟨⟨_, (), rfl, (by show 1 = sDist a b; first | (simp only [sDist, eq_true c_15, eq_false c_22, eq_false c_42, eq_false c_46, eq_true c_57, eq_false c_64, reduceIte, Bool.false_eq_true, Bool.true_eq_false]; done) | (simp [sDist, eq_true c_15, eq_false c_22, eq_false c_42, eq_false c_46, eq_true c_57, eq_false c_64]; done)), trivial⟩, hS.F ht⟩) hS.2.2 dX0_distanceBetween_72
            · skip
              refine lv_iconst (v := 0) hx hb dX0_distanceBetween_67 (by decide) ?_
              refine lv_goto (tgt := 72) hx hb dX0_distanceBetween_68 (by decide) ?_
              exact W.iret hx hb hr (fun t ht hW => ⟨⟨_, (), rfl, (by show 0 = sDist a b; first | (simp only [sDist, eq_true c_15, eq_false c_22, eq_false c_42, eq_false c_46, eq_true c_57, eq_true c_64, reduceIte, Bool.false_eq_true, Bool.true_eq_false]; done) | (simp [sDist, eq_true c_15, eq_false c_22, eq_false c_42, eq_false c_46, eq_true c_57, eq_true c_64]; done)), trivial⟩, hS.F ht⟩) hS.2.2 dX0_distanceBetween_72
          · skip
            refine lv_iconst (v := 2) hx hb dX0_distanceBetween_60 (by decide) ?_
            exact W.iret hx hb hr (fun t ht hW => ⟨⟨_, (), rfl, (by show 2 = sDist a b; first | (simp only [sDist, eq_true c_15, eq_false c_22, eq_false c_42, eq_false c_46, eq_false c_57, reduceIte, Bool.false_eq_true, Bool.true_eq_false]; done) | (simp [sDist, eq_true c_15, eq_false c_22, eq_false c_42, eq_false c_46, eq_false c_57]; done)), trivial⟩, hS.F ht⟩) hS.2.2 dX0_distanceBetween_61
    · skip
      refine lv_iconst (v := 3) hx hb dX0_distanceBetween_25 (by decide) ?_
      exact W.iret hx hb hr (fun t ht hW => ⟨⟨_, (), rfl, (by show 3 = sDist a b; first | (simp only [sDist, eq_true c_15, eq_true c_22, reduceIte, Bool.false_eq_true, Bool.true_eq_false]; done) | (simp [sDist, eq_true c_15, eq_true c_22]; done)), trivial⟩, hS.F ht⟩) hS.2.2 dX0_distanceBetween_26
  · skip
    refine lv_iconst (v := 4) hx hb dX0_distanceBetween_18 (by decide) ?_
    exact W.iret hx hb hr (fun t ht hW => ⟨⟨_, (), rfl, (by show 4 = sDist a b; first | (simp only [sDist, eq_false c_15, reduceIte, Bool.false_eq_true, Bool.true_eq_false]; done) | (simp [sDist, eq_false c_15]; done)), trivial⟩, hS.F ht⟩) hS.2.2 dX0_distanceBetween_19
set_option maxHeartbeats 4000000 in
set_option maxRecDepth 100000 in
theorem c_X0_tableDistance (l : Launch) (D : va_G) (q : Nat → Nat) (F : Nat → Nat → Int32) (n : Nat) (R : Nat → Int32) (cI cZ : ClassId) (c1 : Int32) (c2 : Int32) (h1 : okC c1) (h2 : okC c2) : Met l yX0_tableDistance wsX0_tableDistance ({ frames := 0, cells := 0, slots := 0, locals := 0 }) (va_Pc [.ref (q 9), .int c1, .int c2] (rW D (wX q F (nI n) R cI cZ) (tIZ cI cZ))) (RO (fun r => r = sTab F c1 c2)) 0 0 nA := by
  refine ro_of (own := RX0) (cc := cX0_tableDistance) (maxL := 3) (ret := (some .int)) (by decide) rfl rfl (Nat.le_of_ble_eq_true rfl) ?_
  intro p9 e9 s m9 a9 below meth c9 ls hx hb hr hml hlocks hown hts hP hK hl
  have hin : ∀ w ∈ wsX00, w ∈ wsX0_tableDistance := by decide +kernel
  have f9 := hts (.fieldLink RX0 9 "DangerousGoods" "table" "[I") (by decide +kernel)
  have hS : va_S nA s.heap s.heap [] := va_S.rf
  have hl : lv_has ls 3 [(0, .ref (q 9)), (1, .int c1), (2, .int c2)] := hl
  refine lv_iload_n hx hb dX0_tableDistance_0 rfl (lv_at hl 1 rfl) ?_
  refine lv_iconst (v := (-1)) hx hb dX0_tableDistance_1 (by decide) ?_
  refine lv_icmp_eq (x := c1) (y := (-1)) (tgt := 10) hx hb dX0_tableDistance_2 (by decide) (fun c_2 => ?_) (fun c_2 => ?_)
  · skip
    refine lv_iconst (v := 0) hx hb dX0_tableDistance_10 (by decide) ?_
    exact W.iret hx hb hr (fun t ht hW => ⟨⟨_, (), rfl, (by show 0 = sTab F c1 c2; first | (simp only [sTab, eq_true c_2, reduceIte, Bool.false_eq_true, Bool.true_eq_false]; done) | (simp [sTab, eq_true c_2]; done)), trivial⟩, hS.F ht⟩) hS.2.2 dX0_tableDistance_11
  · skip
    refine lv_iload_n hx hb dX0_tableDistance_5 rfl (lv_at hl 2 rfl) ?_
    refine lv_iconst (v := (-1)) hx hb dX0_tableDistance_6 (by decide) ?_
    refine lv_icmp_ne (x := c2) (y := (-1)) (tgt := 12) hx hb dX0_tableDistance_7 (by decide) (fun c_7 => ?_) (fun c_7 => ?_)
    · skip
      refine lv_aload_n hx hb dX0_tableDistance_12 rfl (lv_at hl 0 rfl) ?_
      refine va_get (D := D) (ci := 0) (v := .ref (q 0)) hx hb hts hin hown hK hP 0 rfl rfl 0 (by decide) f9 (fun _ h9 => h9) rfl dX0_tableDistance_13 ?_
      refine lv_iload_n hx hb dX0_tableDistance_16 rfl (lv_at hl 1 rfl) ?_
      refine lv_bipush (v := 10) hx hb dX0_tableDistance_17 (by decide) ?_
      refine lv_imul hx hb (x := c1) (y := 10) dX0_tableDistance_19 ?_
      refine lv_iload_n hx hb dX0_tableDistance_20 rfl (lv_at hl 2 rfl) ?_
      refine lv_iadd hx hb (x := (c1 * 10)) (y := c2) dX0_tableDistance_21 ?_
      refine va_iald hx hb hK hP 1 0 rfl rfl (i := ((c1 * 10) + c2)) (tab_in h1 h2 (id c_2) (id c_7)) dX0_tableDistance_22 ?_
      exact W.iret hx hb hr (fun t ht hW => ⟨⟨_, (), rfl, (by show (F 0 ((c1 * 10) + c2).toNatClampNeg) = sTab F c1 c2; first | (simp only [sTab, eq_false c_2, eq_false c_7, reduceIte, Bool.false_eq_true, Bool.true_eq_false]; done) | (simp [sTab, eq_false c_2, eq_false c_7]; done)), trivial⟩, hS.F ht⟩) hS.2.2 dX0_tableDistance_23
    · skip
      refine lv_iconst (v := 0) hx hb dX0_tableDistance_10 (by decide) ?_
      exact W.iret hx hb hr (fun t ht hW => ⟨⟨_, (), rfl, (by show 0 = sTab F c1 c2; first | (simp only [sTab, eq_false c_2, eq_true c_7, reduceIte, Bool.false_eq_true, Bool.true_eq_false]; done) | (simp [sTab, eq_false c_2, eq_true c_7]; done)), trivial⟩, hS.F ht⟩) hS.2.2 dX0_tableDistance_11
set_option maxHeartbeats 4000000 in
set_option maxRecDepth 100000 in
theorem c_X0_greatestTableDistance (l : Launch) (D : va_G) (q : Nat → Nat) (F : Nat → Nat → Int32) (n : Nat) (R : Nat → Int32) (cI cZ : ClassId) (g : Nat) (h : Nat) (hw : WF F n) (hg : g < n) (hh : h < n) : Met l yX0_greatestTableDistance wsX0_greatestTableDistance ({ frames := 1, cells := 0, slots := 0, locals := 40 }) (va_Pc [.ref (q 9), .int (nI g), .int (nI h)] (rW D (wX q F (nI n) R cI cZ) (tIZ cI cZ))) (RO (fun r => r = sGreat F g h)) 0 0 nA := by
  refine ro_of (own := RX0) (cc := cX0_greatestTableDistance) (maxL := 5) (ret := (some .int)) (by decide) rfl rfl (Nat.le_of_ble_eq_true rfl) ?_
  intro p9 e9 s m9 a9 below meth c9 ls hx hb hr hml hlocks hown hts hP hK hl
  have hin : ∀ w ∈ wsX00, w ∈ wsX0_greatestTableDistance := by decide +kernel
  have f23 := hts (.fieldLink RX0 23 "DangerousGoods" "classes" "[I") (by decide +kernel)
  have f26 := hts (.fieldLink RX0 26 "DangerousGoods" "subsidiaries" "[I") (by decide +kernel)
  have m142_l := hts (.methodLink RX0 142 Lib.Math.max.name) (by decide +kernel)
  have m142_s := hts (.static Lib.Math.max.name) (by decide +kernel)
  have m142_i := hts (.initialized "java/lang/Math") (by decide +kernel)
  have m142_c := hts (.code Lib.Math.max.name Lib.Math.max.code 2 (some .int)) (by decide +kernel)
  have hS : va_S nA s.heap s.heap [] := va_S.rf
  have hl : lv_has ls 5 [(0, .ref (q 9)), (1, .int (nI g)), (2, .int (nI h))] := hl
  refine lv_aload_n hx hb dX0_greatestTableDistance_0 rfl (lv_at hl 0 rfl) ?_
  refine lv_aload_n hx hb dX0_greatestTableDistance_1 rfl (lv_at hl 0 rfl) ?_
  refine va_get (D := D) (ci := 0) (v := .ref (q 4)) hx hb hts hin hown hK hP 0 rfl rfl 4 (by decide) f23 (fun _ h9 => h9) rfl dX0_greatestTableDistance_2 ?_
  refine lv_iload_n hx hb dX0_greatestTableDistance_5 rfl (lv_at hl 1 rfl) ?_
  refine xiald hx hb hK hP 5 0 rfl rfl (g := g) (hw.g hg) (by decide) dX0_greatestTableDistance_6 ?_
  refine lv_aload_n hx hb dX0_greatestTableDistance_7 rfl (lv_at hl 0 rfl) ?_
  refine va_get (D := D) (ci := 0) (v := .ref (q 4)) hx hb hts hin hown hK hP 0 rfl rfl 4 (by decide) f23 (fun _ h9 => h9) rfl dX0_greatestTableDistance_8 ?_
  refine lv_iload_n hx hb dX0_greatestTableDistance_11 rfl (lv_at hl 2 rfl) ?_
  refine xiald hx hb hK hP 5 0 rfl rfl (g := h) (hw.g hh) (by decide) dX0_greatestTableDistance_12 ?_
  refine ro_V (As := [.int (F 4 g), .int (F 4 h)]) (rest := []) ⟨hx, hb, hml, hown, hts⟩ (c_X0_tableDistance l D q F n R cI cZ (F 4 g) (F 4 h) (hw.c4 hg) (hw.c4 hh)) (cwV 2 hts gX0_greatestTableDistance_X0_tableDistance rfl rfl rfl (by decide +kernel) ⟨Nat.le_of_ble_eq_true rfl, Nat.le_of_ble_eq_true rfl⟩) hK hP hP (va_recv hK hP (ci := 0) (q0 := 0) rfl rfl) hS rfl hl.1 rfl (Nat.le_of_ble_eq_true rfl) dX0_greatestTableDistance_13 ⟨Nat.le_of_ble_eq_true rfl, Nat.le_of_ble_eq_true rfl⟩ (fun r H locs hr9 hP hS => ?_)
  subst hr9
  refine lv_aload_n hx hb dX0_greatestTableDistance_16 rfl (lv_at hl 0 rfl) ?_
  refine lv_aload_n hx hb dX0_greatestTableDistance_17 rfl (lv_at hl 0 rfl) ?_
  refine va_get (D := D) (ci := 0) (v := .ref (q 4)) hx hb hts hin hown hK hP 0 rfl rfl 4 (by decide) f23 (fun _ h9 => h9) rfl dX0_greatestTableDistance_18 ?_
  refine lv_iload_n hx hb dX0_greatestTableDistance_21 rfl (lv_at hl 1 rfl) ?_
  refine xiald hx hb hK hP 5 0 rfl rfl (g := g) (hw.g hg) (by decide) dX0_greatestTableDistance_22 ?_
  refine lv_aload_n hx hb dX0_greatestTableDistance_23 rfl (lv_at hl 0 rfl) ?_
  refine va_get (D := D) (ci := 0) (v := .ref (q 5)) hx hb hts hin hown hK hP 0 rfl rfl 5 (by decide) f26 (fun _ h9 => h9) rfl dX0_greatestTableDistance_24 ?_
  refine lv_iload_n hx hb dX0_greatestTableDistance_27 rfl (lv_at hl 2 rfl) ?_
  refine xiald hx hb hK hP 6 0 rfl rfl (g := h) (hw.g hh) (by decide) dX0_greatestTableDistance_28 ?_
  refine ro_V (As := [.int (F 4 g), .int (F 5 h)]) (rest := [.int (sTab F (F 4 g) (F 4 h))]) ⟨hx, hb, hml, hown, hts⟩ (c_X0_tableDistance l D q F n R cI cZ (F 4 g) (F 5 h) (hw.c4 hg) (hw.c5 hh)) (cwV 2 hts gX0_greatestTableDistance_X0_tableDistance rfl rfl rfl (by decide +kernel) ⟨Nat.le_of_ble_eq_true rfl, Nat.le_of_ble_eq_true rfl⟩) hK hP hP (va_recv hK hP (ci := 0) (q0 := 0) rfl rfl) hS rfl hl.1 rfl (Nat.le_of_ble_eq_true rfl) dX0_greatestTableDistance_29 ⟨Nat.le_of_ble_eq_true rfl, Nat.le_of_ble_eq_true rfl⟩ (fun r H locs hr9 hP hS => ?_)
  subst hr9
  refine va_mmax hx hb (hml.trans hl.1.symm) hown m142_l m142_s m142_i m142_c (Nat.le_of_ble_eq_true rfl) (Nat.le_of_ble_eq_true rfl) (Nat.zero_le _) (Nat.zero_le _) dX0_greatestTableDistance_32 ?_
  refine lv_istore_n (lv' := [(3, .int (iMax (sTab F (F 4 g) (F 4 h)) (sTab F (F 4 g) (F 5 h)))), (0, .ref (q 9)), (1, .int (nI g)), (2, .int (nI h))]) hx hb dX0_greatestTableDistance_35 rfl hl (by decide) rfl (fun ls hl => ?_)
  refine lv_aload_n hx hb dX0_greatestTableDistance_36 rfl (lv_at hl 1 rfl) ?_
  refine lv_aload_n hx hb dX0_greatestTableDistance_37 rfl (lv_at hl 1 rfl) ?_
  refine va_get (D := D) (ci := 0) (v := .ref (q 5)) hx hb hts hin hown hK hP 0 rfl rfl 5 (by decide) f26 (fun _ h9 => h9) rfl dX0_greatestTableDistance_38 ?_
  refine lv_iload_n hx hb dX0_greatestTableDistance_41 rfl (lv_at hl 2 rfl) ?_
  refine xiald hx hb hK hP 6 0 rfl rfl (g := g) (hw.g hg) (by decide) dX0_greatestTableDistance_42 ?_
  refine lv_aload_n hx hb dX0_greatestTableDistance_43 rfl (lv_at hl 1 rfl) ?_
  refine va_get (D := D) (ci := 0) (v := .ref (q 4)) hx hb hts hin hown hK hP 0 rfl rfl 4 (by decide) f23 (fun _ h9 => h9) rfl dX0_greatestTableDistance_44 ?_
  refine lv_iload_n hx hb dX0_greatestTableDistance_47 rfl (lv_at hl 3 rfl) ?_
  refine xiald hx hb hK hP 5 0 rfl rfl (g := h) (hw.g hh) (by decide) dX0_greatestTableDistance_48 ?_
  refine ro_V (As := [.int (F 5 g), .int (F 4 h)]) (rest := []) ⟨hx, hb, hml, hown, hts⟩ (c_X0_tableDistance l D q F n R cI cZ (F 5 g) (F 4 h) (hw.c5 hg) (hw.c4 hh)) (cwV 2 hts gX0_greatestTableDistance_X0_tableDistance rfl rfl rfl (by decide +kernel) ⟨Nat.le_of_ble_eq_true rfl, Nat.le_of_ble_eq_true rfl⟩) hK hP hP (va_recv hK hP (ci := 0) (q0 := 0) rfl rfl) hS rfl hl.1 rfl (Nat.le_of_ble_eq_true rfl) dX0_greatestTableDistance_49 ⟨Nat.le_of_ble_eq_true rfl, Nat.le_of_ble_eq_true rfl⟩ (fun r H locs hr9 hP hS => ?_)
  subst hr9
  refine lv_aload_n hx hb dX0_greatestTableDistance_52 rfl (lv_at hl 1 rfl) ?_
  refine lv_aload_n hx hb dX0_greatestTableDistance_53 rfl (lv_at hl 1 rfl) ?_
  refine va_get (D := D) (ci := 0) (v := .ref (q 5)) hx hb hts hin hown hK hP 0 rfl rfl 5 (by decide) f26 (fun _ h9 => h9) rfl dX0_greatestTableDistance_54 ?_
  refine lv_iload_n hx hb dX0_greatestTableDistance_57 rfl (lv_at hl 2 rfl) ?_
  refine xiald hx hb hK hP 6 0 rfl rfl (g := g) (hw.g hg) (by decide) dX0_greatestTableDistance_58 ?_
  refine lv_aload_n hx hb dX0_greatestTableDistance_59 rfl (lv_at hl 1 rfl) ?_
  refine va_get (D := D) (ci := 0) (v := .ref (q 5)) hx hb hts hin hown hK hP 0 rfl rfl 5 (by decide) f26 (fun _ h9 => h9) rfl dX0_greatestTableDistance_60 ?_
  refine lv_iload_n hx hb dX0_greatestTableDistance_63 rfl (lv_at hl 3 rfl) ?_
  refine xiald hx hb hK hP 6 0 rfl rfl (g := h) (hw.g hh) (by decide) dX0_greatestTableDistance_64 ?_
  refine ro_V (As := [.int (F 5 g), .int (F 5 h)]) (rest := [.int (sTab F (F 5 g) (F 4 h))]) ⟨hx, hb, hml, hown, hts⟩ (c_X0_tableDistance l D q F n R cI cZ (F 5 g) (F 5 h) (hw.c5 hg) (hw.c5 hh)) (cwV 2 hts gX0_greatestTableDistance_X0_tableDistance rfl rfl rfl (by decide +kernel) ⟨Nat.le_of_ble_eq_true rfl, Nat.le_of_ble_eq_true rfl⟩) hK hP hP (va_recv hK hP (ci := 0) (q0 := 0) rfl rfl) hS rfl hl.1 rfl (Nat.le_of_ble_eq_true rfl) dX0_greatestTableDistance_65 ⟨Nat.le_of_ble_eq_true rfl, Nat.le_of_ble_eq_true rfl⟩ (fun r H locs hr9 hP hS => ?_)
  subst hr9
  refine va_mmax hx hb (hml.trans hl.1.symm) hown m142_l m142_s m142_i m142_c (Nat.le_of_ble_eq_true rfl) (Nat.le_of_ble_eq_true rfl) (Nat.zero_le _) (Nat.zero_le _) dX0_greatestTableDistance_68 ?_
  refine lv_istore (lv' := [(4, .int (iMax (sTab F (F 5 g) (F 4 h)) (sTab F (F 5 g) (F 5 h)))), (3, .int (iMax (sTab F (F 4 g) (F 4 h)) (sTab F (F 4 g) (F 5 h)))), (0, .ref (q 9)), (1, .int (nI g)), (2, .int (nI h))]) hx hb dX0_greatestTableDistance_71 hl (by decide) rfl (fun ls hl => ?_)
  refine lv_iload_n hx hb dX0_greatestTableDistance_73 rfl (lv_at hl 1 rfl) ?_
  refine lv_iload hx hb dX0_greatestTableDistance_74 (lv_at hl 0 rfl) ?_
  refine va_mmax hx hb (hml.trans hl.1.symm) hown m142_l m142_s m142_i m142_c (Nat.le_of_ble_eq_true rfl) (Nat.le_of_ble_eq_true rfl) (Nat.zero_le _) (Nat.zero_le _) dX0_greatestTableDistance_76 ?_
  exact W.iret hx hb hr (fun t ht hW => ⟨⟨_, (), rfl, rfl, trivial⟩, hS.F ht⟩) hS.2.2 dX0_greatestTableDistance_79
set_option maxHeartbeats 4000000 in
set_option maxRecDepth 100000 in
theorem c_X0_areWithin_1 (l : Launch) (D : va_G) (q : Nat → Nat) (F : Nat → Nat → Int32) (n : Nat) (R : Nat → Int32) (cI cZ : ClassId) (g : Nat) (hw : WF F n) (hg : g < n) : Met l yX0_areWithin wsX0_areWithin ({ frames := 0, cells := 0, slots := 0, locals := 0 }) (va_Pc [.ref (q 9), .int (nI g), .ref (q 1)] (rW D (wX q F (nI n) R cI cZ) (tIZ cI cZ))) (RO (fun r => r = bi (sWithin F 1 g))) 0 0 nA := by
  refine ro_of (own := RX0) (cc := cX0_areWithin) (maxL := 5) (ret := (some .boolean)) (by decide) rfl rfl (Nat.le_of_ble_eq_true rfl) ?_
  intro p9 e9 s m9 a9 below meth c9 ls hx hb hr hml hlocks hown hts hP hK hl
  have hin : ∀ w ∈ wsX00, w ∈ wsX0_areWithin := by decide +kernel
  have f23 := hts (.fieldLink RX0 23 "DangerousGoods" "classes" "[I") (by decide +kernel)
  have f26 := hts (.fieldLink RX0 26 "DangerousGoods" "subsidiaries" "[I") (by decide +kernel)
  have f29 := hts (.fieldLink RX0 29 "DangerousGoods" "quantities" "[I") (by decide +kernel)
  have hS : va_S nA s.heap s.heap [] := va_S.rf
  have hl : lv_has ls 5 [(0, .ref (q 9)), (1, .int (nI g)), (2, .ref (q 1))] := hl
  refine lv_aload_n hx hb dX0_areWithin_0 rfl (lv_at hl 0 rfl) ?_
  refine va_get (D := D) (ci := 0) (v := .ref (q 6)) hx hb hts hin hown hK hP 0 rfl rfl 6 (by decide) f29 (fun _ h9 => h9) rfl dX0_areWithin_1 ?_
  refine lv_iload_n hx hb dX0_areWithin_4 rfl (lv_at hl 1 rfl) ?_
  refine xiald hx hb hK hP 7 0 rfl rfl (g := g) (hw.g hg) (by decide) dX0_areWithin_5 ?_
  refine lv_istore_n (lv' := [(3, .int (F 6 g)), (0, .ref (q 9)), (1, .int (nI g)), (2, .ref (q 1))]) hx hb dX0_areWithin_6 rfl hl (by decide) rfl (fun ls hl => ?_)
  refine lv_aload_n hx hb dX0_areWithin_7 rfl (lv_at hl 1 rfl) ?_
  refine va_get (D := D) (ci := 0) (v := .ref (q 5)) hx hb hts hin hown hK hP 0 rfl rfl 5 (by decide) f26 (fun _ h9 => h9) rfl dX0_areWithin_8 ?_
  refine lv_iload_n hx hb dX0_areWithin_11 rfl (lv_at hl 2 rfl) ?_
  refine xiald hx hb hK hP 6 0 rfl rfl (g := g) (hw.g hg) (by decide) dX0_areWithin_12 ?_
  refine lv_istore (lv' := [(4, .int (F 5 g)), (3, .int (F 6 g)), (0, .ref (q 9)), (1, .int (nI g)), (2, .ref (q 1))]) hx hb dX0_areWithin_13 hl (by decide) rfl (fun ls hl => ?_)
  refine lv_iload_n hx hb dX0_areWithin_15 rfl (lv_at hl 1 rfl) ?_
  refine lv_aload_n hx hb dX0_areWithin_16 rfl (lv_at hl 4 rfl) ?_
  refine lv_aload_n hx hb dX0_areWithin_17 rfl (lv_at hl 2 rfl) ?_
  refine va_get (D := D) (ci := 0) (v := .ref (q 4)) hx hb hts hin hown hK hP 0 rfl rfl 4 (by decide) f23 (fun _ h9 => h9) rfl dX0_areWithin_18 ?_
  refine lv_iload_n hx hb dX0_areWithin_21 rfl (lv_at hl 3 rfl) ?_
  refine xiald hx hb hK hP 5 0 rfl rfl (g := g) (hw.g hg) (by decide) dX0_areWithin_22 ?_
  refine va_iald hx hb hK hP 2 0 rfl rfl (i := (F 4 g)) ((hw.c4 hg).in (hw.c4n hg)) dX0_areWithin_23 ?_
  refine lv_icmp_gt (x := (F 6 g)) (y := (F 1 (F 4 g).toNatClampNeg)) (tgt := 45) hx hb dX0_areWithin_24 (by decide) (fun c_24 => ?_) (fun c_24 => ?_)
  · skip
    refine lv_iconst (v := 0) hx hb dX0_areWithin_45 (by decide) ?_
    exact W.zret hx hb hr zn0 (fun t ht hW => ⟨⟨_, (), rfl, (by show 0 = bi (sWithin F 1 g); first | (simp only [bi, sWithin, eq_true c_24, reduceIte, Bool.false_eq_true, Bool.true_eq_false]; done) | (simp [bi, sWithin, eq_true c_24]; done)), trivial⟩, hS.F ht⟩) hS.2.2 dX0_areWithin_46
  · skip
    refine lv_iload hx hb dX0_areWithin_27 (lv_at hl 0 rfl) ?_
    refine lv_iconst (v := (-1)) hx hb dX0_areWithin_29 (by decide) ?_
    refine lv_icmp_eq (x := (F 5 g)) (y := (-1)) (tgt := 41) hx hb dX0_areWithin_30 (by decide) (fun c_30 => ?_) (fun c_30 => ?_)
    · skip
      refine lv_iconst (v := 1) hx hb dX0_areWithin_41 (by decide) ?_
      refine lv_goto (tgt := 46) hx hb dX0_areWithin_42 (by decide) ?_
      exact W.zret hx hb hr zn1 (fun t ht hW => ⟨⟨_, (), rfl, (by show 1 = bi (sWithin F 1 g); first | (simp only [bi, sWithin, eq_false c_24, eq_true c_30, reduceIte, Bool.false_eq_true, Bool.true_eq_false]; done) | (simp [bi, sWithin, eq_false c_24, eq_true c_30]; done)), trivial⟩, hS.F ht⟩) hS.2.2 dX0_areWithin_46
    · skip
      refine lv_iload_n hx hb dX0_areWithin_33 rfl (lv_at hl 1 rfl) ?_
      refine lv_aload_n hx hb dX0_areWithin_34 rfl (lv_at hl 4 rfl) ?_
      refine lv_iload hx hb dX0_areWithin_35 (lv_at hl 0 rfl) ?_
      refine va_iald hx hb hK hP 2 0 rfl rfl (i := (F 5 g)) ((hw.c5 hg).in c_30) dX0_areWithin_37 ?_
      refine lv_icmp_gt (x := (F 6 g)) (y := (F 1 (F 5 g).toNatClampNeg)) (tgt := 45) hx hb dX0_areWithin_38 (by decide) (fun c_38 => ?_) (fun c_38 => ?_)
      · skip
        refine lv_iconst (v := 0) hx hb dX0_areWithin_45 (by decide) ?_
        exact W.zret hx hb hr zn0 (fun t ht hW => ⟨⟨_, (), rfl, (by show 0 = bi (sWithin F 1 g); first | (simp only [bi, sWithin, eq_false c_24, eq_false c_30, eq_true c_38, reduceIte, Bool.false_eq_true, Bool.true_eq_false]; done) | (simp [bi, sWithin, eq_false c_24, eq_false c_30, eq_true c_38]; done)), trivial⟩, hS.F ht⟩) hS.2.2 dX0_areWithin_46
      · skip
        refine lv_iconst (v := 1) hx hb dX0_areWithin_41 (by decide) ?_
        refine lv_goto (tgt := 46) hx hb dX0_areWithin_42 (by decide) ?_
        exact W.zret hx hb hr zn1 (fun t ht hW => ⟨⟨_, (), rfl, (by show 1 = bi (sWithin F 1 g); first | (simp only [bi, sWithin, eq_false c_24, eq_false c_30, eq_false c_38, reduceIte, Bool.false_eq_true, Bool.true_eq_false]; done) | (simp [bi, sWithin, eq_false c_24, eq_false c_30, eq_false c_38]; done)), trivial⟩, hS.F ht⟩) hS.2.2 dX0_areWithin_46
set_option maxHeartbeats 4000000 in
set_option maxRecDepth 100000 in
theorem c_X0_areWithin_2 (l : Launch) (D : va_G) (q : Nat → Nat) (F : Nat → Nat → Int32) (n : Nat) (R : Nat → Int32) (cI cZ : ClassId) (g : Nat) (hw : WF F n) (hg : g < n) : Met l yX0_areWithin wsX0_areWithin ({ frames := 0, cells := 0, slots := 0, locals := 0 }) (va_Pc [.ref (q 9), .int (nI g), .ref (q 2)] (rW D (wX q F (nI n) R cI cZ) (tIZ cI cZ))) (RO (fun r => r = bi (sWithin F 2 g))) 0 0 nA := by
  refine ro_of (own := RX0) (cc := cX0_areWithin) (maxL := 5) (ret := (some .boolean)) (by decide) rfl rfl (Nat.le_of_ble_eq_true rfl) ?_
  intro p9 e9 s m9 a9 below meth c9 ls hx hb hr hml hlocks hown hts hP hK hl
  have hin : ∀ w ∈ wsX00, w ∈ wsX0_areWithin := by decide +kernel
  have f23 := hts (.fieldLink RX0 23 "DangerousGoods" "classes" "[I") (by decide +kernel)
  have f26 := hts (.fieldLink RX0 26 "DangerousGoods" "subsidiaries" "[I") (by decide +kernel)
  have f29 := hts (.fieldLink RX0 29 "DangerousGoods" "quantities" "[I") (by decide +kernel)
  have hS : va_S nA s.heap s.heap [] := va_S.rf
  have hl : lv_has ls 5 [(0, .ref (q 9)), (1, .int (nI g)), (2, .ref (q 2))] := hl
  refine lv_aload_n hx hb dX0_areWithin_0 rfl (lv_at hl 0 rfl) ?_
  refine va_get (D := D) (ci := 0) (v := .ref (q 6)) hx hb hts hin hown hK hP 0 rfl rfl 6 (by decide) f29 (fun _ h9 => h9) rfl dX0_areWithin_1 ?_
  refine lv_iload_n hx hb dX0_areWithin_4 rfl (lv_at hl 1 rfl) ?_
  refine xiald hx hb hK hP 7 0 rfl rfl (g := g) (hw.g hg) (by decide) dX0_areWithin_5 ?_
  refine lv_istore_n (lv' := [(3, .int (F 6 g)), (0, .ref (q 9)), (1, .int (nI g)), (2, .ref (q 2))]) hx hb dX0_areWithin_6 rfl hl (by decide) rfl (fun ls hl => ?_)
  refine lv_aload_n hx hb dX0_areWithin_7 rfl (lv_at hl 1 rfl) ?_
  refine va_get (D := D) (ci := 0) (v := .ref (q 5)) hx hb hts hin hown hK hP 0 rfl rfl 5 (by decide) f26 (fun _ h9 => h9) rfl dX0_areWithin_8 ?_
  refine lv_iload_n hx hb dX0_areWithin_11 rfl (lv_at hl 2 rfl) ?_
  refine xiald hx hb hK hP 6 0 rfl rfl (g := g) (hw.g hg) (by decide) dX0_areWithin_12 ?_
  refine lv_istore (lv' := [(4, .int (F 5 g)), (3, .int (F 6 g)), (0, .ref (q 9)), (1, .int (nI g)), (2, .ref (q 2))]) hx hb dX0_areWithin_13 hl (by decide) rfl (fun ls hl => ?_)
  refine lv_iload_n hx hb dX0_areWithin_15 rfl (lv_at hl 1 rfl) ?_
  refine lv_aload_n hx hb dX0_areWithin_16 rfl (lv_at hl 4 rfl) ?_
  refine lv_aload_n hx hb dX0_areWithin_17 rfl (lv_at hl 2 rfl) ?_
  refine va_get (D := D) (ci := 0) (v := .ref (q 4)) hx hb hts hin hown hK hP 0 rfl rfl 4 (by decide) f23 (fun _ h9 => h9) rfl dX0_areWithin_18 ?_
  refine lv_iload_n hx hb dX0_areWithin_21 rfl (lv_at hl 3 rfl) ?_
  refine xiald hx hb hK hP 5 0 rfl rfl (g := g) (hw.g hg) (by decide) dX0_areWithin_22 ?_
  refine va_iald hx hb hK hP 3 0 rfl rfl (i := (F 4 g)) ((hw.c4 hg).in (hw.c4n hg)) dX0_areWithin_23 ?_
  refine lv_icmp_gt (x := (F 6 g)) (y := (F 2 (F 4 g).toNatClampNeg)) (tgt := 45) hx hb dX0_areWithin_24 (by decide) (fun c_24 => ?_) (fun c_24 => ?_)
  · skip
    refine lv_iconst (v := 0) hx hb dX0_areWithin_45 (by decide) ?_
    exact W.zret hx hb hr zn0 (fun t ht hW => ⟨⟨_, (), rfl, (by show 0 = bi (sWithin F 2 g); first | (simp only [bi, sWithin, eq_true c_24, reduceIte, Bool.false_eq_true, Bool.true_eq_false]; done) | (simp [bi, sWithin, eq_true c_24]; done)), trivial⟩, hS.F ht⟩) hS.2.2 dX0_areWithin_46
  · skip
    refine lv_iload hx hb dX0_areWithin_27 (lv_at hl 0 rfl) ?_
    refine lv_iconst (v := (-1)) hx hb dX0_areWithin_29 (by decide) ?_
    refine lv_icmp_eq (x := (F 5 g)) (y := (-1)) (tgt := 41) hx hb dX0_areWithin_30 (by decide) (fun c_30 => ?_) (fun c_30 => ?_)
    · skip
      refine lv_iconst (v := 1) hx hb dX0_areWithin_41 (by decide) ?_
      refine lv_goto (tgt := 46) hx hb dX0_areWithin_42 (by decide) ?_
      exact W.zret hx hb hr zn1 (fun t ht hW => ⟨⟨_, (), rfl, (by show 1 = bi (sWithin F 2 g); first | (simp only [bi, sWithin, eq_false c_24, eq_true c_30, reduceIte, Bool.false_eq_true, Bool.true_eq_false]; done) | (simp [bi, sWithin, eq_false c_24, eq_true c_30]; done)), trivial⟩, hS.F ht⟩) hS.2.2 dX0_areWithin_46
    · skip
      refine lv_iload_n hx hb dX0_areWithin_33 rfl (lv_at hl 1 rfl) ?_
      refine lv_aload_n hx hb dX0_areWithin_34 rfl (lv_at hl 4 rfl) ?_
      refine lv_iload hx hb dX0_areWithin_35 (lv_at hl 0 rfl) ?_
      refine va_iald hx hb hK hP 3 0 rfl rfl (i := (F 5 g)) ((hw.c5 hg).in c_30) dX0_areWithin_37 ?_
      refine lv_icmp_gt (x := (F 6 g)) (y := (F 2 (F 5 g).toNatClampNeg)) (tgt := 45) hx hb dX0_areWithin_38 (by decide) (fun c_38 => ?_) (fun c_38 => ?_)
      · skip
        refine lv_iconst (v := 0) hx hb dX0_areWithin_45 (by decide) ?_
        exact W.zret hx hb hr zn0 (fun t ht hW => ⟨⟨_, (), rfl, (by show 0 = bi (sWithin F 2 g); first | (simp only [bi, sWithin, eq_false c_24, eq_false c_30, eq_true c_38, reduceIte, Bool.false_eq_true, Bool.true_eq_false]; done) | (simp [bi, sWithin, eq_false c_24, eq_false c_30, eq_true c_38]; done)), trivial⟩, hS.F ht⟩) hS.2.2 dX0_areWithin_46
      · skip
        refine lv_iconst (v := 1) hx hb dX0_areWithin_41 (by decide) ?_
        refine lv_goto (tgt := 46) hx hb dX0_areWithin_42 (by decide) ?_
        exact W.zret hx hb hr zn1 (fun t ht hW => ⟨⟨_, (), rfl, (by show 1 = bi (sWithin F 2 g); first | (simp only [bi, sWithin, eq_false c_24, eq_false c_30, eq_false c_38, reduceIte, Bool.false_eq_true, Bool.true_eq_false]; done) | (simp [bi, sWithin, eq_false c_24, eq_false c_30, eq_false c_38]; done)), trivial⟩, hS.F ht⟩) hS.2.2 dX0_areWithin_46
set_option maxHeartbeats 4000000 in
set_option maxRecDepth 100000 in
theorem c_X0_areExcepted (l : Launch) (D : va_G) (q : Nat → Nat) (F : Nat → Nat → Int32) (n : Nat) (R : Nat → Int32) (cI cZ : ClassId) (g : Nat) (hw : WF F n) (hg : g < n) : Met l yX0_areExcepted wsX0_areExcepted ({ frames := 1, cells := 0, slots := 0, locals := 24 }) (va_Pc [.ref (q 9), .int (nI g)] (rW D (wX q F (nI n) R cI cZ) (tIZ cI cZ))) (RO (fun r => r = bi (sExc F g))) 0 0 nA := by
  refine ro_of (own := RX0) (cc := cX0_areExcepted) (maxL := 2) (ret := (some .boolean)) (by decide) rfl rfl (Nat.le_of_ble_eq_true rfl) ?_
  intro p9 e9 s m9 a9 below meth c9 ls hx hb hr hml hlocks hown hts hP hK hl
  have hin : ∀ w ∈ wsX00, w ∈ wsX0_areExcepted := by decide +kernel
  have f16 := hts (.fieldLink RX0 16 "DangerousGoods" "exceptedQuantities" "[I") (by decide +kernel)
  have hS : va_S nA s.heap s.heap [] := va_S.rf
  have hl : lv_has ls 2 [(0, .ref (q 9)), (1, .int (nI g))] := hl
  refine lv_aload_n hx hb dX0_areExcepted_0 rfl (lv_at hl 0 rfl) ?_
  refine lv_iload_n hx hb dX0_areExcepted_1 rfl (lv_at hl 1 rfl) ?_
  refine lv_aload_n hx hb dX0_areExcepted_2 rfl (lv_at hl 0 rfl) ?_
  refine va_get (D := D) (ci := 0) (v := .ref (q 2)) hx hb hts hin hown hK hP 0 rfl rfl 2 (by decide) f16 (fun _ h9 => h9) rfl dX0_areExcepted_3 ?_
  refine ro_V (As := [.int (nI g), .ref (q 2)]) (rest := []) ⟨hx, hb, hml, hown, hts⟩ (c_X0_areWithin_2 l D q F n R cI cZ g hw hg) (cwV 2 hts gX0_areExcepted_X0_areWithin rfl rfl rfl (by decide +kernel) ⟨Nat.le_of_ble_eq_true rfl, Nat.le_of_ble_eq_true rfl⟩) hK hP hP (va_recv hK hP (ci := 0) (q0 := 0) rfl rfl) hS rfl hl.1 rfl (Nat.le_of_ble_eq_true rfl) dX0_areExcepted_6 ⟨Nat.le_of_ble_eq_true rfl, Nat.le_of_ble_eq_true rfl⟩ (fun r H locs hr9 hP hS => ?_)
  subst hr9
  exact W.zret hx hb hr (bi_nar _) (fun t ht hW => ⟨⟨_, (), rfl, rfl, trivial⟩, hS.F ht⟩) hS.2.2 dX0_areExcepted_9
set_option maxHeartbeats 4000000 in
set_option maxRecDepth 100000 in
theorem c_X0_areLimited (l : Launch) (D : va_G) (q : Nat → Nat) (F : Nat → Nat → Int32) (n : Nat) (R : Nat → Int32) (cI cZ : ClassId) (g : Nat) (hw : WF F n) (hg : g < n) : Met l yX0_areLimited wsX0_areLimited ({ frames := 1, cells := 0, slots := 0, locals := 24 }) (va_Pc [.ref (q 9), .int (nI g)] (rW D (wX q F (nI n) R cI cZ) (tIZ cI cZ))) (RO (fun r => r = bi (sLim F g))) 0 0 nA := by
  refine ro_of (own := RX0) (cc := cX0_areLimited) (maxL := 2) (ret := (some .boolean)) (by decide) rfl rfl (Nat.le_of_ble_eq_true rfl) ?_
  intro p9 e9 s m9 a9 below meth c9 ls hx hb hr hml hlocks hown hts hP hK hl
  have hin : ∀ w ∈ wsX00, w ∈ wsX0_areLimited := by decide +kernel
  have f13 := hts (.fieldLink RX0 13 "DangerousGoods" "limitedQuantities" "[I") (by decide +kernel)
  have f16 := hts (.fieldLink RX0 16 "DangerousGoods" "exceptedQuantities" "[I") (by decide +kernel)
  have hS : va_S nA s.heap s.heap [] := va_S.rf
  have hl : lv_has ls 2 [(0, .ref (q 9)), (1, .int (nI g))] := hl
  refine lv_aload_n hx hb dX0_areLimited_0 rfl (lv_at hl 0 rfl) ?_
  refine lv_iload_n hx hb dX0_areLimited_1 rfl (lv_at hl 1 rfl) ?_
  refine lv_aload_n hx hb dX0_areLimited_2 rfl (lv_at hl 0 rfl) ?_
  refine va_get (D := D) (ci := 0) (v := .ref (q 2)) hx hb hts hin hown hK hP 0 rfl rfl 2 (by decide) f16 (fun _ h9 => h9) rfl dX0_areLimited_3 ?_
  refine ro_V (As := [.int (nI g), .ref (q 2)]) (rest := []) ⟨hx, hb, hml, hown, hts⟩ (c_X0_areWithin_2 l D q F n R cI cZ g hw hg) (cwV 2 hts gX0_areLimited_X0_areWithin rfl rfl rfl (by decide +kernel) ⟨Nat.le_of_ble_eq_true rfl, Nat.le_of_ble_eq_true rfl⟩) hK hP hP (va_recv hK hP (ci := 0) (q0 := 0) rfl rfl) hS rfl hl.1 rfl (Nat.le_of_ble_eq_true rfl) dX0_areLimited_6 ⟨Nat.le_of_ble_eq_true rfl, Nat.le_of_ble_eq_true rfl⟩ (fun r H locs hr9 hP hS => ?_)
  subst hr9
  refine lv_if_ne (x := (bi (sWithin F 2 g))) (tgt := 28) hx hb dX0_areLimited_9 (by decide) (fun c_9 => ?_) (fun c_9 => ?_)
  · have c_9 := bi_n0.mp c_9
    refine lv_iconst (v := 0) hx hb dX0_areLimited_28 (by decide) ?_
    exact W.zret hx hb hr zn0 (fun t ht hW => ⟨⟨_, (), rfl, (by show 0 = bi (sLim F g); first | (simp only [bi, sLim, c_9, reduceIte, Bool.false_eq_true, Bool.true_eq_false]; done) | (simp [bi, sLim, c_9]; done)), trivial⟩, hS.F ht⟩) hS.2.2 dX0_areLimited_29
  · have c_9 := bi_e0.mp c_9
    refine lv_aload_n hx hb dX0_areLimited_12 rfl (lv_at hl 0 rfl) ?_
    refine lv_iload_n hx hb dX0_areLimited_13 rfl (lv_at hl 1 rfl) ?_
    refine lv_aload_n hx hb dX0_areLimited_14 rfl (lv_at hl 0 rfl) ?_
    refine va_get (D := D) (ci := 0) (v := .ref (q 1)) hx hb hts hin hown hK hP 0 rfl rfl 1 (by decide) f13 (fun _ h9 => h9) rfl dX0_areLimited_15 ?_
    refine ro_V (As := [.int (nI g), .ref (q 1)]) (rest := []) ⟨hx, hb, hml, hown, hts⟩ (c_X0_areWithin_1 l D q F n R cI cZ g hw hg) (cwV 2 hts gX0_areLimited_X0_areWithin rfl rfl rfl (by decide +kernel) ⟨Nat.le_of_ble_eq_true rfl, Nat.le_of_ble_eq_true rfl⟩) hK hP hP (va_recv hK hP (ci := 0) (q0 := 0) rfl rfl) hS rfl hl.1 rfl (Nat.le_of_ble_eq_true rfl) dX0_areLimited_18 ⟨Nat.le_of_ble_eq_true rfl, Nat.le_of_ble_eq_true rfl⟩ (fun r H locs hr9 hP hS => ?_)
    subst hr9
    refine lv_if_eq (x := (bi (sWithin F 1 g))) (tgt := 28) hx hb dX0_areLimited_21 (by decide) (fun c_21 => ?_) (fun c_21 => ?_)
    · have c_21 := bi_e0.mp c_21
      refine lv_iconst (v := 0) hx hb dX0_areLimited_28 (by decide) ?_
      exact W.zret hx hb hr zn0 (fun t ht hW => ⟨⟨_, (), rfl, (by show 0 = bi (sLim F g); first | (simp only [bi, sLim, c_9, c_21, reduceIte, Bool.false_eq_true, Bool.true_eq_false]; done) | (simp [bi, sLim, c_9, c_21]; done)), trivial⟩, hS.F ht⟩) hS.2.2 dX0_areLimited_29
    · have c_21 := bi_n0.mp c_21
      refine lv_iconst (v := 1) hx hb dX0_areLimited_24 (by decide) ?_
      refine lv_goto (tgt := 29) hx hb dX0_areLimited_25 (by decide) ?_
      exact W.zret hx hb hr zn1 (fun t ht hW => ⟨⟨_, (), rfl, (by show 1 = bi (sLim F g); first | (simp only [bi, sLim, c_9, c_21, reduceIte, Bool.false_eq_true, Bool.true_eq_false]; done) | (simp [bi, sLim, c_9, c_21]; done)), trivial⟩, hS.F ht⟩) hS.2.2 dX0_areLimited_29
set_option maxHeartbeats 4000000 in
set_option maxRecDepth 100000 in
theorem c_X0_needOf (l : Launch) (D : va_G) (q : Nat → Nat) (F : Nat → Nat → Int32) (n : Nat) (R : Nat → Int32) (cI cZ : ClassId) (g : Nat) (h : Nat) (hw : WF F n) (hg : g < n) (hh : h < n) : Met l yX0_needOf wsX0_needOf ({ frames := 2, cells := 0, slots := 0, locals := 64 }) (va_Pc [.ref (q 9), .int (nI g), .int (nI h)] (rW D (wX q F (nI n) R cI cZ) (tIZ cI cZ))) (RO (fun r => r = sNeed F g h)) 0 0 nA := by
  refine ro_of (own := RX0) (cc := cX0_needOf) (maxL := 4) (ret := (some .int)) (by decide) rfl rfl (Nat.le_of_ble_eq_true rfl) ?_
  intro p9 e9 s m9 a9 below meth c9 ls hx hb hr hml hlocks hown hts hP hK hl
  have m142_l := hts (.methodLink RX0 142 Lib.Math.max.name) (by decide +kernel)
  have m142_s := hts (.static Lib.Math.max.name) (by decide +kernel)
  have m142_i := hts (.initialized "java/lang/Math") (by decide +kernel)
  have m142_c := hts (.code Lib.Math.max.name Lib.Math.max.code 2 (some .int)) (by decide +kernel)
  have hS : va_S nA s.heap s.heap [] := va_S.rf
  have hl : lv_has ls 4 [(0, .ref (q 9)), (1, .int (nI g)), (2, .int (nI h))] := hl
  refine lv_aload_n hx hb dX0_needOf_0 rfl (lv_at hl 0 rfl) ?_
  refine lv_iload_n hx hb dX0_needOf_1 rfl (lv_at hl 1 rfl) ?_
  refine ro_V (As := [.int (nI g)]) (rest := []) ⟨hx, hb, hml, hown, hts⟩ (c_X0_areExcepted l D q F n R cI cZ g hw hg) (cwV 1 hts gX0_needOf_X0_areExcepted rfl rfl rfl (by decide +kernel) ⟨Nat.le_of_ble_eq_true rfl, Nat.le_of_ble_eq_true rfl⟩) hK hP hP (va_recv hK hP (ci := 0) (q0 := 0) rfl rfl) hS rfl hl.1 rfl (Nat.le_of_ble_eq_true rfl) dX0_needOf_2 ⟨Nat.le_of_ble_eq_true rfl, Nat.le_of_ble_eq_true rfl⟩ (fun r H locs hr9 hP hS => ?_)
  subst hr9
  refine lv_if_ne (x := (bi (sExc F g))) (tgt := 16) hx hb dX0_needOf_5 (by decide) (fun c_5 => ?_) (fun c_5 => ?_)
  · have c_5 := bi_n0.mp c_5
    refine lv_iconst (v := 0) hx hb dX0_needOf_16 (by decide) ?_
    exact W.iret hx hb hr (fun t ht hW => ⟨⟨_, (), rfl, (by show 0 = sNeed F g h; first | (simp only [sNeed, iMax, c_5, reduceIte, Bool.false_eq_true, Bool.true_eq_false]; done) | (simp [sNeed, iMax, c_5]; done)), trivial⟩, hS.F ht⟩) hS.2.2 dX0_needOf_17
  · have c_5 := bi_e0.mp c_5
    refine lv_aload_n hx hb dX0_needOf_8 rfl (lv_at hl 0 rfl) ?_
    refine lv_iload_n hx hb dX0_needOf_9 rfl (lv_at hl 2 rfl) ?_
    refine ro_V (As := [.int (nI h)]) (rest := []) ⟨hx, hb, hml, hown, hts⟩ (c_X0_areExcepted l D q F n R cI cZ h hw hh) (cwV 1 hts gX0_needOf_X0_areExcepted rfl rfl rfl (by decide +kernel) ⟨Nat.le_of_ble_eq_true rfl, Nat.le_of_ble_eq_true rfl⟩) hK hP hP (va_recv hK hP (ci := 0) (q0 := 0) rfl rfl) hS rfl hl.1 rfl (Nat.le_of_ble_eq_true rfl) dX0_needOf_10 ⟨Nat.le_of_ble_eq_true rfl, Nat.le_of_ble_eq_true rfl⟩ (fun r H locs hr9 hP hS => ?_)
    subst hr9
    refine lv_if_eq (x := (bi (sExc F h))) (tgt := 18) hx hb dX0_needOf_13 (by decide) (fun c_13 => ?_) (fun c_13 => ?_)
    · have c_13 := bi_e0.mp c_13
      refine lv_aload_n hx hb dX0_needOf_18 rfl (lv_at hl 0 rfl) ?_
      refine lv_iload_n hx hb dX0_needOf_19 rfl (lv_at hl 1 rfl) ?_
      refine lv_iload_n hx hb dX0_needOf_20 rfl (lv_at hl 2 rfl) ?_
      refine ro_V (As := [.int (nI g), .int (nI h)]) (rest := []) ⟨hx, hb, hml, hown, hts⟩ (c_X0_greatestTableDistance l D q F n R cI cZ g h hw hg hh) (cwV 2 hts gX0_needOf_X0_greatestTableDistance rfl rfl rfl (by decide +kernel) ⟨Nat.le_of_ble_eq_true rfl, Nat.le_of_ble_eq_true rfl⟩) hK hP hP (va_recv hK hP (ci := 0) (q0 := 0) rfl rfl) hS rfl hl.1 rfl (Nat.le_of_ble_eq_true rfl) dX0_needOf_21 ⟨Nat.le_of_ble_eq_true rfl, Nat.le_of_ble_eq_true rfl⟩ (fun r H locs hr9 hP hS => ?_)
      subst hr9
      refine lv_istore_n (lv' := [(3, .int (sGreat F g h)), (0, .ref (q 9)), (1, .int (nI g)), (2, .int (nI h))]) hx hb dX0_needOf_24 rfl hl (by decide) rfl (fun ls hl => ?_)
      refine lv_aload_n hx hb dX0_needOf_25 rfl (lv_at hl 1 rfl) ?_
      refine lv_iload_n hx hb dX0_needOf_26 rfl (lv_at hl 2 rfl) ?_
      refine ro_V (As := [.int (nI g)]) (rest := []) ⟨hx, hb, hml, hown, hts⟩ (c_X0_areLimited l D q F n R cI cZ g hw hg) (cwV 1 hts gX0_needOf_X0_areLimited rfl rfl rfl (by decide +kernel) ⟨Nat.le_of_ble_eq_true rfl, Nat.le_of_ble_eq_true rfl⟩) hK hP hP (va_recv hK hP (ci := 0) (q0 := 0) rfl rfl) hS rfl hl.1 rfl (Nat.le_of_ble_eq_true rfl) dX0_needOf_27 ⟨Nat.le_of_ble_eq_true rfl, Nat.le_of_ble_eq_true rfl⟩ (fun r H locs hr9 hP hS => ?_)
      subst hr9
      refine lv_if_ne (x := (bi (sLim F g))) (tgt := 41) hx hb dX0_needOf_30 (by decide) (fun c_30 => ?_) (fun c_30 => ?_)
      · have c_30 := bi_n0.mp c_30
        refine lv_iload_n hx hb dX0_needOf_41 rfl (lv_at hl 0 rfl) ?_
        refine lv_iconst (v := 1) hx hb dX0_needOf_42 (by decide) ?_
        refine lv_isub hx hb (x := (sGreat F g h)) (y := 1) dX0_needOf_43 ?_
        refine lv_iconst (v := 0) hx hb dX0_needOf_44 (by decide) ?_
        refine va_mmax hx hb (hml.trans hl.1.symm) hown m142_l m142_s m142_i m142_c (Nat.le_of_ble_eq_true rfl) (Nat.le_of_ble_eq_true rfl) (Nat.zero_le _) (Nat.zero_le _) dX0_needOf_45 ?_
        exact W.iret hx hb hr (fun t ht hW => ⟨⟨_, (), rfl, (by show (iMax ((sGreat F g h) - 1) 0) = sNeed F g h; first | (simp only [sNeed, iMax, c_5, c_13, c_30, reduceIte, Bool.false_eq_true, Bool.true_eq_false]; done) | (simp [sNeed, iMax, c_5, c_13, c_30]; done)), trivial⟩, hS.F ht⟩) hS.2.2 dX0_needOf_48
      · have c_30 := bi_e0.mp c_30
        refine lv_aload_n hx hb dX0_needOf_33 rfl (lv_at hl 1 rfl) ?_
        refine lv_iload_n hx hb dX0_needOf_34 rfl (lv_at hl 3 rfl) ?_
        refine ro_V (As := [.int (nI h)]) (rest := []) ⟨hx, hb, hml, hown, hts⟩ (c_X0_areLimited l D q F n R cI cZ h hw hh) (cwV 1 hts gX0_needOf_X0_areLimited rfl rfl rfl (by decide +kernel) ⟨Nat.le_of_ble_eq_true rfl, Nat.le_of_ble_eq_true rfl⟩) hK hP hP (va_recv hK hP (ci := 0) (q0 := 0) rfl rfl) hS rfl hl.1 rfl (Nat.le_of_ble_eq_true rfl) dX0_needOf_35 ⟨Nat.le_of_ble_eq_true rfl, Nat.le_of_ble_eq_true rfl⟩ (fun r H locs hr9 hP hS => ?_)
        subst hr9
        refine lv_if_eq (x := (bi (sLim F h))) (tgt := 49) hx hb dX0_needOf_38 (by decide) (fun c_38 => ?_) (fun c_38 => ?_)
        · have c_38 := bi_e0.mp c_38
          refine lv_iload_n hx hb dX0_needOf_49 rfl (lv_at hl 0 rfl) ?_
          exact W.iret hx hb hr (fun t ht hW => ⟨⟨_, (), rfl, (by show (sGreat F g h) = sNeed F g h; first | (simp only [sNeed, iMax, c_5, c_13, c_30, c_38, reduceIte, Bool.false_eq_true, Bool.true_eq_false]; done) | (simp [sNeed, iMax, c_5, c_13, c_30, c_38]; done)), trivial⟩, hS.F ht⟩) hS.2.2 dX0_needOf_50
        · have c_38 := bi_n0.mp c_38
          refine lv_iload_n hx hb dX0_needOf_41 rfl (lv_at hl 0 rfl) ?_
          refine lv_iconst (v := 1) hx hb dX0_needOf_42 (by decide) ?_
          refine lv_isub hx hb (x := (sGreat F g h)) (y := 1) dX0_needOf_43 ?_
          refine lv_iconst (v := 0) hx hb dX0_needOf_44 (by decide) ?_
          refine va_mmax hx hb (hml.trans hl.1.symm) hown m142_l m142_s m142_i m142_c (Nat.le_of_ble_eq_true rfl) (Nat.le_of_ble_eq_true rfl) (Nat.zero_le _) (Nat.zero_le _) dX0_needOf_45 ?_
          exact W.iret hx hb hr (fun t ht hW => ⟨⟨_, (), rfl, (by show (iMax ((sGreat F g h) - 1) 0) = sNeed F g h; first | (simp only [sNeed, iMax, c_5, c_13, c_30, c_38, reduceIte, Bool.false_eq_true, Bool.true_eq_false]; done) | (simp [sNeed, iMax, c_5, c_13, c_30, c_38]; done)), trivial⟩, hS.F ht⟩) hS.2.2 dX0_needOf_48
    · have c_13 := bi_n0.mp c_13
      refine lv_iconst (v := 0) hx hb dX0_needOf_16 (by decide) ?_
      exact W.iret hx hb hr (fun t ht hW => ⟨⟨_, (), rfl, (by show 0 = sNeed F g h; first | (simp only [sNeed, iMax, c_5, c_13, reduceIte, Bool.false_eq_true, Bool.true_eq_false]; done) | (simp [sNeed, iMax, c_5, c_13]; done)), trivial⟩, hS.F ht⟩) hS.2.2 dX0_needOf_17
set_option maxHeartbeats 4000000 in
set_option maxRecDepth 100000 in
theorem c_X0_wouldBreach (l : Launch) (D : va_G) (q : Nat → Nat) (F : Nat → Nat → Int32) (n : Nat) (R : Nat → Int32) (cI cZ : ClassId) (g : Nat) (p : Int32) (h : Nat) (hw : WF F n) (hg : g < n) (hh : h < n) : Met l yX0_wouldBreach wsX0_wouldBreach ({ frames := 3, cells := 0, slots := 0, locals := 87 }) (va_Pc [.ref (q 9), .int (nI g), .int p, .int (nI h)] (rW D (wX q F (nI n) R cI cZ) (tIZ cI cZ))) (RO (fun r => r = bi (sBreach F g p h))) 0 0 nA := by
  refine ro_of (own := RX0) (cc := cX0_wouldBreach) (maxL := 4) (ret := (some .boolean)) (by decide) rfl rfl (Nat.le_of_ble_eq_true rfl) ?_
  intro p9 e9 s m9 a9 below meth c9 ls hx hb hr hml hlocks hown hts hP hK hl
  have hin : ∀ w ∈ wsX00, w ∈ wsX0_wouldBreach := by decide +kernel
  have f32 := hts (.fieldLink RX0 32 "DangerousGoods" "places" "[I") (by decide +kernel)
  have hS : va_S nA s.heap s.heap [] := va_S.rf
  have hl : lv_has ls 4 [(0, .ref (q 9)), (1, .int (nI g)), (2, .int p), (3, .int (nI h))] := hl
  refine lv_iload_n hx hb dX0_wouldBreach_0 rfl (lv_at hl 2 rfl) ?_
  refine lv_iconst (v := (-1)) hx hb dX0_wouldBreach_1 (by decide) ?_
  refine lv_icmp_eq (x := p) (y := (-1)) (tgt := 15) hx hb dX0_wouldBreach_2 (by decide) (fun c_2 => ?_) (fun c_2 => ?_)
  · skip
    refine lv_iconst (v := 0) hx hb dX0_wouldBreach_15 (by decide) ?_
    exact W.zret hx hb hr zn0 (fun t ht hW => ⟨⟨_, (), rfl, (by show 0 = bi (sBreach F g p h); first | (simp only [bi, sBreach, eq_true c_2, reduceIte, Bool.false_eq_true, Bool.true_eq_false]; done) | (simp [bi, sBreach, eq_true c_2]; done)), trivial⟩, hS.F ht⟩) hS.2.2 dX0_wouldBreach_16
  · skip
    refine lv_aload_n hx hb dX0_wouldBreach_5 rfl (lv_at hl 0 rfl) ?_
    refine va_get (D := D) (ci := 0) (v := .ref (q 7)) hx hb hts hin hown hK hP 0 rfl rfl 7 (by decide) f32 (fun _ h9 => h9) rfl dX0_wouldBreach_6 ?_
    refine lv_iload_n hx hb dX0_wouldBreach_9 rfl (lv_at hl 3 rfl) ?_
    refine xiald hx hb hK hP 8 0 rfl rfl (g := h) (hw.g hh) (by decide) dX0_wouldBreach_10 ?_
    refine lv_iconst (v := (-1)) hx hb dX0_wouldBreach_11 (by decide) ?_
    refine lv_icmp_ne (x := (F 7 h)) (y := (-1)) (tgt := 17) hx hb dX0_wouldBreach_12 (by decide) (fun c_12 => ?_) (fun c_12 => ?_)
    · skip
      refine lv_iload_n hx hb dX0_wouldBreach_17 rfl (lv_at hl 2 rfl) ?_
      refine lv_aload_n hx hb dX0_wouldBreach_18 rfl (lv_at hl 0 rfl) ?_
      refine va_get (D := D) (ci := 0) (v := .ref (q 7)) hx hb hts hin hown hK hP 0 rfl rfl 7 (by decide) f32 (fun _ h9 => h9) rfl dX0_wouldBreach_19 ?_
      refine lv_iload_n hx hb dX0_wouldBreach_22 rfl (lv_at hl 3 rfl) ?_
      refine xiald hx hb hK hP 8 0 rfl rfl (g := h) (hw.g hh) (by decide) dX0_wouldBreach_23 ?_
      refine ro_S (As := [.int p, .int (F 7 h)]) (rest := []) ⟨hx, hb, hml, hown, hts⟩ (c_X0_distanceBetween l p (F 7 h)) (va_cwS 2 hts gX0_wouldBreach_X0_distanceBetween rfl rfl rfl (by decide +kernel) ⟨Nat.le_of_ble_eq_true rfl, Nat.le_of_ble_eq_true rfl⟩) hP hS rfl hl.1 rfl (Nat.le_of_ble_eq_true rfl) dX0_wouldBreach_24 ⟨Nat.le_of_ble_eq_true rfl, Nat.le_of_ble_eq_true rfl⟩ (fun r H locs hr9 hP hS => ?_)
      subst hr9
      refine lv_aload_n hx hb dX0_wouldBreach_27 rfl (lv_at hl 0 rfl) ?_
      refine lv_iload_n hx hb dX0_wouldBreach_28 rfl (lv_at hl 1 rfl) ?_
      refine lv_iload_n hx hb dX0_wouldBreach_29 rfl (lv_at hl 3 rfl) ?_
      refine ro_V (As := [.int (nI g), .int (nI h)]) (rest := [.int (sDist p (F 7 h))]) ⟨hx, hb, hml, hown, hts⟩ (c_X0_needOf l D q F n R cI cZ g h hw hg hh) (cwV 2 hts gX0_wouldBreach_X0_needOf rfl rfl rfl (by decide +kernel) ⟨Nat.le_of_ble_eq_true rfl, Nat.le_of_ble_eq_true rfl⟩) hK hP hP (va_recv hK hP (ci := 0) (q0 := 0) rfl rfl) hS rfl hl.1 rfl (Nat.le_of_ble_eq_true rfl) dX0_wouldBreach_30 ⟨Nat.le_of_ble_eq_true rfl, Nat.le_of_ble_eq_true rfl⟩ (fun r H locs hr9 hP hS => ?_)
      subst hr9
      refine lv_icmp_ge (x := (sDist p (F 7 h))) (y := (sNeed F g h)) (tgt := 40) hx hb dX0_wouldBreach_33 (by decide) (fun c_33 => ?_) (fun c_33 => ?_)
      · skip
        refine lv_iconst (v := 0) hx hb dX0_wouldBreach_40 (by decide) ?_
        exact W.zret hx hb hr zn0 (fun t ht hW => ⟨⟨_, (), rfl, (by show 0 = bi (sBreach F g p h); first | (simp only [bi, sBreach, eq_false c_2, eq_false c_12, eq_true c_33, reduceIte, Bool.false_eq_true, Bool.true_eq_false]; done) | (simp [bi, sBreach, eq_false c_2, eq_false c_12, eq_true c_33]; done)), trivial⟩, hS.F ht⟩) hS.2.2 dX0_wouldBreach_41
      · skip
        refine lv_iconst (v := 1) hx hb dX0_wouldBreach_36 (by decide) ?_
        refine lv_goto (tgt := 41) hx hb dX0_wouldBreach_37 (by decide) ?_
        exact W.zret hx hb hr zn1 (fun t ht hW => ⟨⟨_, (), rfl, (by show 1 = bi (sBreach F g p h); first | (simp only [bi, sBreach, eq_false c_2, eq_false c_12, eq_false c_33, reduceIte, Bool.false_eq_true, Bool.true_eq_false]; done) | (simp [bi, sBreach, eq_false c_2, eq_false c_12, eq_false c_33]; done)), trivial⟩, hS.F ht⟩) hS.2.2 dX0_wouldBreach_41
    · skip
      refine lv_iconst (v := 0) hx hb dX0_wouldBreach_15 (by decide) ?_
      exact W.zret hx hb hr zn0 (fun t ht hW => ⟨⟨_, (), rfl, (by show 0 = bi (sBreach F g p h); first | (simp only [bi, sBreach, eq_false c_2, eq_true c_12, reduceIte, Bool.false_eq_true, Bool.true_eq_false]; done) | (simp [bi, sBreach, eq_false c_2, eq_true c_12]; done)), trivial⟩, hS.F ht⟩) hS.2.2 dX0_wouldBreach_16
set_option maxHeartbeats 4000000 in
set_option maxRecDepth 100000 in
theorem c_X0_isBarredFrom (l : Launch) (D : va_G) (q : Nat → Nat) (F : Nat → Nat → Int32) (n : Nat) (R : Nat → Int32) (cI cZ : ClassId) (c1 : Int32) (d : Int32) (h1 : okC c1) (hd : d = 0 ∨ d = 1) : Met l yX0_isBarredFrom wsX0_isBarredFrom ({ frames := 0, cells := 0, slots := 0, locals := 0 }) (va_Pc [.ref (q 9), .int c1, .int d] (rW D (wX q F (nI n) R cI cZ) (tIZ cI cZ))) (RO (fun r => r = bi (sBarred F c1 d))) 0 0 nA := by
  refine ro_of (own := RX0) (cc := cX0_isBarredFrom) (maxL := 3) (ret := (some .boolean)) (by decide) rfl rfl (Nat.le_of_ble_eq_true rfl) ?_
  intro p9 e9 s m9 a9 below meth c9 ls hx hb hr hml hlocks hown hts hP hK hl
  have hin : ∀ w ∈ wsX00, w ∈ wsX0_isBarredFrom := by decide +kernel
  have f19 := hts (.fieldLink RX0 19 "DangerousGoods" "barred" "[Z") (by decide +kernel)
  have hS : va_S nA s.heap s.heap [] := va_S.rf
  have hl : lv_has ls 3 [(0, .ref (q 9)), (1, .int c1), (2, .int d)] := hl
  refine lv_iload_n hx hb dX0_isBarredFrom_0 rfl (lv_at hl 1 rfl) ?_
  refine lv_iconst (v := (-1)) hx hb dX0_isBarredFrom_1 (by decide) ?_
  refine lv_icmp_eq (x := c1) (y := (-1)) (tgt := 22) hx hb dX0_isBarredFrom_2 (by decide) (fun c_2 => ?_) (fun c_2 => ?_)
  · skip
    refine lv_iconst (v := 0) hx hb dX0_isBarredFrom_22 (by decide) ?_
    exact W.zret hx hb hr zn0 (fun t ht hW => ⟨⟨_, (), rfl, (by show 0 = bi (sBarred F c1 d); first | (simp only [bi, sBarred, eq_true c_2, reduceIte, Bool.false_eq_true, Bool.true_eq_false]; done) | (simp [bi, sBarred, eq_true c_2]; done)), trivial⟩, hS.F ht⟩) hS.2.2 dX0_isBarredFrom_23
  · skip
    refine lv_aload_n hx hb dX0_isBarredFrom_5 rfl (lv_at hl 0 rfl) ?_
    refine va_get (D := D) (ci := 0) (v := .ref (q 3)) hx hb hts hin hown hK hP 0 rfl rfl 3 (by decide) f19 (fun _ h9 => h9) rfl dX0_isBarredFrom_6 ?_
    refine lv_iload_n hx hb dX0_isBarredFrom_9 rfl (lv_at hl 1 rfl) ?_
    refine lv_iconst (v := 2) hx hb dX0_isBarredFrom_10 (by decide) ?_
    refine lv_imul hx hb (x := c1) (y := 2) dX0_isBarredFrom_11 ?_
    refine lv_iload_n hx hb dX0_isBarredFrom_12 rfl (lv_at hl 2 rfl) ?_
    refine lv_iadd hx hb (x := (c1 * 2)) (y := d) dX0_isBarredFrom_13 ?_
    refine va_zald hx hb hK hP 4 1 rfl rfl (i := ((c1 * 2) + d)) (bar_in h1 c_2 hd) dX0_isBarredFrom_14 ?_
    refine lv_if_eq (x := (F 3 ((c1 * 2) + d).toNatClampNeg)) (tgt := 22) hx hb dX0_isBarredFrom_15 (by decide) (fun c_15 => ?_) (fun c_15 => ?_)
    · skip
      refine lv_iconst (v := 0) hx hb dX0_isBarredFrom_22 (by decide) ?_
      exact W.zret hx hb hr zn0 (fun t ht hW => ⟨⟨_, (), rfl, (by show 0 = bi (sBarred F c1 d); first | (simp only [bi, sBarred, eq_false c_2, eq_true c_15, reduceIte, Bool.false_eq_true, Bool.true_eq_false]; done) | (simp [bi, sBarred, eq_false c_2, eq_true c_15]; done)), trivial⟩, hS.F ht⟩) hS.2.2 dX0_isBarredFrom_23
    · skip
      refine lv_iconst (v := 1) hx hb dX0_isBarredFrom_18 (by decide) ?_
      refine lv_goto (tgt := 23) hx hb dX0_isBarredFrom_19 (by decide) ?_
      exact W.zret hx hb hr zn1 (fun t ht hW => ⟨⟨_, (), rfl, (by show 1 = bi (sBarred F c1 d); first | (simp only [bi, sBarred, eq_false c_2, eq_false c_15, reduceIte, Bool.false_eq_true, Bool.true_eq_false]; done) | (simp [bi, sBarred, eq_false c_2, eq_false c_15]; done)), trivial⟩, hS.F ht⟩) hS.2.2 dX0_isBarredFrom_23
set_option maxHeartbeats 4000000 in
set_option maxRecDepth 100000 in
theorem c_X0_wouldBeMisplaced (l : Launch) (D : va_G) (q : Nat → Nat) (F : Nat → Nat → Int32) (n : Nat) (R : Nat → Int32) (cI cZ : ClassId) (g : Nat) (p : Int32) (hw : WF F n) (hg : g < n) (hp : okP p) : Met l yX0_wouldBeMisplaced wsX0_wouldBeMisplaced ({ frames := 2, cells := 0, slots := 0, locals := 45 }) (va_Pc [.ref (q 9), .int (nI g), .int p] (rW D (wX q F (nI n) R cI cZ) (tIZ cI cZ))) (RO (fun r => r = bi (sMis F g p))) 0 0 nA := by
  refine ro_of (own := RX0) (cc := cX0_wouldBeMisplaced) (maxL := 4) (ret := (some .boolean)) (by decide) rfl rfl (Nat.le_of_ble_eq_true rfl) ?_
  intro p9 e9 s m9 a9 below meth c9 ls hx hb hr hml hlocks hown hts hP hK hl
  have hin : ∀ w ∈ wsX00, w ∈ wsX0_wouldBeMisplaced := by decide +kernel
  have f23 := hts (.fieldLink RX0 23 "DangerousGoods" "classes" "[I") (by decide +kernel)
  have f26 := hts (.fieldLink RX0 26 "DangerousGoods" "subsidiaries" "[I") (by decide +kernel)
  have hS : va_S nA s.heap s.heap [] := va_S.rf
  have hl : lv_has ls 4 [(0, .ref (q 9)), (1, .int (nI g)), (2, .int p)] := hl
  refine lv_iload_n hx hb dX0_wouldBeMisplaced_0 rfl (lv_at hl 2 rfl) ?_
  refine lv_iconst (v := (-1)) hx hb dX0_wouldBeMisplaced_1 (by decide) ?_
  refine lv_icmp_eq (x := p) (y := (-1)) (tgt := 13) hx hb dX0_wouldBeMisplaced_2 (by decide) (fun c_2 => ?_) (fun c_2 => ?_)
  · skip
    refine lv_iconst (v := 0) hx hb dX0_wouldBeMisplaced_13 (by decide) ?_
    exact W.zret hx hb hr zn0 (fun t ht hW => ⟨⟨_, (), rfl, (by show 0 = bi (sMis F g p); first | (simp only [bi, sMis, eq_true c_2, reduceIte, Bool.false_eq_true, Bool.true_eq_false]; done) | (simp [bi, sMis, eq_true c_2]; done)), trivial⟩, hS.F ht⟩) hS.2.2 dX0_wouldBeMisplaced_14
  · skip
    refine lv_aload_n hx hb dX0_wouldBeMisplaced_5 rfl (lv_at hl 0 rfl) ?_
    refine lv_iload_n hx hb dX0_wouldBeMisplaced_6 rfl (lv_at hl 1 rfl) ?_
    refine ro_V (As := [.int (nI g)]) (rest := []) ⟨hx, hb, hml, hown, hts⟩ (c_X0_areExcepted l D q F n R cI cZ g hw hg) (cwV 1 hts gX0_wouldBeMisplaced_X0_areExcepted rfl rfl rfl (by decide +kernel) ⟨Nat.le_of_ble_eq_true rfl, Nat.le_of_ble_eq_true rfl⟩) hK hP hP (va_recv hK hP (ci := 0) (q0 := 0) rfl rfl) hS rfl hl.1 rfl (Nat.le_of_ble_eq_true rfl) dX0_wouldBeMisplaced_7 ⟨Nat.le_of_ble_eq_true rfl, Nat.le_of_ble_eq_true rfl⟩ (fun r H locs hr9 hP hS => ?_)
    subst hr9
    refine lv_if_eq (x := (bi (sExc F g))) (tgt := 15) hx hb dX0_wouldBeMisplaced_10 (by decide) (fun c_10 => ?_) (fun c_10 => ?_)
    · have c_10 := bi_e0.mp c_10
      refine lv_iload_n hx hb dX0_wouldBeMisplaced_15 rfl (lv_at hl 2 rfl) ?_
      refine ro_S (As := [.int p]) (rest := []) ⟨hx, hb, hml, hown, hts⟩ (c_X0_deckOf l p) (va_cwS 1 hts gX0_wouldBeMisplaced_X0_deckOf rfl rfl rfl (by decide +kernel) ⟨Nat.le_of_ble_eq_true rfl, Nat.le_of_ble_eq_true rfl⟩) hP hS rfl hl.1 rfl (Nat.le_of_ble_eq_true rfl) dX0_wouldBeMisplaced_16 ⟨Nat.le_of_ble_eq_true rfl, Nat.le_of_ble_eq_true rfl⟩ (fun r H locs hr9 hP hS => ?_)
      subst hr9
      refine lv_istore_n (lv' := [(3, .int (sDeck p)), (0, .ref (q 9)), (1, .int (nI g)), (2, .int p)]) hx hb dX0_wouldBeMisplaced_19 rfl hl (by decide) rfl (fun ls hl => ?_)
      refine lv_aload_n hx hb dX0_wouldBeMisplaced_20 rfl (lv_at hl 1 rfl) ?_
      refine lv_aload_n hx hb dX0_wouldBeMisplaced_21 rfl (lv_at hl 1 rfl) ?_
      refine va_get (D := D) (ci := 0) (v := .ref (q 4)) hx hb hts hin hown hK hP 0 rfl rfl 4 (by decide) f23 (fun _ h9 => h9) rfl dX0_wouldBeMisplaced_22 ?_
      refine lv_iload_n hx hb dX0_wouldBeMisplaced_25 rfl (lv_at hl 2 rfl) ?_
      refine xiald hx hb hK hP 5 0 rfl rfl (g := g) (hw.g hg) (by decide) dX0_wouldBeMisplaced_26 ?_
      refine lv_iload_n hx hb dX0_wouldBeMisplaced_27 rfl (lv_at hl 0 rfl) ?_
      refine ro_V (As := [.int (F 4 g), .int (sDeck p)]) (rest := []) ⟨hx, hb, hml, hown, hts⟩ (c_X0_isBarredFrom l D q F n R cI cZ (F 4 g) (sDeck p) (hw.c4 hg) (deck_01 hp c_2)) (cwV 2 hts gX0_wouldBeMisplaced_X0_isBarredFrom rfl rfl rfl (by decide +kernel) ⟨Nat.le_of_ble_eq_true rfl, Nat.le_of_ble_eq_true rfl⟩) hK hP hP (va_recv hK hP (ci := 0) (q0 := 0) rfl rfl) hS rfl hl.1 rfl (Nat.le_of_ble_eq_true rfl) dX0_wouldBeMisplaced_28 ⟨Nat.le_of_ble_eq_true rfl, Nat.le_of_ble_eq_true rfl⟩ (fun r H locs hr9 hP hS => ?_)
      subst hr9
      refine lv_if_ne (x := (bi (sBarred F (F 4 g) (sDeck p)))) (tgt := 48) hx hb dX0_wouldBeMisplaced_31 (by decide) (fun c_31 => ?_) (fun c_31 => ?_)
      · have c_31 := bi_n0.mp c_31
        refine lv_iconst (v := 1) hx hb dX0_wouldBeMisplaced_48 (by decide) ?_
        refine lv_goto (tgt := 53) hx hb dX0_wouldBeMisplaced_49 (by decide) ?_
        exact W.zret hx hb hr zn1 (fun t ht hW => ⟨⟨_, (), rfl, (by show 1 = bi (sMis F g p); first | (simp only [bi, sMis, eq_false c_2, c_10, c_31, reduceIte, Bool.false_eq_true, Bool.true_eq_false]; done) | (simp [bi, sMis, eq_false c_2, c_10, c_31]; done)), trivial⟩, hS.F ht⟩) hS.2.2 dX0_wouldBeMisplaced_53
      · have c_31 := bi_e0.mp c_31
        refine lv_aload_n hx hb dX0_wouldBeMisplaced_34 rfl (lv_at hl 1 rfl) ?_
        refine lv_aload_n hx hb dX0_wouldBeMisplaced_35 rfl (lv_at hl 1 rfl) ?_
        refine va_get (D := D) (ci := 0) (v := .ref (q 5)) hx hb hts hin hown hK hP 0 rfl rfl 5 (by decide) f26 (fun _ h9 => h9) rfl dX0_wouldBeMisplaced_36 ?_
        refine lv_iload_n hx hb dX0_wouldBeMisplaced_39 rfl (lv_at hl 2 rfl) ?_
        refine xiald hx hb hK hP 6 0 rfl rfl (g := g) (hw.g hg) (by decide) dX0_wouldBeMisplaced_40 ?_
        refine lv_iload_n hx hb dX0_wouldBeMisplaced_41 rfl (lv_at hl 0 rfl) ?_
        refine ro_V (As := [.int (F 5 g), .int (sDeck p)]) (rest := []) ⟨hx, hb, hml, hown, hts⟩ (c_X0_isBarredFrom l D q F n R cI cZ (F 5 g) (sDeck p) (hw.c5 hg) (deck_01 hp c_2)) (cwV 2 hts gX0_wouldBeMisplaced_X0_isBarredFrom rfl rfl rfl (by decide +kernel) ⟨Nat.le_of_ble_eq_true rfl, Nat.le_of_ble_eq_true rfl⟩) hK hP hP (va_recv hK hP (ci := 0) (q0 := 0) rfl rfl) hS rfl hl.1 rfl (Nat.le_of_ble_eq_true rfl) dX0_wouldBeMisplaced_42 ⟨Nat.le_of_ble_eq_true rfl, Nat.le_of_ble_eq_true rfl⟩ (fun r H locs hr9 hP hS => ?_)
        subst hr9
        refine lv_if_eq (x := (bi (sBarred F (F 5 g) (sDeck p)))) (tgt := 52) hx hb dX0_wouldBeMisplaced_45 (by decide) (fun c_45 => ?_) (fun c_45 => ?_)
        · have c_45 := bi_e0.mp c_45
          refine lv_iconst (v := 0) hx hb dX0_wouldBeMisplaced_52 (by decide) ?_
          exact W.zret hx hb hr zn0 (fun t ht hW => ⟨⟨_, (), rfl, (by show 0 = bi (sMis F g p); first | (simp only [bi, sMis, eq_false c_2, c_10, c_31, c_45, reduceIte, Bool.false_eq_true, Bool.true_eq_false]; done) | (simp [bi, sMis, eq_false c_2, c_10, c_31, c_45]; done)), trivial⟩, hS.F ht⟩) hS.2.2 dX0_wouldBeMisplaced_53
        · have c_45 := bi_n0.mp c_45
          refine lv_iconst (v := 1) hx hb dX0_wouldBeMisplaced_48 (by decide) ?_
          refine lv_goto (tgt := 53) hx hb dX0_wouldBeMisplaced_49 (by decide) ?_
          exact W.zret hx hb hr zn1 (fun t ht hW => ⟨⟨_, (), rfl, (by show 1 = bi (sMis F g p); first | (simp only [bi, sMis, eq_false c_2, c_10, c_31, c_45, reduceIte, Bool.false_eq_true, Bool.true_eq_false]; done) | (simp [bi, sMis, eq_false c_2, c_10, c_31, c_45]; done)), trivial⟩, hS.F ht⟩) hS.2.2 dX0_wouldBeMisplaced_53
    · have c_10 := bi_n0.mp c_10
      refine lv_iconst (v := 0) hx hb dX0_wouldBeMisplaced_13 (by decide) ?_
      exact W.zret hx hb hr zn0 (fun t ht hW => ⟨⟨_, (), rfl, (by show 0 = bi (sMis F g p); first | (simp only [bi, sMis, eq_false c_2, c_10, reduceIte, Bool.false_eq_true, Bool.true_eq_false]; done) | (simp [bi, sMis, eq_false c_2, c_10]; done)), trivial⟩, hS.F ht⟩) hS.2.2 dX0_wouldBeMisplaced_14
end
section
/-! the reference: its reading methods -/
set_option maxHeartbeats 4000000 in
set_option maxRecDepth 100000 in
theorem c_X1_isIn (l : Launch) (v : Int32) (lo : Int32) (hi : Int32) : Met l yX1_isIn wsX1_isIn ({ frames := 0, cells := 0, slots := 0, locals := 0 }) (va_Pc [.int v, .int lo, .int hi] (fun _ => True)) (RO (fun r => r = bi (mIn v lo hi))) 0 0 nA := by
  refine ro_ofS (own := RX1) (cc := cX1_isIn) (maxL := 3) (ret := (some .boolean)) (by decide) rfl rfl (Nat.le_of_ble_eq_true rfl) ?_
  intro p9 e9 s m9 a9 below meth c9 ls hx hb hr hml hlocks hown hts hP hl
  have hS : va_S nA s.heap s.heap [] := va_S.rf
  have hl : lv_has ls 3 [(0, .int v), (1, .int lo), (2, .int hi)] := hl
  refine lv_iload_n hx hb dX1_isIn_0 rfl (lv_at hl 0 rfl) ?_
  refine lv_iload_n hx hb dX1_isIn_1 rfl (lv_at hl 1 rfl) ?_
  refine lv_icmp_lt (x := v) (y := lo) (tgt := 14) hx hb dX1_isIn_2 (by decide) (fun c_2 => ?_) (fun c_2 => ?_)
  · skip
    refine lv_iconst (v := 0) hx hb dX1_isIn_14 (by decide) ?_
    exact W.zret hx hb hr zn0 (fun t ht hW => ⟨⟨_, (), rfl, (by show 0 = bi (mIn v lo hi); first | (simp only [bi, mIn, eq_true c_2, reduceIte, Bool.false_eq_true, Bool.true_eq_false]; done) | (simp [bi, mIn, eq_true c_2]; done)), trivial⟩, hS.F ht⟩) hS.2.2 dX1_isIn_15
  · skip
    refine lv_iload_n hx hb dX1_isIn_5 rfl (lv_at hl 0 rfl) ?_
    refine lv_iload_n hx hb dX1_isIn_6 rfl (lv_at hl 2 rfl) ?_
    refine lv_icmp_gt (x := v) (y := hi) (tgt := 14) hx hb dX1_isIn_7 (by decide) (fun c_7 => ?_) (fun c_7 => ?_)
    · skip
      refine lv_iconst (v := 0) hx hb dX1_isIn_14 (by decide) ?_
      exact W.zret hx hb hr zn0 (fun t ht hW => ⟨⟨_, (), rfl, (by show 0 = bi (mIn v lo hi); first | (simp only [bi, mIn, eq_false c_2, eq_true c_7, reduceIte, Bool.false_eq_true, Bool.true_eq_false]; done) | (simp [bi, mIn, eq_false c_2, eq_true c_7]; done)), trivial⟩, hS.F ht⟩) hS.2.2 dX1_isIn_15
    · skip
      refine lv_iconst (v := 1) hx hb dX1_isIn_10 (by decide) ?_
      refine lv_goto (tgt := 15) hx hb dX1_isIn_11 (by decide) ?_
      exact W.zret hx hb hr zn1 (fun t ht hW => ⟨⟨_, (), rfl, (by show 1 = bi (mIn v lo hi); first | (simp only [bi, mIn, eq_false c_2, eq_false c_7, reduceIte, Bool.false_eq_true, Bool.true_eq_false]; done) | (simp [bi, mIn, eq_false c_2, eq_false c_7]; done)), trivial⟩, hS.F ht⟩) hS.2.2 dX1_isIn_15
set_option maxHeartbeats 4000000 in
set_option maxRecDepth 100000 in
theorem c_X1_isClass (l : Launch) (v : Int32) : Met l yX1_isClass wsX1_isClass ({ frames := 1, cells := 0, slots := 0, locals := 22 }) (va_Pc [.int v] (fun _ => True)) (RO (fun r => r = bi (mIn v 1 9))) 0 0 nA := by
  refine ro_ofS (own := RX1) (cc := cX1_isClass) (maxL := 1) (ret := (some .boolean)) (by decide) rfl rfl (Nat.le_of_ble_eq_true rfl) ?_
  intro p9 e9 s m9 a9 below meth c9 ls hx hb hr hml hlocks hown hts hP hl
  have hS : va_S nA s.heap s.heap [] := va_S.rf
  have hl : lv_has ls 1 [(0, .int v)] := hl
  refine lv_iload_n hx hb dX1_isClass_0 rfl (lv_at hl 0 rfl) ?_
  refine lv_iconst (v := 1) hx hb dX1_isClass_1 (by decide) ?_
  refine lv_bipush (v := 9) hx hb dX1_isClass_2 (by decide) ?_
  refine ro_S (As := [.int v, .int 1, .int 9]) (rest := []) ⟨hx, hb, hml, hown, hts⟩ (c_X1_isIn l v 1 9) (va_cwS 3 hts gX1_isClass_X1_isIn rfl rfl rfl (by decide +kernel) ⟨Nat.le_of_ble_eq_true rfl, Nat.le_of_ble_eq_true rfl⟩) hP hS rfl hl.1 rfl (Nat.le_of_ble_eq_true rfl) dX1_isClass_4 ⟨Nat.le_of_ble_eq_true rfl, Nat.le_of_ble_eq_true rfl⟩ (fun r H locs hr9 hP hS => ?_)
  subst hr9
  exact W.zret hx hb hr (bi_nar _) (fun t ht hW => ⟨⟨_, (), rfl, rfl, trivial⟩, hS.F ht⟩) hS.2.2 dX1_isClass_7
set_option maxHeartbeats 4000000 in
set_option maxRecDepth 100000 in
theorem c_X1_isPlace (l : Launch) (v : Int32) : Met l yX1_isPlace wsX1_isPlace ({ frames := 1, cells := 0, slots := 0, locals := 22 }) (va_Pc [.int v] (fun _ => True)) (RO (fun r => r = bi (mIn v 0 47))) 0 0 nA := by
  refine ro_ofS (own := RX1) (cc := cX1_isPlace) (maxL := 1) (ret := (some .boolean)) (by decide) rfl rfl (Nat.le_of_ble_eq_true rfl) ?_
  intro p9 e9 s m9 a9 below meth c9 ls hx hb hr hml hlocks hown hts hP hl
  have hS : va_S nA s.heap s.heap [] := va_S.rf
  have hl : lv_has ls 1 [(0, .int v)] := hl
  refine lv_iload_n hx hb dX1_isPlace_0 rfl (lv_at hl 0 rfl) ?_
  refine lv_iconst (v := 0) hx hb dX1_isPlace_1 (by decide) ?_
  refine lv_bipush (v := 47) hx hb dX1_isPlace_2 (by decide) ?_
  refine ro_S (As := [.int v, .int 0, .int 47]) (rest := []) ⟨hx, hb, hml, hown, hts⟩ (c_X1_isIn l v 0 47) (va_cwS 3 hts gX1_isPlace_X1_isIn rfl rfl rfl (by decide +kernel) ⟨Nat.le_of_ble_eq_true rfl, Nat.le_of_ble_eq_true rfl⟩) hP hS rfl hl.1 rfl (Nat.le_of_ble_eq_true rfl) dX1_isPlace_4 ⟨Nat.le_of_ble_eq_true rfl, Nat.le_of_ble_eq_true rfl⟩ (fun r H locs hr9 hP hS => ?_)
  subst hr9
  exact W.zret hx hb hr (bi_nar _) (fun t ht hW => ⟨⟨_, (), rfl, rfl, trivial⟩, hS.F ht⟩) hS.2.2 dX1_isPlace_7
set_option maxHeartbeats 4000000 in
set_option maxRecDepth 100000 in
theorem c_X1_areGoods (l : Launch) (D : va_G) (q : Nat → Nat) (F : Nat → Nat → Int32) (n : Nat) (R : Nat → Int32) (th : Int32) (cI cZ : ClassId) (v : Int32) : Met l yX1_areGoods wsX1_areGoods ({ frames := 1, cells := 0, slots := 0, locals := 22 }) (va_Pc [.ref (q 9), .int v] (rW D (wM q F (nI n) R th cI cZ) (tIZ cI cZ))) (RO (fun r => r = bi (mIn v 0 (nI n - 1)))) 0 0 nA := by
  refine ro_of (own := RX1) (cc := cX1_areGoods) (maxL := 2) (ret := (some .boolean)) (by decide) rfl rfl (Nat.le_of_ble_eq_true rfl) ?_
  intro p9 e9 s m9 a9 below meth c9 ls hx hb hr hml hlocks hown hts hP hK hl
  have hin : ∀ w ∈ wsX10, w ∈ wsX1_areGoods := by decide +kernel
  have f46 := hts (.fieldLink RX1 46 "DangerousGoodsModel" "goods" "I") (by decide +kernel)
  have hS : va_S nA s.heap s.heap [] := va_S.rf
  have hl : lv_has ls 2 [(0, .ref (q 9)), (1, .int v)] := hl
  refine lv_iload_n hx hb dX1_areGoods_0 rfl (lv_at hl 1 rfl) ?_
  refine lv_iconst (v := 0) hx hb dX1_areGoods_1 (by decide) ?_
  refine lv_aload_n hx hb dX1_areGoods_2 rfl (lv_at hl 0 rfl) ?_
  refine va_get (D := D) (ci := 1) (v := .int (nI n)) hx hb hts hin hown hK hP 0 rfl rfl 4 (by decide) f46 (fun _ h9 => h9) rfl dX1_areGoods_3 ?_
  refine lv_iconst (v := 1) hx hb dX1_areGoods_6 (by decide) ?_
  refine lv_isub hx hb (x := (nI n)) (y := 1) dX1_areGoods_7 ?_
  refine ro_S (As := [.int v, .int 0, .int ((nI n) - 1)]) (rest := []) ⟨hx, hb, hml, hown, hts⟩ (c_X1_isIn l v 0 ((nI n) - 1)) (va_cwS 3 hts gX1_areGoods_X1_isIn rfl rfl rfl (by decide +kernel) ⟨Nat.le_of_ble_eq_true rfl, Nat.le_of_ble_eq_true rfl⟩) hP hS rfl hl.1 rfl (Nat.le_of_ble_eq_true rfl) dX1_areGoods_8 ⟨Nat.le_of_ble_eq_true rfl, Nat.le_of_ble_eq_true rfl⟩ (fun r H locs hr9 hP hS => ?_)
  subst hr9
  exact W.zret hx hb hr (bi_nar _) (fun t ht hW => ⟨⟨_, (), rfl, rfl, trivial⟩, hS.F ht⟩) hS.2.2 dX1_areGoods_11
set_option maxHeartbeats 4000000 in
set_option maxRecDepth 100000 in
theorem c_X1_apart (l : Launch) (a : Int32) (b : Int32) : Met l yX1_apart wsX1_apart ({ frames := 0, cells := 0, slots := 0, locals := 0 }) (va_Pc [.int a, .int b] (fun _ => True)) (RO (fun r => r = mApart a b)) 0 0 nA := by
  refine ro_ofS (own := RX1) (cc := cX1_apart) (maxL := 6) (ret := (some .int)) (by decide) rfl rfl (Nat.le_of_ble_eq_true rfl) ?_
  intro p9 e9 s m9 a9 below meth c9 ls hx hb hr hml hlocks hown hts hP hl
  have hS : va_S nA s.heap s.heap [] := va_S.rf
  have hl : lv_has ls 6 [(0, .int a), (1, .int b)] := hl
  refine lv_iload_n hx hb dX1_apart_0 rfl (lv_at hl 0 rfl) ?_
  refine lv_bipush (v := 12) hx hb dX1_apart_1 (by decide) ?_
  refine lv_idiv hx hb (x := a) (y := 12) dX1_apart_3 (by decide) ?_
  refine lv_iload_n hx hb dX1_apart_4 rfl (lv_at hl 1 rfl) ?_
  refine lv_bipush (v := 12) hx hb dX1_apart_5 (by decide) ?_
  refine lv_idiv hx hb (x := b) (y := 12) dX1_apart_7 (by decide) ?_
  refine lv_isub hx hb (x := (a / 12)) (y := (b / 12)) dX1_apart_8 ?_
  refine lv_istore_n (lv' := [(2, .int ((a / 12) - (b / 12))), (0, .int a), (1, .int b)]) hx hb dX1_apart_9 rfl hl (by decide) rfl (fun ls hl => ?_)
  refine lv_iload_n hx hb dX1_apart_10 rfl (lv_at hl 1 rfl) ?_
  refine lv_iconst (v := 2) hx hb dX1_apart_11 (by decide) ?_
  refine lv_idiv hx hb (x := a) (y := 2) dX1_apart_12 (by decide) ?_
  refine lv_bipush (v := 6) hx hb dX1_apart_13 (by decide) ?_
  refine lv_irem hx hb (x := (a / 2)) (y := 6) dX1_apart_15 (by decide) ?_
  refine lv_iload_n hx hb dX1_apart_16 rfl (lv_at hl 2 rfl) ?_
  refine lv_iconst (v := 2) hx hb dX1_apart_17 (by decide) ?_
  refine lv_idiv hx hb (x := b) (y := 2) dX1_apart_18 (by decide) ?_
  refine lv_bipush (v := 6) hx hb dX1_apart_19 (by decide) ?_
  refine lv_irem hx hb (x := (b / 2)) (y := 6) dX1_apart_21 (by decide) ?_
  refine lv_isub hx hb (x := ((a / 2) - (a / 2) / 6 * 6)) (y := ((b / 2) - (b / 2) / 6 * 6)) dX1_apart_22 ?_
  refine lv_istore_n (lv' := [(3, .int (((a / 2) - (a / 2) / 6 * 6) - ((b / 2) - (b / 2) / 6 * 6))), (2, .int ((a / 12) - (b / 12))), (0, .int a), (1, .int b)]) hx hb dX1_apart_23 rfl hl (by decide) rfl (fun ls hl => ?_)
  refine lv_iload_n hx hb dX1_apart_24 rfl (lv_at hl 0 rfl) ?_
  refine lv_if_ge (x := (((a / 2) - (a / 2) / 6 * 6) - ((b / 2) - (b / 2) / 6 * 6))) (tgt := 33) hx hb dX1_apart_25 (by decide) (fun c_25 => ?_) (fun c_25 => ?_)
  · skip
    refine lv_iload_n hx hb dX1_apart_33 rfl (lv_at hl 0 rfl) ?_
    refine lv_istore (lv' := [(4, .int (((a / 2) - (a / 2) / 6 * 6) - ((b / 2) - (b / 2) / 6 * 6))), (3, .int (((a / 2) - (a / 2) / 6 * 6) - ((b / 2) - (b / 2) / 6 * 6))), (2, .int ((a / 12) - (b / 12))), (0, .int a), (1, .int b)]) hx hb dX1_apart_34 hl (by decide) rfl (fun ls hl => ?_)
    refine lv_iload hx hb dX1_apart_36 (lv_at hl 0 rfl) ?_
    refine lv_iconst (v := 2) hx hb dX1_apart_38 (by decide) ?_
    refine lv_icmp_gt (x := (((a / 2) - (a / 2) / 6 * 6) - ((b / 2) - (b / 2) / 6 * 6))) (y := 2) (tgt := 56) hx hb dX1_apart_39 (by decide) (fun c_39 => ?_) (fun c_39 => ?_)
    · skip
      refine lv_iconst (v := 1) hx hb dX1_apart_56 (by decide) ?_
      refine lv_goto (tgt := 61) hx hb dX1_apart_57 (by decide) ?_
      refine lv_istore (lv' := [(5, .int 1), (4, .int (((a / 2) - (a / 2) / 6 * 6) - ((b / 2) - (b / 2) / 6 * 6))), (3, .int (((a / 2) - (a / 2) / 6 * 6) - ((b / 2) - (b / 2) / 6 * 6))), (2, .int ((a / 12) - (b / 12))), (0, .int a), (1, .int b)]) hx hb dX1_apart_61 hl (by decide) rfl (fun ls hl => ?_)
      refine lv_iload_n hx hb dX1_apart_63 rfl (lv_at hl 3 rfl) ?_
      refine lv_iconst (v := 1) hx hb dX1_apart_64 (by decide) ?_
      refine lv_icmp_gt (x := ((a / 12) - (b / 12))) (y := 1) (tgt := 73) hx hb dX1_apart_65 (by decide) (fun c_65 => ?_) (fun c_65 => ?_)
      · skip
        refine lv_iconst (v := 4) hx hb dX1_apart_73 (by decide) ?_
        refine lv_goto (tgt := 104) hx hb dX1_apart_74 (by decide) ?_
        exact W.iret hx hb hr (fun t ht hW => ⟨⟨_, (), rfl, (by show 4 = mApart a b; first | (simp only [mApart, mIsFar, mFar, mB, sDeck, eq_true c_25, eq_true c_39, eq_true c_65, reduceIte, Bool.false_eq_true, Bool.true_eq_false]; done) | (simp [mApart, mIsFar, mFar, mB, sDeck, eq_true c_25, eq_true c_39, eq_true c_65]; done)), trivial⟩, hS.F ht⟩) hS.2.2 dX1_apart_104
      · skip
        refine lv_iload_n hx hb dX1_apart_68 rfl (lv_at hl 3 rfl) ?_
        refine lv_iconst (v := (-1)) hx hb dX1_apart_69 (by decide) ?_
        refine lv_icmp_ge (x := ((a / 12) - (b / 12))) (y := (-1)) (tgt := 77) hx hb dX1_apart_70 (by decide) (fun c_70 => ?_) (fun c_70 => ?_)
        · skip
          refine lv_iload_n hx hb dX1_apart_77 rfl (lv_at hl 3 rfl) ?_
          refine lv_if_eq (x := ((a / 12) - (b / 12))) (tgt := 85) hx hb dX1_apart_78 (by decide) (fun c_78 => ?_) (fun c_78 => ?_)
          · skip
            refine lv_iload hx hb dX1_apart_85 (lv_at hl 0 rfl) ?_
            refine lv_if_eq (x := 1) (tgt := 94) hx hb dX1_apart_87 (by decide) (fun k => absurd k (by decide)) (fun _ => ?_)
            refine lv_iconst (v := 2) hx hb dX1_apart_90 (by decide) ?_
            refine lv_goto (tgt := 104) hx hb dX1_apart_91 (by decide) ?_
            exact W.iret hx hb hr (fun t ht hW => ⟨⟨_, (), rfl, (by show 2 = mApart a b; first | (simp only [mApart, mIsFar, mFar, mB, sDeck, eq_true c_25, eq_true c_39, eq_false c_65, eq_true c_70, eq_true c_78, reduceIte, Bool.false_eq_true, Bool.true_eq_false]; done) | (simp [mApart, mIsFar, mFar, mB, sDeck, eq_true c_25, eq_true c_39, eq_false c_65, eq_true c_70, eq_true c_78]; done)), trivial⟩, hS.F ht⟩) hS.2.2 dX1_apart_104
          · skip
            refine lv_iconst (v := 3) hx hb dX1_apart_81 (by decide) ?_
            refine lv_goto (tgt := 104) hx hb dX1_apart_82 (by decide) ?_
            exact W.iret hx hb hr (fun t ht hW => ⟨⟨_, (), rfl, (by show 3 = mApart a b; first | (simp only [mApart, mIsFar, mFar, mB, sDeck, eq_true c_25, eq_true c_39, eq_false c_65, eq_true c_70, eq_false c_78, reduceIte, Bool.false_eq_true, Bool.true_eq_false]; done) | (simp [mApart, mIsFar, mFar, mB, sDeck, eq_true c_25, eq_true c_39, eq_false c_65, eq_true c_70, eq_false c_78]; done)), trivial⟩, hS.F ht⟩) hS.2.2 dX1_apart_104
        · skip
          refine lv_iconst (v := 4) hx hb dX1_apart_73 (by decide) ?_
          refine lv_goto (tgt := 104) hx hb dX1_apart_74 (by decide) ?_
          exact W.iret hx hb hr (fun t ht hW => ⟨⟨_, (), rfl, (by show 4 = mApart a b; first | (simp only [mApart, mIsFar, mFar, mB, sDeck, eq_true c_25, eq_true c_39, eq_false c_65, eq_false c_70, reduceIte, Bool.false_eq_true, Bool.true_eq_false]; done) | (simp [mApart, mIsFar, mFar, mB, sDeck, eq_true c_25, eq_true c_39, eq_false c_65, eq_false c_70]; done)), trivial⟩, hS.F ht⟩) hS.2.2 dX1_apart_104
    · skip
      refine lv_iload hx hb dX1_apart_42 (lv_at hl 0 rfl) ?_
      refine lv_if_le (x := (((a / 2) - (a / 2) / 6 * 6) - ((b / 2) - (b / 2) / 6 * 6))) (tgt := 60) hx hb dX1_apart_44 (by decide) (fun c_44 => ?_) (fun c_44 => ?_)
      · skip
        refine lv_iconst (v := 0) hx hb dX1_apart_60 (by decide) ?_
        refine lv_istore (lv' := [(5, .int 0), (4, .int (((a / 2) - (a / 2) / 6 * 6) - ((b / 2) - (b / 2) / 6 * 6))), (3, .int (((a / 2) - (a / 2) / 6 * 6) - ((b / 2) - (b / 2) / 6 * 6))), (2, .int ((a / 12) - (b / 12))), (0, .int a), (1, .int b)]) hx hb dX1_apart_61 hl (by decide) rfl (fun ls hl => ?_)
        refine lv_iload_n hx hb dX1_apart_63 rfl (lv_at hl 3 rfl) ?_
        refine lv_iconst (v := 1) hx hb dX1_apart_64 (by decide) ?_
        refine lv_icmp_gt (x := ((a / 12) - (b / 12))) (y := 1) (tgt := 73) hx hb dX1_apart_65 (by decide) (fun c_65 => ?_) (fun c_65 => ?_)
        · skip
          refine lv_iconst (v := 4) hx hb dX1_apart_73 (by decide) ?_
          refine lv_goto (tgt := 104) hx hb dX1_apart_74 (by decide) ?_
          exact W.iret hx hb hr (fun t ht hW => ⟨⟨_, (), rfl, (by show 4 = mApart a b; first | (simp only [mApart, mIsFar, mFar, mB, sDeck, eq_true c_25, eq_false c_39, eq_true c_44, eq_true c_65, reduceIte, Bool.false_eq_true, Bool.true_eq_false]; done) | (simp [mApart, mIsFar, mFar, mB, sDeck, eq_true c_25, eq_false c_39, eq_true c_44, eq_true c_65]; done)), trivial⟩, hS.F ht⟩) hS.2.2 dX1_apart_104
        · skip
          refine lv_iload_n hx hb dX1_apart_68 rfl (lv_at hl 3 rfl) ?_
          refine lv_iconst (v := (-1)) hx hb dX1_apart_69 (by decide) ?_
          refine lv_icmp_ge (x := ((a / 12) - (b / 12))) (y := (-1)) (tgt := 77) hx hb dX1_apart_70 (by decide) (fun c_70 => ?_) (fun c_70 => ?_)
          · skip
            refine lv_iload_n hx hb dX1_apart_77 rfl (lv_at hl 3 rfl) ?_
            refine lv_if_eq (x := ((a / 12) - (b / 12))) (tgt := 85) hx hb dX1_apart_78 (by decide) (fun c_78 => ?_) (fun c_78 => ?_)
            · skip
              refine lv_iload hx hb dX1_apart_85 (lv_at hl 0 rfl) ?_
              refine lv_if_eq (x := 0) (tgt := 94) hx hb dX1_apart_87 (by decide) (fun _ => ?_) (fun k => absurd (by decide) k)
              refine lv_iload_n hx hb dX1_apart_94 rfl (lv_at hl 4 rfl) ?_
              refine lv_iload_n hx hb dX1_apart_95 rfl (lv_at hl 5 rfl) ?_
              refine lv_icmp_eq (x := a) (y := b) (tgt := 103) hx hb dX1_apart_96 (by decide) (fun c_96 => ?_) (fun c_96 => ?_)
              · skip
                refine lv_iconst (v := 0) hx hb dX1_apart_103 (by decide) ?_
                exact W.iret hx hb hr (fun t ht hW => ⟨⟨_, (), rfl, (by show 0 = mApart a b; first | (simp only [mApart, mIsFar, mFar, mB, sDeck, eq_true c_25, eq_false c_39, eq_true c_44, eq_false c_65, eq_true c_70, eq_true c_78, eq_true c_96, reduceIte, Bool.false_eq_true, Bool.true_eq_false]; done) | (simp [mApart, mIsFar, mFar, mB, sDeck, eq_true c_25, eq_false c_39, eq_true c_44, eq_false c_65, eq_true c_70, eq_true c_78, eq_true c_96]; done)), trivial⟩, hS.F ht⟩) hS.2.2 dX1_apart_104
              · skip
                refine lv_iconst (v := 1) hx hb dX1_apart_99 (by decide) ?_
                refine lv_goto (tgt := 104) hx hb dX1_apart_100 (by decide) ?_
                exact W.iret hx hb hr (fun t ht hW => ⟨⟨_, (), rfl, (by show 1 = mApart a b; first | (simp only [mApart, mIsFar, mFar, mB, sDeck, eq_true c_25, eq_false c_39, eq_true c_44, eq_false c_65, eq_true c_70, eq_true c_78, eq_false c_96, reduceIte, Bool.false_eq_true, Bool.true_eq_false]; done) | (simp [mApart, mIsFar, mFar, mB, sDeck, eq_true c_25, eq_false c_39, eq_true c_44, eq_false c_65, eq_true c_70, eq_true c_78, eq_false c_96]; done)), trivial⟩, hS.F ht⟩) hS.2.2 dX1_apart_104
            · skip
              refine lv_iconst (v := 3) hx hb dX1_apart_81 (by decide) ?_
              refine lv_goto (tgt := 104) hx hb dX1_apart_82 (by decide) ?_
              exact W.iret hx hb hr (fun t ht hW => ⟨⟨_, (), rfl, (by show 3 = mApart a b; first | (simp only [mApart, mIsFar, mFar, mB, sDeck, eq_true c_25, eq_false c_39, eq_true c_44, eq_false c_65, eq_true c_70, eq_false c_78, reduceIte, Bool.false_eq_true, Bool.true_eq_false]; done) | (simp [mApart, mIsFar, mFar, mB, sDeck, eq_true c_25, eq_false c_39, eq_true c_44, eq_false c_65, eq_true c_70, eq_false c_78]; done)), trivial⟩, hS.F ht⟩) hS.2.2 dX1_apart_104
          · skip
            refine lv_iconst (v := 4) hx hb dX1_apart_73 (by decide) ?_
            refine lv_goto (tgt := 104) hx hb dX1_apart_74 (by decide) ?_
            exact W.iret hx hb hr (fun t ht hW => ⟨⟨_, (), rfl, (by show 4 = mApart a b; first | (simp only [mApart, mIsFar, mFar, mB, sDeck, eq_true c_25, eq_false c_39, eq_true c_44, eq_false c_65, eq_false c_70, reduceIte, Bool.false_eq_true, Bool.true_eq_false]; done) | (simp [mApart, mIsFar, mFar, mB, sDeck, eq_true c_25, eq_false c_39, eq_true c_44, eq_false c_65, eq_false c_70]; done)), trivial⟩, hS.F ht⟩) hS.2.2 dX1_apart_104
      · skip
        refine lv_iload_n hx hb dX1_apart_47 rfl (lv_at hl 3 rfl) ?_
        refine lv_iconst (v := 2) hx hb dX1_apart_48 (by decide) ?_
        refine lv_irem hx hb (x := a) (y := 2) dX1_apart_49 (by decide) ?_
        refine lv_iload_n hx hb dX1_apart_50 rfl (lv_at hl 4 rfl) ?_
        refine lv_iconst (v := 2) hx hb dX1_apart_51 (by decide) ?_
        refine lv_irem hx hb (x := b) (y := 2) dX1_apart_52 (by decide) ?_
        refine lv_icmp_eq (x := (a - a / 2 * 2)) (y := (b - b / 2 * 2)) (tgt := 60) hx hb dX1_apart_53 (by decide) (fun c_53 => ?_) (fun c_53 => ?_)
        · skip
          refine lv_iconst (v := 0) hx hb dX1_apart_60 (by decide) ?_
          refine lv_istore (lv' := [(5, .int 0), (4, .int (((a / 2) - (a / 2) / 6 * 6) - ((b / 2) - (b / 2) / 6 * 6))), (3, .int (((a / 2) - (a / 2) / 6 * 6) - ((b / 2) - (b / 2) / 6 * 6))), (2, .int ((a / 12) - (b / 12))), (0, .int a), (1, .int b)]) hx hb dX1_apart_61 hl (by decide) rfl (fun ls hl => ?_)
          refine lv_iload_n hx hb dX1_apart_63 rfl (lv_at hl 3 rfl) ?_
          refine lv_iconst (v := 1) hx hb dX1_apart_64 (by decide) ?_
          refine lv_icmp_gt (x := ((a / 12) - (b / 12))) (y := 1) (tgt := 73) hx hb dX1_apart_65 (by decide) (fun c_65 => ?_) (fun c_65 => ?_)
          · skip
            refine lv_iconst (v := 4) hx hb dX1_apart_73 (by decide) ?_
            refine lv_goto (tgt := 104) hx hb dX1_apart_74 (by decide) ?_
            exact W.iret hx hb hr (fun t ht hW => ⟨⟨_, (), rfl, (by show 4 = mApart a b; first | (simp only [mApart, mIsFar, mFar, mB, sDeck, eq_true c_25, eq_false c_39, eq_false c_44, eq_true c_53, eq_true c_65, reduceIte, Bool.false_eq_true, Bool.true_eq_false]; done) | (simp [mApart, mIsFar, mFar, mB, sDeck, eq_true c_25, eq_false c_39, eq_false c_44, eq_true c_53, eq_true c_65]; done)), trivial⟩, hS.F ht⟩) hS.2.2 dX1_apart_104
          · skip
            refine lv_iload_n hx hb dX1_apart_68 rfl (lv_at hl 3 rfl) ?_
            refine lv_iconst (v := (-1)) hx hb dX1_apart_69 (by decide) ?_
            refine lv_icmp_ge (x := ((a / 12) - (b / 12))) (y := (-1)) (tgt := 77) hx hb dX1_apart_70 (by decide) (fun c_70 => ?_) (fun c_70 => ?_)
            · skip
              refine lv_iload_n hx hb dX1_apart_77 rfl (lv_at hl 3 rfl) ?_
              refine lv_if_eq (x := ((a / 12) - (b / 12))) (tgt := 85) hx hb dX1_apart_78 (by decide) (fun c_78 => ?_) (fun c_78 => ?_)
              · skip
                refine lv_iload hx hb dX1_apart_85 (lv_at hl 0 rfl) ?_
                refine lv_if_eq (x := 0) (tgt := 94) hx hb dX1_apart_87 (by decide) (fun _ => ?_) (fun k => absurd (by decide) k)
                refine lv_iload_n hx hb dX1_apart_94 rfl (lv_at hl 4 rfl) ?_
                refine lv_iload_n hx hb dX1_apart_95 rfl (lv_at hl 5 rfl) ?_
                refine lv_icmp_eq (x := a) (y := b) (tgt := 103) hx hb dX1_apart_96 (by decide) (fun c_96 => ?_) (fun c_96 => ?_)
                · skip
                  refine lv_iconst (v := 0) hx hb dX1_apart_103 (by decide) ?_
                  exact W.iret hx hb hr (fun t ht hW => ⟨⟨_, (), rfl, (by show 0 = mApart a b; first | (simp only [mApart, mIsFar, mFar, mB, sDeck, eq_true c_25, eq_false c_39, eq_false c_44, eq_true c_53, eq_false c_65, eq_true c_70, eq_true c_78, eq_true c_96, reduceIte, Bool.false_eq_true, Bool.true_eq_false]; done) | (simp [mApart, mIsFar, mFar, mB, sDeck, eq_true c_25, eq_false c_39, eq_false c_44, eq_true c_53, eq_false c_65, eq_true c_70, eq_true c_78, eq_true c_96]; done)), trivial⟩, hS.F ht⟩) hS.2.2 dX1_apart_104
                · skip
                  refine lv_iconst (v := 1) hx hb dX1_apart_99 (by decide) ?_
                  refine lv_goto (tgt := 104) hx hb dX1_apart_100 (by decide) ?_
                  exact W.iret hx hb hr (fun t ht hW => ⟨⟨_, (), rfl, (by show 1 = mApart a b; first | (simp only [mApart, mIsFar, mFar, mB, sDeck, eq_true c_25, eq_false c_39, eq_false c_44, eq_true c_53, eq_false c_65, eq_true c_70, eq_true c_78, eq_false c_96, reduceIte, Bool.false_eq_true, Bool.true_eq_false]; done) | (simp [mApart, mIsFar, mFar, mB, sDeck, eq_true c_25, eq_false c_39, eq_false c_44, eq_true c_53, eq_false c_65, eq_true c_70, eq_true c_78, eq_false c_96]; done)), trivial⟩, hS.F ht⟩) hS.2.2 dX1_apart_104
              · skip
                refine lv_iconst (v := 3) hx hb dX1_apart_81 (by decide) ?_
                refine lv_goto (tgt := 104) hx hb dX1_apart_82 (by decide) ?_
                exact W.iret hx hb hr (fun t ht hW => ⟨⟨_, (), rfl, (by show 3 = mApart a b; first | (simp only [mApart, mIsFar, mFar, mB, sDeck, eq_true c_25, eq_false c_39, eq_false c_44, eq_true c_53, eq_false c_65, eq_true c_70, eq_false c_78, reduceIte, Bool.false_eq_true, Bool.true_eq_false]; done) | (simp [mApart, mIsFar, mFar, mB, sDeck, eq_true c_25, eq_false c_39, eq_false c_44, eq_true c_53, eq_false c_65, eq_true c_70, eq_false c_78]; done)), trivial⟩, hS.F ht⟩) hS.2.2 dX1_apart_104
            · skip
              refine lv_iconst (v := 4) hx hb dX1_apart_73 (by decide) ?_
              refine lv_goto (tgt := 104) hx hb dX1_apart_74 (by decide) ?_
              exact W.iret hx hb hr (fun t ht hW => ⟨⟨_, (), rfl, (by show 4 = mApart a b; first | (simp only [mApart, mIsFar, mFar, mB, sDeck, eq_true c_25, eq_false c_39, eq_false c_44, eq_true c_53, eq_false c_65, eq_false c_70, reduceIte, Bool.false_eq_true, Bool.true_eq_false]; done) | (simp [mApart, mIsFar, mFar, mB, sDeck, eq_true c_25, eq_false c_39, eq_false c_44, eq_true c_53, eq_false c_65, eq_false c_70]; done)), trivial⟩, hS.F ht⟩) hS.2.2 dX1_apart_104
        · skip
          refine lv_iconst (v := 1) hx hb dX1_apart_56 (by decide) ?_
          refine lv_goto (tgt := 61) hx hb dX1_apart_57 (by decide) ?_
          refine lv_istore (lv' := [(5, .int 1), (4, .int (((a / 2) - (a / 2) / 6 * 6) - ((b / 2) - (b / 2) / 6 * 6))), (3, .int (((a / 2) - (a / 2) / 6 * 6) - ((b / 2) - (b / 2) / 6 * 6))), (2, .int ((a / 12) - (b / 12))), (0, .int a), (1, .int b)]) hx hb dX1_apart_61 hl (by decide) rfl (fun ls hl => ?_)
          refine lv_iload_n hx hb dX1_apart_63 rfl (lv_at hl 3 rfl) ?_
          refine lv_iconst (v := 1) hx hb dX1_apart_64 (by decide) ?_
          refine lv_icmp_gt (x := ((a / 12) - (b / 12))) (y := 1) (tgt := 73) hx hb dX1_apart_65 (by decide) (fun c_65 => ?_) (fun c_65 => ?_)
          · skip
            refine lv_iconst (v := 4) hx hb dX1_apart_73 (by decide) ?_
            refine lv_goto (tgt := 104) hx hb dX1_apart_74 (by decide) ?_
            exact W.iret hx hb hr (fun t ht hW => ⟨⟨_, (), rfl, (by show 4 = mApart a b; first | (simp only [mApart, mIsFar, mFar, mB, sDeck, eq_true c_25, eq_false c_39, eq_false c_44, eq_false c_53, eq_true c_65, reduceIte, Bool.false_eq_true, Bool.true_eq_false]; done) | (simp [mApart, mIsFar, mFar, mB, sDeck, eq_true c_25, eq_false c_39, eq_false c_44, eq_false c_53, eq_true c_65]; done)), trivial⟩, hS.F ht⟩) hS.2.2 dX1_apart_104
          · skip
            refine lv_iload_n hx hb dX1_apart_68 rfl (lv_at hl 3 rfl) ?_
            refine lv_iconst (v := (-1)) hx hb dX1_apart_69 (by decide) ?_
            refine lv_icmp_ge (x := ((a / 12) - (b / 12))) (y := (-1)) (tgt := 77) hx hb dX1_apart_70 (by decide) (fun c_70 => ?_) (fun c_70 => ?_)
            · skip
              refine lv_iload_n hx hb dX1_apart_77 rfl (lv_at hl 3 rfl) ?_
              refine lv_if_eq (x := ((a / 12) - (b / 12))) (tgt := 85) hx hb dX1_apart_78 (by decide) (fun c_78 => ?_) (fun c_78 => ?_)
              · skip
                refine lv_iload hx hb dX1_apart_85 (lv_at hl 0 rfl) ?_
                refine lv_if_eq (x := 1) (tgt := 94) hx hb dX1_apart_87 (by decide) (fun k => absurd k (by decide)) (fun _ => ?_)
                refine lv_iconst (v := 2) hx hb dX1_apart_90 (by decide) ?_
                refine lv_goto (tgt := 104) hx hb dX1_apart_91 (by decide) ?_
                exact W.iret hx hb hr (fun t ht hW => ⟨⟨_, (), rfl, (by show 2 = mApart a b; first | (simp only [mApart, mIsFar, mFar, mB, sDeck, eq_true c_25, eq_false c_39, eq_false c_44, eq_false c_53, eq_false c_65, eq_true c_70, eq_true c_78, reduceIte, Bool.false_eq_true, Bool.true_eq_false]; done) | (simp [mApart, mIsFar, mFar, mB, sDeck, eq_true c_25, eq_false c_39, eq_false c_44, eq_false c_53, eq_false c_65, eq_true c_70, eq_true c_78]; done)), trivial⟩, hS.F ht⟩) hS.2.2 dX1_apart_104
              · skip
                refine lv_iconst (v := 3) hx hb dX1_apart_81 (by decide) ?_
                refine lv_goto (tgt := 104) hx hb dX1_apart_82 (by decide) ?_
                exact W.iret hx hb hr (fun t ht hW => ⟨⟨_, (), rfl, (by show 3 = mApart a b; first | (simp only [mApart, mIsFar, mFar, mB, sDeck, eq_true c_25, eq_false c_39, eq_false c_44, eq_false c_53, eq_false c_65, eq_true c_70, eq_false c_78, reduceIte, Bool.false_eq_true, Bool.true_eq_false]; done) | (simp [mApart, mIsFar, mFar, mB, sDeck, eq_true c_25, eq_false c_39, eq_false c_44, eq_false c_53, eq_false c_65, eq_true c_70, eq_false c_78]; done)), trivial⟩, hS.F ht⟩) hS.2.2 dX1_apart_104
            · skip
              refine lv_iconst (v := 4) hx hb dX1_apart_73 (by decide) ?_
              refine lv_goto (tgt := 104) hx hb dX1_apart_74 (by decide) ?_
              exact W.iret hx hb hr (fun t ht hW => ⟨⟨_, (), rfl, (by show 4 = mApart a b; first | (simp only [mApart, mIsFar, mFar, mB, sDeck, eq_true c_25, eq_false c_39, eq_false c_44, eq_false c_53, eq_false c_65, eq_false c_70, reduceIte, Bool.false_eq_true, Bool.true_eq_false]; done) | (simp [mApart, mIsFar, mFar, mB, sDeck, eq_true c_25, eq_false c_39, eq_false c_44, eq_false c_53, eq_false c_65, eq_false c_70]; done)), trivial⟩, hS.F ht⟩) hS.2.2 dX1_apart_104
  · skip
    refine lv_iload_n hx hb dX1_apart_28 rfl (lv_at hl 0 rfl) ?_
    refine lv_ineg hx hb dX1_apart_29 ?_
    refine lv_goto (tgt := 34) hx hb dX1_apart_30 (by decide) ?_
    refine lv_istore (lv' := [(4, .int (-(((a / 2) - (a / 2) / 6 * 6) - ((b / 2) - (b / 2) / 6 * 6)))), (3, .int (((a / 2) - (a / 2) / 6 * 6) - ((b / 2) - (b / 2) / 6 * 6))), (2, .int ((a / 12) - (b / 12))), (0, .int a), (1, .int b)]) hx hb dX1_apart_34 hl (by decide) rfl (fun ls hl => ?_)
    refine lv_iload hx hb dX1_apart_36 (lv_at hl 0 rfl) ?_
    refine lv_iconst (v := 2) hx hb dX1_apart_38 (by decide) ?_
    refine lv_icmp_gt (x := (-(((a / 2) - (a / 2) / 6 * 6) - ((b / 2) - (b / 2) / 6 * 6)))) (y := 2) (tgt := 56) hx hb dX1_apart_39 (by decide) (fun c_39 => ?_) (fun c_39 => ?_)
    · skip
      refine lv_iconst (v := 1) hx hb dX1_apart_56 (by decide) ?_
      refine lv_goto (tgt := 61) hx hb dX1_apart_57 (by decide) ?_
      refine lv_istore (lv' := [(5, .int 1), (4, .int (-(((a / 2) - (a / 2) / 6 * 6) - ((b / 2) - (b / 2) / 6 * 6)))), (3, .int (((a / 2) - (a / 2) / 6 * 6) - ((b / 2) - (b / 2) / 6 * 6))), (2, .int ((a / 12) - (b / 12))), (0, .int a), (1, .int b)]) hx hb dX1_apart_61 hl (by decide) rfl (fun ls hl => ?_)
      refine lv_iload_n hx hb dX1_apart_63 rfl (lv_at hl 3 rfl) ?_
      refine lv_iconst (v := 1) hx hb dX1_apart_64 (by decide) ?_
      refine lv_icmp_gt (x := ((a / 12) - (b / 12))) (y := 1) (tgt := 73) hx hb dX1_apart_65 (by decide) (fun c_65 => ?_) (fun c_65 => ?_)
      · skip
        refine lv_iconst (v := 4) hx hb dX1_apart_73 (by decide) ?_
        refine lv_goto (tgt := 104) hx hb dX1_apart_74 (by decide) ?_
        exact W.iret hx hb hr (fun t ht hW => ⟨⟨_, (), rfl, (by show 4 = mApart a b; first | (simp only [mApart, mIsFar, mFar, mB, sDeck, eq_false c_25, eq_true c_39, eq_true c_65, reduceIte, Bool.false_eq_true, Bool.true_eq_false]; done) | (simp [mApart, mIsFar, mFar, mB, sDeck, eq_false c_25, eq_true c_39, eq_true c_65]; done)), trivial⟩, hS.F ht⟩) hS.2.2 dX1_apart_104
      · skip
        refine lv_iload_n hx hb dX1_apart_68 rfl (lv_at hl 3 rfl) ?_
        refine lv_iconst (v := (-1)) hx hb dX1_apart_69 (by decide) ?_
        refine lv_icmp_ge (x := ((a / 12) - (b / 12))) (y := (-1)) (tgt := 77) hx hb dX1_apart_70 (by decide) (fun c_70 => ?_) (fun c_70 => ?_)
        · skip
          refine lv_iload_n hx hb dX1_apart_77 rfl (lv_at hl 3 rfl) ?_
          refine lv_if_eq (x := ((a / 12) - (b / 12))) (tgt := 85) hx hb dX1_apart_78 (by decide) (fun c_78 => ?_) (fun c_78 => ?_)
          · skip
            refine lv_iload hx hb dX1_apart_85 (lv_at hl 0 rfl) ?_
            refine lv_if_eq (x := 1) (tgt := 94) hx hb dX1_apart_87 (by decide) (fun k => absurd k (by decide)) (fun _ => ?_)
            refine lv_iconst (v := 2) hx hb dX1_apart_90 (by decide) ?_
            refine lv_goto (tgt := 104) hx hb dX1_apart_91 (by decide) ?_
            exact W.iret hx hb hr (fun t ht hW => ⟨⟨_, (), rfl, (by show 2 = mApart a b; first | (simp only [mApart, mIsFar, mFar, mB, sDeck, eq_false c_25, eq_true c_39, eq_false c_65, eq_true c_70, eq_true c_78, reduceIte, Bool.false_eq_true, Bool.true_eq_false]; done) | (simp [mApart, mIsFar, mFar, mB, sDeck, eq_false c_25, eq_true c_39, eq_false c_65, eq_true c_70, eq_true c_78]; done)), trivial⟩, hS.F ht⟩) hS.2.2 dX1_apart_104
          · skip
            refine lv_iconst (v := 3) hx hb dX1_apart_81 (by decide) ?_
            refine lv_goto (tgt := 104) hx hb dX1_apart_82 (by decide) ?_
            exact W.iret hx hb hr (fun t ht hW => ⟨⟨_, (), rfl, (by show 3 = mApart a b; first | (simp only [mApart, mIsFar, mFar, mB, sDeck, eq_false c_25, eq_true c_39, eq_false c_65, eq_true c_70, eq_false c_78, reduceIte, Bool.false_eq_true, Bool.true_eq_false]; done) | (simp [mApart, mIsFar, mFar, mB, sDeck, eq_false c_25, eq_true c_39, eq_false c_65, eq_true c_70, eq_false c_78]; done)), trivial⟩, hS.F ht⟩) hS.2.2 dX1_apart_104
        · skip
          refine lv_iconst (v := 4) hx hb dX1_apart_73 (by decide) ?_
          refine lv_goto (tgt := 104) hx hb dX1_apart_74 (by decide) ?_
          exact W.iret hx hb hr (fun t ht hW => ⟨⟨_, (), rfl, (by show 4 = mApart a b; first | (simp only [mApart, mIsFar, mFar, mB, sDeck, eq_false c_25, eq_true c_39, eq_false c_65, eq_false c_70, reduceIte, Bool.false_eq_true, Bool.true_eq_false]; done) | (simp [mApart, mIsFar, mFar, mB, sDeck, eq_false c_25, eq_true c_39, eq_false c_65, eq_false c_70]; done)), trivial⟩, hS.F ht⟩) hS.2.2 dX1_apart_104
    · skip
      refine lv_iload hx hb dX1_apart_42 (lv_at hl 0 rfl) ?_
      refine lv_if_le (x := (-(((a / 2) - (a / 2) / 6 * 6) - ((b / 2) - (b / 2) / 6 * 6)))) (tgt := 60) hx hb dX1_apart_44 (by decide) (fun c_44 => ?_) (fun c_44 => ?_)
      · skip
        refine lv_iconst (v := 0) hx hb dX1_apart_60 (by decide) ?_
        refine lv_istore (lv' := [(5, .int 0), (4, .int (-(((a / 2) - (a / 2) / 6 * 6) - ((b / 2) - (b / 2) / 6 * 6)))), (3, .int (((a / 2) - (a / 2) / 6 * 6) - ((b / 2) - (b / 2) / 6 * 6))), (2, .int ((a / 12) - (b / 12))), (0, .int a), (1, .int b)]) hx hb dX1_apart_61 hl (by decide) rfl (fun ls hl => ?_)
        refine lv_iload_n hx hb dX1_apart_63 rfl (lv_at hl 3 rfl) ?_
        refine lv_iconst (v := 1) hx hb dX1_apart_64 (by decide) ?_
        refine lv_icmp_gt (x := ((a / 12) - (b / 12))) (y := 1) (tgt := 73) hx hb dX1_apart_65 (by decide) (fun c_65 => ?_) (fun c_65 => ?_)
        · skip
          refine lv_iconst (v := 4) hx hb dX1_apart_73 (by decide) ?_
          refine lv_goto (tgt := 104) hx hb dX1_apart_74 (by decide) ?_
          exact W.iret hx hb hr (fun t ht hW => ⟨⟨_, (), rfl, (by show 4 = mApart a b; first | (simp only [mApart, mIsFar, mFar, mB, sDeck, eq_false c_25, eq_false c_39, eq_true c_44, eq_true c_65, reduceIte, Bool.false_eq_true, Bool.true_eq_false]; done) | (simp [mApart, mIsFar, mFar, mB, sDeck, eq_false c_25, eq_false c_39, eq_true c_44, eq_true c_65]; done)), trivial⟩, hS.F ht⟩) hS.2.2 dX1_apart_104
        · skip
          refine lv_iload_n hx hb dX1_apart_68 rfl (lv_at hl 3 rfl) ?_
          refine lv_iconst (v := (-1)) hx hb dX1_apart_69 (by decide) ?_
          refine lv_icmp_ge (x := ((a / 12) - (b / 12))) (y := (-1)) (tgt := 77) hx hb dX1_apart_70 (by decide) (fun c_70 => ?_) (fun c_70 => ?_)
          · skip
            refine lv_iload_n hx hb dX1_apart_77 rfl (lv_at hl 3 rfl) ?_
            refine lv_if_eq (x := ((a / 12) - (b / 12))) (tgt := 85) hx hb dX1_apart_78 (by decide) (fun c_78 => ?_) (fun c_78 => ?_)
            · skip
              refine lv_iload hx hb dX1_apart_85 (lv_at hl 0 rfl) ?_
              refine lv_if_eq (x := 0) (tgt := 94) hx hb dX1_apart_87 (by decide) (fun _ => ?_) (fun k => absurd (by decide) k)
              refine lv_iload_n hx hb dX1_apart_94 rfl (lv_at hl 4 rfl) ?_
              refine lv_iload_n hx hb dX1_apart_95 rfl (lv_at hl 5 rfl) ?_
              refine lv_icmp_eq (x := a) (y := b) (tgt := 103) hx hb dX1_apart_96 (by decide) (fun c_96 => ?_) (fun c_96 => ?_)
              · skip
                refine lv_iconst (v := 0) hx hb dX1_apart_103 (by decide) ?_
                exact W.iret hx hb hr (fun t ht hW => ⟨⟨_, (), rfl, (by show 0 = mApart a b; first | (simp only [mApart, mIsFar, mFar, mB, sDeck, eq_false c_25, eq_false c_39, eq_true c_44, eq_false c_65, eq_true c_70, eq_true c_78, eq_true c_96, reduceIte, Bool.false_eq_true, Bool.true_eq_false]; done) | (simp [mApart, mIsFar, mFar, mB, sDeck, eq_false c_25, eq_false c_39, eq_true c_44, eq_false c_65, eq_true c_70, eq_true c_78, eq_true c_96]; done)), trivial⟩, hS.F ht⟩) hS.2.2 dX1_apart_104
              · skip
                refine lv_iconst (v := 1) hx hb dX1_apart_99 (by decide) ?_
                refine lv_goto (tgt := 104) hx hb dX1_apart_100 (by decide) ?_
                exact W.iret hx hb hr (fun t ht hW => ⟨⟨_, (), rfl, (by show 1 = mApart a b; first | (simp only [mApart, mIsFar, mFar, mB, sDeck, eq_false c_25, eq_false c_39, eq_true c_44, eq_false c_65, eq_true c_70, eq_true c_78, eq_false c_96, reduceIte, Bool.false_eq_true, Bool.true_eq_false]; done) | (simp [mApart, mIsFar, mFar, mB, sDeck, eq_false c_25, eq_false c_39, eq_true c_44, eq_false c_65, eq_true c_70, eq_true c_78, eq_false c_96]; done)), trivial⟩, hS.F ht⟩) hS.2.2 dX1_apart_104
            · skip
              refine lv_iconst (v := 3) hx hb dX1_apart_81 (by decide) ?_
              refine lv_goto (tgt := 104) hx hb dX1_apart_82 (by decide) ?_
              exact W.iret hx hb hr (fun t ht hW => ⟨⟨_, (), rfl, (by show 3 = mApart a b; first | (simp only [mApart, mIsFar, mFar, mB, sDeck, eq_false c_25, eq_false c_39, eq_true c_44, eq_false c_65, eq_true c_70, eq_false c_78, reduceIte, Bool.false_eq_true, Bool.true_eq_false]; done) | (simp [mApart, mIsFar, mFar, mB, sDeck, eq_false c_25, eq_false c_39, eq_true c_44, eq_false c_65, eq_true c_70, eq_false c_78]; done)), trivial⟩, hS.F ht⟩) hS.2.2 dX1_apart_104
          · skip
            refine lv_iconst (v := 4) hx hb dX1_apart_73 (by decide) ?_
            refine lv_goto (tgt := 104) hx hb dX1_apart_74 (by decide) ?_
            exact W.iret hx hb hr (fun t ht hW => ⟨⟨_, (), rfl, (by show 4 = mApart a b; first | (simp only [mApart, mIsFar, mFar, mB, sDeck, eq_false c_25, eq_false c_39, eq_true c_44, eq_false c_65, eq_false c_70, reduceIte, Bool.false_eq_true, Bool.true_eq_false]; done) | (simp [mApart, mIsFar, mFar, mB, sDeck, eq_false c_25, eq_false c_39, eq_true c_44, eq_false c_65, eq_false c_70]; done)), trivial⟩, hS.F ht⟩) hS.2.2 dX1_apart_104
      · skip
        refine lv_iload_n hx hb dX1_apart_47 rfl (lv_at hl 3 rfl) ?_
        refine lv_iconst (v := 2) hx hb dX1_apart_48 (by decide) ?_
        refine lv_irem hx hb (x := a) (y := 2) dX1_apart_49 (by decide) ?_
        refine lv_iload_n hx hb dX1_apart_50 rfl (lv_at hl 4 rfl) ?_
        refine lv_iconst (v := 2) hx hb dX1_apart_51 (by decide) ?_
        refine lv_irem hx hb (x := b) (y := 2) dX1_apart_52 (by decide) ?_
        refine lv_icmp_eq (x := (a - a / 2 * 2)) (y := (b - b / 2 * 2)) (tgt := 60) hx hb dX1_apart_53 (by decide) (fun c_53 => ?_) (fun c_53 => ?_)
        · skip
          refine lv_iconst (v := 0) hx hb dX1_apart_60 (by decide) ?_
          refine lv_istore (lv' := [(5, .int 0), (4, .int (-(((a / 2) - (a / 2) / 6 * 6) - ((b / 2) - (b / 2) / 6 * 6)))), (3, .int (((a / 2) - (a / 2) / 6 * 6) - ((b / 2) - (b / 2) / 6 * 6))), (2, .int ((a / 12) - (b / 12))), (0, .int a), (1, .int b)]) hx hb dX1_apart_61 hl (by decide) rfl (fun ls hl => ?_)
          refine lv_iload_n hx hb dX1_apart_63 rfl (lv_at hl 3 rfl) ?_
          refine lv_iconst (v := 1) hx hb dX1_apart_64 (by decide) ?_
          refine lv_icmp_gt (x := ((a / 12) - (b / 12))) (y := 1) (tgt := 73) hx hb dX1_apart_65 (by decide) (fun c_65 => ?_) (fun c_65 => ?_)
          · skip
            refine lv_iconst (v := 4) hx hb dX1_apart_73 (by decide) ?_
            refine lv_goto (tgt := 104) hx hb dX1_apart_74 (by decide) ?_
            exact W.iret hx hb hr (fun t ht hW => ⟨⟨_, (), rfl, (by show 4 = mApart a b; first | (simp only [mApart, mIsFar, mFar, mB, sDeck, eq_false c_25, eq_false c_39, eq_false c_44, eq_true c_53, eq_true c_65, reduceIte, Bool.false_eq_true, Bool.true_eq_false]; done) | (simp [mApart, mIsFar, mFar, mB, sDeck, eq_false c_25, eq_false c_39, eq_false c_44, eq_true c_53, eq_true c_65]; done)), trivial⟩, hS.F ht⟩) hS.2.2 dX1_apart_104
          · skip
            refine lv_iload_n hx hb dX1_apart_68 rfl (lv_at hl 3 rfl) ?_
            refine lv_iconst (v := (-1)) hx hb dX1_apart_69 (by decide) ?_
            refine lv_icmp_ge (x := ((a / 12) - (b / 12))) (y := (-1)) (tgt := 77) hx hb dX1_apart_70 (by decide) (fun c_70 => ?_) (fun c_70 => ?_)
            · skip
              refine lv_iload_n hx hb dX1_apart_77 rfl (lv_at hl 3 rfl) ?_
              refine lv_if_eq (x := ((a / 12) - (b / 12))) (tgt := 85) hx hb dX1_apart_78 (by decide) (fun c_78 => ?_) (fun c_78 => ?_)
              · skip
                refine lv_iload hx hb dX1_apart_85 (lv_at hl 0 rfl) ?_
                refine lv_if_eq (x := 0) (tgt := 94) hx hb dX1_apart_87 (by decide) (fun _ => ?_) (fun k => absurd (by decide) k)
                refine lv_iload_n hx hb dX1_apart_94 rfl (lv_at hl 4 rfl) ?_
                refine lv_iload_n hx hb dX1_apart_95 rfl (lv_at hl 5 rfl) ?_
                refine lv_icmp_eq (x := a) (y := b) (tgt := 103) hx hb dX1_apart_96 (by decide) (fun c_96 => ?_) (fun c_96 => ?_)
                · skip
                  refine lv_iconst (v := 0) hx hb dX1_apart_103 (by decide) ?_
                  exact W.iret hx hb hr (fun t ht hW => ⟨⟨_, (), rfl, (by show 0 = mApart a b; first | (simp only [mApart, mIsFar, mFar, mB, sDeck, eq_false c_25, eq_false c_39, eq_false c_44, eq_true c_53, eq_false c_65, eq_true c_70, eq_true c_78, eq_true c_96, reduceIte, Bool.false_eq_true, Bool.true_eq_false]; done) | (simp [mApart, mIsFar, mFar, mB, sDeck, eq_false c_25, eq_false c_39, eq_false c_44, eq_true c_53, eq_false c_65, eq_true c_70, eq_true c_78, eq_true c_96]; done)), trivial⟩, hS.F ht⟩) hS.2.2 dX1_apart_104
                · skip
                  refine lv_iconst (v := 1) hx hb dX1_apart_99 (by decide) ?_
                  refine lv_goto (tgt := 104) hx hb dX1_apart_100 (by decide) ?_
                  exact W.iret hx hb hr (fun t ht hW => ⟨⟨_, (), rfl, (by show 1 = mApart a b; first | (simp only [mApart, mIsFar, mFar, mB, sDeck, eq_false c_25, eq_false c_39, eq_false c_44, eq_true c_53, eq_false c_65, eq_true c_70, eq_true c_78, eq_false c_96, reduceIte, Bool.false_eq_true, Bool.true_eq_false]; done) | (simp [mApart, mIsFar, mFar, mB, sDeck, eq_false c_25, eq_false c_39, eq_false c_44, eq_true c_53, eq_false c_65, eq_true c_70, eq_true c_78, eq_false c_96]; done)), trivial⟩, hS.F ht⟩) hS.2.2 dX1_apart_104
              · skip
                refine lv_iconst (v := 3) hx hb dX1_apart_81 (by decide) ?_
                refine lv_goto (tgt := 104) hx hb dX1_apart_82 (by decide) ?_
                exact W.iret hx hb hr (fun t ht hW => ⟨⟨_, (), rfl, (by show 3 = mApart a b; first | (simp only [mApart, mIsFar, mFar, mB, sDeck, eq_false c_25, eq_false c_39, eq_false c_44, eq_true c_53, eq_false c_65, eq_true c_70, eq_false c_78, reduceIte, Bool.false_eq_true, Bool.true_eq_false]; done) | (simp [mApart, mIsFar, mFar, mB, sDeck, eq_false c_25, eq_false c_39, eq_false c_44, eq_true c_53, eq_false c_65, eq_true c_70, eq_false c_78]; done)), trivial⟩, hS.F ht⟩) hS.2.2 dX1_apart_104
            · skip
              refine lv_iconst (v := 4) hx hb dX1_apart_73 (by decide) ?_
              refine lv_goto (tgt := 104) hx hb dX1_apart_74 (by decide) ?_
              exact W.iret hx hb hr (fun t ht hW => ⟨⟨_, (), rfl, (by show 4 = mApart a b; first | (simp only [mApart, mIsFar, mFar, mB, sDeck, eq_false c_25, eq_false c_39, eq_false c_44, eq_true c_53, eq_false c_65, eq_false c_70, reduceIte, Bool.false_eq_true, Bool.true_eq_false]; done) | (simp [mApart, mIsFar, mFar, mB, sDeck, eq_false c_25, eq_false c_39, eq_false c_44, eq_true c_53, eq_false c_65, eq_false c_70]; done)), trivial⟩, hS.F ht⟩) hS.2.2 dX1_apart_104
        · skip
          refine lv_iconst (v := 1) hx hb dX1_apart_56 (by decide) ?_
          refine lv_goto (tgt := 61) hx hb dX1_apart_57 (by decide) ?_
          refine lv_istore (lv' := [(5, .int 1), (4, .int (-(((a / 2) - (a / 2) / 6 * 6) - ((b / 2) - (b / 2) / 6 * 6)))), (3, .int (((a / 2) - (a / 2) / 6 * 6) - ((b / 2) - (b / 2) / 6 * 6))), (2, .int ((a / 12) - (b / 12))), (0, .int a), (1, .int b)]) hx hb dX1_apart_61 hl (by decide) rfl (fun ls hl => ?_)
          refine lv_iload_n hx hb dX1_apart_63 rfl (lv_at hl 3 rfl) ?_
          refine lv_iconst (v := 1) hx hb dX1_apart_64 (by decide) ?_
          refine lv_icmp_gt (x := ((a / 12) - (b / 12))) (y := 1) (tgt := 73) hx hb dX1_apart_65 (by decide) (fun c_65 => ?_) (fun c_65 => ?_)
          · skip
            refine lv_iconst (v := 4) hx hb dX1_apart_73 (by decide) ?_
            refine lv_goto (tgt := 104) hx hb dX1_apart_74 (by decide) ?_
            exact W.iret hx hb hr (fun t ht hW => ⟨⟨_, (), rfl, (by show 4 = mApart a b; first | (simp only [mApart, mIsFar, mFar, mB, sDeck, eq_false c_25, eq_false c_39, eq_false c_44, eq_false c_53, eq_true c_65, reduceIte, Bool.false_eq_true, Bool.true_eq_false]; done) | (simp [mApart, mIsFar, mFar, mB, sDeck, eq_false c_25, eq_false c_39, eq_false c_44, eq_false c_53, eq_true c_65]; done)), trivial⟩, hS.F ht⟩) hS.2.2 dX1_apart_104
          · skip
            refine lv_iload_n hx hb dX1_apart_68 rfl (lv_at hl 3 rfl) ?_
            refine lv_iconst (v := (-1)) hx hb dX1_apart_69 (by decide) ?_
            refine lv_icmp_ge (x := ((a / 12) - (b / 12))) (y := (-1)) (tgt := 77) hx hb dX1_apart_70 (by decide) (fun c_70 => ?_) (fun c_70 => ?_)
            · skip
              refine lv_iload_n hx hb dX1_apart_77 rfl (lv_at hl 3 rfl) ?_
              refine lv_if_eq (x := ((a / 12) - (b / 12))) (tgt := 85) hx hb dX1_apart_78 (by decide) (fun c_78 => ?_) (fun c_78 => ?_)
              · skip
                refine lv_iload hx hb dX1_apart_85 (lv_at hl 0 rfl) ?_
                refine lv_if_eq (x := 1) (tgt := 94) hx hb dX1_apart_87 (by decide) (fun k => absurd k (by decide)) (fun _ => ?_)
                refine lv_iconst (v := 2) hx hb dX1_apart_90 (by decide) ?_
                refine lv_goto (tgt := 104) hx hb dX1_apart_91 (by decide) ?_
                exact W.iret hx hb hr (fun t ht hW => ⟨⟨_, (), rfl, (by show 2 = mApart a b; first | (simp only [mApart, mIsFar, mFar, mB, sDeck, eq_false c_25, eq_false c_39, eq_false c_44, eq_false c_53, eq_false c_65, eq_true c_70, eq_true c_78, reduceIte, Bool.false_eq_true, Bool.true_eq_false]; done) | (simp [mApart, mIsFar, mFar, mB, sDeck, eq_false c_25, eq_false c_39, eq_false c_44, eq_false c_53, eq_false c_65, eq_true c_70, eq_true c_78]; done)), trivial⟩, hS.F ht⟩) hS.2.2 dX1_apart_104
              · skip
                refine lv_iconst (v := 3) hx hb dX1_apart_81 (by decide) ?_
                refine lv_goto (tgt := 104) hx hb dX1_apart_82 (by decide) ?_
                exact W.iret hx hb hr (fun t ht hW => ⟨⟨_, (), rfl, (by show 3 = mApart a b; first | (simp only [mApart, mIsFar, mFar, mB, sDeck, eq_false c_25, eq_false c_39, eq_false c_44, eq_false c_53, eq_false c_65, eq_true c_70, eq_false c_78, reduceIte, Bool.false_eq_true, Bool.true_eq_false]; done) | (simp [mApart, mIsFar, mFar, mB, sDeck, eq_false c_25, eq_false c_39, eq_false c_44, eq_false c_53, eq_false c_65, eq_true c_70, eq_false c_78]; done)), trivial⟩, hS.F ht⟩) hS.2.2 dX1_apart_104
            · skip
              refine lv_iconst (v := 4) hx hb dX1_apart_73 (by decide) ?_
              refine lv_goto (tgt := 104) hx hb dX1_apart_74 (by decide) ?_
              exact W.iret hx hb hr (fun t ht hW => ⟨⟨_, (), rfl, (by show 4 = mApart a b; first | (simp only [mApart, mIsFar, mFar, mB, sDeck, eq_false c_25, eq_false c_39, eq_false c_44, eq_false c_53, eq_false c_65, eq_false c_70, reduceIte, Bool.false_eq_true, Bool.true_eq_false]; done) | (simp [mApart, mIsFar, mFar, mB, sDeck, eq_false c_25, eq_false c_39, eq_false c_44, eq_false c_53, eq_false c_65, eq_false c_70]; done)), trivial⟩, hS.F ht⟩) hS.2.2 dX1_apart_104
set_option maxHeartbeats 4000000 in
set_option maxRecDepth 100000 in
theorem c_X1_isWithin_1 (l : Launch) (D : va_G) (q : Nat → Nat) (F : Nat → Nat → Int32) (n : Nat) (R : Nat → Int32) (th : Int32) (cI cZ : ClassId) (g : Nat) (hw : WF F n) (hg : g < n) : Met l yX1_isWithin wsX1_isWithin ({ frames := 0, cells := 0, slots := 0, locals := 0 }) (va_Pc [.ref (q 9), .int (nI g), .ref (q 1)] (rW D (wM q F (nI n) R th cI cZ) (tIZ cI cZ))) (RO (fun r => r = bi (sWithin F 1 g))) 0 0 nA := by
  refine ro_of (own := RX1) (cc := cX1_isWithin) (maxL := 4) (ret := (some .boolean)) (by decide) rfl rfl (Nat.le_of_ble_eq_true rfl) ?_
  intro p9 e9 s m9 a9 below meth c9 ls hx hb hr hml hlocks hown hts hP hK hl
  have hin : ∀ w ∈ wsX10, w ∈ wsX1_isWithin := by decide +kernel
  have f23 := hts (.fieldLink RX1 23 "DangerousGoodsModel" "classes" "[I") (by decide +kernel)
  have f26 := hts (.fieldLink RX1 26 "DangerousGoodsModel" "subsidiaries" "[I") (by decide +kernel)
  have f29 := hts (.fieldLink RX1 29 "DangerousGoodsModel" "quantities" "[I") (by decide +kernel)
  have hS : va_S nA s.heap s.heap [] := va_S.rf
  have hl : lv_has ls 4 [(0, .ref (q 9)), (1, .int (nI g)), (2, .ref (q 1))] := hl
  refine lv_aload_n hx hb dX1_isWithin_0 rfl (lv_at hl 0 rfl) ?_
  refine va_get (D := D) (ci := 1) (v := .ref (q 5)) hx hb hts hin hown hK hP 0 rfl rfl 6 (by decide) f26 (fun _ h9 => h9) rfl dX1_isWithin_1 ?_
  refine lv_iload_n hx hb dX1_isWithin_4 rfl (lv_at hl 1 rfl) ?_
  refine xiald hx hb hK hP 6 0 rfl rfl (g := g) (hw.g hg) (by decide) dX1_isWithin_5 ?_
  refine lv_istore_n (lv' := [(3, .int (F 5 g)), (0, .ref (q 9)), (1, .int (nI g)), (2, .ref (q 1))]) hx hb dX1_isWithin_6 rfl hl (by decide) rfl (fun ls hl => ?_)
  refine lv_aload_n hx hb dX1_isWithin_7 rfl (lv_at hl 1 rfl) ?_
  refine va_get (D := D) (ci := 1) (v := .ref (q 6)) hx hb hts hin hown hK hP 0 rfl rfl 7 (by decide) f29 (fun _ h9 => h9) rfl dX1_isWithin_8 ?_
  refine lv_iload_n hx hb dX1_isWithin_11 rfl (lv_at hl 2 rfl) ?_
  refine xiald hx hb hK hP 7 0 rfl rfl (g := g) (hw.g hg) (by decide) dX1_isWithin_12 ?_
  refine lv_aload_n hx hb dX1_isWithin_13 rfl (lv_at hl 3 rfl) ?_
  refine lv_aload_n hx hb dX1_isWithin_14 rfl (lv_at hl 1 rfl) ?_
  refine va_get (D := D) (ci := 1) (v := .ref (q 4)) hx hb hts hin hown hK hP 0 rfl rfl 5 (by decide) f23 (fun _ h9 => h9) rfl dX1_isWithin_15 ?_
  refine lv_iload_n hx hb dX1_isWithin_18 rfl (lv_at hl 2 rfl) ?_
  refine xiald hx hb hK hP 5 0 rfl rfl (g := g) (hw.g hg) (by decide) dX1_isWithin_19 ?_
  refine va_iald hx hb hK hP 2 0 rfl rfl (i := (F 4 g)) ((hw.c4 hg).in (hw.c4n hg)) dX1_isWithin_20 ?_
  refine lv_icmp_gt (x := (F 6 g)) (y := (F 1 (F 4 g).toNatClampNeg)) (tgt := 45) hx hb dX1_isWithin_21 (by decide) (fun c_21 => ?_) (fun c_21 => ?_)
  · skip
    refine lv_iconst (v := 0) hx hb dX1_isWithin_45 (by decide) ?_
    exact W.zret hx hb hr zn0 (fun t ht hW => ⟨⟨_, (), rfl, (by show 0 = bi (sWithin F 1 g); first | (simp only [bi, sWithin, eq_true c_21, reduceIte, Bool.false_eq_true, Bool.true_eq_false]; done) | (simp [bi, sWithin, eq_true c_21]; done)), trivial⟩, hS.F ht⟩) hS.2.2 dX1_isWithin_46
  · skip
    refine lv_iload_n hx hb dX1_isWithin_24 rfl (lv_at hl 0 rfl) ?_
    refine lv_iconst (v := (-1)) hx hb dX1_isWithin_25 (by decide) ?_
    refine lv_icmp_eq (x := (F 5 g)) (y := (-1)) (tgt := 41) hx hb dX1_isWithin_26 (by decide) (fun c_26 => ?_) (fun c_26 => ?_)
    · skip
      refine lv_iconst (v := 1) hx hb dX1_isWithin_41 (by decide) ?_
      refine lv_goto (tgt := 46) hx hb dX1_isWithin_42 (by decide) ?_
      exact W.zret hx hb hr zn1 (fun t ht hW => ⟨⟨_, (), rfl, (by show 1 = bi (sWithin F 1 g); first | (simp only [bi, sWithin, eq_false c_21, eq_true c_26, reduceIte, Bool.false_eq_true, Bool.true_eq_false]; done) | (simp [bi, sWithin, eq_false c_21, eq_true c_26]; done)), trivial⟩, hS.F ht⟩) hS.2.2 dX1_isWithin_46
    · skip
      refine lv_aload_n hx hb dX1_isWithin_29 rfl (lv_at hl 1 rfl) ?_
      refine va_get (D := D) (ci := 1) (v := .ref (q 6)) hx hb hts hin hown hK hP 0 rfl rfl 7 (by decide) f29 (fun _ h9 => h9) rfl dX1_isWithin_30 ?_
      refine lv_iload_n hx hb dX1_isWithin_33 rfl (lv_at hl 2 rfl) ?_
      refine xiald hx hb hK hP 7 0 rfl rfl (g := g) (hw.g hg) (by decide) dX1_isWithin_34 ?_
      refine lv_aload_n hx hb dX1_isWithin_35 rfl (lv_at hl 3 rfl) ?_
      refine lv_iload_n hx hb dX1_isWithin_36 rfl (lv_at hl 0 rfl) ?_
      refine va_iald hx hb hK hP 2 0 rfl rfl (i := (F 5 g)) ((hw.c5 hg).in c_26) dX1_isWithin_37 ?_
      refine lv_icmp_gt (x := (F 6 g)) (y := (F 1 (F 5 g).toNatClampNeg)) (tgt := 45) hx hb dX1_isWithin_38 (by decide) (fun c_38 => ?_) (fun c_38 => ?_)
      · skip
        refine lv_iconst (v := 0) hx hb dX1_isWithin_45 (by decide) ?_
        exact W.zret hx hb hr zn0 (fun t ht hW => ⟨⟨_, (), rfl, (by show 0 = bi (sWithin F 1 g); first | (simp only [bi, sWithin, eq_false c_21, eq_false c_26, eq_true c_38, reduceIte, Bool.false_eq_true, Bool.true_eq_false]; done) | (simp [bi, sWithin, eq_false c_21, eq_false c_26, eq_true c_38]; done)), trivial⟩, hS.F ht⟩) hS.2.2 dX1_isWithin_46
      · skip
        refine lv_iconst (v := 1) hx hb dX1_isWithin_41 (by decide) ?_
        refine lv_goto (tgt := 46) hx hb dX1_isWithin_42 (by decide) ?_
        exact W.zret hx hb hr zn1 (fun t ht hW => ⟨⟨_, (), rfl, (by show 1 = bi (sWithin F 1 g); first | (simp only [bi, sWithin, eq_false c_21, eq_false c_26, eq_false c_38, reduceIte, Bool.false_eq_true, Bool.true_eq_false]; done) | (simp [bi, sWithin, eq_false c_21, eq_false c_26, eq_false c_38]; done)), trivial⟩, hS.F ht⟩) hS.2.2 dX1_isWithin_46
set_option maxHeartbeats 4000000 in
set_option maxRecDepth 100000 in
theorem c_X1_isWithin_2 (l : Launch) (D : va_G) (q : Nat → Nat) (F : Nat → Nat → Int32) (n : Nat) (R : Nat → Int32) (th : Int32) (cI cZ : ClassId) (g : Nat) (hw : WF F n) (hg : g < n) : Met l yX1_isWithin wsX1_isWithin ({ frames := 0, cells := 0, slots := 0, locals := 0 }) (va_Pc [.ref (q 9), .int (nI g), .ref (q 2)] (rW D (wM q F (nI n) R th cI cZ) (tIZ cI cZ))) (RO (fun r => r = bi (sWithin F 2 g))) 0 0 nA := by
  refine ro_of (own := RX1) (cc := cX1_isWithin) (maxL := 4) (ret := (some .boolean)) (by decide) rfl rfl (Nat.le_of_ble_eq_true rfl) ?_
  intro p9 e9 s m9 a9 below meth c9 ls hx hb hr hml hlocks hown hts hP hK hl
  have hin : ∀ w ∈ wsX10, w ∈ wsX1_isWithin := by decide +kernel
  have f23 := hts (.fieldLink RX1 23 "DangerousGoodsModel" "classes" "[I") (by decide +kernel)
  have f26 := hts (.fieldLink RX1 26 "DangerousGoodsModel" "subsidiaries" "[I") (by decide +kernel)
  have f29 := hts (.fieldLink RX1 29 "DangerousGoodsModel" "quantities" "[I") (by decide +kernel)
  have hS : va_S nA s.heap s.heap [] := va_S.rf
  have hl : lv_has ls 4 [(0, .ref (q 9)), (1, .int (nI g)), (2, .ref (q 2))] := hl
  refine lv_aload_n hx hb dX1_isWithin_0 rfl (lv_at hl 0 rfl) ?_
  refine va_get (D := D) (ci := 1) (v := .ref (q 5)) hx hb hts hin hown hK hP 0 rfl rfl 6 (by decide) f26 (fun _ h9 => h9) rfl dX1_isWithin_1 ?_
  refine lv_iload_n hx hb dX1_isWithin_4 rfl (lv_at hl 1 rfl) ?_
  refine xiald hx hb hK hP 6 0 rfl rfl (g := g) (hw.g hg) (by decide) dX1_isWithin_5 ?_
  refine lv_istore_n (lv' := [(3, .int (F 5 g)), (0, .ref (q 9)), (1, .int (nI g)), (2, .ref (q 2))]) hx hb dX1_isWithin_6 rfl hl (by decide) rfl (fun ls hl => ?_)
  refine lv_aload_n hx hb dX1_isWithin_7 rfl (lv_at hl 1 rfl) ?_
  refine va_get (D := D) (ci := 1) (v := .ref (q 6)) hx hb hts hin hown hK hP 0 rfl rfl 7 (by decide) f29 (fun _ h9 => h9) rfl dX1_isWithin_8 ?_
  refine lv_iload_n hx hb dX1_isWithin_11 rfl (lv_at hl 2 rfl) ?_
  refine xiald hx hb hK hP 7 0 rfl rfl (g := g) (hw.g hg) (by decide) dX1_isWithin_12 ?_
  refine lv_aload_n hx hb dX1_isWithin_13 rfl (lv_at hl 3 rfl) ?_
  refine lv_aload_n hx hb dX1_isWithin_14 rfl (lv_at hl 1 rfl) ?_
  refine va_get (D := D) (ci := 1) (v := .ref (q 4)) hx hb hts hin hown hK hP 0 rfl rfl 5 (by decide) f23 (fun _ h9 => h9) rfl dX1_isWithin_15 ?_
  refine lv_iload_n hx hb dX1_isWithin_18 rfl (lv_at hl 2 rfl) ?_
  refine xiald hx hb hK hP 5 0 rfl rfl (g := g) (hw.g hg) (by decide) dX1_isWithin_19 ?_
  refine va_iald hx hb hK hP 3 0 rfl rfl (i := (F 4 g)) ((hw.c4 hg).in (hw.c4n hg)) dX1_isWithin_20 ?_
  refine lv_icmp_gt (x := (F 6 g)) (y := (F 2 (F 4 g).toNatClampNeg)) (tgt := 45) hx hb dX1_isWithin_21 (by decide) (fun c_21 => ?_) (fun c_21 => ?_)
  · skip
    refine lv_iconst (v := 0) hx hb dX1_isWithin_45 (by decide) ?_
    exact W.zret hx hb hr zn0 (fun t ht hW => ⟨⟨_, (), rfl, (by show 0 = bi (sWithin F 2 g); first | (simp only [bi, sWithin, eq_true c_21, reduceIte, Bool.false_eq_true, Bool.true_eq_false]; done) | (simp [bi, sWithin, eq_true c_21]; done)), trivial⟩, hS.F ht⟩) hS.2.2 dX1_isWithin_46
  · skip
    refine lv_iload_n hx hb dX1_isWithin_24 rfl (lv_at hl 0 rfl) ?_
    refine lv_iconst (v := (-1)) hx hb dX1_isWithin_25 (by decide) ?_
    refine lv_icmp_eq (x := (F 5 g)) (y := (-1)) (tgt := 41) hx hb dX1_isWithin_26 (by decide) (fun c_26 => ?_) (fun c_26 => ?_)
    · skip
      refine lv_iconst (v := 1) hx hb dX1_isWithin_41 (by decide) ?_
      refine lv_goto (tgt := 46) hx hb dX1_isWithin_42 (by decide) ?_
      exact W.zret hx hb hr zn1 (fun t ht hW => ⟨⟨_, (), rfl, (by show 1 = bi (sWithin F 2 g); first | (simp only [bi, sWithin, eq_false c_21, eq_true c_26, reduceIte, Bool.false_eq_true, Bool.true_eq_false]; done) | (simp [bi, sWithin, eq_false c_21, eq_true c_26]; done)), trivial⟩, hS.F ht⟩) hS.2.2 dX1_isWithin_46
    · skip
      refine lv_aload_n hx hb dX1_isWithin_29 rfl (lv_at hl 1 rfl) ?_
      refine va_get (D := D) (ci := 1) (v := .ref (q 6)) hx hb hts hin hown hK hP 0 rfl rfl 7 (by decide) f29 (fun _ h9 => h9) rfl dX1_isWithin_30 ?_
      refine lv_iload_n hx hb dX1_isWithin_33 rfl (lv_at hl 2 rfl) ?_
      refine xiald hx hb hK hP 7 0 rfl rfl (g := g) (hw.g hg) (by decide) dX1_isWithin_34 ?_
      refine lv_aload_n hx hb dX1_isWithin_35 rfl (lv_at hl 3 rfl) ?_
      refine lv_iload_n hx hb dX1_isWithin_36 rfl (lv_at hl 0 rfl) ?_
      refine va_iald hx hb hK hP 3 0 rfl rfl (i := (F 5 g)) ((hw.c5 hg).in c_26) dX1_isWithin_37 ?_
      refine lv_icmp_gt (x := (F 6 g)) (y := (F 2 (F 5 g).toNatClampNeg)) (tgt := 45) hx hb dX1_isWithin_38 (by decide) (fun c_38 => ?_) (fun c_38 => ?_)
      · skip
        refine lv_iconst (v := 0) hx hb dX1_isWithin_45 (by decide) ?_
        exact W.zret hx hb hr zn0 (fun t ht hW => ⟨⟨_, (), rfl, (by show 0 = bi (sWithin F 2 g); first | (simp only [bi, sWithin, eq_false c_21, eq_false c_26, eq_true c_38, reduceIte, Bool.false_eq_true, Bool.true_eq_false]; done) | (simp [bi, sWithin, eq_false c_21, eq_false c_26, eq_true c_38]; done)), trivial⟩, hS.F ht⟩) hS.2.2 dX1_isWithin_46
      · skip
        refine lv_iconst (v := 1) hx hb dX1_isWithin_41 (by decide) ?_
        refine lv_goto (tgt := 46) hx hb dX1_isWithin_42 (by decide) ?_
        exact W.zret hx hb hr zn1 (fun t ht hW => ⟨⟨_, (), rfl, (by show 1 = bi (sWithin F 2 g); first | (simp only [bi, sWithin, eq_false c_21, eq_false c_26, eq_false c_38, reduceIte, Bool.false_eq_true, Bool.true_eq_false]; done) | (simp [bi, sWithin, eq_false c_21, eq_false c_26, eq_false c_38]; done)), trivial⟩, hS.F ht⟩) hS.2.2 dX1_isWithin_46
set_option maxHeartbeats 4000000 in
set_option maxRecDepth 100000 in
theorem c_X1_areExcepted (l : Launch) (D : va_G) (q : Nat → Nat) (F : Nat → Nat → Int32) (n : Nat) (R : Nat → Int32) (th : Int32) (cI cZ : ClassId) (g : Nat) (hw : WF F n) (hg : g < n) : Met l yX1_areExcepted wsX1_areExcepted ({ frames := 1, cells := 0, slots := 0, locals := 23 }) (va_Pc [.ref (q 9), .int (nI g)] (rW D (wM q F (nI n) R th cI cZ) (tIZ cI cZ))) (RO (fun r => r = bi (sExc F g))) 0 0 nA := by
  refine ro_of (own := RX1) (cc := cX1_areExcepted) (maxL := 2) (ret := (some .boolean)) (by decide) rfl rfl (Nat.le_of_ble_eq_true rfl) ?_
  intro p9 e9 s m9 a9 below meth c9 ls hx hb hr hml hlocks hown hts hP hK hl
  have hin : ∀ w ∈ wsX10, w ∈ wsX1_areExcepted := by decide +kernel
  have f16 := hts (.fieldLink RX1 16 "DangerousGoodsModel" "exceptions" "[I") (by decide +kernel)
  have hS : va_S nA s.heap s.heap [] := va_S.rf
  have hl : lv_has ls 2 [(0, .ref (q 9)), (1, .int (nI g))] := hl
  refine lv_aload_n hx hb dX1_areExcepted_0 rfl (lv_at hl 0 rfl) ?_
  refine lv_iload_n hx hb dX1_areExcepted_1 rfl (lv_at hl 1 rfl) ?_
  refine lv_aload_n hx hb dX1_areExcepted_2 rfl (lv_at hl 0 rfl) ?_
  refine va_get (D := D) (ci := 1) (v := .ref (q 2)) hx hb hts hin hown hK hP 0 rfl rfl 2 (by decide) f16 (fun _ h9 => h9) rfl dX1_areExcepted_3 ?_
  refine ro_V (As := [.int (nI g), .ref (q 2)]) (rest := []) ⟨hx, hb, hml, hown, hts⟩ (c_X1_isWithin_2 l D q F n R th cI cZ g hw hg) (cwV 2 hts gX1_areExcepted_X1_isWithin rfl rfl rfl (by decide +kernel) ⟨Nat.le_of_ble_eq_true rfl, Nat.le_of_ble_eq_true rfl⟩) hK hP hP (va_recv hK hP (ci := 1) (q0 := 0) rfl rfl) hS rfl hl.1 rfl (Nat.le_of_ble_eq_true rfl) dX1_areExcepted_6 ⟨Nat.le_of_ble_eq_true rfl, Nat.le_of_ble_eq_true rfl⟩ (fun r H locs hr9 hP hS => ?_)
  subst hr9
  exact W.zret hx hb hr (bi_nar _) (fun t ht hW => ⟨⟨_, (), rfl, rfl, trivial⟩, hS.F ht⟩) hS.2.2 dX1_areExcepted_9
set_option maxHeartbeats 4000000 in
set_option maxRecDepth 100000 in
theorem c_X1_areLimited (l : Launch) (D : va_G) (q : Nat → Nat) (F : Nat → Nat → Int32) (n : Nat) (R : Nat → Int32) (th : Int32) (cI cZ : ClassId) (g : Nat) (hw : WF F n) (hg : g < n) : Met l yX1_areLimited wsX1_areLimited ({ frames := 2, cells := 0, slots := 0, locals := 44 }) (va_Pc [.ref (q 9), .int (nI g)] (rW D (wM q F (nI n) R th cI cZ) (tIZ cI cZ))) (RO (fun r => r = bi (sLim F g))) 0 0 nA := by
  refine ro_of (own := RX1) (cc := cX1_areLimited) (maxL := 2) (ret := (some .boolean)) (by decide) rfl rfl (Nat.le_of_ble_eq_true rfl) ?_
  intro p9 e9 s m9 a9 below meth c9 ls hx hb hr hml hlocks hown hts hP hK hl
  have hin : ∀ w ∈ wsX10, w ∈ wsX1_areLimited := by decide +kernel
  have f13 := hts (.fieldLink RX1 13 "DangerousGoodsModel" "limits" "[I") (by decide +kernel)
  have hS : va_S nA s.heap s.heap [] := va_S.rf
  have hl : lv_has ls 2 [(0, .ref (q 9)), (1, .int (nI g))] := hl
  refine lv_aload_n hx hb dX1_areLimited_0 rfl (lv_at hl 0 rfl) ?_
  refine lv_iload_n hx hb dX1_areLimited_1 rfl (lv_at hl 1 rfl) ?_
  refine ro_V (As := [.int (nI g)]) (rest := []) ⟨hx, hb, hml, hown, hts⟩ (c_X1_areExcepted l D q F n R th cI cZ g hw hg) (cwV 1 hts gX1_areLimited_X1_areExcepted rfl rfl rfl (by decide +kernel) ⟨Nat.le_of_ble_eq_true rfl, Nat.le_of_ble_eq_true rfl⟩) hK hP hP (va_recv hK hP (ci := 1) (q0 := 0) rfl rfl) hS rfl hl.1 rfl (Nat.le_of_ble_eq_true rfl) dX1_areLimited_2 ⟨Nat.le_of_ble_eq_true rfl, Nat.le_of_ble_eq_true rfl⟩ (fun r H locs hr9 hP hS => ?_)
  subst hr9
  refine lv_if_ne (x := (bi (sExc F g))) (tgt := 24) hx hb dX1_areLimited_5 (by decide) (fun c_5 => ?_) (fun c_5 => ?_)
  · have c_5 := bi_n0.mp c_5
    refine lv_iconst (v := 0) hx hb dX1_areLimited_24 (by decide) ?_
    exact W.zret hx hb hr zn0 (fun t ht hW => ⟨⟨_, (), rfl, (by show 0 = bi (sLim F g); simp only [sExc] at c_5; first | (simp only [bi, sLim, c_5, reduceIte, Bool.false_eq_true, Bool.true_eq_false]; done) | (simp [bi, sLim, c_5]; done)), trivial⟩, hS.F ht⟩) hS.2.2 dX1_areLimited_25
  · have c_5 := bi_e0.mp c_5
    refine lv_aload_n hx hb dX1_areLimited_8 rfl (lv_at hl 0 rfl) ?_
    refine lv_iload_n hx hb dX1_areLimited_9 rfl (lv_at hl 1 rfl) ?_
    refine lv_aload_n hx hb dX1_areLimited_10 rfl (lv_at hl 0 rfl) ?_
    refine va_get (D := D) (ci := 1) (v := .ref (q 1)) hx hb hts hin hown hK hP 0 rfl rfl 1 (by decide) f13 (fun _ h9 => h9) rfl dX1_areLimited_11 ?_
    refine ro_V (As := [.int (nI g), .ref (q 1)]) (rest := []) ⟨hx, hb, hml, hown, hts⟩ (c_X1_isWithin_1 l D q F n R th cI cZ g hw hg) (cwV 2 hts gX1_areLimited_X1_isWithin rfl rfl rfl (by decide +kernel) ⟨Nat.le_of_ble_eq_true rfl, Nat.le_of_ble_eq_true rfl⟩) hK hP hP (va_recv hK hP (ci := 1) (q0 := 0) rfl rfl) hS rfl hl.1 rfl (Nat.le_of_ble_eq_true rfl) dX1_areLimited_14 ⟨Nat.le_of_ble_eq_true rfl, Nat.le_of_ble_eq_true rfl⟩ (fun r H locs hr9 hP hS => ?_)
    subst hr9
    refine lv_if_eq (x := (bi (sWithin F 1 g))) (tgt := 24) hx hb dX1_areLimited_17 (by decide) (fun c_17 => ?_) (fun c_17 => ?_)
    · have c_17 := bi_e0.mp c_17
      refine lv_iconst (v := 0) hx hb dX1_areLimited_24 (by decide) ?_
      exact W.zret hx hb hr zn0 (fun t ht hW => ⟨⟨_, (), rfl, (by show 0 = bi (sLim F g); simp only [sExc] at c_5; first | (simp only [bi, sLim, c_5, c_17, reduceIte, Bool.false_eq_true, Bool.true_eq_false]; done) | (simp [bi, sLim, c_5, c_17]; done)), trivial⟩, hS.F ht⟩) hS.2.2 dX1_areLimited_25
    · have c_17 := bi_n0.mp c_17
      refine lv_iconst (v := 1) hx hb dX1_areLimited_20 (by decide) ?_
      refine lv_goto (tgt := 25) hx hb dX1_areLimited_21 (by decide) ?_
      exact W.zret hx hb hr zn1 (fun t ht hW => ⟨⟨_, (), rfl, (by show 1 = bi (sLim F g); simp only [sExc] at c_5; first | (simp only [bi, sLim, c_5, c_17, reduceIte, Bool.false_eq_true, Bool.true_eq_false]; done) | (simp [bi, sLim, c_5, c_17]; done)), trivial⟩, hS.F ht⟩) hS.2.2 dX1_areLimited_25
set_option maxHeartbeats 4000000 in
set_option maxRecDepth 100000 in
theorem c_X1_ofTable (l : Launch) (D : va_G) (q : Nat → Nat) (F : Nat → Nat → Int32) (n : Nat) (R : Nat → Int32) (th : Int32) (cI cZ : ClassId) (c1 : Int32) (c2 : Int32) (h1 : okC c1) (h2 : okC c2) : Met l yX1_ofTable wsX1_ofTable ({ frames := 0, cells := 0, slots := 0, locals := 0 }) (va_Pc [.ref (q 9), .int c1, .int c2] (rW D (wM q F (nI n) R th cI cZ) (tIZ cI cZ))) (RO (fun r => r = mTab F c1 c2)) 0 0 nA := by
  refine ro_of (own := RX1) (cc := cX1_ofTable) (maxL := 3) (ret := (some .int)) (by decide) rfl rfl (Nat.le_of_ble_eq_true rfl) ?_
  intro p9 e9 s m9 a9 below meth c9 ls hx hb hr hml hlocks hown hts hP hK hl
  have hin : ∀ w ∈ wsX10, w ∈ wsX1_ofTable := by decide +kernel
  have f7 := hts (.fieldLink RX1 7 "DangerousGoodsModel" "table" "[I") (by decide +kernel)
  have hS : va_S nA s.heap s.heap [] := va_S.rf
  have hl : lv_has ls 3 [(0, .ref (q 9)), (1, .int c1), (2, .int c2)] := hl
  refine lv_iload_n hx hb dX1_ofTable_0 rfl (lv_at hl 1 rfl) ?_
  refine lv_iconst (v := (-1)) hx hb dX1_ofTable_1 (by decide) ?_
  refine lv_icmp_eq (x := c1) (y := (-1)) (tgt := 10) hx hb dX1_ofTable_2 (by decide) (fun c_2 => ?_) (fun c_2 => ?_)
  · skip
    refine lv_iconst (v := 0) hx hb dX1_ofTable_10 (by decide) ?_
    refine lv_goto (tgt := 25) hx hb dX1_ofTable_11 (by decide) ?_
    exact W.iret hx hb hr (fun t ht hW => ⟨⟨_, (), rfl, (by show 0 = mTab F c1 c2; first | (simp only [mTab, eq_true c_2, reduceIte, Bool.false_eq_true, Bool.true_eq_false]; done) | (simp [mTab, eq_true c_2]; done)), trivial⟩, hS.F ht⟩) hS.2.2 dX1_ofTable_25
  · skip
    refine lv_iload_n hx hb dX1_ofTable_5 rfl (lv_at hl 2 rfl) ?_
    refine lv_iconst (v := (-1)) hx hb dX1_ofTable_6 (by decide) ?_
    refine lv_icmp_ne (x := c2) (y := (-1)) (tgt := 14) hx hb dX1_ofTable_7 (by decide) (fun c_7 => ?_) (fun c_7 => ?_)
    · skip
      refine lv_aload_n hx hb dX1_ofTable_14 rfl (lv_at hl 0 rfl) ?_
      refine va_get (D := D) (ci := 1) (v := .ref (q 0)) hx hb hts hin hown hK hP 0 rfl rfl 0 (by decide) f7 (fun _ h9 => h9) rfl dX1_ofTable_15 ?_
      refine lv_bipush (v := 10) hx hb dX1_ofTable_18 (by decide) ?_
      refine lv_iload_n hx hb dX1_ofTable_20 rfl (lv_at hl 1 rfl) ?_
      refine lv_imul hx hb (x := 10) (y := c1) dX1_ofTable_21 ?_
      refine lv_iload_n hx hb dX1_ofTable_22 rfl (lv_at hl 2 rfl) ?_
      refine lv_iadd hx hb (x := (10 * c1)) (y := c2) dX1_ofTable_23 ?_
      refine va_iald hx hb hK hP 1 0 rfl rfl (i := ((10 * c1) + c2)) (tab_in2 h1 h2 (id c_2) (id c_7)) dX1_ofTable_24 ?_
      exact W.iret hx hb hr (fun t ht hW => ⟨⟨_, (), rfl, (by show (F 0 ((10 * c1) + c2).toNatClampNeg) = mTab F c1 c2; first | (simp only [mTab, eq_false c_2, eq_false c_7, reduceIte, Bool.false_eq_true, Bool.true_eq_false]; done) | (simp [mTab, eq_false c_2, eq_false c_7]; done)), trivial⟩, hS.F ht⟩) hS.2.2 dX1_ofTable_25
    · skip
      refine lv_iconst (v := 0) hx hb dX1_ofTable_10 (by decide) ?_
      refine lv_goto (tgt := 25) hx hb dX1_ofTable_11 (by decide) ?_
      exact W.iret hx hb hr (fun t ht hW => ⟨⟨_, (), rfl, (by show 0 = mTab F c1 c2; first | (simp only [mTab, eq_false c_2, eq_true c_7, reduceIte, Bool.false_eq_true, Bool.true_eq_false]; done) | (simp [mTab, eq_false c_2, eq_true c_7]; done)), trivial⟩, hS.F ht⟩) hS.2.2 dX1_ofTable_25
set_option maxHeartbeats 4000000 in
set_option maxRecDepth 100000 in
theorem c_X1_greater (l : Launch) (a : Int32) (b : Int32) : Met l yX1_greater wsX1_greater ({ frames := 0, cells := 0, slots := 0, locals := 0 }) (va_Pc [.int a, .int b] (fun _ => True)) (RO (fun r => r = mGt a b)) 0 0 nA := by
  refine ro_ofS (own := RX1) (cc := cX1_greater) (maxL := 2) (ret := (some .int)) (by decide) rfl rfl (Nat.le_of_ble_eq_true rfl) ?_
  intro p9 e9 s m9 a9 below meth c9 ls hx hb hr hml hlocks hown hts hP hl
  have hS : va_S nA s.heap s.heap [] := va_S.rf
  have hl : lv_has ls 2 [(0, .int a), (1, .int b)] := hl
  refine lv_iload_n hx hb dX1_greater_0 rfl (lv_at hl 0 rfl) ?_
  refine lv_iload_n hx hb dX1_greater_1 rfl (lv_at hl 1 rfl) ?_
  refine lv_icmp_le (x := a) (y := b) (tgt := 9) hx hb dX1_greater_2 (by decide) (fun c_2 => ?_) (fun c_2 => ?_)
  · skip
    refine lv_iload_n hx hb dX1_greater_9 rfl (lv_at hl 1 rfl) ?_
    exact W.iret hx hb hr (fun t ht hW => ⟨⟨_, (), rfl, (by show b = mGt a b; first | (simp only [mGt, eq_true c_2, reduceIte, Bool.false_eq_true, Bool.true_eq_false]; done) | (simp [mGt, eq_true c_2]; done)), trivial⟩, hS.F ht⟩) hS.2.2 dX1_greater_10
  · skip
    refine lv_iload_n hx hb dX1_greater_5 rfl (lv_at hl 0 rfl) ?_
    refine lv_goto (tgt := 10) hx hb dX1_greater_6 (by decide) ?_
    exact W.iret hx hb hr (fun t ht hW => ⟨⟨_, (), rfl, (by show a = mGt a b; first | (simp only [mGt, eq_false c_2, reduceIte, Bool.false_eq_true, Bool.true_eq_false]; done) | (simp [mGt, eq_false c_2]; done)), trivial⟩, hS.F ht⟩) hS.2.2 dX1_greater_10
set_option maxHeartbeats 4000000 in
set_option maxRecDepth 100000 in
theorem c_X1_needs (l : Launch) (D : va_G) (q : Nat → Nat) (F : Nat → Nat → Int32) (n : Nat) (R : Nat → Int32) (th : Int32) (cI cZ : ClassId) (g : Nat) (h : Nat) (hw : WF F n) (hg : g < n) (hh : h < n) : Met l yX1_needs wsX1_needs ({ frames := 3, cells := 0, slots := 0, locals := 65 }) (va_Pc [.ref (q 9), .int (nI g), .int (nI h)] (rW D (wM q F (nI n) R th cI cZ) (tIZ cI cZ))) (RO (fun r => r = mNeed F g h)) 0 0 nA := by
  refine ro_of (own := RX1) (cc := cX1_needs) (maxL := 6) (ret := (some .int)) (by decide) rfl rfl (Nat.le_of_ble_eq_true rfl) ?_
  intro p9 e9 s m9 a9 below meth c9 ls hx hb hr hml hlocks hown hts hP hK hl
  have hin : ∀ w ∈ wsX10, w ∈ wsX1_needs := by decide +kernel
  have f23 := hts (.fieldLink RX1 23 "DangerousGoodsModel" "classes" "[I") (by decide +kernel)
  have f26 := hts (.fieldLink RX1 26 "DangerousGoodsModel" "subsidiaries" "[I") (by decide +kernel)
  have hS : va_S nA s.heap s.heap [] := va_S.rf
  have hl : lv_has ls 6 [(0, .ref (q 9)), (1, .int (nI g)), (2, .int (nI h))] := hl
  refine lv_aload_n hx hb dX1_needs_0 rfl (lv_at hl 0 rfl) ?_
  refine lv_aload_n hx hb dX1_needs_1 rfl (lv_at hl 0 rfl) ?_
  refine va_get (D := D) (ci := 1) (v := .ref (q 4)) hx hb hts hin hown hK hP 0 rfl rfl 5 (by decide) f23 (fun _ h9 => h9) rfl dX1_needs_2 ?_
  refine lv_iload_n hx hb dX1_needs_5 rfl (lv_at hl 1 rfl) ?_
  refine xiald hx hb hK hP 5 0 rfl rfl (g := g) (hw.g hg) (by decide) dX1_needs_6 ?_
  refine lv_aload_n hx hb dX1_needs_7 rfl (lv_at hl 0 rfl) ?_
  refine va_get (D := D) (ci := 1) (v := .ref (q 4)) hx hb hts hin hown hK hP 0 rfl rfl 5 (by decide) f23 (fun _ h9 => h9) rfl dX1_needs_8 ?_
  refine lv_iload_n hx hb dX1_needs_11 rfl (lv_at hl 2 rfl) ?_
  refine xiald hx hb hK hP 5 0 rfl rfl (g := h) (hw.g hh) (by decide) dX1_needs_12 ?_
  refine ro_V (As := [.int (F 4 g), .int (F 4 h)]) (rest := []) ⟨hx, hb, hml, hown, hts⟩ (c_X1_ofTable l D q F n R th cI cZ (F 4 g) (F 4 h) (hw.c4 hg) (hw.c4 hh)) (cwV 2 hts gX1_needs_X1_ofTable rfl rfl rfl (by decide +kernel) ⟨Nat.le_of_ble_eq_true rfl, Nat.le_of_ble_eq_true rfl⟩) hK hP hP (va_recv hK hP (ci := 1) (q0 := 0) rfl rfl) hS rfl hl.1 rfl (Nat.le_of_ble_eq_true rfl) dX1_needs_13 ⟨Nat.le_of_ble_eq_true rfl, Nat.le_of_ble_eq_true rfl⟩ (fun r H locs hr9 hP hS => ?_)
  subst hr9
  refine lv_aload_n hx hb dX1_needs_16 rfl (lv_at hl 0 rfl) ?_
  refine lv_aload_n hx hb dX1_needs_17 rfl (lv_at hl 0 rfl) ?_
  refine va_get (D := D) (ci := 1) (v := .ref (q 4)) hx hb hts hin hown hK hP 0 rfl rfl 5 (by decide) f23 (fun _ h9 => h9) rfl dX1_needs_18 ?_
  refine lv_iload_n hx hb dX1_needs_21 rfl (lv_at hl 1 rfl) ?_
  refine xiald hx hb hK hP 5 0 rfl rfl (g := g) (hw.g hg) (by decide) dX1_needs_22 ?_
  refine lv_aload_n hx hb dX1_needs_23 rfl (lv_at hl 0 rfl) ?_
  refine va_get (D := D) (ci := 1) (v := .ref (q 5)) hx hb hts hin hown hK hP 0 rfl rfl 6 (by decide) f26 (fun _ h9 => h9) rfl dX1_needs_24 ?_
  refine lv_iload_n hx hb dX1_needs_27 rfl (lv_at hl 2 rfl) ?_
  refine xiald hx hb hK hP 6 0 rfl rfl (g := h) (hw.g hh) (by decide) dX1_needs_28 ?_
  refine ro_V (As := [.int (F 4 g), .int (F 5 h)]) (rest := [.int (mTab F (F 4 g) (F 4 h))]) ⟨hx, hb, hml, hown, hts⟩ (c_X1_ofTable l D q F n R th cI cZ (F 4 g) (F 5 h) (hw.c4 hg) (hw.c5 hh)) (cwV 2 hts gX1_needs_X1_ofTable rfl rfl rfl (by decide +kernel) ⟨Nat.le_of_ble_eq_true rfl, Nat.le_of_ble_eq_true rfl⟩) hK hP hP (va_recv hK hP (ci := 1) (q0 := 0) rfl rfl) hS rfl hl.1 rfl (Nat.le_of_ble_eq_true rfl) dX1_needs_29 ⟨Nat.le_of_ble_eq_true rfl, Nat.le_of_ble_eq_true rfl⟩ (fun r H locs hr9 hP hS => ?_)
  subst hr9
  refine ro_S (As := [.int (mTab F (F 4 g) (F 4 h)), .int (mTab F (F 4 g) (F 5 h))]) (rest := []) ⟨hx, hb, hml, hown, hts⟩ (c_X1_greater l (mTab F (F 4 g) (F 4 h)) (mTab F (F 4 g) (F 5 h))) (va_cwS 2 hts gX1_needs_X1_greater rfl rfl rfl (by decide +kernel) ⟨Nat.le_of_ble_eq_true rfl, Nat.le_of_ble_eq_true rfl⟩) hP hS rfl hl.1 rfl (Nat.le_of_ble_eq_true rfl) dX1_needs_32 ⟨Nat.le_of_ble_eq_true rfl, Nat.le_of_ble_eq_true rfl⟩ (fun r H locs hr9 hP hS => ?_)
  subst hr9
  refine lv_istore_n (lv' := [(3, .int (mGt (mTab F (F 4 g) (F 4 h)) (mTab F (F 4 g) (F 5 h)))), (0, .ref (q 9)), (1, .int (nI g)), (2, .int (nI h))]) hx hb dX1_needs_35 rfl hl (by decide) rfl (fun ls hl => ?_)
  refine lv_aload_n hx hb dX1_needs_36 rfl (lv_at hl 1 rfl) ?_
  refine lv_aload_n hx hb dX1_needs_37 rfl (lv_at hl 1 rfl) ?_
  refine va_get (D := D) (ci := 1) (v := .ref (q 5)) hx hb hts hin hown hK hP 0 rfl rfl 6 (by decide) f26 (fun _ h9 => h9) rfl dX1_needs_38 ?_
  refine lv_iload_n hx hb dX1_needs_41 rfl (lv_at hl 2 rfl) ?_
  refine xiald hx hb hK hP 6 0 rfl rfl (g := g) (hw.g hg) (by decide) dX1_needs_42 ?_
  refine lv_aload_n hx hb dX1_needs_43 rfl (lv_at hl 1 rfl) ?_
  refine va_get (D := D) (ci := 1) (v := .ref (q 4)) hx hb hts hin hown hK hP 0 rfl rfl 5 (by decide) f23 (fun _ h9 => h9) rfl dX1_needs_44 ?_
  refine lv_iload_n hx hb dX1_needs_47 rfl (lv_at hl 3 rfl) ?_
  refine xiald hx hb hK hP 5 0 rfl rfl (g := h) (hw.g hh) (by decide) dX1_needs_48 ?_
  refine ro_V (As := [.int (F 5 g), .int (F 4 h)]) (rest := []) ⟨hx, hb, hml, hown, hts⟩ (c_X1_ofTable l D q F n R th cI cZ (F 5 g) (F 4 h) (hw.c5 hg) (hw.c4 hh)) (cwV 2 hts gX1_needs_X1_ofTable rfl rfl rfl (by decide +kernel) ⟨Nat.le_of_ble_eq_true rfl, Nat.le_of_ble_eq_true rfl⟩) hK hP hP (va_recv hK hP (ci := 1) (q0 := 0) rfl rfl) hS rfl hl.1 rfl (Nat.le_of_ble_eq_true rfl) dX1_needs_49 ⟨Nat.le_of_ble_eq_true rfl, Nat.le_of_ble_eq_true rfl⟩ (fun r H locs hr9 hP hS => ?_)
  subst hr9
  refine lv_aload_n hx hb dX1_needs_52 rfl (lv_at hl 1 rfl) ?_
  refine lv_aload_n hx hb dX1_needs_53 rfl (lv_at hl 1 rfl) ?_
  refine va_get (D := D) (ci := 1) (v := .ref (q 5)) hx hb hts hin hown hK hP 0 rfl rfl 6 (by decide) f26 (fun _ h9 => h9) rfl dX1_needs_54 ?_
  refine lv_iload_n hx hb dX1_needs_57 rfl (lv_at hl 2 rfl) ?_
  refine xiald hx hb hK hP 6 0 rfl rfl (g := g) (hw.g hg) (by decide) dX1_needs_58 ?_
  refine lv_aload_n hx hb dX1_needs_59 rfl (lv_at hl 1 rfl) ?_
  refine va_get (D := D) (ci := 1) (v := .ref (q 5)) hx hb hts hin hown hK hP 0 rfl rfl 6 (by decide) f26 (fun _ h9 => h9) rfl dX1_needs_60 ?_
  refine lv_iload_n hx hb dX1_needs_63 rfl (lv_at hl 3 rfl) ?_
  refine xiald hx hb hK hP 6 0 rfl rfl (g := h) (hw.g hh) (by decide) dX1_needs_64 ?_
  refine ro_V (As := [.int (F 5 g), .int (F 5 h)]) (rest := [.int (mTab F (F 5 g) (F 4 h))]) ⟨hx, hb, hml, hown, hts⟩ (c_X1_ofTable l D q F n R th cI cZ (F 5 g) (F 5 h) (hw.c5 hg) (hw.c5 hh)) (cwV 2 hts gX1_needs_X1_ofTable rfl rfl rfl (by decide +kernel) ⟨Nat.le_of_ble_eq_true rfl, Nat.le_of_ble_eq_true rfl⟩) hK hP hP (va_recv hK hP (ci := 1) (q0 := 0) rfl rfl) hS rfl hl.1 rfl (Nat.le_of_ble_eq_true rfl) dX1_needs_65 ⟨Nat.le_of_ble_eq_true rfl, Nat.le_of_ble_eq_true rfl⟩ (fun r H locs hr9 hP hS => ?_)
  subst hr9
  refine ro_S (As := [.int (mTab F (F 5 g) (F 4 h)), .int (mTab F (F 5 g) (F 5 h))]) (rest := []) ⟨hx, hb, hml, hown, hts⟩ (c_X1_greater l (mTab F (F 5 g) (F 4 h)) (mTab F (F 5 g) (F 5 h))) (va_cwS 2 hts gX1_needs_X1_greater rfl rfl rfl (by decide +kernel) ⟨Nat.le_of_ble_eq_true rfl, Nat.le_of_ble_eq_true rfl⟩) hP hS rfl hl.1 rfl (Nat.le_of_ble_eq_true rfl) dX1_needs_68 ⟨Nat.le_of_ble_eq_true rfl, Nat.le_of_ble_eq_true rfl⟩ (fun r H locs hr9 hP hS => ?_)
  subst hr9
  refine lv_istore (lv' := [(4, .int (mGt (mTab F (F 5 g) (F 4 h)) (mTab F (F 5 g) (F 5 h)))), (3, .int (mGt (mTab F (F 4 g) (F 4 h)) (mTab F (F 4 g) (F 5 h)))), (0, .ref (q 9)), (1, .int (nI g)), (2, .int (nI h))]) hx hb dX1_needs_71 hl (by decide) rfl (fun ls hl => ?_)
  refine lv_iload_n hx hb dX1_needs_73 rfl (lv_at hl 1 rfl) ?_
  refine lv_iload hx hb dX1_needs_74 (lv_at hl 0 rfl) ?_
  refine ro_S (As := [.int (mGt (mTab F (F 4 g) (F 4 h)) (mTab F (F 4 g) (F 5 h))), .int (mGt (mTab F (F 5 g) (F 4 h)) (mTab F (F 5 g) (F 5 h)))]) (rest := []) ⟨hx, hb, hml, hown, hts⟩ (c_X1_greater l (mGt (mTab F (F 4 g) (F 4 h)) (mTab F (F 4 g) (F 5 h))) (mGt (mTab F (F 5 g) (F 4 h)) (mTab F (F 5 g) (F 5 h)))) (va_cwS 2 hts gX1_needs_X1_greater rfl rfl rfl (by decide +kernel) ⟨Nat.le_of_ble_eq_true rfl, Nat.le_of_ble_eq_true rfl⟩) hP hS rfl hl.1 rfl (Nat.le_of_ble_eq_true rfl) dX1_needs_76 ⟨Nat.le_of_ble_eq_true rfl, Nat.le_of_ble_eq_true rfl⟩ (fun r H locs hr9 hP hS => ?_)
  subst hr9
  refine lv_istore (lv' := [(5, .int (mGt (mGt (mTab F (F 4 g) (F 4 h)) (mTab F (F 4 g) (F 5 h))) (mGt (mTab F (F 5 g) (F 4 h)) (mTab F (F 5 g) (F 5 h))))), (4, .int (mGt (mTab F (F 5 g) (F 4 h)) (mTab F (F 5 g) (F 5 h)))), (3, .int (mGt (mTab F (F 4 g) (F 4 h)) (mTab F (F 4 g) (F 5 h)))), (0, .ref (q 9)), (1, .int (nI g)), (2, .int (nI h))]) hx hb dX1_needs_79 hl (by decide) rfl (fun ls hl => ?_)
  have e5 : mGt (mGt (mTab F (F 4 g) (F 4 h)) (mTab F (F 4 g) (F 5 h))) (mGt (mTab F (F 5 g) (F 4 h)) (mTab F (F 5 g) (F 5 h))) = mGreat F g h := rfl
  rw [e5] at hl
  refine lv_aload_n hx hb dX1_needs_81 rfl (lv_at hl 3 rfl) ?_
  refine lv_iload_n hx hb dX1_needs_82 rfl (lv_at hl 4 rfl) ?_
  refine ro_V (As := [.int (nI g)]) (rest := []) ⟨hx, hb, hml, hown, hts⟩ (c_X1_areExcepted l D q F n R th cI cZ g hw hg) (cwV 1 hts gX1_needs_X1_areExcepted rfl rfl rfl (by decide +kernel) ⟨Nat.le_of_ble_eq_true rfl, Nat.le_of_ble_eq_true rfl⟩) hK hP hP (va_recv hK hP (ci := 1) (q0 := 0) rfl rfl) hS rfl hl.1 rfl (Nat.le_of_ble_eq_true rfl) dX1_needs_83 ⟨Nat.le_of_ble_eq_true rfl, Nat.le_of_ble_eq_true rfl⟩ (fun r H locs hr9 hP hS => ?_)
  subst hr9
  refine lv_if_ne (x := (bi (sExc F g))) (tgt := 97) hx hb dX1_needs_86 (by decide) (fun c_86 => ?_) (fun c_86 => ?_)
  · have c_86 := bi_n0.mp c_86
    refine lv_iconst (v := 0) hx hb dX1_needs_97 (by decide) ?_
    exact W.iret hx hb hr (fun t ht hW => ⟨⟨_, (), rfl, (by show 0 = mNeed F g h; first | (simp only [mNeed, mGreat, c_86, reduceIte, Bool.false_eq_true, Bool.true_eq_false]; done) | (simp [mNeed, mGreat, c_86]; done)), trivial⟩, hS.F ht⟩) hS.2.2 dX1_needs_98
  · have c_86 := bi_e0.mp c_86
    refine lv_aload_n hx hb dX1_needs_89 rfl (lv_at hl 3 rfl) ?_
    refine lv_iload_n hx hb dX1_needs_90 rfl (lv_at hl 5 rfl) ?_
    refine ro_V (As := [.int (nI h)]) (rest := []) ⟨hx, hb, hml, hown, hts⟩ (c_X1_areExcepted l D q F n R th cI cZ h hw hh) (cwV 1 hts gX1_needs_X1_areExcepted rfl rfl rfl (by decide +kernel) ⟨Nat.le_of_ble_eq_true rfl, Nat.le_of_ble_eq_true rfl⟩) hK hP hP (va_recv hK hP (ci := 1) (q0 := 0) rfl rfl) hS rfl hl.1 rfl (Nat.le_of_ble_eq_true rfl) dX1_needs_91 ⟨Nat.le_of_ble_eq_true rfl, Nat.le_of_ble_eq_true rfl⟩ (fun r H locs hr9 hP hS => ?_)
    subst hr9
    refine lv_if_eq (x := (bi (sExc F h))) (tgt := 99) hx hb dX1_needs_94 (by decide) (fun c_94 => ?_) (fun c_94 => ?_)
    · have c_94 := bi_e0.mp c_94
      refine lv_iload hx hb dX1_needs_99 (lv_at hl 0 rfl) ?_
      refine lv_if_le (x := (mGt (mGt (mTab F (F 4 g) (F 4 h)) (mTab F (F 4 g) (F 5 h))) (mGt (mTab F (F 5 g) (F 4 h)) (mTab F (F 5 g) (F 5 h))))) (tgt := 127) hx hb dX1_needs_101 (by decide) (fun c_101 => ?_) (fun c_101 => ?_)
      · skip
        refine lv_iload hx hb dX1_needs_127 (lv_at hl 0 rfl) ?_
        exact W.iret hx hb hr (fun t ht hW => ⟨⟨_, (), rfl, (by show (mGt (mGt (mTab F (F 4 g) (F 4 h)) (mTab F (F 4 g) (F 5 h))) (mGt (mTab F (F 5 g) (F 4 h)) (mTab F (F 5 g) (F 5 h)))) = mNeed F g h; first | (simp only [mNeed, mGreat, c_86, c_94, eq_true c_101, reduceIte, Bool.false_eq_true, Bool.true_eq_false]; done) | (simp [mNeed, mGreat, c_86, c_94, eq_true c_101]; done)), trivial⟩, hS.F ht⟩) hS.2.2 dX1_needs_129
      · skip
        refine lv_aload_n hx hb dX1_needs_104 rfl (lv_at hl 3 rfl) ?_
        refine lv_iload_n hx hb dX1_needs_105 rfl (lv_at hl 4 rfl) ?_
        refine ro_V (As := [.int (nI g)]) (rest := []) ⟨hx, hb, hml, hown, hts⟩ (c_X1_areLimited l D q F n R th cI cZ g hw hg) (cwV 1 hts gX1_needs_X1_areLimited rfl rfl rfl (by decide +kernel) ⟨Nat.le_of_ble_eq_true rfl, Nat.le_of_ble_eq_true rfl⟩) hK hP hP (va_recv hK hP (ci := 1) (q0 := 0) rfl rfl) hS rfl hl.1 rfl (Nat.le_of_ble_eq_true rfl) dX1_needs_106 ⟨Nat.le_of_ble_eq_true rfl, Nat.le_of_ble_eq_true rfl⟩ (fun r H locs hr9 hP hS => ?_)
        subst hr9
        refine lv_if_ne (x := (bi (sLim F g))) (tgt := 120) hx hb dX1_needs_109 (by decide) (fun c_109 => ?_) (fun c_109 => ?_)
        · have c_109 := bi_n0.mp c_109
          refine lv_iload hx hb dX1_needs_120 (lv_at hl 0 rfl) ?_
          refine lv_iconst (v := 1) hx hb dX1_needs_122 (by decide) ?_
          refine lv_isub hx hb (x := (mGt (mGt (mTab F (F 4 g) (F 4 h)) (mTab F (F 4 g) (F 5 h))) (mGt (mTab F (F 5 g) (F 4 h)) (mTab F (F 5 g) (F 5 h))))) (y := 1) dX1_needs_123 ?_
          refine lv_goto (tgt := 129) hx hb dX1_needs_124 (by decide) ?_
          exact W.iret hx hb hr (fun t ht hW => ⟨⟨_, (), rfl, (by show ((mGt (mGt (mTab F (F 4 g) (F 4 h)) (mTab F (F 4 g) (F 5 h))) (mGt (mTab F (F 5 g) (F 4 h)) (mTab F (F 5 g) (F 5 h)))) - 1) = mNeed F g h; first | (simp only [mNeed, mGreat, c_86, c_94, eq_false c_101, c_109, reduceIte, Bool.false_eq_true, Bool.true_eq_false]; done) | (simp [mNeed, mGreat, c_86, c_94, eq_false c_101, c_109]; done)), trivial⟩, hS.F ht⟩) hS.2.2 dX1_needs_129
        · have c_109 := bi_e0.mp c_109
          refine lv_aload_n hx hb dX1_needs_112 rfl (lv_at hl 3 rfl) ?_
          refine lv_iload_n hx hb dX1_needs_113 rfl (lv_at hl 5 rfl) ?_
          refine ro_V (As := [.int (nI h)]) (rest := []) ⟨hx, hb, hml, hown, hts⟩ (c_X1_areLimited l D q F n R th cI cZ h hw hh) (cwV 1 hts gX1_needs_X1_areLimited rfl rfl rfl (by decide +kernel) ⟨Nat.le_of_ble_eq_true rfl, Nat.le_of_ble_eq_true rfl⟩) hK hP hP (va_recv hK hP (ci := 1) (q0 := 0) rfl rfl) hS rfl hl.1 rfl (Nat.le_of_ble_eq_true rfl) dX1_needs_114 ⟨Nat.le_of_ble_eq_true rfl, Nat.le_of_ble_eq_true rfl⟩ (fun r H locs hr9 hP hS => ?_)
          subst hr9
          refine lv_if_eq (x := (bi (sLim F h))) (tgt := 127) hx hb dX1_needs_117 (by decide) (fun c_117 => ?_) (fun c_117 => ?_)
          · have c_117 := bi_e0.mp c_117
            refine lv_iload hx hb dX1_needs_127 (lv_at hl 0 rfl) ?_
            exact W.iret hx hb hr (fun t ht hW => ⟨⟨_, (), rfl, (by show (mGt (mGt (mTab F (F 4 g) (F 4 h)) (mTab F (F 4 g) (F 5 h))) (mGt (mTab F (F 5 g) (F 4 h)) (mTab F (F 5 g) (F 5 h)))) = mNeed F g h; first | (simp only [mNeed, mGreat, c_86, c_94, eq_false c_101, c_109, c_117, reduceIte, Bool.false_eq_true, Bool.true_eq_false]; done) | (simp [mNeed, mGreat, c_86, c_94, eq_false c_101, c_109, c_117]; done)), trivial⟩, hS.F ht⟩) hS.2.2 dX1_needs_129
          · have c_117 := bi_n0.mp c_117
            refine lv_iload hx hb dX1_needs_120 (lv_at hl 0 rfl) ?_
            refine lv_iconst (v := 1) hx hb dX1_needs_122 (by decide) ?_
            refine lv_isub hx hb (x := (mGt (mGt (mTab F (F 4 g) (F 4 h)) (mTab F (F 4 g) (F 5 h))) (mGt (mTab F (F 5 g) (F 4 h)) (mTab F (F 5 g) (F 5 h))))) (y := 1) dX1_needs_123 ?_
            refine lv_goto (tgt := 129) hx hb dX1_needs_124 (by decide) ?_
            exact W.iret hx hb hr (fun t ht hW => ⟨⟨_, (), rfl, (by show ((mGt (mGt (mTab F (F 4 g) (F 4 h)) (mTab F (F 4 g) (F 5 h))) (mGt (mTab F (F 5 g) (F 4 h)) (mTab F (F 5 g) (F 5 h)))) - 1) = mNeed F g h; first | (simp only [mNeed, mGreat, c_86, c_94, eq_false c_101, c_109, c_117, reduceIte, Bool.false_eq_true, Bool.true_eq_false]; done) | (simp [mNeed, mGreat, c_86, c_94, eq_false c_101, c_109, c_117]; done)), trivial⟩, hS.F ht⟩) hS.2.2 dX1_needs_129
    · have c_94 := bi_n0.mp c_94
      refine lv_iconst (v := 0) hx hb dX1_needs_97 (by decide) ?_
      exact W.iret hx hb hr (fun t ht hW => ⟨⟨_, (), rfl, (by show 0 = mNeed F g h; first | (simp only [mNeed, mGreat, c_86, c_94, reduceIte, Bool.false_eq_true, Bool.true_eq_false]; done) | (simp [mNeed, mGreat, c_86, c_94]; done)), trivial⟩, hS.F ht⟩) hS.2.2 dX1_needs_98
set_option maxHeartbeats 4000000 in
set_option maxRecDepth 100000 in
theorem c_X1_areFoes (l : Launch) (D : va_G) (q : Nat → Nat) (F : Nat → Nat → Int32) (n : Nat) (R : Nat → Int32) (th : Int32) (cI cZ : ClassId) (g : Nat) (h : Nat) (p : Int32) (hw : WF F n) (hg : g < n) (hh : h < n) : Met l yX1_areFoes wsX1_areFoes ({ frames := 4, cells := 0, slots := 0, locals := 90 }) (va_Pc [.ref (q 9), .int (nI g), .int (nI h), .int p] (rW D (wM q F (nI n) R th cI cZ) (tIZ cI cZ))) (RO (fun r => r = bi (mFoe F g h p))) 0 0 nA := by
  refine ro_of (own := RX1) (cc := cX1_areFoes) (maxL := 4) (ret := (some .boolean)) (by decide) rfl rfl (Nat.le_of_ble_eq_true rfl) ?_
  intro p9 e9 s m9 a9 below meth c9 ls hx hb hr hml hlocks hown hts hP hK hl
  have hin : ∀ w ∈ wsX10, w ∈ wsX1_areFoes := by decide +kernel
  have f32 := hts (.fieldLink RX1 32 "DangerousGoodsModel" "places" "[I") (by decide +kernel)
  have hS : va_S nA s.heap s.heap [] := va_S.rf
  have hl : lv_has ls 4 [(0, .ref (q 9)), (1, .int (nI g)), (2, .int (nI h)), (3, .int p)] := hl
  refine lv_iload_n hx hb dX1_areFoes_0 rfl (lv_at hl 1 rfl) ?_
  refine lv_iload_n hx hb dX1_areFoes_1 rfl (lv_at hl 2 rfl) ?_
  refine lv_icmp_eq (x := (nI g)) (y := (nI h)) (tgt := 38) hx hb dX1_areFoes_2 (by decide) (fun c_2 => ?_) (fun c_2 => ?_)
  · have c_2 : g = h := (nI_eq (by have := hw.g hg; omega) (by have := hw.g hh; omega)).mp c_2
    refine lv_iconst (v := 0) hx hb dX1_areFoes_38 (by decide) ?_
    exact W.zret hx hb hr zn0 (fun t ht hW => ⟨⟨_, (), rfl, (by show 0 = bi (mFoe F g h p); first | (simp only [bi, mFoe, eq_true c_2, reduceIte, Bool.false_eq_true, Bool.true_eq_false]; done) | (simp [bi, mFoe, eq_true c_2]; done)), trivial⟩, hS.F ht⟩) hS.2.2 dX1_areFoes_39
  · have c_2 : ¬ g = h := fun k => c_2 (by rw [k])
    refine lv_aload_n hx hb dX1_areFoes_5 rfl (lv_at hl 0 rfl) ?_
    refine va_get (D := D) (ci := 1) (v := .ref (q 7)) hx hb hts hin hown hK hP 0 rfl rfl 8 (by decide) f32 (fun _ h9 => h9) rfl dX1_areFoes_6 ?_
    refine lv_iload_n hx hb dX1_areFoes_9 rfl (lv_at hl 2 rfl) ?_
    refine xiald hx hb hK hP 8 0 rfl rfl (g := h) (hw.g hh) (by decide) dX1_areFoes_10 ?_
    refine lv_iconst (v := (-1)) hx hb dX1_areFoes_11 (by decide) ?_
    refine lv_icmp_eq (x := (F 7 h)) (y := (-1)) (tgt := 38) hx hb dX1_areFoes_12 (by decide) (fun c_12 => ?_) (fun c_12 => ?_)
    · skip
      refine lv_iconst (v := 0) hx hb dX1_areFoes_38 (by decide) ?_
      exact W.zret hx hb hr zn0 (fun t ht hW => ⟨⟨_, (), rfl, (by show 0 = bi (mFoe F g h p); first | (simp only [bi, mFoe, eq_false c_2, eq_true c_12, reduceIte, Bool.false_eq_true, Bool.true_eq_false]; done) | (simp [bi, mFoe, eq_false c_2, eq_true c_12]; done)), trivial⟩, hS.F ht⟩) hS.2.2 dX1_areFoes_39
    · skip
      refine lv_iload_n hx hb dX1_areFoes_15 rfl (lv_at hl 3 rfl) ?_
      refine lv_aload_n hx hb dX1_areFoes_16 rfl (lv_at hl 0 rfl) ?_
      refine va_get (D := D) (ci := 1) (v := .ref (q 7)) hx hb hts hin hown hK hP 0 rfl rfl 8 (by decide) f32 (fun _ h9 => h9) rfl dX1_areFoes_17 ?_
      refine lv_iload_n hx hb dX1_areFoes_20 rfl (lv_at hl 2 rfl) ?_
      refine xiald hx hb hK hP 8 0 rfl rfl (g := h) (hw.g hh) (by decide) dX1_areFoes_21 ?_
      refine ro_S (As := [.int p, .int (F 7 h)]) (rest := []) ⟨hx, hb, hml, hown, hts⟩ (c_X1_apart l p (F 7 h)) (va_cwS 2 hts gX1_areFoes_X1_apart rfl rfl rfl (by decide +kernel) ⟨Nat.le_of_ble_eq_true rfl, Nat.le_of_ble_eq_true rfl⟩) hP hS rfl hl.1 rfl (Nat.le_of_ble_eq_true rfl) dX1_areFoes_22 ⟨Nat.le_of_ble_eq_true rfl, Nat.le_of_ble_eq_true rfl⟩ (fun r H locs hr9 hP hS => ?_)
      subst hr9
      refine lv_aload_n hx hb dX1_areFoes_25 rfl (lv_at hl 0 rfl) ?_
      refine lv_iload_n hx hb dX1_areFoes_26 rfl (lv_at hl 1 rfl) ?_
      refine lv_iload_n hx hb dX1_areFoes_27 rfl (lv_at hl 2 rfl) ?_
      refine ro_V (As := [.int (nI g), .int (nI h)]) (rest := [.int (mApart p (F 7 h))]) ⟨hx, hb, hml, hown, hts⟩ (c_X1_needs l D q F n R th cI cZ g h hw hg hh) (cwV 2 hts gX1_areFoes_X1_needs rfl rfl rfl (by decide +kernel) ⟨Nat.le_of_ble_eq_true rfl, Nat.le_of_ble_eq_true rfl⟩) hK hP hP (va_recv hK hP (ci := 1) (q0 := 0) rfl rfl) hS rfl hl.1 rfl (Nat.le_of_ble_eq_true rfl) dX1_areFoes_28 ⟨Nat.le_of_ble_eq_true rfl, Nat.le_of_ble_eq_true rfl⟩ (fun r H locs hr9 hP hS => ?_)
      subst hr9
      refine lv_icmp_ge (x := (mApart p (F 7 h))) (y := (mNeed F g h)) (tgt := 38) hx hb dX1_areFoes_31 (by decide) (fun c_31 => ?_) (fun c_31 => ?_)
      · skip
        refine lv_iconst (v := 0) hx hb dX1_areFoes_38 (by decide) ?_
        exact W.zret hx hb hr zn0 (fun t ht hW => ⟨⟨_, (), rfl, (by show 0 = bi (mFoe F g h p); first | (simp only [bi, mFoe, eq_false c_2, eq_false c_12, eq_true c_31, reduceIte, Bool.false_eq_true, Bool.true_eq_false]; done) | (simp [bi, mFoe, eq_false c_2, eq_false c_12, eq_true c_31]; done)), trivial⟩, hS.F ht⟩) hS.2.2 dX1_areFoes_39
      · skip
        refine lv_iconst (v := 1) hx hb dX1_areFoes_34 (by decide) ?_
        refine lv_goto (tgt := 39) hx hb dX1_areFoes_35 (by decide) ?_
        exact W.zret hx hb hr zn1 (fun t ht hW => ⟨⟨_, (), rfl, (by show 1 = bi (mFoe F g h p); first | (simp only [bi, mFoe, eq_false c_2, eq_false c_12, eq_false c_31, reduceIte, Bool.false_eq_true, Bool.true_eq_false]; done) | (simp [bi, mFoe, eq_false c_2, eq_false c_12, eq_false c_31]; done)), trivial⟩, hS.F ht⟩) hS.2.2 dX1_areFoes_39
set_option maxHeartbeats 4000000 in
set_option maxRecDepth 100000 in
theorem c_X1_areWrong (l : Launch) (D : va_G) (q : Nat → Nat) (F : Nat → Nat → Int32) (n : Nat) (R : Nat → Int32) (th : Int32) (cI cZ : ClassId) (g : Nat) (p : Int32) (hw : WF F n) (hg : g < n) (hp : okP p) (hp1 : ¬ p = -1) : Met l yX1_areWrong wsX1_areWrong ({ frames := 2, cells := 0, slots := 0, locals := 44 }) (va_Pc [.ref (q 9), .int (nI g), .int p] (rW D (wM q F (nI n) R th cI cZ) (tIZ cI cZ))) (RO (fun r => r = bi (mWrong F g p))) 0 0 nA := by
  refine ro_of (own := RX1) (cc := cX1_areWrong) (maxL := 5) (ret := (some .boolean)) (by decide) rfl rfl (Nat.le_of_ble_eq_true rfl) ?_
  intro p9 e9 s m9 a9 below meth c9 ls hx hb hr hml hlocks hown hts hP hK hl
  have hin : ∀ w ∈ wsX10, w ∈ wsX1_areWrong := by decide +kernel
  have f19 := hts (.fieldLink RX1 19 "DangerousGoodsModel" "isBarred" "[Z") (by decide +kernel)
  have f23 := hts (.fieldLink RX1 23 "DangerousGoodsModel" "classes" "[I") (by decide +kernel)
  have f26 := hts (.fieldLink RX1 26 "DangerousGoodsModel" "subsidiaries" "[I") (by decide +kernel)
  have hS : va_S nA s.heap s.heap [] := va_S.rf
  have hl : lv_has ls 5 [(0, .ref (q 9)), (1, .int (nI g)), (2, .int p)] := hl
  refine lv_aload_n hx hb dX1_areWrong_0 rfl (lv_at hl 0 rfl) ?_
  refine va_get (D := D) (ci := 1) (v := .ref (q 5)) hx hb hts hin hown hK hP 0 rfl rfl 6 (by decide) f26 (fun _ h9 => h9) rfl dX1_areWrong_1 ?_
  refine lv_iload_n hx hb dX1_areWrong_4 rfl (lv_at hl 1 rfl) ?_
  refine xiald hx hb hK hP 6 0 rfl rfl (g := g) (hw.g hg) (by decide) dX1_areWrong_5 ?_
  refine lv_istore_n (lv' := [(3, .int (F 5 g)), (0, .ref (q 9)), (1, .int (nI g)), (2, .int p)]) hx hb dX1_areWrong_6 rfl hl (by decide) rfl (fun ls hl => ?_)
  refine lv_aload_n hx hb dX1_areWrong_7 rfl (lv_at hl 1 rfl) ?_
  refine va_get (D := D) (ci := 1) (v := .ref (q 3)) hx hb hts hin hown hK hP 0 rfl rfl 3 (by decide) f19 (fun _ h9 => h9) rfl dX1_areWrong_8 ?_
  refine lv_iconst (v := 2) hx hb dX1_areWrong_11 (by decide) ?_
  refine lv_aload_n hx hb dX1_areWrong_12 rfl (lv_at hl 1 rfl) ?_
  refine va_get (D := D) (ci := 1) (v := .ref (q 4)) hx hb hts hin hown hK hP 0 rfl rfl 5 (by decide) f23 (fun _ h9 => h9) rfl dX1_areWrong_13 ?_
  refine lv_iload_n hx hb dX1_areWrong_16 rfl (lv_at hl 2 rfl) ?_
  refine xiald hx hb hK hP 5 0 rfl rfl (g := g) (hw.g hg) (by decide) dX1_areWrong_17 ?_
  refine lv_imul hx hb (x := 2) (y := (F 4 g)) dX1_areWrong_18 ?_
  refine lv_iload_n hx hb dX1_areWrong_19 rfl (lv_at hl 3 rfl) ?_
  refine lv_iconst (v := 2) hx hb dX1_areWrong_20 (by decide) ?_
  refine lv_irem hx hb (x := p) (y := 2) dX1_areWrong_21 (by decide) ?_
  refine lv_iadd hx hb (x := (2 * (F 4 g))) (y := (p - p / 2 * 2)) dX1_areWrong_22 ?_
  refine va_zald hx hb hK hP 4 1 rfl rfl (i := ((2 * (F 4 g)) + (p - p / 2 * 2))) (bar_in2 (hw.c4 hg) (hw.c4n hg) (deck_01 hp hp1)) dX1_areWrong_23 ?_
  refine lv_if_ne (x := (F 3 ((2 * (F 4 g)) + (p - p / 2 * 2)).toNatClampNeg)) (tgt := 47) hx hb dX1_areWrong_24 (by decide) (fun c_24 => ?_) (fun c_24 => ?_)
  · skip
    refine lv_iconst (v := 1) hx hb dX1_areWrong_47 (by decide) ?_
    refine lv_goto (tgt := 52) hx hb dX1_areWrong_48 (by decide) ?_
    refine lv_istore (lv' := [(4, .int 1), (3, .int (F 5 g)), (0, .ref (q 9)), (1, .int (nI g)), (2, .int p)]) hx hb dX1_areWrong_52 hl (by decide) rfl (fun ls hl => ?_)
    refine lv_iload hx hb dX1_areWrong_54 (lv_at hl 0 rfl) ?_
    refine lv_if_eq (x := 1) (tgt := 71) hx hb dX1_areWrong_56 (by decide) (fun k => absurd k (by decide)) (fun _ => ?_)
    refine lv_aload_n hx hb dX1_areWrong_59 rfl (lv_at hl 2 rfl) ?_
    refine lv_iload_n hx hb dX1_areWrong_60 rfl (lv_at hl 3 rfl) ?_
    refine ro_V (As := [.int (nI g)]) (rest := []) ⟨hx, hb, hml, hown, hts⟩ (c_X1_areExcepted l D q F n R th cI cZ g hw hg) (cwV 1 hts gX1_areWrong_X1_areExcepted rfl rfl rfl (by decide +kernel) ⟨Nat.le_of_ble_eq_true rfl, Nat.le_of_ble_eq_true rfl⟩) hK hP hP (va_recv hK hP (ci := 1) (q0 := 0) rfl rfl) hS rfl hl.1 rfl (Nat.le_of_ble_eq_true rfl) dX1_areWrong_61 ⟨Nat.le_of_ble_eq_true rfl, Nat.le_of_ble_eq_true rfl⟩ (fun r H locs hr9 hP hS => ?_)
    subst hr9
    refine lv_if_ne (x := (bi (sExc F g))) (tgt := 71) hx hb dX1_areWrong_64 (by decide) (fun c_64 => ?_) (fun c_64 => ?_)
    · have c_64 := bi_n0.mp c_64
      refine lv_iconst (v := 0) hx hb dX1_areWrong_71 (by decide) ?_
      exact W.zret hx hb hr zn0 (fun t ht hW => ⟨⟨_, (), rfl, (by show 0 = bi (mWrong F g p); first | (simp only [bi, mWrong, mBar2, sDeck, eq_false c_24, c_64, reduceIte, Bool.false_eq_true, Bool.true_eq_false]; done) | (simp [bi, mWrong, mBar2, sDeck, eq_false c_24, c_64]; done)), trivial⟩, hS.F ht⟩) hS.2.2 dX1_areWrong_72
    · have c_64 := bi_e0.mp c_64
      refine lv_iconst (v := 1) hx hb dX1_areWrong_67 (by decide) ?_
      refine lv_goto (tgt := 72) hx hb dX1_areWrong_68 (by decide) ?_
      exact W.zret hx hb hr zn1 (fun t ht hW => ⟨⟨_, (), rfl, (by show 1 = bi (mWrong F g p); first | (simp only [bi, mWrong, mBar2, sDeck, eq_false c_24, c_64, reduceIte, Bool.false_eq_true, Bool.true_eq_false]; done) | (simp [bi, mWrong, mBar2, sDeck, eq_false c_24, c_64]; done)), trivial⟩, hS.F ht⟩) hS.2.2 dX1_areWrong_72
  · skip
    refine lv_iload_n hx hb dX1_areWrong_27 rfl (lv_at hl 0 rfl) ?_
    refine lv_iconst (v := (-1)) hx hb dX1_areWrong_28 (by decide) ?_
    refine lv_icmp_eq (x := (F 5 g)) (y := (-1)) (tgt := 51) hx hb dX1_areWrong_29 (by decide) (fun c_29 => ?_) (fun c_29 => ?_)
    · skip
      refine lv_iconst (v := 0) hx hb dX1_areWrong_51 (by decide) ?_
      refine lv_istore (lv' := [(4, .int 0), (3, .int (F 5 g)), (0, .ref (q 9)), (1, .int (nI g)), (2, .int p)]) hx hb dX1_areWrong_52 hl (by decide) rfl (fun ls hl => ?_)
      refine lv_iload hx hb dX1_areWrong_54 (lv_at hl 0 rfl) ?_
      refine lv_if_eq (x := 0) (tgt := 71) hx hb dX1_areWrong_56 (by decide) (fun _ => ?_) (fun k => absurd (by decide) k)
      refine lv_iconst (v := 0) hx hb dX1_areWrong_71 (by decide) ?_
      exact W.zret hx hb hr zn0 (fun t ht hW => ⟨⟨_, (), rfl, (by show 0 = bi (mWrong F g p); first | (simp only [bi, mWrong, mBar2, sDeck, eq_true c_24, eq_true c_29, reduceIte, Bool.false_eq_true, Bool.true_eq_false]; done) | (simp [bi, mWrong, mBar2, sDeck, eq_true c_24, eq_true c_29]; done)), trivial⟩, hS.F ht⟩) hS.2.2 dX1_areWrong_72
    · skip
      refine lv_aload_n hx hb dX1_areWrong_32 rfl (lv_at hl 1 rfl) ?_
      refine va_get (D := D) (ci := 1) (v := .ref (q 3)) hx hb hts hin hown hK hP 0 rfl rfl 3 (by decide) f19 (fun _ h9 => h9) rfl dX1_areWrong_33 ?_
      refine lv_iconst (v := 2) hx hb dX1_areWrong_36 (by decide) ?_
      refine lv_iload_n hx hb dX1_areWrong_37 rfl (lv_at hl 0 rfl) ?_
      refine lv_imul hx hb (x := 2) (y := (F 5 g)) dX1_areWrong_38 ?_
      refine lv_iload_n hx hb dX1_areWrong_39 rfl (lv_at hl 3 rfl) ?_
      refine lv_iconst (v := 2) hx hb dX1_areWrong_40 (by decide) ?_
      refine lv_irem hx hb (x := p) (y := 2) dX1_areWrong_41 (by decide) ?_
      refine lv_iadd hx hb (x := (2 * (F 5 g))) (y := (p - p / 2 * 2)) dX1_areWrong_42 ?_
      refine va_zald hx hb hK hP 4 1 rfl rfl (i := ((2 * (F 5 g)) + (p - p / 2 * 2))) (bar_in2 (hw.c5 hg) c_29 (deck_01 hp hp1)) dX1_areWrong_43 ?_
      refine lv_if_eq (x := (F 3 ((2 * (F 5 g)) + (p - p / 2 * 2)).toNatClampNeg)) (tgt := 51) hx hb dX1_areWrong_44 (by decide) (fun c_44 => ?_) (fun c_44 => ?_)
      · skip
        refine lv_iconst (v := 0) hx hb dX1_areWrong_51 (by decide) ?_
        refine lv_istore (lv' := [(4, .int 0), (3, .int (F 5 g)), (0, .ref (q 9)), (1, .int (nI g)), (2, .int p)]) hx hb dX1_areWrong_52 hl (by decide) rfl (fun ls hl => ?_)
        refine lv_iload hx hb dX1_areWrong_54 (lv_at hl 0 rfl) ?_
        refine lv_if_eq (x := 0) (tgt := 71) hx hb dX1_areWrong_56 (by decide) (fun _ => ?_) (fun k => absurd (by decide) k)
        refine lv_iconst (v := 0) hx hb dX1_areWrong_71 (by decide) ?_
        exact W.zret hx hb hr zn0 (fun t ht hW => ⟨⟨_, (), rfl, (by show 0 = bi (mWrong F g p); first | (simp only [bi, mWrong, mBar2, sDeck, eq_true c_24, eq_false c_29, eq_true c_44, reduceIte, Bool.false_eq_true, Bool.true_eq_false]; done) | (simp [bi, mWrong, mBar2, sDeck, eq_true c_24, eq_false c_29, eq_true c_44]; done)), trivial⟩, hS.F ht⟩) hS.2.2 dX1_areWrong_72
      · skip
        refine lv_iconst (v := 1) hx hb dX1_areWrong_47 (by decide) ?_
        refine lv_goto (tgt := 52) hx hb dX1_areWrong_48 (by decide) ?_
        refine lv_istore (lv' := [(4, .int 1), (3, .int (F 5 g)), (0, .ref (q 9)), (1, .int (nI g)), (2, .int p)]) hx hb dX1_areWrong_52 hl (by decide) rfl (fun ls hl => ?_)
        refine lv_iload hx hb dX1_areWrong_54 (lv_at hl 0 rfl) ?_
        refine lv_if_eq (x := 1) (tgt := 71) hx hb dX1_areWrong_56 (by decide) (fun k => absurd k (by decide)) (fun _ => ?_)
        refine lv_aload_n hx hb dX1_areWrong_59 rfl (lv_at hl 2 rfl) ?_
        refine lv_iload_n hx hb dX1_areWrong_60 rfl (lv_at hl 3 rfl) ?_
        refine ro_V (As := [.int (nI g)]) (rest := []) ⟨hx, hb, hml, hown, hts⟩ (c_X1_areExcepted l D q F n R th cI cZ g hw hg) (cwV 1 hts gX1_areWrong_X1_areExcepted rfl rfl rfl (by decide +kernel) ⟨Nat.le_of_ble_eq_true rfl, Nat.le_of_ble_eq_true rfl⟩) hK hP hP (va_recv hK hP (ci := 1) (q0 := 0) rfl rfl) hS rfl hl.1 rfl (Nat.le_of_ble_eq_true rfl) dX1_areWrong_61 ⟨Nat.le_of_ble_eq_true rfl, Nat.le_of_ble_eq_true rfl⟩ (fun r H locs hr9 hP hS => ?_)
        subst hr9
        refine lv_if_ne (x := (bi (sExc F g))) (tgt := 71) hx hb dX1_areWrong_64 (by decide) (fun c_64 => ?_) (fun c_64 => ?_)
        · have c_64 := bi_n0.mp c_64
          refine lv_iconst (v := 0) hx hb dX1_areWrong_71 (by decide) ?_
          exact W.zret hx hb hr zn0 (fun t ht hW => ⟨⟨_, (), rfl, (by show 0 = bi (mWrong F g p); first | (simp only [bi, mWrong, mBar2, sDeck, eq_true c_24, eq_false c_29, eq_false c_44, c_64, reduceIte, Bool.false_eq_true, Bool.true_eq_false]; done) | (simp [bi, mWrong, mBar2, sDeck, eq_true c_24, eq_false c_29, eq_false c_44, c_64]; done)), trivial⟩, hS.F ht⟩) hS.2.2 dX1_areWrong_72
        · have c_64 := bi_e0.mp c_64
          refine lv_iconst (v := 1) hx hb dX1_areWrong_67 (by decide) ?_
          refine lv_goto (tgt := 72) hx hb dX1_areWrong_68 (by decide) ?_
          exact W.zret hx hb hr zn1 (fun t ht hW => ⟨⟨_, (), rfl, (by show 1 = bi (mWrong F g p); first | (simp only [bi, mWrong, mBar2, sDeck, eq_true c_24, eq_false c_29, eq_false c_44, c_64, reduceIte, Bool.false_eq_true, Bool.true_eq_false]; done) | (simp [bi, mWrong, mBar2, sDeck, eq_true c_24, eq_false c_29, eq_false c_44, c_64]; done)), trivial⟩, hS.F ht⟩) hS.2.2 dX1_areWrong_72
set_option maxHeartbeats 4000000 in
set_option maxRecDepth 100000 in
theorem c_X1_foesOf (l : Launch) (D : va_G) (q : Nat → Nat) (F : Nat → Nat → Int32) (n : Nat) (R : Nat → Int32) (th : Int32) (cI cZ : ClassId) (g : Nat) (hw : WF F n) (hg : g < n) : Met l yX1_foesOf wsX1_foesOf ({ frames := 5, cells := 0, slots := 0, locals := 113 }) (va_Pc [.ref (q 9), .int (nI g)] (rW D (wM q F (nI n) R th cI cZ) (tIZ cI cZ))) (RO (fun r => r = nI (mFoes F n g))) 0 0 nA := by
  refine ro_of (own := RX1) (cc := cX1_foesOf) (maxL := 4) (ret := (some .int)) (by decide) rfl rfl (Nat.le_of_ble_eq_true rfl) ?_
  intro p9 e9 s m9 a9 below meth c9 ls hx hb hr hml hlocks hown hts hP hK hl
  have hin : ∀ w ∈ wsX10, w ∈ wsX1_foesOf := by decide +kernel
  have f32 := hts (.fieldLink RX1 32 "DangerousGoodsModel" "places" "[I") (by decide +kernel)
  have f46 := hts (.fieldLink RX1 46 "DangerousGoodsModel" "goods" "I") (by decide +kernel)
  have hS : va_S nA s.heap s.heap [] := va_S.rf
  have hl : lv_has ls 4 [(0, .ref (q 9)), (1, .int (nI g))] := hl
  refine lv_iconst (v := 0) hx hb dX1_foesOf_0 (by decide) ?_
  refine lv_istore_n (lv' := [(2, .int 0), (0, .ref (q 9)), (1, .int (nI g))]) hx hb dX1_foesOf_1 rfl hl (by decide) rfl (fun ls hl => ?_)
  refine lv_iconst (v := 0) hx hb dX1_foesOf_2 (by decide) ?_
  refine lv_istore_n (lv' := [(3, .int 0), (2, .int 0), (0, .ref (q 9)), (1, .int (nI g))]) hx hb dX1_foesOf_3 rfl hl (by decide) rfl (fun ls hl => ?_)
  have L4 : ∀ (d9 : Nat) (k : Nat) (H : Heap) (locs : List Loc) (ls : Array Slot), n - k < d9 → k ≤ n → va_P D vwCl (wM q F (nI n) R th cI cZ) H → va_S nA s.heap H locs → lv_has ls 4 [(3, .int (nI k)), (2, .int (nI (bs (fun h => if F 7 g = -1 then false else mFoe F g h (F 7 g)) k))), (0, .ref (q 9)), (1, .int (nI g))] → W p9 l e9 ({ frames := 5, cells := 0, slots := 0, locals := 113 }) s m9 a9 below meth c9 H locs 0 0 (MQ below (RO (fun r => r = nI (mFoes F n g))) a9 s 0 0 nA) (F0 m9 4 ls []) := by
    intro d9
    induction d9 with
    | zero => intro k H locs ls h9; exact absurd h9 (Nat.not_lt_zero _)
    | succ d9 ih4 =>
      intro k H locs ls hd4 hk hP hS hl
      refine lv_iload_n hx hb dX1_foesOf_4 rfl (lv_at hl 0 rfl) ?_
      refine lv_aload_n hx hb dX1_foesOf_5 rfl (lv_at hl 2 rfl) ?_
      refine va_get (D := D) (ci := 1) (v := .int (nI n)) hx hb hts hin hown hK hP 0 rfl rfl 4 (by decide) f46 (fun _ h9 => h9) rfl dX1_foesOf_6 ?_
      refine lv_icmp_ge (x := (nI k)) (y := (nI n)) (tgt := 53) hx hb dX1_foesOf_9 (by decide) (fun c_9 => ?_) (fun c_9 => ?_)
      · have hk9 : k = n := Nat.le_antisymm hk (nI_ge_of c_9 (by have := hw.n; omega) (by have := hw.n; omega))
        refine lv_iload_n hx hb dX1_foesOf_53 rfl (lv_at hl 1 rfl) ?_
        exact W.iret hx hb hr (fun t ht hW => ⟨⟨_, (), rfl, (by show (nI (bs (fun h => if F 7 g = -1 then false else mFoe F g h (F 7 g)) k)) = nI (mFoes F n g); rw [← hk9]; rfl), trivial⟩, hS.F ht⟩) hS.2.2 dX1_foesOf_54
      · have hk9 : k < n := nI_lt_of c_9 (by have := hw.n; omega)
        refine lv_iload_n hx hb dX1_foesOf_12 rfl (lv_at hl 1 rfl) ?_
        refine lv_aload_n hx hb dX1_foesOf_13 rfl (lv_at hl 2 rfl) ?_
        refine va_get (D := D) (ci := 1) (v := .ref (q 7)) hx hb hts hin hown hK hP 0 rfl rfl 8 (by decide) f32 (fun _ h9 => h9) rfl dX1_foesOf_14 ?_
        refine lv_iload_n hx hb dX1_foesOf_17 rfl (lv_at hl 3 rfl) ?_
        refine xiald hx hb hK hP 8 0 rfl rfl (g := g) (hw.g hg) (by decide) dX1_foesOf_18 ?_
        refine lv_iconst (v := (-1)) hx hb dX1_foesOf_19 (by decide) ?_
        refine lv_icmp_eq (x := (F 7 g)) (y := (-1)) (tgt := 44) hx hb dX1_foesOf_20 (by decide) (fun c_20 => ?_) (fun c_20 => ?_)
        · skip
          refine lv_iconst (v := 0) hx hb dX1_foesOf_44 (by decide) ?_
          refine lv_ior hx hb (x := (nI (bs (fun h => if F 7 g = -1 then false else mFoe F g h (F 7 g)) k))) (y := 0) dX1_foesOf_45 ?_
          refine lv_istore_n (lv' := [(2, .int ((nI (bs (fun h => if F 7 g = -1 then false else mFoe F g h (F 7 g)) k)) ||| 0)), (3, .int (nI k)), (0, .ref (q 9)), (1, .int (nI g))]) hx hb dX1_foesOf_46 rfl hl (by decide) rfl (fun ls hl => ?_)
          refine lv_iinc (v := (nI (k + 1))) (lv' := [(3, .int (nI (k + 1))), (2, .int ((nI (bs (fun h => if F 7 g = -1 then false else mFoe F g h (F 7 g)) k)) ||| 0)), (0, .ref (q 9)), (1, .int (nI g))]) hx hb dX1_foesOf_47 hl (k := 1) rfl (nI_1 k) (by decide) rfl (fun ls hl => ?_)
          refine lv_goto (tgt := 4) hx hb dX1_foesOf_50 (by decide) ?_
          have e2 : ((nI (bs (fun h => if F 7 g = -1 then false else mFoe F g h (F 7 g)) k)) ||| 0) = nI (bs (fun h => if F 7 g = -1 then false else mFoe F g h (F 7 g)) (k + 1)) := bs_z (by simp [eq_false c_9, eq_true c_20])
          rw [e2] at hl
          exact ih4 (k + 1) _ _ _ (by omega) (by omega) hP hS (lv_sub hl [0, 1, 2, 3] rfl)
        · skip
          refine lv_aload_n hx hb dX1_foesOf_23 rfl (lv_at hl 2 rfl) ?_
          refine lv_iload_n hx hb dX1_foesOf_24 rfl (lv_at hl 3 rfl) ?_
          refine lv_iload_n hx hb dX1_foesOf_25 rfl (lv_at hl 0 rfl) ?_
          refine lv_aload_n hx hb dX1_foesOf_26 rfl (lv_at hl 2 rfl) ?_
          refine va_get (D := D) (ci := 1) (v := .ref (q 7)) hx hb hts hin hown hK hP 0 rfl rfl 8 (by decide) f32 (fun _ h9 => h9) rfl dX1_foesOf_27 ?_
          refine lv_iload_n hx hb dX1_foesOf_30 rfl (lv_at hl 3 rfl) ?_
          refine xiald hx hb hK hP 8 0 rfl rfl (g := g) (hw.g hg) (by decide) dX1_foesOf_31 ?_
          refine ro_V (As := [.int (nI g), .int (nI k), .int (F 7 g)]) (rest := [.int (nI (bs (fun h => if F 7 g = -1 then false else mFoe F g h (F 7 g)) k))]) ⟨hx, hb, hml, hown, hts⟩ (c_X1_areFoes l D q F n R th cI cZ g k (F 7 g) hw hg hk9) (cwV 3 hts gX1_foesOf_X1_areFoes rfl rfl rfl (by decide +kernel) ⟨Nat.le_of_ble_eq_true rfl, Nat.le_of_ble_eq_true rfl⟩) hK hP hP (va_recv hK hP (ci := 1) (q0 := 0) rfl rfl) hS rfl hl.1 rfl (Nat.le_of_ble_eq_true rfl) dX1_foesOf_32 ⟨Nat.le_of_ble_eq_true rfl, Nat.le_of_ble_eq_true rfl⟩ (fun r H locs hr9 hP hS => ?_)
          subst hr9
          refine lv_if_eq (x := (bi (mFoe F g k (F 7 g)))) (tgt := 44) hx hb dX1_foesOf_35 (by decide) (fun c_35 => ?_) (fun c_35 => ?_)
          · have c_35 := bi_e0.mp c_35
            refine lv_iconst (v := 0) hx hb dX1_foesOf_44 (by decide) ?_
            refine lv_ior hx hb (x := (nI (bs (fun h => if F 7 g = -1 then false else mFoe F g h (F 7 g)) k))) (y := 0) dX1_foesOf_45 ?_
            refine lv_istore_n (lv' := [(2, .int ((nI (bs (fun h => if F 7 g = -1 then false else mFoe F g h (F 7 g)) k)) ||| 0)), (3, .int (nI k)), (0, .ref (q 9)), (1, .int (nI g))]) hx hb dX1_foesOf_46 rfl hl (by decide) rfl (fun ls hl => ?_)
            refine lv_iinc (v := (nI (k + 1))) (lv' := [(3, .int (nI (k + 1))), (2, .int ((nI (bs (fun h => if F 7 g = -1 then false else mFoe F g h (F 7 g)) k)) ||| 0)), (0, .ref (q 9)), (1, .int (nI g))]) hx hb dX1_foesOf_47 hl (k := 1) rfl (nI_1 k) (by decide) rfl (fun ls hl => ?_)
            refine lv_goto (tgt := 4) hx hb dX1_foesOf_50 (by decide) ?_
            have e2 : ((nI (bs (fun h => if F 7 g = -1 then false else mFoe F g h (F 7 g)) k)) ||| 0) = nI (bs (fun h => if F 7 g = -1 then false else mFoe F g h (F 7 g)) (k + 1)) := bs_z (by simp [eq_false c_9, eq_false c_20, c_35])
            rw [e2] at hl
            exact ih4 (k + 1) _ _ _ (by omega) (by omega) hP hS (lv_sub hl [0, 1, 2, 3] rfl)
          · have c_35 := bi_n0.mp c_35
            refine lv_iconst (v := 1) hx hb dX1_foesOf_38 (by decide) ?_
            refine lv_iload_n hx hb dX1_foesOf_39 rfl (lv_at hl 0 rfl) ?_
            refine lv_ishl hx hb (x := (1 : Int32)) (y := (nI k)) dX1_foesOf_40 ?_
            refine lv_goto (tgt := 45) hx hb dX1_foesOf_41 (by decide) ?_
            refine lv_ior hx hb (x := (nI (bs (fun h => if F 7 g = -1 then false else mFoe F g h (F 7 g)) k))) (y := ((1 : Int32) <<< ((nI k) &&& 31))) dX1_foesOf_45 ?_
            refine lv_istore_n (lv' := [(2, .int ((nI (bs (fun h => if F 7 g = -1 then false else mFoe F g h (F 7 g)) k)) ||| ((1 : Int32) <<< ((nI k) &&& 31)))), (3, .int (nI k)), (0, .ref (q 9)), (1, .int (nI g))]) hx hb dX1_foesOf_46 rfl hl (by decide) rfl (fun ls hl => ?_)
            refine lv_iinc (v := (nI (k + 1))) (lv' := [(3, .int (nI (k + 1))), (2, .int ((nI (bs (fun h => if F 7 g = -1 then false else mFoe F g h (F 7 g)) k)) ||| ((1 : Int32) <<< ((nI k) &&& 31)))), (0, .ref (q 9)), (1, .int (nI g))]) hx hb dX1_foesOf_47 hl (k := 1) rfl (nI_1 k) (by decide) rfl (fun ls hl => ?_)
            refine lv_goto (tgt := 4) hx hb dX1_foesOf_50 (by decide) ?_
            have e2 : ((nI (bs (fun h => if F 7 g = -1 then false else mFoe F g h (F 7 g)) k)) ||| ((1 : Int32) <<< ((nI k) &&& 31))) = nI (bs (fun h => if F 7 g = -1 then false else mFoe F g h (F 7 g)) (k + 1)) := bs_t (by have := hw.n; omega) (by simp [eq_false c_9, eq_false c_20, c_35])
            rw [e2] at hl
            exact ih4 (k + 1) _ _ _ (by omega) (by omega) hP hS (lv_sub hl [0, 1, 2, 3] rfl)
  exact L4 _ 0 _ _ _ (Nat.lt_succ_self _) (Nat.zero_le _) hP hS (lv_sub hl [0, 1, 2, 3] rfl)
set_option maxHeartbeats 4000000 in
set_option maxRecDepth 100000 in
theorem c_X1_wrongs (l : Launch) (D : va_G) (q : Nat → Nat) (F : Nat → Nat → Int32) (n : Nat) (R : Nat → Int32) (th : Int32) (cI cZ : ClassId) (hw : WF F n) : Met l yX1_wrongs wsX1_wrongs ({ frames := 3, cells := 0, slots := 0, locals := 68 }) (va_Pc [.ref (q 9)] (rW D (wM q F (nI n) R th cI cZ) (tIZ cI cZ))) (RO (fun r => r = nI (mWrongs F n))) 0 0 nA := by
  refine ro_of (own := RX1) (cc := cX1_wrongs) (maxL := 3) (ret := (some .int)) (by decide) rfl rfl (Nat.le_of_ble_eq_true rfl) ?_
  intro p9 e9 s m9 a9 below meth c9 ls hx hb hr hml hlocks hown hts hP hK hl
  have hin : ∀ w ∈ wsX10, w ∈ wsX1_wrongs := by decide +kernel
  have f32 := hts (.fieldLink RX1 32 "DangerousGoodsModel" "places" "[I") (by decide +kernel)
  have f46 := hts (.fieldLink RX1 46 "DangerousGoodsModel" "goods" "I") (by decide +kernel)
  have hS : va_S nA s.heap s.heap [] := va_S.rf
  have hl : lv_has ls 3 [(0, .ref (q 9))] := hl
  refine lv_iconst (v := 0) hx hb dX1_wrongs_0 (by decide) ?_
  refine lv_istore_n (lv' := [(1, .int 0), (0, .ref (q 9))]) hx hb dX1_wrongs_1 rfl hl (by decide) rfl (fun ls hl => ?_)
  refine lv_iconst (v := 0) hx hb dX1_wrongs_2 (by decide) ?_
  refine lv_istore_n (lv' := [(2, .int 0), (1, .int 0), (0, .ref (q 9))]) hx hb dX1_wrongs_3 rfl hl (by decide) rfl (fun ls hl => ?_)
  have L4 : ∀ (d9 : Nat) (k : Nat) (H : Heap) (locs : List Loc) (ls : Array Slot), n - k < d9 → k ≤ n → va_P D vwCl (wM q F (nI n) R th cI cZ) H → va_S nA s.heap H locs → lv_has ls 3 [(2, .int (nI k)), (1, .int (nI (bs (fun g => if F 7 g = -1 then false else mWrong F g (F 7 g)) k))), (0, .ref (q 9))] → W p9 l e9 ({ frames := 3, cells := 0, slots := 0, locals := 68 }) s m9 a9 below meth c9 H locs 0 0 (MQ below (RO (fun r => r = nI (mWrongs F n))) a9 s 0 0 nA) (F0 m9 4 ls []) := by
    intro d9
    induction d9 with
    | zero => intro k H locs ls h9; exact absurd h9 (Nat.not_lt_zero _)
    | succ d9 ih4 =>
      intro k H locs ls hd4 hk hP hS hl
      refine lv_iload_n hx hb dX1_wrongs_4 rfl (lv_at hl 0 rfl) ?_
      refine lv_aload_n hx hb dX1_wrongs_5 rfl (lv_at hl 2 rfl) ?_
      refine va_get (D := D) (ci := 1) (v := .int (nI n)) hx hb hts hin hown hK hP 0 rfl rfl 4 (by decide) f46 (fun _ h9 => h9) rfl dX1_wrongs_6 ?_
      refine lv_icmp_ge (x := (nI k)) (y := (nI n)) (tgt := 52) hx hb dX1_wrongs_9 (by decide) (fun c_9 => ?_) (fun c_9 => ?_)
      · have hk9 : k = n := Nat.le_antisymm hk (nI_ge_of c_9 (by have := hw.n; omega) (by have := hw.n; omega))
        refine lv_iload_n hx hb dX1_wrongs_52 rfl (lv_at hl 1 rfl) ?_
        exact W.iret hx hb hr (fun t ht hW => ⟨⟨_, (), rfl, (by show (nI (bs (fun g => if F 7 g = -1 then false else mWrong F g (F 7 g)) k)) = nI (mWrongs F n); rw [← hk9]; rfl), trivial⟩, hS.F ht⟩) hS.2.2 dX1_wrongs_53
      · have hk9 : k < n := nI_lt_of c_9 (by have := hw.n; omega)
        refine lv_iload_n hx hb dX1_wrongs_12 rfl (lv_at hl 1 rfl) ?_
        refine lv_aload_n hx hb dX1_wrongs_13 rfl (lv_at hl 2 rfl) ?_
        refine va_get (D := D) (ci := 1) (v := .ref (q 7)) hx hb hts hin hown hK hP 0 rfl rfl 8 (by decide) f32 (fun _ h9 => h9) rfl dX1_wrongs_14 ?_
        refine lv_iload_n hx hb dX1_wrongs_17 rfl (lv_at hl 0 rfl) ?_
        refine xiald hx hb hK hP 8 0 rfl rfl (g := k) (hw.g hk9) (by decide) dX1_wrongs_18 ?_
        refine lv_iconst (v := (-1)) hx hb dX1_wrongs_19 (by decide) ?_
        refine lv_icmp_eq (x := (F 7 k)) (y := (-1)) (tgt := 43) hx hb dX1_wrongs_20 (by decide) (fun c_20 => ?_) (fun c_20 => ?_)
        · skip
          refine lv_iconst (v := 0) hx hb dX1_wrongs_43 (by decide) ?_
          refine lv_ior hx hb (x := (nI (bs (fun g => if F 7 g = -1 then false else mWrong F g (F 7 g)) k))) (y := 0) dX1_wrongs_44 ?_
          refine lv_istore_n (lv' := [(1, .int ((nI (bs (fun g => if F 7 g = -1 then false else mWrong F g (F 7 g)) k)) ||| 0)), (2, .int (nI k)), (0, .ref (q 9))]) hx hb dX1_wrongs_45 rfl hl (by decide) rfl (fun ls hl => ?_)
          refine lv_iinc (v := (nI (k + 1))) (lv' := [(2, .int (nI (k + 1))), (1, .int ((nI (bs (fun g => if F 7 g = -1 then false else mWrong F g (F 7 g)) k)) ||| 0)), (0, .ref (q 9))]) hx hb dX1_wrongs_46 hl (k := 1) rfl (nI_1 k) (by decide) rfl (fun ls hl => ?_)
          refine lv_goto (tgt := 4) hx hb dX1_wrongs_49 (by decide) ?_
          have e1 : ((nI (bs (fun g => if F 7 g = -1 then false else mWrong F g (F 7 g)) k)) ||| 0) = nI (bs (fun g => if F 7 g = -1 then false else mWrong F g (F 7 g)) (k + 1)) := bs_z (by simp [eq_false c_9, eq_true c_20])
          rw [e1] at hl
          exact ih4 (k + 1) _ _ _ (by omega) (by omega) hP hS (lv_sub hl [0, 1, 2] rfl)
        · skip
          refine lv_aload_n hx hb dX1_wrongs_23 rfl (lv_at hl 2 rfl) ?_
          refine lv_iload_n hx hb dX1_wrongs_24 rfl (lv_at hl 0 rfl) ?_
          refine lv_aload_n hx hb dX1_wrongs_25 rfl (lv_at hl 2 rfl) ?_
          refine va_get (D := D) (ci := 1) (v := .ref (q 7)) hx hb hts hin hown hK hP 0 rfl rfl 8 (by decide) f32 (fun _ h9 => h9) rfl dX1_wrongs_26 ?_
          refine lv_iload_n hx hb dX1_wrongs_29 rfl (lv_at hl 0 rfl) ?_
          refine xiald hx hb hK hP 8 0 rfl rfl (g := k) (hw.g hk9) (by decide) dX1_wrongs_30 ?_
          refine ro_V (As := [.int (nI k), .int (F 7 k)]) (rest := [.int (nI (bs (fun g => if F 7 g = -1 then false else mWrong F g (F 7 g)) k))]) ⟨hx, hb, hml, hown, hts⟩ (c_X1_areWrong l D q F n R th cI cZ k (F 7 k) hw hk9 (hw.p7 hk9) c_20) (cwV 2 hts gX1_wrongs_X1_areWrong rfl rfl rfl (by decide +kernel) ⟨Nat.le_of_ble_eq_true rfl, Nat.le_of_ble_eq_true rfl⟩) hK hP hP (va_recv hK hP (ci := 1) (q0 := 0) rfl rfl) hS rfl hl.1 rfl (Nat.le_of_ble_eq_true rfl) dX1_wrongs_31 ⟨Nat.le_of_ble_eq_true rfl, Nat.le_of_ble_eq_true rfl⟩ (fun r H locs hr9 hP hS => ?_)
          subst hr9
          refine lv_if_eq (x := (bi (mWrong F k (F 7 k)))) (tgt := 43) hx hb dX1_wrongs_34 (by decide) (fun c_34 => ?_) (fun c_34 => ?_)
          · have c_34 := bi_e0.mp c_34
            refine lv_iconst (v := 0) hx hb dX1_wrongs_43 (by decide) ?_
            refine lv_ior hx hb (x := (nI (bs (fun g => if F 7 g = -1 then false else mWrong F g (F 7 g)) k))) (y := 0) dX1_wrongs_44 ?_
            refine lv_istore_n (lv' := [(1, .int ((nI (bs (fun g => if F 7 g = -1 then false else mWrong F g (F 7 g)) k)) ||| 0)), (2, .int (nI k)), (0, .ref (q 9))]) hx hb dX1_wrongs_45 rfl hl (by decide) rfl (fun ls hl => ?_)
            refine lv_iinc (v := (nI (k + 1))) (lv' := [(2, .int (nI (k + 1))), (1, .int ((nI (bs (fun g => if F 7 g = -1 then false else mWrong F g (F 7 g)) k)) ||| 0)), (0, .ref (q 9))]) hx hb dX1_wrongs_46 hl (k := 1) rfl (nI_1 k) (by decide) rfl (fun ls hl => ?_)
            refine lv_goto (tgt := 4) hx hb dX1_wrongs_49 (by decide) ?_
            have e1 : ((nI (bs (fun g => if F 7 g = -1 then false else mWrong F g (F 7 g)) k)) ||| 0) = nI (bs (fun g => if F 7 g = -1 then false else mWrong F g (F 7 g)) (k + 1)) := bs_z (by simp [eq_false c_9, eq_false c_20, c_34])
            rw [e1] at hl
            exact ih4 (k + 1) _ _ _ (by omega) (by omega) hP hS (lv_sub hl [0, 1, 2] rfl)
          · have c_34 := bi_n0.mp c_34
            refine lv_iconst (v := 1) hx hb dX1_wrongs_37 (by decide) ?_
            refine lv_iload_n hx hb dX1_wrongs_38 rfl (lv_at hl 0 rfl) ?_
            refine lv_ishl hx hb (x := (1 : Int32)) (y := (nI k)) dX1_wrongs_39 ?_
            refine lv_goto (tgt := 44) hx hb dX1_wrongs_40 (by decide) ?_
            refine lv_ior hx hb (x := (nI (bs (fun g => if F 7 g = -1 then false else mWrong F g (F 7 g)) k))) (y := ((1 : Int32) <<< ((nI k) &&& 31))) dX1_wrongs_44 ?_
            refine lv_istore_n (lv' := [(1, .int ((nI (bs (fun g => if F 7 g = -1 then false else mWrong F g (F 7 g)) k)) ||| ((1 : Int32) <<< ((nI k) &&& 31)))), (2, .int (nI k)), (0, .ref (q 9))]) hx hb dX1_wrongs_45 rfl hl (by decide) rfl (fun ls hl => ?_)
            refine lv_iinc (v := (nI (k + 1))) (lv' := [(2, .int (nI (k + 1))), (1, .int ((nI (bs (fun g => if F 7 g = -1 then false else mWrong F g (F 7 g)) k)) ||| ((1 : Int32) <<< ((nI k) &&& 31)))), (0, .ref (q 9))]) hx hb dX1_wrongs_46 hl (k := 1) rfl (nI_1 k) (by decide) rfl (fun ls hl => ?_)
            refine lv_goto (tgt := 4) hx hb dX1_wrongs_49 (by decide) ?_
            have e1 : ((nI (bs (fun g => if F 7 g = -1 then false else mWrong F g (F 7 g)) k)) ||| ((1 : Int32) <<< ((nI k) &&& 31))) = nI (bs (fun g => if F 7 g = -1 then false else mWrong F g (F 7 g)) (k + 1)) := bs_t (by have := hw.n; omega) (by simp [eq_false c_9, eq_false c_20, c_34])
            rw [e1] at hl
            exact ih4 (k + 1) _ _ _ (by omega) (by omega) hP hS (lv_sub hl [0, 1, 2] rfl)
  exact L4 _ 0 _ _ _ (Nat.lt_succ_self _) (Nat.zero_le _) hP hS (lv_sub hl [0, 1, 2] rfl)
end
section
/-! what a throw needs of the start: the five texts, the two statics of Throwable; calls of methods that check -/
abbrev eIA : String := "java/lang/IllegalArgumentException"
abbrev eIS : String := "java/lang/IllegalStateException"
abbrev eIO : String := "java/lang/IndexOutOfBoundsException"
abbrev nmE : List String := ["java/lang/RuntimeException", "java/lang/Exception"]
def bwL : List Cond := [.declares (Bundle.initS "java/lang/RuntimeException"), .declares (Bundle.initS "java/lang/Exception"), .declares (Bundle.initS Bundle.tN), .castable eIA eIA, .castable eIS eIS, .castable eIO eIO]
def bW (U : State) : Prop := ∀ w ∈ bwL, va_Nw w U
theorem bW_same {u U : State} (hv : U.vm = u.vm) (h : bW u) : bW U := by
  intro w hw
  have hot : w.onTables = true := List.all_eq_true.mp (show bwL.all Cond.onTables = true by decide +kernel) w hw
  exact va_Nw.same hot hv.symm (h w hw)
theorem bW_warm {s U : State} (hW : s.WarmedH U.vm) (h : bW s) : bW U := by
  intro w hw
  have h9 := h w hw
  simp only [bwL, List.mem_cons, List.not_mem_nil, or_false] at hw
  rcases hw with rfl | rfl | rfl | rfl | rfl | rfl
  · exact va_Nw.warmD hW h9
  · exact va_Nw.warmD hW h9
  · exact va_Nw.warmD hW h9
  · exact va_Nw.warmC hW h9
  · exact va_Nw.warmC hW h9
  · exact va_Nw.warmC hW h9
theorem bW_use {A : Array Value} {U : State} (h : bW U) : ∀ w ∈ bwL, w.before A U = true := by
  intro w hw
  have hot : w.onTables = true := List.all_eq_true.mp (show bwL.all Cond.onTables = true by decide +kernel) w hw
  exact va_Nw.use hot (h w hw)
def tB (U : State) : Prop := bW U ∧ (∃ a, vk_R RX0 116 "out of range" a U) ∧ (∃ a, vk_R RX0 69 "there are 16 goods already" a U) ∧ (∃ a, vk_R RX0 119 "the subsidiary class is the class itself" a U) ∧ (∃ a, vk_R RX0 123 "no such goods" a U) ∧ (∃ a, vk_R RX0 126 "both are the same goods" a U) ∧ vx_Zq Bundle.tN "UNASSIGNED_STACK" Bundle.steD nA U U.heap ∧ vx_Zq Bundle.tN "SUPPRESSED_SENTINEL" Bundle.listD nA U U.heap
theorem tB_same {u U : State} (hv : U.vm = u.vm) (hh : U.heap = u.heap) (h : tB u) : tB U := by
  obtain ⟨h0, ⟨a1, h1⟩, ⟨a2, h2⟩, ⟨a3, h3⟩, ⟨a4, h4⟩, ⟨a5, h5⟩, h6, h7⟩ := h
  have hal : u.vm.Alike U.vm := by rw [hv]; exact Vm.Alike.refl u.vm
  exact ⟨bW_same hv h0, ⟨a1, h1.same hv⟩, ⟨a2, h2.same hv⟩, ⟨a3, h3.same hv⟩, ⟨a4, h4.same hv⟩, ⟨a5, h5.same hv⟩, by rw [hh]; exact h6.moved hal, by rw [hh]; exact h7.moved hal⟩
theorem tB_warm {s U : State} {H : Heap} {locs : List Loc} (h : tB s) (hS : va_S nA s.heap H locs) (hU : U.heap = H) (hW : s.WarmedH U.vm) : tB U := by
  obtain ⟨h0, ⟨a1, h1⟩, ⟨a2, h2⟩, ⟨a3, h3⟩, ⟨a4, h4⟩, ⟨a5, h5⟩, h6, h7⟩ := h
  exact ⟨bW_warm hW h0, ⟨a1, h1.warm hW⟩, ⟨a2, h2.warm hW⟩, ⟨a3, h3.warm hW⟩, ⟨a4, h4.warm hW⟩, ⟨a5, h5.warm hW⟩, by rw [hU]; exact (h6.moved hW.alike).kept (fun a h1 h2 => hS.2.1 a h1 h2), by rw [hU]; exact (h7.moved hW.alike).kept (fun a h1 h2 => hS.2.1 a h1 h2)⟩
abbrev XB (xc : String → Prop) : String → State → State → Prop := vx_X (fun (_ : Unit) => True) (fun E _ _ => xc E) nA
theorem tB_blind {av : List Value} : FrameBlind (va_Pc av tB) := fun a U g mk q => ⟨q.1, tB_same (u := U) (U := U.calling g mk a) rfl rfl q.2⟩
def tW (D : va_G) (w : va_W) (tys : List (ClassId × FieldType)) (U : State) : Prop := tB U ∧ rW D w tys U
theorem tW_blind {av : List Value} {D : va_G} {w : va_W} {tys : List (ClassId × FieldType)} : FrameBlind (va_Pc av (tW D w tys)) := fun a U g mk q => ⟨q.1, tB_same (u := U) (U := U.calling g mk a) rfl rfl q.2.1, (rW_blind a U g mk ⟨q.1, q.2.2⟩).2⟩
theorem xF {s t : State} {H : Heap} {locs : List Loc} (hS : va_S nA s.heap H locs) (h1 : H.size ≤ t.heap.size) (h2 : ∀ q : Nat, q < H.size → t.heap[q]? = H[q]?) : va_F nA s t := ⟨Nat.le_trans hS.1 h1, fun q hq hn => (h2 q (Nat.lt_of_lt_of_le hq hS.1)).trans (hS.2.1 q hq hn)⟩
theorem bad_ia : ∀ w ∈ (vx_atS RX0 118 "java/lang/IllegalArgumentException" nmE).filter (fun w => !goodWord w), w ∈ bwL := by decide +kernel
theorem bad_is : ∀ w ∈ (vx_atS RX0 71 "java/lang/IllegalStateException" nmE).filter (fun w => !goodWord w), w ∈ bwL := by decide +kernel
theorem bad_io : ∀ w ∈ (vx_atS RX0 125 "java/lang/IndexOutOfBoundsException" nmE).filter (fun w => !goodWord w), w ∈ bwL := by decide +kernel
theorem ot_ia : ∀ w ∈ Cond.classLink RX0 114 "java/lang/IllegalArgumentException" :: Cond.initialized "java/lang/IllegalArgumentException" :: vx_atS RX0 118 "java/lang/IllegalArgumentException" nmE, vx_ot w = true := by decide +kernel
theorem ot_is : ∀ w ∈ Cond.classLink RX0 67 "java/lang/IllegalStateException" :: Cond.initialized "java/lang/IllegalStateException" :: vx_atS RX0 71 "java/lang/IllegalStateException" nmE, vx_ot w = true := by decide +kernel
theorem ot_io : ∀ w ∈ Cond.classLink RX0 121 "java/lang/IndexOutOfBoundsException" :: Cond.initialized "java/lang/IndexOutOfBoundsException" :: vx_atS RX0 125 "java/lang/IndexOutOfBoundsException" nmE, vx_ot w = true := by decide +kernel
section TXC
variable {p : Program} {l : Launch} {e : Env} {R : Room} {s : State} {m : MethodId} {args : Array Value} {below : List Frame} {meth : Method} {c : Code} {H : Heap} {locs : List Loc} {cells slots : Nat} {Q : State → Prop}
variable {y : MethodName} {bytes cc : ByteArray} {maxL nL n index pc mc ms : Nat} {ret : Option FieldType} {ws : List Cond} {rm : Room} {Ts : List Cond} {own C : String} {b : Addr} {As rest st0 : List Value} {ls : Array Slot} {D : va_G} {w wc : va_W} {tysc : List (ClassId × FieldType)} {post : Prop} {xc : String → Prop}
/-- a static call of a method that checks its ints, and throws -/
theorem tx_S (S : CallFix p m c cc nL s args Ts own) (hM : vx_Met l y ws rm (va_Pc As tB) (ROv post) (XB xc) mc ms nA) (cw : CallB R s args own index y bytes maxL ret ws rm mc ms n ∧ (Cond.static y).before args s = true) (ht : tB s) (hP : va_P D vwCl w H) (hS : va_S nA s.heap H locs) (hn : As.length = n) (hsize : ls.size = nL) (hst : st0 = As.reverse ++ rest) (hW : (rest.map fun v => v.category).sum ≤ 8) (hdg : decode cc pc = .ok (.invokestatic index, 3)) (hf : cells + mc ≤ R.cells ∧ slots + ms ≤ R.slots)
    (kx : ∀ (E : String) (ce : Cell) (q9 : Addr) (H1 : Heap) (locs1 : List Loc), xc E → va_P D vwCl w H1 → va_S nA s.heap H1 locs1 → H1[q9]? = some ce → ce.vm = .none → s.vm.findClass E = some ce.cls → vx_W p l e R s m args below meth c H1 locs1 (cells + mc) (slots + ms) Q (F0 m pc ls rest) q9)
    (kk : ∀ (H1 : Heap) (locs1 : List Loc), post → va_P D vwCl w H1 → va_S nA s.heap H1 locs1 → W p l e R s m args below meth c H1 locs1 (cells + mc) (slots + ms) Q (F0 m (pc + 3) ls rest)) : W p l e R s m args below meth c H locs cells slots Q (F0 m pc ls st0) := by
  refine vx_callv (A1 := nA) (AX := nA) (vx_runS (As := As) (rest := rest) S hM cw ⟨tB_blind, fun U hU hW => ⟨rfl, tB_warm ht hS hU hW⟩⟩ rfl hn hsize hst (lv_room hW) hdg hf) hS (fun _ _ h => h.elim) (fun _ h => h.elim) (fun _ _ h => h.elim) (fun E ce q9 u t H1 locs1 ht1 hvm hp hB hz hk hS1 hce hcv hcl => ?_) (fun u t H1 locs1 ht1 hvm hw hB hz hk hS1 => ?_)
  · exact kx E ce q9 H1 locs1 hB (hP.kept (fun k q hq => hk q.1 (hP k q hq).lt id)) hS1 hce hcv hcl
  · exact kk H1 locs1 hw (hP.kept (fun k q hq => hk q.1 (hP k q hq).lt id)) hS1
/-- .. and of an object's own -/
theorem tx_V (S : CallFix p m c cc nL s args Ts own) (hM : vx_Met l y ws rm (va_Pc (.ref b :: As) (tW D wc tysc)) (ROv post) (XB xc) mc ms nA) (cw : CallW R s args own C index y bytes maxL ret ws rm mc ms n) (ht : tB s) (hKc : va_K D vwCl tysc s) (hP : va_P D vwCl w H) (hPc : va_P D vwCl wc H) (hr : ∃ cell : Cell, H[b]? = some cell ∧ cell.vm.isStatics = false ∧ s.vm.findClass C = some cell.cls) (hS : va_S nA s.heap H locs) (hn : As.length = n) (hsize : ls.size = nL) (hst : st0 = As.reverse ++ .ref b :: rest) (hW : (rest.map fun v => v.category).sum ≤ 8) (hdg : decode cc pc = .ok (.invokevirtual index, 3)) (hf : cells + mc ≤ R.cells ∧ slots + ms ≤ R.slots)
    (kx : ∀ (E : String) (ce : Cell) (q9 : Addr) (H1 : Heap) (locs1 : List Loc), xc E → va_P D vwCl w H1 → va_S nA s.heap H1 locs1 → H1[q9]? = some ce → ce.vm = .none → s.vm.findClass E = some ce.cls → vx_W p l e R s m args below meth c H1 locs1 (cells + mc) (slots + ms) Q (F0 m pc ls rest) q9)
    (kk : ∀ (H1 : Heap) (locs1 : List Loc), post → va_P D vwCl w H1 → va_S nA s.heap H1 locs1 → W p l e R s m args below meth c H1 locs1 (cells + mc) (slots + ms) Q (F0 m (pc + 3) ls rest)) : W p l e R s m args below meth c H locs cells slots Q (F0 m pc ls st0) := by
  refine vx_callv (A1 := nA) (AX := nA) (vx_runV (As := As) (rest := rest) S hM cw ⟨tW_blind, hr, fun U hU hW => ⟨rfl, tB_warm ht hS hU hW, by rw [hU]; exact hPc, hKc.moved hW.alike⟩⟩ rfl hn hsize hst (lv_room hW) hdg hf) hS (fun _ _ h => h.elim) (fun _ h => h.elim) (fun _ _ h => h.elim) (fun E ce q9 u t H1 locs1 ht1 hvm hp hB hz hk hS1 hce hcv hcl => ?_) (fun u t H1 locs1 ht1 hvm hw hB hz hk hS1 => ?_)
  · exact kx E ce q9 H1 locs1 hB (hP.kept (fun k q hq => hk q.1 (hP k q hq).lt id)) hS1 hce hcv hcl
  · exact kk H1 locs1 hw (hP.kept (fun k q hq => hk q.1 (hP k q hq).lt id)) hS1
end TXC
/-- it goes on to the caller -/
theorem tx_out {p : Program} {l : Launch} {e : Env} {R : Room} {s : State} {m : MethodId} {args : Array Value} {below : List Frame} {meth : Method} {c : Code} {H : Heap} {locs : List Loc} {cells slots : Nat} {free : Nat → Prop} {ls : Array Slot} {rest : List Value} {Qc : Array Value → State → Outcome → State → Prop} {xc : String → Prop} {pc : Nat} {E : String} {ce : Cell} {q : Addr} {mc ms : Nat} (htab : ∀ x ∈ c.exceptionTable.toList, False) (hlocks : meth.locks = false) (hS : va_S nA s.heap H locs) (hcell : H[q]? = some ce) (hv : ce.vm = .none) (hcl : s.vm.findClass E = some ce.cls) (hx : xc E) (hc : cells ≤ mc) (hs : slots ≤ ms) :
    vx_W p l e R s m args below meth c H locs cells slots (vx_MQ below Qc (XB xc) args s mc ms free) (F0 m pc ls rest) q :=
  vx_out (fun x h => (htab x h).elim) hlocks hcell hv hcl (fun t ht hW => ⟨(), trivial, hx, hS.F ht⟩) (fun z h => (hS.2.2 z h).elim) hc hs
/-- a method that checks, from its entry -/
theorem tx_ofS {l : Launch} {y : MethodName} {ws ws' : List Cond} {rm : Room} {av : List Value} {Qc : Array Value → State → Outcome → State → Prop} {XC : String → State → State → Prop} {mc ms : Nat} {cc : ByteArray} {maxL : Nat} {ret : Option FieldType} {own : String} (hy : plainName y.cls = true) (hown : y.cls = own) (hw : ws = Cond.code y cc maxL ret :: ws') (hav : (lg_sl av).length ≤ maxL)
    (body : ∀ p e s m args below meth c (ls : Array Slot), p.tables.exec = Jvm.exec → c.code = cc → meth.sig.returnType = ret → c.maxLocals = maxL → meth.locks = false → s.vm.findClass own = some m.cls → (∀ w ∈ ws, w.before args s = true) → (∀ x ∈ c.exceptionTable.toList, False) → tB s → va_P (fun _ => 0, fun _ _ => 0) vwCl [] s.heap → lv_has ls maxL (lv_args 0 av) →
      W p l e rm s m args below meth c s.heap [] 0 0 (vx_MQ below Qc XC args s mc ms nA) (F0 m 0 ls [])) : vx_Met l y ws rm (va_Pc av tB) Qc XC mc ms nA := by
  refine vx_ofW (cc := cc) (maxL := maxL) (ret := ret) hy hw ?_
  intro p e s m args below meth c s₁ B hml htab hv
  obtain ⟨rfl, ht⟩ := hv
  have hown2 : s.vm.findClass own = some m.cls := by rw [← hown]; exact findClass_of_methodNamed B.named
  have hl := lv_entry av (n := maxL) hav
  rw [lg_entry_eq]
  generalize (lg_sl av ++ List.replicate (maxL - (lg_sl av).length) Slot.unset).toArray = ls at hl ⊢
  exact body p e s m _ below meth c ls B.exec B.bytes B.returns hml B.notSynchronized hown2 (atoms_spec (ws := ws) B.pre) htab ht (fun k q h => by simp at h) hl
theorem tx_of {l : Launch} {y : MethodName} {ws ws' : List Cond} {rm : Room} {av : List Value} {D : va_G} {w : va_W} {tys : List (ClassId × FieldType)} {Qc : Array Value → State → Outcome → State → Prop} {XC : String → State → State → Prop} {mc ms : Nat} {cc : ByteArray} {maxL : Nat} {ret : Option FieldType} {own : String} (hy : plainName y.cls = true) (hown : y.cls = own) (hw : ws = Cond.code y cc maxL ret :: ws') (hav : (lg_sl av).length ≤ maxL)
    (body : ∀ p e s m args below meth c (ls : Array Slot), p.tables.exec = Jvm.exec → c.code = cc → meth.sig.returnType = ret → c.maxLocals = maxL → meth.locks = false → s.vm.findClass own = some m.cls → (∀ w ∈ ws, w.before args s = true) → (∀ x ∈ c.exceptionTable.toList, False) → tB s → va_P D vwCl w s.heap → va_K D vwCl tys s → lv_has ls maxL (lv_args 0 av) →
      W p l e rm s m args below meth c s.heap [] 0 0 (vx_MQ below Qc XC args s mc ms nA) (F0 m 0 ls [])) : vx_Met l y ws rm (va_Pc av (tW D w tys)) Qc XC mc ms nA := by
  refine vx_ofW (cc := cc) (maxL := maxL) (ret := ret) hy hw ?_
  intro p e s m args below meth c s₁ B hml htab hv
  obtain ⟨rfl, ht, hP, hK⟩ := hv
  have hown2 : s.vm.findClass own = some m.cls := by rw [← hown]; exact findClass_of_methodNamed B.named
  have hl := lv_entry av (n := maxL) hav
  rw [lg_entry_eq]
  generalize (lg_sl av ++ List.replicate (maxL - (lg_sl av).length) Slot.unset).toArray = ls at hl ⊢
  exact body p e s m _ below meth c ls B.exec B.bytes B.returns hml B.notSynchronized hown2 (atoms_spec (ws := ws) B.pre) htab ht hP hK hl
theorem nI_m1 {n : Nat} (h0 : 0 < n) : nI n - 1 = nI (n - 1) := by
  obtain ⟨k, rfl⟩ := Nat.exists_eq_succ_of_ne_zero (Nat.pos_iff_ne_zero.mp h0)
  exact nI_pred k
/-- which numbers name goods -/
theorem gd_iff {v : Int32} {n : Nat} (hn : n ≤ 16) : mIn v 0 (nI n - 1) = true ↔ ∃ g, g < n ∧ v = nI g := by
  constructor
  · intro h
    have h1 : ¬ v < 0 := by
      intro k; simp [mIn, k] at h
    have h2 : ¬ nI n - 1 < v := by
      intro k; simp [mIn, h1, k] at h
    obtain ⟨g, hg, rfl⟩ := nI_of h1
    refine ⟨g, ?_, rfl⟩
    rcases Nat.eq_zero_or_pos n with rfl | h0
    · exact absurd (by show nI 0 - 1 < nI g; exact Int32.lt_of_lt_of_le (b := 0) (by decide) (nI_pos' hg)) h2
    · rw [nI_m1 h0] at h2
      rcases Nat.lt_or_ge g n with q | q
      · exact q
      · exact absurd (nI_lt (by omega) hg) h2
  · rintro ⟨g, hg, rfl⟩
    have h0 : 0 < n := by omega
    have h1 : ¬ nI g < 0 := nI_pos (by omega)
    have h2 : ¬ nI n - 1 < nI g := by rw [nI_m1 h0]; exact nI_nlt (by omega) (by omega)
    simp [mIn, h1, h2]
theorem gd_f {v : Int32} {n : Nat} (hn : n ≤ 16) (h : v < 0 ∨ ¬ v < nI n) : mIn v 0 (nI n - 1) = false := by
  cases e : mIn v 0 (nI n - 1) with
  | false => rfl
  | true =>
    obtain ⟨g, hg, rfl⟩ := (gd_iff hn).mp e
    rcases h with h | h
    · exact absurd h (nI_pos (by omega))
    · exact absurd (nI_lt hg (by omega)) h
theorem gd_t {v : Int32} {n : Nat} (hn : n ≤ 16) (h1 : ¬ v < 0) (h2 : v < nI n) : mIn v 0 (nI n - 1) = true := by
  obtain ⟨g, hg, rfl⟩ := nI_of h1
  exact (gd_iff hn).mpr ⟨g, (nI_ltI hg (by omega)).mp h2, rfl⟩
theorem mIn_f1 {v lo hi : Int32} (h : v < lo) : mIn v lo hi = false := by simp [mIn, h]
theorem mIn_f2 {v lo hi : Int32} (h : ¬ v < lo) (h2 : ¬ v ≤ hi) : mIn v lo hi = false := by
  have h3 : hi < v := Int32.not_le.mp h2
  simp [mIn, h, h3]
theorem mIn_t {v lo hi : Int32} (h : ¬ v < lo) (h2 : v ≤ hi) : mIn v lo hi = true := by
  have h3 : ¬ hi < v := Int32.not_lt.mpr h2
  simp [mIn, h, h3]
end
section
/-! the class: its checks -/
set_option maxHeartbeats 4000000 in
set_option maxRecDepth 100000 in
theorem c_X0_checkRange (l : Launch) (hfl : l.stackTraces = false) (v : Int32) (lo : Int32) (hi : Int32) : vx_Met l yX0_checkRange wsX0_checkRange ({ frames := 6, cells := 1, slots := 6, locals := 90 }) (va_Pc [.int v, .int lo, .int hi] tB) (ROv (mIn v lo hi = true)) (XB (fun E => E = "java/lang/IllegalArgumentException" ∧ mIn v lo hi = false)) 1 6 nA := by
  refine tx_ofS (own := RX0) (cc := cX0_checkRange) (maxL := 3) (ret := none) (by decide) rfl rfl (Nat.le_of_ble_eq_true rfl) ?_
  intro p9 e9 s m9 a9 below meth c9 ls hx hb hr hml hlocks hown hts htab ht hP hl
  have hat_ia : ∀ w ∈ (vx_atS RX0 118 "java/lang/IllegalArgumentException" nmE).filter goodWord, w ∈ wsX0_checkRange := by decide +kernel
  obtain ⟨-, ⟨sa1, t1⟩, ⟨sa2, t2⟩, ⟨sa3, t3⟩, ⟨sa4, t4⟩, ⟨sa5, t5⟩, tU, tN⟩ := id ht
  have hS : va_S nA s.heap s.heap [] := va_S.rf
  have hl : lv_has ls 3 [(0, .int v), (1, .int lo), (2, .int hi)] := hl
  refine lv_iload_n hx hb dX0_checkRange_0 rfl (lv_at hl 0 rfl) ?_
  refine lv_iload_n hx hb dX0_checkRange_1 rfl (lv_at hl 1 rfl) ?_
  refine lv_icmp_lt (x := v) (y := lo) (tgt := 10) hx hb dX0_checkRange_2 (by decide) (fun c_2 => ?_) (fun c_2 => ?_)
  · skip
    exact vx_throwS hx hb hfl (own := RX0) (cls := "java/lang/IllegalArgumentException") (text := "out of range") (names := nmE) hown rfl (by decide) (hts (.classLink RX0 114 "java/lang/IllegalArgumentException") (by decide +kernel)) (hts (.initialized "java/lang/IllegalArgumentException") (by decide +kernel)) t1 (vx_hat (fun w hw => hts w (hat_ia w hw)) bad_ia (bW_use ht.1)) ot_ia tU tN hS (hl.1.trans hml.symm) dX0_checkRange_10 dX0_checkRange_13 dX0_checkRange_14 dX0_checkRange_16 dX0_checkRange_19 (fun x h => (htab x h).elim) (Nat.le_of_ble_eq_true rfl) (Nat.le_of_ble_eq_true rfl) (Nat.le_of_ble_eq_true rfl) (Nat.le_of_ble_eq_true rfl) hlocks (fun t _ h1 h2 => ⟨(), trivial, ⟨rfl, (by first | exact mIn_f1 c_2 | exact mIn_f2 c_2 c_7)⟩, xF hS h1 h2⟩) (fun z h => (hS.2.2 z h).elim) (Nat.le_of_ble_eq_true rfl) (Nat.le_of_ble_eq_true rfl)
  · skip
    refine lv_iload_n hx hb dX0_checkRange_5 rfl (lv_at hl 0 rfl) ?_
    refine lv_iload_n hx hb dX0_checkRange_6 rfl (lv_at hl 2 rfl) ?_
    refine lv_icmp_le (x := v) (y := hi) (tgt := 20) hx hb dX0_checkRange_7 (by decide) (fun c_7 => ?_) (fun c_7 => ?_)
    · skip
      refine W.widen (k := 1) (n := 6) (Nat.le_of_ble_eq_true rfl) (Nat.le_of_ble_eq_true rfl) ?_
      exact vx_ret (W.vret hx hb hr (fun t ht hW => ⟨⟨(), rfl, (mIn_t c_2 c_7), trivial⟩, hS.F ht⟩) hS.2.2 dX0_checkRange_20)
    · skip
      exact vx_throwS hx hb hfl (own := RX0) (cls := "java/lang/IllegalArgumentException") (text := "out of range") (names := nmE) hown rfl (by decide) (hts (.classLink RX0 114 "java/lang/IllegalArgumentException") (by decide +kernel)) (hts (.initialized "java/lang/IllegalArgumentException") (by decide +kernel)) t1 (vx_hat (fun w hw => hts w (hat_ia w hw)) bad_ia (bW_use ht.1)) ot_ia tU tN hS (hl.1.trans hml.symm) dX0_checkRange_10 dX0_checkRange_13 dX0_checkRange_14 dX0_checkRange_16 dX0_checkRange_19 (fun x h => (htab x h).elim) (Nat.le_of_ble_eq_true rfl) (Nat.le_of_ble_eq_true rfl) (Nat.le_of_ble_eq_true rfl) (Nat.le_of_ble_eq_true rfl) hlocks (fun t _ h1 h2 => ⟨(), trivial, ⟨rfl, (by first | exact mIn_f1 c_2 | exact mIn_f2 c_2 c_7)⟩, xF hS h1 h2⟩) (fun z h => (hS.2.2 z h).elim) (Nat.le_of_ble_eq_true rfl) (Nat.le_of_ble_eq_true rfl)
set_option maxHeartbeats 4000000 in
set_option maxRecDepth 100000 in
theorem c_X0_checkClass (l : Launch) (hfl : l.stackTraces = false) (v : Int32) : vx_Met l yX0_checkClass wsX0_checkClass ({ frames := 7, cells := 1, slots := 6, locals := 112 }) (va_Pc [.int v] tB) (ROv (mIn v 1 9 = true)) (XB (fun E => E = "java/lang/IllegalArgumentException" ∧ mIn v 1 9 = false)) 1 6 nA := by
  refine tx_ofS (own := RX0) (cc := cX0_checkClass) (maxL := 1) (ret := none) (by decide) rfl rfl (Nat.le_of_ble_eq_true rfl) ?_
  intro p9 e9 s m9 a9 below meth c9 ls hx hb hr hml hlocks hown hts htab ht hP hl
  have hS : va_S nA s.heap s.heap [] := va_S.rf
  have hl : lv_has ls 1 [(0, .int v)] := hl
  refine lv_iload_n hx hb dX0_checkClass_0 rfl (lv_at hl 0 rfl) ?_
  refine lv_iconst (v := 1) hx hb dX0_checkClass_1 (by decide) ?_
  refine lv_bipush (v := 9) hx hb dX0_checkClass_2 (by decide) ?_
  refine tx_S (As := [.int v, .int 1, .int 9]) (rest := []) ⟨hx, hb, hml, hown, hts⟩ (c_X0_checkRange l hfl v 1 9) (va_cwS 3 hts gX0_checkClass_X0_checkRange rfl rfl rfl (by decide +kernel) ⟨Nat.le_of_ble_eq_true rfl, Nat.le_of_ble_eq_true rfl⟩) ht hP hS rfl hl.1 rfl (Nat.le_of_ble_eq_true rfl) dX0_checkClass_4 ⟨Nat.le_of_ble_eq_true rfl, Nat.le_of_ble_eq_true rfl⟩ (fun E ce q9 H locs hE hP hS hce hcv hcl => tx_out htab hlocks hS hce hcv hcl (hE) (Nat.le_of_ble_eq_true rfl) (Nat.le_of_ble_eq_true rfl)) (fun H locs h_4 hP hS => ?_)
  refine W.widen (k := 1) (n := 6) (Nat.le_of_ble_eq_true rfl) (Nat.le_of_ble_eq_true rfl) ?_
  exact vx_ret (W.vret hx hb hr (fun t ht hW => ⟨⟨(), rfl, (h_4), trivial⟩, hS.F ht⟩) hS.2.2 dX0_checkClass_7)
set_option maxHeartbeats 4000000 in
set_option maxRecDepth 100000 in
theorem c_X0_checkSubsidiary (l : Launch) (hfl : l.stackTraces = false) (v : Int32) (w : Int32) : vx_Met l yX0_checkSubsidiary wsX0_checkSubsidiary ({ frames := 8, cells := 2, slots := 12, locals := 132 }) (va_Pc [.int v, .int w] tB) (ROv (mIn v 1 9 = true ∧ ¬ v = w)) (XB (fun E => E = "java/lang/IllegalArgumentException" ∧ (mIn v 1 9 = false ∨ v = w))) 2 12 nA := by
  refine tx_ofS (own := RX0) (cc := cX0_checkSubsidiary) (maxL := 2) (ret := none) (by decide) rfl rfl (Nat.le_of_ble_eq_true rfl) ?_
  intro p9 e9 s m9 a9 below meth c9 ls hx hb hr hml hlocks hown hts htab ht hP hl
  have hat_ia : ∀ w ∈ (vx_atS RX0 118 "java/lang/IllegalArgumentException" nmE).filter goodWord, w ∈ wsX0_checkSubsidiary := by decide +kernel
  obtain ⟨-, ⟨sa1, t1⟩, ⟨sa2, t2⟩, ⟨sa3, t3⟩, ⟨sa4, t4⟩, ⟨sa5, t5⟩, tU, tN⟩ := id ht
  have hS : va_S nA s.heap s.heap [] := va_S.rf
  have hl : lv_has ls 2 [(0, .int v), (1, .int w)] := hl
  refine lv_iload_n hx hb dX0_checkSubsidiary_0 rfl (lv_at hl 0 rfl) ?_
  refine tx_S (As := [.int v]) (rest := []) ⟨hx, hb, hml, hown, hts⟩ (c_X0_checkClass l hfl v) (va_cwS 1 hts gX0_checkSubsidiary_X0_checkClass rfl rfl rfl (by decide +kernel) ⟨Nat.le_of_ble_eq_true rfl, Nat.le_of_ble_eq_true rfl⟩) ht hP hS rfl hl.1 rfl (Nat.le_of_ble_eq_true rfl) dX0_checkSubsidiary_1 ⟨Nat.le_of_ble_eq_true rfl, Nat.le_of_ble_eq_true rfl⟩ (fun E ce q9 H locs hE hP hS hce hcv hcl => tx_out htab hlocks hS hce hcv hcl (⟨hE.1, Or.inl hE.2⟩) (Nat.le_of_ble_eq_true rfl) (Nat.le_of_ble_eq_true rfl)) (fun H locs h_1 hP hS => ?_)
  refine lv_iload_n hx hb dX0_checkSubsidiary_4 rfl (lv_at hl 0 rfl) ?_
  refine lv_iload_n hx hb dX0_checkSubsidiary_5 rfl (lv_at hl 1 rfl) ?_
  refine lv_icmp_ne (x := v) (y := w) (tgt := 19) hx hb dX0_checkSubsidiary_6 (by decide) (fun c_6 => ?_) (fun c_6 => ?_)
  · skip
    refine W.widen (k := 2) (n := 12) (Nat.le_of_ble_eq_true rfl) (Nat.le_of_ble_eq_true rfl) ?_
    exact vx_ret (W.vret hx hb hr (fun t ht hW => ⟨⟨(), rfl, (⟨h_1, c_6⟩), trivial⟩, hS.F ht⟩) hS.2.2 dX0_checkSubsidiary_19)
  · skip
    exact vx_throwS hx hb hfl (own := RX0) (cls := "java/lang/IllegalArgumentException") (text := "the subsidiary class is the class itself") (names := nmE) hown rfl (by decide) (hts (.classLink RX0 114 "java/lang/IllegalArgumentException") (by decide +kernel)) (hts (.initialized "java/lang/IllegalArgumentException") (by decide +kernel)) t3 (vx_hat (fun w hw => hts w (hat_ia w hw)) bad_ia (bW_use ht.1)) ot_ia tU tN hS (hl.1.trans hml.symm) dX0_checkSubsidiary_9 dX0_checkSubsidiary_12 dX0_checkSubsidiary_13 dX0_checkSubsidiary_15 dX0_checkSubsidiary_18 (fun x h => (htab x h).elim) (Nat.le_of_ble_eq_true rfl) (Nat.le_of_ble_eq_true rfl) (Nat.le_of_ble_eq_true rfl) (Nat.le_of_ble_eq_true rfl) hlocks (fun t _ h1 h2 => ⟨(), trivial, ⟨rfl, Or.inr c_6⟩, xF hS h1 h2⟩) (fun z h => (hS.2.2 z h).elim) (Nat.le_of_ble_eq_true rfl) (Nat.le_of_ble_eq_true rfl)
set_option maxHeartbeats 4000000 in
set_option maxRecDepth 100000 in
theorem c_X0_checkPlace (l : Launch) (hfl : l.stackTraces = false) (v : Int32) : vx_Met l yX0_checkPlace wsX0_checkPlace ({ frames := 7, cells := 1, slots := 6, locals := 112 }) (va_Pc [.int v] tB) (ROv (mIn v 0 47 = true)) (XB (fun E => E = "java/lang/IllegalArgumentException" ∧ mIn v 0 47 = false)) 1 6 nA := by
  refine tx_ofS (own := RX0) (cc := cX0_checkPlace) (maxL := 1) (ret := none) (by decide) rfl rfl (Nat.le_of_ble_eq_true rfl) ?_
  intro p9 e9 s m9 a9 below meth c9 ls hx hb hr hml hlocks hown hts htab ht hP hl
  have hS : va_S nA s.heap s.heap [] := va_S.rf
  have hl : lv_has ls 1 [(0, .int v)] := hl
  refine lv_iload_n hx hb dX0_checkPlace_0 rfl (lv_at hl 0 rfl) ?_
  refine lv_iconst (v := 0) hx hb dX0_checkPlace_1 (by decide) ?_
  refine lv_bipush (v := 47) hx hb dX0_checkPlace_2 (by decide) ?_
  refine tx_S (As := [.int v, .int 0, .int 47]) (rest := []) ⟨hx, hb, hml, hown, hts⟩ (c_X0_checkRange l hfl v 0 47) (va_cwS 3 hts gX0_checkPlace_X0_checkRange rfl rfl rfl (by decide +kernel) ⟨Nat.le_of_ble_eq_true rfl, Nat.le_of_ble_eq_true rfl⟩) ht hP hS rfl hl.1 rfl (Nat.le_of_ble_eq_true rfl) dX0_checkPlace_4 ⟨Nat.le_of_ble_eq_true rfl, Nat.le_of_ble_eq_true rfl⟩ (fun E ce q9 H locs hE hP hS hce hcv hcl => tx_out htab hlocks hS hce hcv hcl (hE) (Nat.le_of_ble_eq_true rfl) (Nat.le_of_ble_eq_true rfl)) (fun H locs h_4 hP hS => ?_)
  refine W.widen (k := 1) (n := 6) (Nat.le_of_ble_eq_true rfl) (Nat.le_of_ble_eq_true rfl) ?_
  exact vx_ret (W.vret hx hb hr (fun t ht hW => ⟨⟨(), rfl, (h_4), trivial⟩, hS.F ht⟩) hS.2.2 dX0_checkPlace_7)
set_option maxHeartbeats 4000000 in
set_option maxRecDepth 100000 in
theorem c_X0_checkQuantity (l : Launch) (hfl : l.stackTraces = false) (v : Int32) : vx_Met l yX0_checkQuantity wsX0_checkQuantity ({ frames := 7, cells := 1, slots := 6, locals := 112 }) (va_Pc [.int v] tB) (ROv (mIn v 1 10000 = true)) (XB (fun E => E = "java/lang/IllegalArgumentException" ∧ mIn v 1 10000 = false)) 1 6 nA := by
  refine tx_ofS (own := RX0) (cc := cX0_checkQuantity) (maxL := 1) (ret := none) (by decide) rfl rfl (Nat.le_of_ble_eq_true rfl) ?_
  intro p9 e9 s m9 a9 below meth c9 ls hx hb hr hml hlocks hown hts htab ht hP hl
  have hS : va_S nA s.heap s.heap [] := va_S.rf
  have hl : lv_has ls 1 [(0, .int v)] := hl
  refine lv_iload_n hx hb dX0_checkQuantity_0 rfl (lv_at hl 0 rfl) ?_
  refine lv_iconst (v := 1) hx hb dX0_checkQuantity_1 (by decide) ?_
  refine lv_sipush (v := 10000) hx hb dX0_checkQuantity_2 (by decide) ?_
  refine tx_S (As := [.int v, .int 1, .int 10000]) (rest := []) ⟨hx, hb, hml, hown, hts⟩ (c_X0_checkRange l hfl v 1 10000) (va_cwS 3 hts gX0_checkQuantity_X0_checkRange rfl rfl rfl (by decide +kernel) ⟨Nat.le_of_ble_eq_true rfl, Nat.le_of_ble_eq_true rfl⟩) ht hP hS rfl hl.1 rfl (Nat.le_of_ble_eq_true rfl) dX0_checkQuantity_5 ⟨Nat.le_of_ble_eq_true rfl, Nat.le_of_ble_eq_true rfl⟩ (fun E ce q9 H locs hE hP hS hce hcv hcl => tx_out htab hlocks hS hce hcv hcl (hE) (Nat.le_of_ble_eq_true rfl) (Nat.le_of_ble_eq_true rfl)) (fun H locs h_5 hP hS => ?_)
  refine W.widen (k := 1) (n := 6) (Nat.le_of_ble_eq_true rfl) (Nat.le_of_ble_eq_true rfl) ?_
  exact vx_ret (W.vret hx hb hr (fun t ht hW => ⟨⟨(), rfl, (h_5), trivial⟩, hS.F ht⟩) hS.2.2 dX0_checkQuantity_8)
set_option maxHeartbeats 4000000 in
set_option maxRecDepth 100000 in
theorem c_X0_checkGoods (l : Launch) (hfl : l.stackTraces = false) (D : va_G) (q : Nat → Nat) (F : Nat → Nat → Int32) (n : Nat) (R : Nat → Int32) (cI cZ : ClassId) (v : Int32) (hn : n ≤ 16) : vx_Met l yX0_checkGoods wsX0_checkGoods ({ frames := 6, cells := 1, slots := 6, locals := 90 }) (va_Pc [.ref (q 9), .int v] (tW D (wX q F (nI n) R cI cZ) (tIZ cI cZ))) (ROv (mIn v 0 (nI n - 1) = true)) (XB (fun E => E = "java/lang/IndexOutOfBoundsException" ∧ mIn v 0 (nI n - 1) = false)) 1 6 nA := by
  refine tx_of (own := RX0) (cc := cX0_checkGoods) (maxL := 2) (ret := none) (by decide) rfl rfl (Nat.le_of_ble_eq_true rfl) ?_
  intro p9 e9 s m9 a9 below meth c9 ls hx hb hr hml hlocks hown hts htab ht hP hK hl
  have hin : ∀ w ∈ wsX00, w ∈ wsX0_checkGoods := by decide +kernel
  have f35 := hts (.fieldLink RX0 35 "DangerousGoods" "count" "I") (by decide +kernel)
  have hat_io : ∀ w ∈ (vx_atS RX0 125 "java/lang/IndexOutOfBoundsException" nmE).filter goodWord, w ∈ wsX0_checkGoods := by decide +kernel
  obtain ⟨-, ⟨sa1, t1⟩, ⟨sa2, t2⟩, ⟨sa3, t3⟩, ⟨sa4, t4⟩, ⟨sa5, t5⟩, tU, tN⟩ := id ht
  have hS : va_S nA s.heap s.heap [] := va_S.rf
  have hl : lv_has ls 2 [(0, .ref (q 9)), (1, .int v)] := hl
  refine lv_iload_n hx hb dX0_checkGoods_0 rfl (lv_at hl 1 rfl) ?_
  refine lv_if_lt (x := v) (tgt := 12) hx hb dX0_checkGoods_1 (by decide) (fun c_1 => ?_) (fun c_1 => ?_)
  · skip
    exact vx_throwS hx hb hfl (own := RX0) (cls := "java/lang/IndexOutOfBoundsException") (text := "no such goods") (names := nmE) hown rfl (by decide) (hts (.classLink RX0 121 "java/lang/IndexOutOfBoundsException") (by decide +kernel)) (hts (.initialized "java/lang/IndexOutOfBoundsException") (by decide +kernel)) t4 (vx_hat (fun w hw => hts w (hat_io w hw)) bad_io (bW_use ht.1)) ot_io tU tN hS (hl.1.trans hml.symm) dX0_checkGoods_12 dX0_checkGoods_15 dX0_checkGoods_16 dX0_checkGoods_18 dX0_checkGoods_21 (fun x h => (htab x h).elim) (Nat.le_of_ble_eq_true rfl) (Nat.le_of_ble_eq_true rfl) (Nat.le_of_ble_eq_true rfl) (Nat.le_of_ble_eq_true rfl) hlocks (fun t _ h1 h2 => ⟨(), trivial, ⟨rfl, gd_f hn (by first | exact Or.inl c_1 | exact Or.inr c_9)⟩, xF hS h1 h2⟩) (fun z h => (hS.2.2 z h).elim) (Nat.le_of_ble_eq_true rfl) (Nat.le_of_ble_eq_true rfl)
  · skip
    refine lv_iload_n hx hb dX0_checkGoods_4 rfl (lv_at hl 1 rfl) ?_
    refine lv_aload_n hx hb dX0_checkGoods_5 rfl (lv_at hl 0 rfl) ?_
    refine va_get (D := D) (ci := 0) (v := .int (nI n)) hx hb hts hin hown hK hP 0 rfl rfl 8 (by decide) f35 (fun _ h9 => h9) rfl dX0_checkGoods_6 ?_
    refine lv_icmp_lt (x := v) (y := (nI n)) (tgt := 22) hx hb dX0_checkGoods_9 (by decide) (fun c_9 => ?_) (fun c_9 => ?_)
    · skip
      refine W.widen (k := 1) (n := 6) (Nat.le_of_ble_eq_true rfl) (Nat.le_of_ble_eq_true rfl) ?_
      exact vx_ret (W.vret hx hb hr (fun t ht hW => ⟨⟨(), rfl, (gd_t hn c_1 c_9), trivial⟩, hS.F ht⟩) hS.2.2 dX0_checkGoods_22)
    · skip
      exact vx_throwS hx hb hfl (own := RX0) (cls := "java/lang/IndexOutOfBoundsException") (text := "no such goods") (names := nmE) hown rfl (by decide) (hts (.classLink RX0 121 "java/lang/IndexOutOfBoundsException") (by decide +kernel)) (hts (.initialized "java/lang/IndexOutOfBoundsException") (by decide +kernel)) t4 (vx_hat (fun w hw => hts w (hat_io w hw)) bad_io (bW_use ht.1)) ot_io tU tN hS (hl.1.trans hml.symm) dX0_checkGoods_12 dX0_checkGoods_15 dX0_checkGoods_16 dX0_checkGoods_18 dX0_checkGoods_21 (fun x h => (htab x h).elim) (Nat.le_of_ble_eq_true rfl) (Nat.le_of_ble_eq_true rfl) (Nat.le_of_ble_eq_true rfl) (Nat.le_of_ble_eq_true rfl) hlocks (fun t _ h1 h2 => ⟨(), trivial, ⟨rfl, gd_f hn (by first | exact Or.inl c_1 | exact Or.inr c_9)⟩, xF hS h1 h2⟩) (fun z h => (hS.2.2 z h).elim) (Nat.le_of_ble_eq_true rfl) (Nat.le_of_ble_eq_true rfl)
set_option maxHeartbeats 4000000 in
set_option maxRecDepth 100000 in
theorem c_X0_checkPair (l : Launch) (hfl : l.stackTraces = false) (D : va_G) (q : Nat → Nat) (F : Nat → Nat → Int32) (n : Nat) (R : Nat → Int32) (cI cZ : ClassId) (v : Int32) (w : Int32) (hn : n ≤ 16) : vx_Met l yX0_checkPair wsX0_checkPair ({ frames := 7, cells := 3, slots := 18, locals := 111 }) (va_Pc [.ref (q 9), .int v, .int w] (tW D (wX q F (nI n) R cI cZ) (tIZ cI cZ))) (ROv (mIn v 0 (nI n - 1) = true ∧ mIn w 0 (nI n - 1) = true ∧ ¬ v = w)) (XB (fun E => (E = "java/lang/IndexOutOfBoundsException" ∧ (mIn v 0 (nI n - 1) = false ∨ mIn w 0 (nI n - 1) = false)) ∨ (E = "java/lang/IllegalArgumentException" ∧ mIn v 0 (nI n - 1) = true ∧ mIn w 0 (nI n - 1) = true ∧ v = w))) 3 18 nA := by
  refine tx_of (own := RX0) (cc := cX0_checkPair) (maxL := 3) (ret := none) (by decide) rfl rfl (Nat.le_of_ble_eq_true rfl) ?_
  intro p9 e9 s m9 a9 below meth c9 ls hx hb hr hml hlocks hown hts htab ht hP hK hl
  have hat_ia : ∀ w ∈ (vx_atS RX0 118 "java/lang/IllegalArgumentException" nmE).filter goodWord, w ∈ wsX0_checkPair := by decide +kernel
  obtain ⟨-, ⟨sa1, t1⟩, ⟨sa2, t2⟩, ⟨sa3, t3⟩, ⟨sa4, t4⟩, ⟨sa5, t5⟩, tU, tN⟩ := id ht
  have hS : va_S nA s.heap s.heap [] := va_S.rf
  have hl : lv_has ls 3 [(0, .ref (q 9)), (1, .int v), (2, .int w)] := hl
  refine lv_aload_n hx hb dX0_checkPair_0 rfl (lv_at hl 0 rfl) ?_
  refine lv_iload_n hx hb dX0_checkPair_1 rfl (lv_at hl 1 rfl) ?_
  refine tx_V (As := [.int v]) (rest := []) ⟨hx, hb, hml, hown, hts⟩ (c_X0_checkGoods l hfl D q F n R cI cZ v hn) (cwV 1 hts gX0_checkPair_X0_checkGoods rfl rfl rfl (by decide +kernel) ⟨Nat.le_of_ble_eq_true rfl, Nat.le_of_ble_eq_true rfl⟩) ht hK hP hP (va_recv hK hP (ci := 0) (q0 := 0) rfl rfl) hS rfl hl.1 rfl (Nat.le_of_ble_eq_true rfl) dX0_checkPair_2 ⟨Nat.le_of_ble_eq_true rfl, Nat.le_of_ble_eq_true rfl⟩ (fun E ce q9 H locs hE hP hS hce hcv hcl => tx_out htab hlocks hS hce hcv hcl (Or.inl ⟨hE.1, Or.inl hE.2⟩) (Nat.le_of_ble_eq_true rfl) (Nat.le_of_ble_eq_true rfl)) (fun H locs h_2 hP hS => ?_)
  refine lv_aload_n hx hb dX0_checkPair_5 rfl (lv_at hl 0 rfl) ?_
  refine lv_iload_n hx hb dX0_checkPair_6 rfl (lv_at hl 2 rfl) ?_
  refine tx_V (As := [.int w]) (rest := []) ⟨hx, hb, hml, hown, hts⟩ (c_X0_checkGoods l hfl D q F n R cI cZ w hn) (cwV 1 hts gX0_checkPair_X0_checkGoods rfl rfl rfl (by decide +kernel) ⟨Nat.le_of_ble_eq_true rfl, Nat.le_of_ble_eq_true rfl⟩) ht hK hP hP (va_recv hK hP (ci := 0) (q0 := 0) rfl rfl) hS rfl hl.1 rfl (Nat.le_of_ble_eq_true rfl) dX0_checkPair_7 ⟨Nat.le_of_ble_eq_true rfl, Nat.le_of_ble_eq_true rfl⟩ (fun E ce q9 H locs hE hP hS hce hcv hcl => tx_out htab hlocks hS hce hcv hcl (Or.inl ⟨hE.1, Or.inr hE.2⟩) (Nat.le_of_ble_eq_true rfl) (Nat.le_of_ble_eq_true rfl)) (fun H locs h_7 hP hS => ?_)
  refine lv_iload_n hx hb dX0_checkPair_10 rfl (lv_at hl 1 rfl) ?_
  refine lv_iload_n hx hb dX0_checkPair_11 rfl (lv_at hl 2 rfl) ?_
  refine lv_icmp_ne (x := v) (y := w) (tgt := 25) hx hb dX0_checkPair_12 (by decide) (fun c_12 => ?_) (fun c_12 => ?_)
  · skip
    refine W.widen (k := 3) (n := 18) (Nat.le_of_ble_eq_true rfl) (Nat.le_of_ble_eq_true rfl) ?_
    exact vx_ret (W.vret hx hb hr (fun t ht hW => ⟨⟨(), rfl, (⟨h_2, h_7, c_12⟩), trivial⟩, hS.F ht⟩) hS.2.2 dX0_checkPair_25)
  · skip
    exact vx_throwS hx hb hfl (own := RX0) (cls := "java/lang/IllegalArgumentException") (text := "both are the same goods") (names := nmE) hown rfl (by decide) (hts (.classLink RX0 114 "java/lang/IllegalArgumentException") (by decide +kernel)) (hts (.initialized "java/lang/IllegalArgumentException") (by decide +kernel)) t5 (vx_hat (fun w hw => hts w (hat_ia w hw)) bad_ia (bW_use ht.1)) ot_ia tU tN hS (hl.1.trans hml.symm) dX0_checkPair_15 dX0_checkPair_18 dX0_checkPair_19 dX0_checkPair_21 dX0_checkPair_24 (fun x h => (htab x h).elim) (Nat.le_of_ble_eq_true rfl) (Nat.le_of_ble_eq_true rfl) (Nat.le_of_ble_eq_true rfl) (Nat.le_of_ble_eq_true rfl) hlocks (fun t _ h1 h2 => ⟨(), trivial, Or.inr ⟨rfl, h_2, h_7, c_12⟩, xF hS h1 h2⟩) (fun z h => (hS.2.2 z h).elim) (Nat.le_of_ble_eq_true rfl) (Nat.le_of_ble_eq_true rfl)
end
section
theorem zz_t : True := trivial
end

section
-- ===== PART A: goes FIRST, ahead of the names: the tables' words, and 'selects' of the private methods out of them =====
/-- a private method of a class that the tables say can be made, by its rows of tables_1 -/
def lw_okq (q : MethodName × Nat) : Prop := (q.1.cls ≠ "java/lang/invoke/MethodHandle" ∧ q.1.cls ≠ "java/lang/invoke/VarHandle") ∧ Cond.instantiable q.1.cls q.2 ∈ tables_1 ∧ Cond.privateMethod q.1 ∈ tables_1 ∧ Cond.instanceMethod q.1 ∈ tables_1
theorem lw_p0 : lw_okq (⟨"BatchOrder$Order", "beginStream", "(II)V"⟩, 10) := ⟨⟨by decide +kernel, by decide +kernel⟩, List.mem_of_getElem? (i := 84) (by decide +kernel), List.mem_of_getElem? (i := 296) (by decide +kernel), List.mem_of_getElem? (i := 297) (by decide +kernel)⟩
theorem lw_p1 : lw_okq (⟨"BatchOrder$Order", "makePlain", "()V"⟩, 10) := ⟨⟨by decide +kernel, by decide +kernel⟩, List.mem_of_getElem? (i := 84) (by decide +kernel), List.mem_of_getElem? (i := 314) (by decide +kernel), List.mem_of_getElem? (i := 315) (by decide +kernel)⟩
theorem lw_p2 : lw_okq (⟨"BatchOrder$Order", "sortParts", "()V"⟩, 10) := ⟨⟨by decide +kernel, by decide +kernel⟩, List.mem_of_getElem? (i := 84) (by decide +kernel), List.mem_of_getElem? (i := 326) (by decide +kernel), List.mem_of_getElem? (i := 327) (by decide +kernel)⟩
theorem lw_p3 : lw_okq (⟨"BatchOrder$Order", "sortByLength", "(II)V"⟩, 10) := ⟨⟨by decide +kernel, by decide +kernel⟩, List.mem_of_getElem? (i := 84) (by decide +kernel), List.mem_of_getElem? (i := 331) (by decide +kernel), List.mem_of_getElem? (i := 332) (by decide +kernel)⟩
theorem lw_p4 : lw_okq (⟨"BatchOrder$Order", "makeWeighted", "()V"⟩, 10) := ⟨⟨by decide +kernel, by decide +kernel⟩, List.mem_of_getElem? (i := 84) (by decide +kernel), List.mem_of_getElem? (i := 340) (by decide +kernel), List.mem_of_getElem? (i := 341) (by decide +kernel)⟩
theorem lw_p5 : lw_okq (⟨"BatchOrder$Order", "rowAbove", "(I)I"⟩, 10) := ⟨⟨by decide +kernel, by decide +kernel⟩, List.mem_of_getElem? (i := 84) (by decide +kernel), List.mem_of_getElem? (i := 345) (by decide +kernel), List.mem_of_getElem? (i := 346) (by decide +kernel)⟩
theorem lw_p6 : lw_okq (⟨"BatchOrder$Order", "makeBalanced", "(I)V"⟩, 10) := ⟨⟨by decide +kernel, by decide +kernel⟩, List.mem_of_getElem? (i := 84) (by decide +kernel), List.mem_of_getElem? (i := 350) (by decide +kernel), List.mem_of_getElem? (i := 351) (by decide +kernel)⟩
theorem lw_p7 : lw_okq (⟨"BatchOrder$Order", "layOutLabels", "()V"⟩, 10) := ⟨⟨by decide +kernel, by decide +kernel⟩, List.mem_of_getElem? (i := 84) (by decide +kernel), List.mem_of_getElem? (i := 354) (by decide +kernel), List.mem_of_getElem? (i := 355) (by decide +kernel)⟩
theorem lw_p8 : lw_okq (⟨"BatchOrder$Order", "mixLabel", "(II)V"⟩, 10) := ⟨⟨by decide +kernel, by decide +kernel⟩, List.mem_of_getElem? (i := 84) (by decide +kernel), List.mem_of_getElem? (i := 359) (by decide +kernel), List.mem_of_getElem? (i := 360) (by decide +kernel)⟩
theorem lw_p9 : lw_okq (⟨"BatchOrder$Order", "rowHeld", "(I)I"⟩, 10) := ⟨⟨by decide +kernel, by decide +kernel⟩, List.mem_of_getElem? (i := 84) (by decide +kernel), List.mem_of_getElem? (i := 363) (by decide +kernel), List.mem_of_getElem? (i := 364) (by decide +kernel)⟩
theorem lw_p10 : lw_okq (⟨"BatchOrder$Order", "makeBuffered", "()V"⟩, 10) := ⟨⟨by decide +kernel, by decide +kernel⟩, List.mem_of_getElem? (i := 84) (by decide +kernel), List.mem_of_getElem? (i := 367) (by decide +kernel), List.mem_of_getElem? (i := 368) (by decide +kernel)⟩
theorem lw_p11 : lw_okq (⟨"BatchOrder", "rowInBatch", "(IJ)I"⟩, 8) := ⟨⟨by decide +kernel, by decide +kernel⟩, List.mem_of_getElem? (i := 15) (by decide +kernel), List.mem_of_getElem? (i := 371) (by decide +kernel), List.mem_of_getElem? (i := 372) (by decide +kernel)⟩
theorem lw_p12 : lw_okq (⟨"java/lang/Throwable", "fillInStackTrace", "(I)Ljava/lang/Throwable;"⟩, 6) := ⟨⟨by decide +kernel, by decide +kernel⟩, List.mem_of_getElem? (i := 524) (by decide +kernel), List.mem_of_getElem? (i := 522) (by decide +kernel), List.mem_of_getElem? (i := 523) (by decide +kernel)⟩
theorem lw_p13 : lw_okq (⟨"BatchOrderModel", "comes", "(IIIII)I"⟩, 30) := ⟨⟨by decide +kernel, by decide +kernel⟩, List.mem_of_getElem? (i := 554) (by decide +kernel), List.mem_of_getElem? (i := 660) (by decide +kernel), List.mem_of_getElem? (i := 661) (by decide +kernel)⟩
theorem lw_p14 : lw_okq (⟨"BatchOrderModel", "isRow", "(I)Z"⟩, 30) := ⟨⟨by decide +kernel, by decide +kernel⟩, List.mem_of_getElem? (i := 554) (by decide +kernel), List.mem_of_getElem? (i := 678) (by decide +kernel), List.mem_of_getElem? (i := 679) (by decide +kernel)⟩
theorem lw_p15 : lw_okq (⟨"BatchOrderModel", "isAsked", "(II)Z"⟩, 30) := ⟨⟨by decide +kernel, by decide +kernel⟩, List.mem_of_getElem? (i := 554) (by decide +kernel), List.mem_of_getElem? (i := 713) (by decide +kernel), List.mem_of_getElem? (i := 714) (by decide +kernel)⟩
def lw_privs_1 : List (MethodName × Nat) := [(⟨"BatchOrder$Order", "beginStream", "(II)V"⟩, 10), (⟨"BatchOrder$Order", "makePlain", "()V"⟩, 10), (⟨"BatchOrder$Order", "sortParts", "()V"⟩, 10), (⟨"BatchOrder$Order", "sortByLength", "(II)V"⟩, 10), (⟨"BatchOrder$Order", "makeWeighted", "()V"⟩, 10), (⟨"BatchOrder$Order", "rowAbove", "(I)I"⟩, 10), (⟨"BatchOrder$Order", "makeBalanced", "(I)V"⟩, 10), (⟨"BatchOrder$Order", "layOutLabels", "()V"⟩, 10), (⟨"BatchOrder$Order", "mixLabel", "(II)V"⟩, 10), (⟨"BatchOrder$Order", "rowHeld", "(I)I"⟩, 10), (⟨"BatchOrder$Order", "makeBuffered", "()V"⟩, 10), (⟨"BatchOrder", "rowInBatch", "(IJ)I"⟩, 8), (⟨"java/lang/Throwable", "fillInStackTrace", "(I)Ljava/lang/Throwable;"⟩, 6), (⟨"BatchOrderModel", "comes", "(IIIII)I"⟩, 30), (⟨"BatchOrderModel", "isRow", "(I)Z"⟩, 30), (⟨"BatchOrderModel", "isAsked", "(II)Z"⟩, 30)]
theorem lw_r1 : ∀ q ∈ lw_privs_1, lw_okq q := List.forall_mem_cons.mpr ⟨lw_p0, List.forall_mem_cons.mpr ⟨lw_p1, List.forall_mem_cons.mpr ⟨lw_p2, List.forall_mem_cons.mpr ⟨lw_p3, List.forall_mem_cons.mpr ⟨lw_p4, List.forall_mem_cons.mpr ⟨lw_p5, List.forall_mem_cons.mpr ⟨lw_p6, List.forall_mem_cons.mpr ⟨lw_p7, List.forall_mem_cons.mpr ⟨lw_p8, List.forall_mem_cons.mpr ⟨lw_p9, List.forall_mem_cons.mpr ⟨lw_p10, List.forall_mem_cons.mpr ⟨lw_p11, List.forall_mem_cons.mpr ⟨lw_p12, List.forall_mem_cons.mpr ⟨lw_p13, List.forall_mem_cons.mpr ⟨lw_p14, List.forall_mem_cons.mpr ⟨lw_p15, fun _ h => absurd h List.not_mem_nil⟩⟩⟩⟩⟩⟩⟩⟩⟩⟩⟩⟩⟩⟩⟩⟩
theorem lw_p16 : lw_okq (⟨"BatchOrderModel", "orders", "(II)Z"⟩, 30) := ⟨⟨by decide +kernel, by decide +kernel⟩, List.mem_of_getElem? (i := 554) (by decide +kernel), List.mem_of_getElem? (i := 718) (by decide +kernel), List.mem_of_getElem? (i := 719) (by decide +kernel)⟩
theorem lw_p17 : lw_okq (⟨"BatchOrderModel", "begin", "()V"⟩, 30) := ⟨⟨by decide +kernel, by decide +kernel⟩, List.mem_of_getElem? (i := 554) (by decide +kernel), List.mem_of_getElem? (i := 722) (by decide +kernel), List.mem_of_getElem? (i := 723) (by decide +kernel)⟩
theorem lw_p18 : lw_okq (⟨"BatchOrderModel", "with", "(J)V"⟩, 30) := ⟨⟨by decide +kernel, by decide +kernel⟩, List.mem_of_getElem? (i := 554) (by decide +kernel), List.mem_of_getElem? (i := 726) (by decide +kernel), List.mem_of_getElem? (i := 727) (by decide +kernel)⟩
theorem lw_p19 : lw_okq (⟨"BatchOrderModel", "mixes", "([III)V"⟩, 30) := ⟨⟨by decide +kernel, by decide +kernel⟩, List.mem_of_getElem? (i := 554) (by decide +kernel), List.mem_of_getElem? (i := 736) (by decide +kernel), List.mem_of_getElem? (i := 737) (by decide +kernel)⟩
theorem lw_p20 : lw_okq (⟨"BatchOrderModel", "draw", "(J)I"⟩, 30) := ⟨⟨by decide +kernel, by decide +kernel⟩, List.mem_of_getElem? (i := 554) (by decide +kernel), List.mem_of_getElem? (i := 740) (by decide +kernel), List.mem_of_getElem? (i := 741) (by decide +kernel)⟩
theorem lw_p21 : lw_okq (⟨"BatchOrderModel", "byLengths", "()V"⟩, 30) := ⟨⟨by decide +kernel, by decide +kernel⟩, List.mem_of_getElem? (i := 554) (by decide +kernel), List.mem_of_getElem? (i := 744) (by decide +kernel), List.mem_of_getElem? (i := 745) (by decide +kernel)⟩
theorem lw_p22 : lw_okq (⟨"BatchOrderModel", "byWeights", "()Z"⟩, 30) := ⟨⟨by decide +kernel, by decide +kernel⟩, List.mem_of_getElem? (i := 554) (by decide +kernel), List.mem_of_getElem? (i := 748) (by decide +kernel), List.mem_of_getElem? (i := 749) (by decide +kernel)⟩
theorem lw_p23 : lw_okq (⟨"BatchOrderModel", "weightsOfAll", "()I"⟩, 30) := ⟨⟨by decide +kernel, by decide +kernel⟩, List.mem_of_getElem? (i := 554) (by decide +kernel), List.mem_of_getElem? (i := 752) (by decide +kernel), List.mem_of_getElem? (i := 753) (by decide +kernel)⟩
theorem lw_p24 : lw_okq (⟨"BatchOrderModel", "balanced", "(I)V"⟩, 30) := ⟨⟨by decide +kernel, by decide +kernel⟩, List.mem_of_getElem? (i := 554) (by decide +kernel), List.mem_of_getElem? (i := 756) (by decide +kernel), List.mem_of_getElem? (i := 757) (by decide +kernel)⟩
theorem lw_p25 : lw_okq (⟨"BatchOrderModel", "again", "(II)V"⟩, 30) := ⟨⟨by decide +kernel, by decide +kernel⟩, List.mem_of_getElem? (i := 554) (by decide +kernel), List.mem_of_getElem? (i := 760) (by decide +kernel), List.mem_of_getElem? (i := 761) (by decide +kernel)⟩
theorem lw_p26 : lw_okq (⟨"BatchOrderModel", "buffered", "()V"⟩, 30) := ⟨⟨by decide +kernel, by decide +kernel⟩, List.mem_of_getElem? (i := 554) (by decide +kernel), List.mem_of_getElem? (i := 765) (by decide +kernel), List.mem_of_getElem? (i := 766) (by decide +kernel)⟩
theorem lw_p27 : lw_okq (⟨"BatchOrderModel", "manyOf", "(I)I"⟩, 30) := ⟨⟨by decide +kernel, by decide +kernel⟩, List.mem_of_getElem? (i := 554) (by decide +kernel), List.mem_of_getElem? (i := 769) (by decide +kernel), List.mem_of_getElem? (i := 770) (by decide +kernel)⟩
theorem lw_p28 : lw_okq (⟨"BatchOrderModel", "failure", "(III)I"⟩, 30) := ⟨⟨by decide +kernel, by decide +kernel⟩, List.mem_of_getElem? (i := 554) (by decide +kernel), List.mem_of_getElem? (i := 801) (by decide +kernel), List.mem_of_getElem? (i := 802) (by decide +kernel)⟩
theorem lw_p29 : lw_okq (⟨"BatchOrderModel", "turn", "()V"⟩, 30) := ⟨⟨by decide +kernel, by decide +kernel⟩, List.mem_of_getElem? (i := 554) (by decide +kernel), List.mem_of_getElem? (i := 806) (by decide +kernel), List.mem_of_getElem? (i := 807) (by decide +kernel)⟩
theorem lw_p30 : lw_okq (⟨"BatchOrderModel", "crop", "(I)V"⟩, 30) := ⟨⟨by decide +kernel, by decide +kernel⟩, List.mem_of_getElem? (i := 554) (by decide +kernel), List.mem_of_getElem? (i := 810) (by decide +kernel), List.mem_of_getElem? (i := 811) (by decide +kernel)⟩
def lw_privs_2 : List (MethodName × Nat) := [(⟨"BatchOrderModel", "orders", "(II)Z"⟩, 30), (⟨"BatchOrderModel", "begin", "()V"⟩, 30), (⟨"BatchOrderModel", "with", "(J)V"⟩, 30), (⟨"BatchOrderModel", "mixes", "([III)V"⟩, 30), (⟨"BatchOrderModel", "draw", "(J)I"⟩, 30), (⟨"BatchOrderModel", "byLengths", "()V"⟩, 30), (⟨"BatchOrderModel", "byWeights", "()Z"⟩, 30), (⟨"BatchOrderModel", "weightsOfAll", "()I"⟩, 30), (⟨"BatchOrderModel", "balanced", "(I)V"⟩, 30), (⟨"BatchOrderModel", "again", "(II)V"⟩, 30), (⟨"BatchOrderModel", "buffered", "()V"⟩, 30), (⟨"BatchOrderModel", "manyOf", "(I)I"⟩, 30), (⟨"BatchOrderModel", "failure", "(III)I"⟩, 30), (⟨"BatchOrderModel", "turn", "()V"⟩, 30), (⟨"BatchOrderModel", "crop", "(I)V"⟩, 30)]
theorem lw_r2 : ∀ q ∈ lw_privs_2, lw_okq q := List.forall_mem_cons.mpr ⟨lw_p16, List.forall_mem_cons.mpr ⟨lw_p17, List.forall_mem_cons.mpr ⟨lw_p18, List.forall_mem_cons.mpr ⟨lw_p19, List.forall_mem_cons.mpr ⟨lw_p20, List.forall_mem_cons.mpr ⟨lw_p21, List.forall_mem_cons.mpr ⟨lw_p22, List.forall_mem_cons.mpr ⟨lw_p23, List.forall_mem_cons.mpr ⟨lw_p24, List.forall_mem_cons.mpr ⟨lw_p25, List.forall_mem_cons.mpr ⟨lw_p26, List.forall_mem_cons.mpr ⟨lw_p27, List.forall_mem_cons.mpr ⟨lw_p28, List.forall_mem_cons.mpr ⟨lw_p29, List.forall_mem_cons.mpr ⟨lw_p30, fun _ h => absurd h List.not_mem_nil⟩⟩⟩⟩⟩⟩⟩⟩⟩⟩⟩⟩⟩⟩⟩
def lw_privs : List (MethodName × Nat) := lw_privs_1 ++ (lw_privs_2)
def lw_tbl : List Cond := k2_sels lw_privs ++ tables_1
theorem lw_privs_ok : ∀ q ∈ lw_privs, lw_okq q := by
  show ∀ q ∈ lw_privs_1 ++ (lw_privs_2), lw_okq q
  exact List.forall_mem_append.mpr ⟨lw_r1, lw_r2⟩
end
section
/-! ===== BEGIN words of one list among another's, by their places ===== -/
theorem goodIn_r {big : List Cond} (ws : List Cond) (ps : List Nat) (hp : ws = ps.filterMap (fun i => big[i]?)) (h : ws.all goodWord = true) : GoodIn big ws := by
  intro w hw
  have h1 := List.all_eq_true.mp h w hw
  rw [hp] at hw
  obtain ⟨i, -, hi⟩ := List.mem_filterMap.mp hw
  have hm : w ∈ big := by first | exact List.mem_of_getElem? hi | exact List.getElem?_mem hi
  exact ⟨hm, good_of_word h1⟩
theorem goodIn_app {big a b : List Cond} (ha : GoodIn big a) (hb : GoodIn big b) : GoodIn big (a ++ b) := fun w h => (List.mem_append.mp h).elim (ha w) (hb w)
theorem goodIn_ca {big a b : List Cond} {c : Cond} (ha : GoodIn big (c :: a)) (hb : GoodIn big b) : GoodIn big (c :: (a ++ b)) := fun w h => (List.mem_cons.mp h).elim (fun e => ha w (List.mem_cons.mpr (Or.inl e))) (fun h => (List.mem_append.mp h).elim (fun h => ha w (List.mem_cons.mpr (Or.inr h))) (hb w))
theorem goodIn_sub {big ws : List Cond} (hm : ∀ w ∈ ws, w ∈ big) (h : ws.all goodWord = true) : GoodIn big ws := fun w hw => ⟨hm w hw, good_of_word (List.all_eq_true.mp h w hw)⟩
/-! ===== END ===== -/

/-! ===== BEGIN exceptions that leave a method, and their catching by the caller (launches without stack traces) ===== -/
section VXA
/-! The laws vx_back, vx_callV, vx_callS, vx_callSW, vx_throw0, vx_throwS follow proofs of the library, with one case more: JvmDerived/Free/Laws.lean (Back.of_free), Shelf42/LK1.lean (callV, callS), Shelf/KitTraced.lean (throwNew0V, throwNewS). -/
/-- where a method has thrown q: the class by its name, the cell, what was written, the world -/
def vx_T (XC : String → State → State → Prop) (st : State) (q : Addr) (t : State) (mc ms : Nat) (free : Addr → Prop) : Prop :=
  ∃ (E : String) (ce : Cell) (L : List Loc), XC E st t ∧ t.heap[q]? = some ce ∧ ce.vm = .none ∧ st.vm.findClass E = some ce.cls ∧ st.WarmedH t.vm ∧ st.sameButNew ({ t with vm := st.vm } : State) L mc ms ∧ ∀ z ∈ L, free z.base
def vx_Q (Qc : Array Value → State → Outcome → State → Prop) (XC : String → State → State → Prop) (mc ms : Nat) (free : Addr → Prop) : Array Value → State → Outcome → State → Prop := fun a st o t =>
  (Qc a st o t ∧ ∃ L, FrameEnd st o t L mc ms ∧ ∀ q ∈ L, free q.base) ∨ ∃ q, o = .threw q ∧ vx_T XC st q t mc ms free
/-- a callee that returns or throws -/
def vx_Met (l : Launch) (y : MethodName) (ws : List Cond) (rm : Room) (Pc : Array Value → State → Prop) (Qc : Array Value → State → Outcome → State → Prop) (XC : String → State → State → Prop) (mc ms : Nat) (free : Addr → Prop) : Prop :=
  MetFree l y (headSpec ws rm) Pc (fun _ _ _ _ _ => True) (vx_Q Qc XC mc ms free)
def vx_Post (XC : String → State → State → Prop) (mc ms : Nat) (free : Addr → Prop) : Pt → Array Value → Addr → Pt → Prop := fun A a q B =>
  ∃ (g : JFrame) (mk : MethodId) (t : State) (L : List Loc) (E : String) (ce : Cell), B.U.heap = t.heap ∧ B.U.vm = t.vm ∧ XC E (A.U.calling g mk a) t ∧ t.heap[q]? = some ce ∧ ce.vm = .none ∧ A.U.vm.findClass E = some ce.cls ∧ B.locs = A.locs ++ L ∧ (∀ z ∈ L, free z.base) ∧ B.cells = A.cells + mc ∧ B.slots = A.slots + ms
def vx_Back (l : Launch) (R : Room) (p : Program) (e : Env) (below : List Frame) (s : State) (sargs : Array Value) (y : MethodName) (len W9 : Nat)
    (Pre : Pt → Array Value → Prop) (Post : Pt → Array Value → Option Value → Pt → Prop) (PostX : Pt → Array Value → Addr → Pt → Prop) : Prop :=
  ∀ (m : MethodId) (meth : Method) (c : Code) (A : Pt) (g : JFrame) (ig : Instr) (mk : MethodId) (a : Array Value),
    Stand p l e R s m sargs below meth c A.U A.locs A.cells A.slots → g.method = m → g.locals.size = c.maxLocals → decode c.code g.pc = .ok (ig, len) →
    2 * g.monitorRoom + (g.stack.map fun v => v.category).sum ≤ W9 → A.U.methodNamed? y = some mk → Pre A a →
    (∃ (v : Option Value) (B : Pt), Stand p l e R s m sargs below meth c B.U B.locs B.cells B.slots ∧ Post A a v B ∧
      Steps p.tables e below (doInvoke e (A.U.setTop g) [] mk a).1 (B.U.setTop { g with pc := g.pc + len, stack := v.toList ++ g.stack })) ∨
    (∃ (q : Addr) (B : Pt), Stand p l e R s m sargs below meth c B.U B.locs B.cells B.slots ∧ PostX A a q B ∧
      Steps p.tables e below (doInvoke e (A.U.setTop g) [] mk a).1 ((B.U.setTop g).pushFrame (.throwing q)))
section Payer
variable {l : Launch} {R : Room} {p : Program} {e : Env} {below : List Frame} {s : State} {sargs : Array Value} {y : MethodName} {len W9 : Nat}
theorem vx_back {ws : List Cond} {rm : Room} {Pc : Array Value → State → Prop} {Qc : Array Value → State → Outcome → State → Prop} {XC : String → State → State → Prop} {mc ms : Nat} {free : Addr → Prop} {bytes : ByteArray} {maxL : Nat} {ret : Option FieldType}
    (hM : vx_Met l y ws rm Pc Qc XC mc ms free) (hblind : FrameBlind Pc) (hrc : rm.cells = mc) (hrs : rm.slots = ms)
    (hframes : rm.frames + 1 ≤ R.frames) (hlocals : W9 + (maxL + 11) + rm.locals ≤ R.locals)
    (hws : ∀ w ∈ ws, ∀ a' U, s.WarmedH U.vm → w.before a' U = true) (hcode : Cond.code y bytes maxL ret ∈ ws) (hinit : ∀ a' U, s.WarmedH U.vm → (Cond.initialized y.cls).before a' U = true) :
    vx_Back l R p e below s sargs y len W9 (PreOf R mc ms Pc) (PostOf Qc mc ms free) (vx_Post XC mc ms free) := by
  intro m meth c A g ig mk a X hg hsize hdg hW hn hp
  have h1 : (headSpec ws rm).pre.before a A.U = true := atoms_intro fun w hw => hws w hw _ _ X.warmed
  have h2 : (Cond.code y bytes maxL ret).before a A.U = true := hws _ hcode _ _ X.warmed
  have h3 : (Cond.initialized y.cls).before a A.U = true := hinit _ _ X.warmed
  have h4 : A.cells + (headSpec ws rm).room.cells ≤ R.cells := by rw [show (headSpec ws rm).room.cells = mc from hrc]; exact hp.1
  have h5 : A.slots + (headSpec ws rm).room.slots ≤ R.slots := by rw [show (headSpec ws rm).room.slots = ms from hrs]; exact hp.2.1
  have hPc : Pc a (A.U.calling g mk a) := hblind _ _ _ _ hp.2.2
  obtain ⟨U, Ls, c0, s0⟩ := A
  dsimp only [Pt.U, Pt.locs, Pt.cells, Pt.slots] at h1 h2 h3 h4 h5 X hn hPc ⊢
  obtain ⟨methY, cY, hmY, hcY, -, hlY, -, -, -, -⟩ := Cond.code_spec hn h2
  obtain ⟨kY, hkY, -⟩ := className_of_methodNamed hn
  have hinitY : kY.init = .initialized := Cond.initialized_spec (findClass_of_methodNamed hn) hkY h3
  have h : At U g.method c below := by rw [hg]; exact X.here
  have hlocals9 : W9 + (maxL + 11) + (headSpec ws rm).room.locals ≤ R.locals := hlocals
  have happ : (headSpec ws rm).appliesLoose y e.platform (U.calling g mk a) = true :=
    Spec.appliesLoose_calling (g := g) h hdg hn hkY hinitY
      (X.room_calling (g := g) (R' := (headSpec ws rm).room) hsize hmY hcY hframes (by rw [hlY]; omega) h4 h5) h1
  obtain ⟨mid, hmid⟩ := h.above
  have hfr : (U.setTop g).frames = (.java g :: mid) ++ below := by rw [State.frames_setTop' g h.top, hmid]; rfl
  obtain ⟨o, s₂, hsteps, -, hend, hq⟩ := Steps.callFree hM p X.admits X.cas X.clock (acts := []) hfr happ hPc trivial
  have hq' : vx_Q Qc XC mc ms free a (U.calling g mk a) o s₂ := hq
  rw [State.frames_setTop' g h.top] at hend
  obtain ⟨g₀, hg0⟩ := Option.isSome_iff_exists.mp h.top
  obtain ⟨r, hr⟩ := State.topJava?_eq_some.mp hg0
  have hr' : (({ U with heap := s₂.heap, slotsUsed := s₂.slotsUsed } : State).setVm s₂.vm).frames = .java g₀ :: r := hr
  rcases hq' with ⟨hqc, L, hfe, hL⟩ | ⟨q, rfl, E, ce, L, hx, hce, hcv, hcl, hW₂, hsm, hL⟩
  · obtain ⟨⟨v, rfl⟩, hW₂, e2, q2, q3, q4, q5, q6⟩ := id hfe
    have e3 : s₂ = ({ (U.calling g mk a).setFrames s₂.frames with heap := s₂.heap, slotsUsed := s₂.slotsUsed } : State).setVm s₂.vm := by
      have : s₂ = ({ s₂ with vm := (U.calling g mk a).vm } : State).setVm s₂.vm := rfl
      rw [e2] at this
      exact this
    obtain ⟨c₂, i₂, len₂, hc₂, hd₂, hf₂⟩ := hend
    have hW' : U.WarmedH s₂.vm := hW₂
    have hcc : c₂ = c := by
      have h1 : s₂.code? g.method = U.code? g.method := by
        rw [State.code?_eq, State.code?_eq, hW'.alike.method?]
      exact Option.some.inj (hc₂.symm.trans (h1.trans h.code))
    subst hcc
    have hlen : len₂ = len := by rw [hdg] at hd₂; cases hd₂; rfl
    subst hlen
    have hs₂ : s₂ = (({ U with heap := s₂.heap, slotsUsed := s₂.slotsUsed } : State).setVm s₂.vm).setTop { g with pc := g.pc + len₂, stack := v.toList ++ g.stack } := by
      refine e3.trans ?_
      rw [hf₂, State.calling_eq h.top, State.setFrames_setFrames, State.setTop_of_frames _ hr', hr]
      rfl
    have hsame : U.sameButNew ({ U with heap := s₂.heap, slotsUsed := s₂.slotsUsed } : State) L mc ms := by
      refine ⟨?_, q2, q3, q4, q5, q6⟩
      obtain ⟨t, ht, -⟩ := State.frames_cons hr
      show ({ U with heap := s₂.heap, slotsUsed := s₂.slotsUsed } : State) = { U.setFrames U.frames with heap := s₂.heap, slotsUsed := s₂.slotsUsed }
      rw [State.setFrames_self ht]
    subst hg
    refine Or.inl ⟨v, ⟨(({ U with heap := s₂.heap, slotsUsed := s₂.slotsUsed } : State).setVm s₂.vm), Ls ++ L, c0 + mc, s0 + ms⟩,
      ⟨X.admits, X.cas, X.clock, X.frames, X.room, X.hears, X.method, X.code, (X.here.setHeapUsed s₂.heap s₂.slotsUsed).setVm hW'.alike, X.tail, State.WarmedH.trans X.warmed hW', X.limits, X.bytes, X.same.trans (hsame.setVm s.vm)⟩,
      ⟨g, mk, s₂, L, rfl, rfl, hqc, rfl, hL, rfl, rfl⟩, ?_⟩
    show Steps p.tables e below _ ((({ U with heap := s₂.heap, slotsUsed := s₂.slotsUsed } : State).setVm s₂.vm).setTop { g with pc := g.pc + len₂, stack := v.toList ++ g.stack })
    rw [← hs₂]
    exact hsteps
  · obtain ⟨e2, q2, q3, q4, q5, q6⟩ := id hsm
    have e3 : s₂ = ({ (U.calling g mk a).setFrames s₂.frames with heap := s₂.heap, slotsUsed := s₂.slotsUsed } : State).setVm s₂.vm := by
      have : s₂ = ({ s₂ with vm := (U.calling g mk a).vm } : State).setVm s₂.vm := rfl
      rw [e2] at this
      exact this
    have hf₂ : s₂.frames = .throwing q :: .java g :: U.frames.tail := hend
    have hW' : U.WarmedH s₂.vm := hW₂
    have hs₂ : s₂ = ((({ U with heap := s₂.heap, slotsUsed := s₂.slotsUsed } : State).setVm s₂.vm).setTop g).pushFrame (.throwing q) := by
      refine e3.trans ?_
      rw [hf₂, State.calling_eq h.top, State.setFrames_setFrames, State.pushFrame, State.frames_setTop _ hr', State.setTop_of_frames _ hr', State.setFrames_setFrames, hr]
      rfl
    have hsame : U.sameButNew ({ U with heap := s₂.heap, slotsUsed := s₂.slotsUsed } : State) L mc ms := by
      refine ⟨?_, q2, q3, q4, q5, q6⟩
      obtain ⟨t, ht, -⟩ := State.frames_cons hr
      show ({ U with heap := s₂.heap, slotsUsed := s₂.slotsUsed } : State) = { U.setFrames U.frames with heap := s₂.heap, slotsUsed := s₂.slotsUsed }
      rw [State.setFrames_self ht]
    subst hg
    refine Or.inr ⟨q, ⟨(({ U with heap := s₂.heap, slotsUsed := s₂.slotsUsed } : State).setVm s₂.vm), Ls ++ L, c0 + mc, s0 + ms⟩,
      ⟨X.admits, X.cas, X.clock, X.frames, X.room, X.hears, X.method, X.code, (X.here.setHeapUsed s₂.heap s₂.slotsUsed).setVm hW'.alike, X.tail, State.WarmedH.trans X.warmed hW', X.limits, X.bytes, X.same.trans (hsame.setVm s.vm)⟩,
      ⟨g, mk, s₂, L, E, ce, rfl, rfl, hx, hce, hcv, hcl, rfl, hL, rfl, rfl⟩, ?_⟩
    show Steps p.tables e below _ (((({ U with heap := s₂.heap, slotsUsed := s₂.slotsUsed } : State).setVm s₂.vm).setTop g).pushFrame (.throwing q))
    rw [← hs₂]
    exact hsteps
end Payer
section Calls
variable {p : Program} {l : Launch} {e : Env} {R : Room} {s : State} {m : MethodId} {args : Array Value} {below : List Frame} {meth : Method} {c : Code} {T : State} {locs : List Loc} {cells slots : Nat}
theorem vx_callV (X : Stand p l e R s m args below meth c T locs cells slots) (hexec : p.tables.exec = Jvm.exec) {own C : String} {index : Nat} {y : MethodName} {bytes : ByteArray} {maxL : Nat} {ret : Option FieldType}
    (hown : s.vm.findClass own = some m.cls) (hlink : (Cond.methodLink own index y).before args s = true) (hinst : (Cond.instanceMethod y).before args s = true) (hsel : (Cond.selects C y y).before args s = true)
    (hcode : (Cond.code y bytes maxL ret).before args s = true) (hy : y.cls ≠ "java/lang/invoke/MethodHandle" ∧ y.cls ≠ "java/lang/invoke/VarHandle")
    {W9 : Nat} {Pre : Pt → Array Value → Prop} {Post : Pt → Array Value → Option Value → Pt → Prop} {PostX : Pt → Array Value → Addr → Pt → Prop} (hK : vx_Back l R p e below s args y 3 W9 Pre Post PostX)
    {b : Addr} {cellB : Cell} (hcell : T.heap[b]? = some cellB) (hobj : cellB.vm.isStatics = false) (hcls : s.vm.findClass C = some cellB.cls)
    {g : JFrame} (hg : g.method = m) (hsize : g.locals.size = c.maxLocals) {argsL rest : List Value} (hlen : ∀ sig, parseMethodDescriptor y.desc = some sig → argsL.length = sig.parameters.length)
    (hstack : g.stack = argsL.reverse ++ .ref b :: rest) (hW : 2 * g.monitorRoom + (rest.map fun v => v.category).sum ≤ W9) (hdg : decode c.code g.pc = .ok (.invokevirtual index, 3))
    (hpre : ∀ vm₁, s.WarmedH vm₁ → Pre ⟨T.setVm vm₁, locs, cells, slots⟩ (Value.ref b :: argsL).toArray) :
    (∃ (v : Option Value) (vm₁ : Vm) (B : Pt), s.WarmedH vm₁ ∧ Stand p l e R s m args below meth c B.U B.locs B.cells B.slots ∧ Post ⟨T.setVm vm₁, locs, cells, slots⟩ (Value.ref b :: argsL).toArray v B ∧
      ∀ target, Steps p.tables e below (B.U.setTop { g with pc := g.pc + 3, stack := v.toList ++ rest }) target → Steps p.tables e below (T.setTop g) target) ∨
    (∃ (q : Addr) (vm₁ : Vm) (B : Pt), s.WarmedH vm₁ ∧ Stand p l e R s m args below meth c B.U B.locs B.cells B.slots ∧ PostX ⟨T.setVm vm₁, locs, cells, slots⟩ (Value.ref b :: argsL).toArray q B ∧
      Steps p.tables e below (T.setTop g) ((B.U.setTop { g with stack := rest }).pushFrame (.throwing q))) := by
  obtain ⟨mk, methM, hnamed, hmethM, hstM, habM⟩ := Cond.instanceMethod_spec hinst
  obtain ⟨methM', cM, hmethM', -, -, -, -, -, -, hsigM⟩ := Cond.code_spec hnamed hcode
  cases hmethM.symm.trans hmethM'
  obtain ⟨c2, r2, m2, q1, q2, q3, q4, kP, hkP, hkPi⟩ := Cond.selects_spec hsel
  cases hcls.symm.trans q1
  cases (State.methodFound?_of_named hnamed hy).symm.trans q2
  cases hnamed.symm.trans q3
  have hselP : selectMethod e.platform s.vm cellB.cls mk = .method mk := by rw [Launch.admits_selectMethod X.admits]; exact q4
  obtain ⟨vm₁, X₁, hstep₁⟩ := X.invokevirtual hexec hown hlink hnamed hmethM hstM hkP hkPi hy (a := b) (cell := cellB) hcell
    (fun z h => by rw [h] at hobj; cases hobj) hselP hmethM habM hkP hkPi (g := g) hg (argsL := argsL) (rest := rest) (hlen _ hsigM) hstack hdg
  rcases hK m meth c ⟨T.setVm vm₁, locs, cells, slots⟩ { g with stack := rest } (.invokevirtual index) mk (Value.ref b :: argsL).toArray X₁ hg hsize hdg hW (X₁.named hnamed) (hpre vm₁ X₁.warmed) with ⟨v, B, X', hpost, hsteps⟩ | ⟨q, B, X', hpost, hsteps⟩
  · exact Or.inl ⟨v, vm₁, B, X₁.warmed, X', hpost, fun target h => hstep₁ _ fun acts => by rw [doInvoke_state]; exact hsteps.trans h⟩
  · exact Or.inr ⟨q, vm₁, B, X₁.warmed, X', hpost, hstep₁ _ fun acts => by rw [doInvoke_state]; exact hsteps⟩
theorem vx_callS (X : Stand p l e R s m args below meth c T locs cells slots) (hexec : p.tables.exec = Jvm.exec) {own : String} {index : Nat} {y : MethodName} {bytes : ByteArray} {maxL : Nat} {ret : Option FieldType}
    (hown : s.vm.findClass own = some m.cls) (hlink : (Cond.methodLink own index y).before args s = true) (hstat : (Cond.static y).before args s = true) (hinit : (Cond.initialized y.cls).before args s = true)
    (hcode : (Cond.code y bytes maxL ret).before args s = true) (hy : y.cls ≠ "java/lang/invoke/MethodHandle" ∧ y.cls ≠ "java/lang/invoke/VarHandle")
    {W9 : Nat} {Pre : Pt → Array Value → Prop} {Post : Pt → Array Value → Option Value → Pt → Prop} {PostX : Pt → Array Value → Addr → Pt → Prop} (hK : vx_Back l R p e below s args y 3 W9 Pre Post PostX)
    {g : JFrame} (hg : g.method = m) (hsize : g.locals.size = c.maxLocals) {argsL rest : List Value} (hlen : ∀ sig, parseMethodDescriptor y.desc = some sig → argsL.length = sig.parameters.length)
    (hstack : g.stack = argsL.reverse ++ rest) (hW : 2 * g.monitorRoom + (rest.map fun v => v.category).sum ≤ W9) (hdg : decode c.code g.pc = .ok (.invokestatic index, 3))
    (hpre : ∀ vm₁, s.WarmedH vm₁ → Pre ⟨T.setVm vm₁, locs, cells, slots⟩ argsL.toArray) :
    (∃ (v : Option Value) (vm₁ : Vm) (B : Pt), s.WarmedH vm₁ ∧ Stand p l e R s m args below meth c B.U B.locs B.cells B.slots ∧ Post ⟨T.setVm vm₁, locs, cells, slots⟩ argsL.toArray v B ∧
      ∀ target, Steps p.tables e below (B.U.setTop { g with pc := g.pc + 3, stack := v.toList ++ rest }) target → Steps p.tables e below (T.setTop g) target) ∨
    (∃ (q : Addr) (vm₁ : Vm) (B : Pt), s.WarmedH vm₁ ∧ Stand p l e R s m args below meth c B.U B.locs B.cells B.slots ∧ PostX ⟨T.setVm vm₁, locs, cells, slots⟩ argsL.toArray q B ∧
      Steps p.tables e below (T.setTop g) ((B.U.setTop { g with stack := rest }).pushFrame (.throwing q))) := by
  obtain ⟨mk, hnamed⟩ := Cond.code_named hcode
  obtain ⟨methM, cM, hmethM, -, -, -, -, -, -, hsigM⟩ := Cond.code_spec hnamed hcode
  have hstatic : methM.isStatic = true := Cond.static_spec hnamed hmethM hstat
  obtain ⟨kP, hkP, -⟩ := className_of_methodNamed hnamed
  have hinitP : kP.init = .initialized := Cond.initialized_spec (findClass_of_methodNamed hnamed) hkP hinit
  obtain ⟨vm₁, X₁, hstep₁⟩ := X.invokestatic hexec hown hlink hnamed hmethM hstatic hkP hinitP hy (g := g) hg (argsL := argsL) (rest := rest) (hlen _ hsigM) hstack hdg
  rcases hK m meth c ⟨T.setVm vm₁, locs, cells, slots⟩ { g with stack := rest } (.invokestatic index) mk argsL.toArray X₁ hg hsize hdg hW (X₁.named hnamed) (hpre vm₁ X₁.warmed) with ⟨v, B, X', hpost, hsteps⟩ | ⟨q, B, X', hpost, hsteps⟩
  · exact Or.inl ⟨v, vm₁, B, X₁.warmed, X', hpost, fun target h => hstep₁ _ fun acts => by rw [doInvoke_state]; exact hsteps.trans h⟩
  · exact Or.inr ⟨q, vm₁, B, X₁.warmed, X', hpost, hstep₁ _ fun acts => by rw [doInvoke_state]; exact hsteps⟩
end Calls
theorem vx_cls {s : State} {T : State} {vm₁ : Vm} {E : String} {k : ClassId} (hW : s.WarmedH vm₁) (h : (T.setVm vm₁).vm.findClass E = some k) : s.vm.findClass E = some k := by
  have h1 : vm₁.findClass E = some k := h
  rw [hW.alike.findClass] at h1
  exact h1
/-- the method's frame g, with q thrown over it -/
def vx_W (p : Program) (l : Launch) (e : Env) (R : Room) (s : State) (m : MethodId) (args : Array Value) (below : List Frame) (meth : Method) (c : Code) (H : Heap) (locs : List Loc) (cells slots : Nat) (Q : State → Prop) (g : JFrame) (q : Addr) : Prop :=
  ∀ T : State, T.heap = H → Stand p l e R s m args below meth c T locs cells slots → ∃ t, Steps p.tables e below ((T.setTop g).pushFrame (.throwing q)) t ∧ Q t
def vx_Run (p : Program) (l : Launch) (e : Env) (R : Room) (s : State) (m : MethodId) (args : Array Value) (below : List Frame) (meth : Method) (c : Code) (H : Heap) (locs : List Loc) (cells slots mc ms : Nat) (g : JFrame) (rest : List Value) (Qa : State → Outcome → State → Prop) (XC : String → State → State → Prop) (free : Addr → Prop) : Prop :=
  ∀ T : State, T.heap = H → Stand p l e R s m args below meth c T locs cells slots →
    (∃ (v : Option Value) (st₀ t T' : State) (L : List Loc), st₀.heap = H ∧ Stand p l e R s m args below meth c T' (locs ++ L) (cells + mc) (slots + ms) ∧ (∀ q ∈ L, free q.base) ∧ T'.heap = t.heap ∧ T'.vm = t.vm ∧ Qa st₀ (.returned v) t ∧
      Goes p e below T g T' { g with pc := g.pc + 3, stack := v.toList ++ rest }) ∨
    (∃ (q : Addr) (st₀ t T' : State) (L : List Loc) (E : String) (ce : Cell), st₀.heap = H ∧ Stand p l e R s m args below meth c T' (locs ++ L) (cells + mc) (slots + ms) ∧ (∀ z ∈ L, free z.base) ∧ T'.heap = t.heap ∧ T'.vm = t.vm ∧ XC E st₀ t ∧ t.heap[q]? = some ce ∧ ce.vm = .none ∧ s.vm.findClass E = some ce.cls ∧
      Steps p.tables e below (T.setTop g) ((T'.setTop { g with stack := rest }).pushFrame (.throwing q)))
def vx_X {S : Type} (px : S → Prop) (B : String → S → State → Prop) (A : Nat → Prop) : String → State → State → Prop := fun E st t => ∃ u : S, px u ∧ B E u t ∧ va_F A st t
section Runs
variable {p : Program} {l : Launch} {e : Env} {R : Room} {s : State} {m : MethodId} {args : Array Value} {below : List Frame} {meth : Method} {c : Code} {H : Heap} {locs : List Loc} {cells slots : Nat}
variable {y : MethodName} {bytes cc : ByteArray} {maxL nL mc ms n index : Nat} {ret : Option FieldType} {ws : List Cond} {rm : Room} {Pc : Array Value → State → Prop} {Qc : Array Value → State → Outcome → State → Prop} {XC : String → State → State → Prop} {free : Addr → Prop} {Ts : List Cond} {own C : String} {b : Addr} {As rest : List Value} {g : JFrame}
theorem vx_callBack (cb : CallB R s args own index y bytes maxL ret ws rm mc ms n) (hM : vx_Met l y ws rm Pc Qc XC mc ms free) (hbl : FrameBlind Pc) : vx_Back l R p e below s args y 3 8 (PreOf R mc ms Pc) (PostOf Qc mc ms free) (vx_Post XC mc ms free) := by
  obtain ⟨hrc, hrs, hfr, hlo, hws, hcw, -, hini, -⟩ := cb
  exact vx_back (bytes := bytes) (maxL := maxL) (ret := ret) hM hbl hrc hrs hfr hlo hws hcw (fun a' U hW => word_at hW (Or.inl (by first | rfl | simp [Cond.onTables, Cond.keeps, Cond.steady])) hini)
theorem vx_runV (S : CallFix p m c cc nL s args Ts own) (hM : vx_Met l y ws rm Pc Qc XC mc ms free) (cw : CallW R s args own C index y bytes maxL ret ws rm mc ms n) (hp : PreV s H C b Pc As)
    (hg : g.method = m) (hn : As.length = n) (hsize : g.locals.size = nL) (hstack : g.stack = As.reverse ++ .ref b :: rest) (hW : 2 * g.monitorRoom + (rest.map fun v => v.category).sum ≤ 8) (hdg : decode cc g.pc = .ok (.invokevirtual index, 3)) (hf : cells + mc ≤ R.cells ∧ slots + ms ≤ R.slots) :
    vx_Run p l e R s m args below meth c H locs cells slots mc ms g rest (Qc (Value.ref b :: As).toArray) XC free := by
  have hK : vx_Back l R p e below s args y 3 8 (PreOf R mc ms Pc) (PostOf Qc mc ms free) (vx_Post XC mc ms free) := vx_callBack cw.1 hM hp.1
  obtain ⟨⟨-, -, -, -, -, -, hcode, -, hy, hlen, hl⟩, hin, hse⟩ := cw
  obtain ⟨hx, hb, hml, ho, -⟩ := S
  obtain ⟨-, ⟨cellB, hcB, hoB, hclB⟩, hPc⟩ := hp
  intro T hT X
  rcases vx_callV X hx (C := C) (bytes := bytes) (maxL := maxL) (ret := ret) ho hl hin hse hcode hy hK (by rw [hT]; exact hcB) hoB hclB hg (hsize.trans hml.symm) (argsL := As) (rest := rest) (fun sig h => hn.trans (hlen sig h)) hstack hW (by rw [hb]; exact hdg)
    (fun vm₁ hW₁ => ⟨hf.1, hf.2, hPc (T.setVm vm₁) hT hW₁⟩) with ⟨v, vm₁, ⟨U', l2, c2, s2⟩, hW₁, X', ⟨g', mk, t, L, e1, e2, hq, h1, hL, h2, h3⟩, st⟩ | ⟨q, vm₁, ⟨U', l2, c2, s2⟩, hW₁, X', ⟨g', mk, t, L, E, ce, e1, e2, hq, hce, hcv, hcl, h1, hL, h2, h3⟩, st⟩
  · dsimp only [Pt.U, Pt.locs, Pt.cells, Pt.slots] at X' e1 e2 h1 h2 h3 st
    subst h1; subst h2; subst h3
    exact Or.inl ⟨v, (T.setVm vm₁).calling g' mk (Value.ref b :: As).toArray, t, U', L, hT, X', hL, e1, e2, hq, st⟩
  · dsimp only [Pt.U, Pt.locs, Pt.cells, Pt.slots] at X' e1 e2 h1 h2 h3 st hcl
    subst h1; subst h2; subst h3
    exact Or.inr ⟨q, (T.setVm vm₁).calling g' mk (Value.ref b :: As).toArray, t, U', L, E, ce, hT, X', hL, e1, e2, hq, hce, hcv, vx_cls hW₁ hcl, st⟩
theorem vx_runS (S : CallFix p m c cc nL s args Ts own) (hM : vx_Met l y ws rm Pc Qc XC mc ms free) (cw : CallB R s args own index y bytes maxL ret ws rm mc ms n ∧ (Cond.static y).before args s = true) (hp : PreS s H Pc As)
    (hg : g.method = m) (hn : As.length = n) (hsize : g.locals.size = nL) (hstack : g.stack = As.reverse ++ rest) (hW : 2 * g.monitorRoom + (rest.map fun v => v.category).sum ≤ 8) (hdg : decode cc g.pc = .ok (.invokestatic index, 3)) (hf : cells + mc ≤ R.cells ∧ slots + ms ≤ R.slots) :
    vx_Run p l e R s m args below meth c H locs cells slots mc ms g rest (Qc As.toArray) XC free := by
  have hK : vx_Back l R p e below s args y 3 8 (PreOf R mc ms Pc) (PostOf Qc mc ms free) (vx_Post XC mc ms free) := vx_callBack cw.1 hM hp.1
  obtain ⟨⟨-, -, -, -, -, -, hcode, hini, hy, hlen, hl⟩, hstt⟩ := cw
  obtain ⟨hx, hb, hml, ho, -⟩ := S
  intro T hT X
  rcases vx_callS X hx (bytes := bytes) (maxL := maxL) (ret := ret) ho hl hstt hini hcode hy hK hg (hsize.trans hml.symm) (argsL := As) (rest := rest) (fun sig h => hn.trans (hlen sig h)) hstack hW (by rw [hb]; exact hdg)
    (fun vm₁ hW₁ => ⟨hf.1, hf.2, hp.2 (T.setVm vm₁) hT hW₁⟩) with ⟨v, vm₁, ⟨U', l2, c2, s2⟩, hW₁, X', ⟨g', mk, t, L, e1, e2, hq, h1, hL, h2, h3⟩, st⟩ | ⟨q, vm₁, ⟨U', l2, c2, s2⟩, hW₁, X', ⟨g', mk, t, L, E, ce, e1, e2, hq, hce, hcv, hcl, h1, hL, h2, h3⟩, st⟩
  · dsimp only [Pt.U, Pt.locs, Pt.cells, Pt.slots] at X' e1 e2 h1 h2 h3 st
    subst h1; subst h2; subst h3
    exact Or.inl ⟨v, (T.setVm vm₁).calling g' mk As.toArray, t, U', L, hT, X', hL, e1, e2, hq, st⟩
  · dsimp only [Pt.U, Pt.locs, Pt.cells, Pt.slots] at X' e1 e2 h1 h2 h3 st hcl
    subst h1; subst h2; subst h3
    exact Or.inr ⟨q, (T.setVm vm₁).calling g' mk As.toArray, t, U', L, E, ce, hT, X', hL, e1, e2, hq, hce, hcv, vx_cls hW₁ hcl, st⟩
end Runs
section Rows
variable {p : Program} {l : Launch} {e : Env} {R : Room} {s : State} {m : MethodId} {args : Array Value} {below : List Frame} {meth : Method} {c : Code} {H : Heap} {locs : List Loc} {cells slots : Nat} {Q : State → Prop}
variable {mc ms : Nat} {free : Addr → Prop} {A0 A1 : Nat → Prop} {H0 : Heap} {a : Array Value} {pc : Nat} {ls : Array Slot} {st0 rest : List Value}
theorem vx_keep {st₀ t T' : State} {L : List Loc} (h0 : st₀.heap = H) (e1 : T'.heap = t.heap) (hS : va_S A0 H0 H locs) (hA : ∀ q, q < H.size → A1 q → A0 q) (hf : ∀ q, free q → A0 q) (hL : ∀ q ∈ L, free q.base) (hF : va_F A1 st₀ t) :
    H.size ≤ T'.heap.size ∧ (∀ q : Nat, q < H.size → ¬ A1 q → T'.heap[q]? = H[q]?) ∧ va_S A0 H0 T'.heap (locs ++ L) := by
  obtain ⟨hz, hk⟩ := hF
  rw [h0] at hz hk
  exact ⟨by rw [e1]; exact hz, fun q h1 h2 => by rw [e1]; exact hk q h1 h2,
    ⟨Nat.le_trans hS.1 (by rw [e1]; exact hz), fun q h1 h2 => by rw [e1, hk q (Nat.lt_of_lt_of_le h1 hS.1) (fun z => h2 (hA q (Nat.lt_of_lt_of_le h1 hS.1) z))]; exact hS.2.1 q h1 h2, fun q hq => by
      rcases List.mem_append.mp hq with h | h
      · exact hS.2.2 q h
      · exact hf _ (hL q h)⟩⟩
theorem vx_calli {S SX : Type} {post : Int32 → S → Prop} {px : SX → Prop} {B : S → State → Prop} {BX : String → SX → State → Prop} {AX : Nat → Prop} (hr : vx_Run p l e R s m args below meth c H locs cells slots mc ms (F0 m pc ls st0) rest (va_Qi post B A1 a) (vx_X px BX AX) free) (hS : va_S A0 H0 H locs) (hA : ∀ q, q < H.size → A1 q → A0 q) (hf : ∀ q, free q → A0 q) (hAX : ∀ q, q < H.size → AX q → A0 q)
    (kx : ∀ (E : String) (ce : Cell) (q9 : Addr) (u : SX) (t : State) (H1 : Heap) (locs1 : List Loc), t.heap = H1 → s.vm.Alike t.vm → px u → BX E u t → H.size ≤ H1.size → (∀ q : Nat, q < H.size → ¬ AX q → H1[q]? = H[q]?) → va_S A0 H0 H1 locs1 → H1[q9]? = some ce → ce.vm = .none → s.vm.findClass E = some ce.cls → vx_W p l e R s m args below meth c H1 locs1 (cells + mc) (slots + ms) Q (F0 m pc ls rest) q9)
    (kk : ∀ (r : Int32) (u : S) (t : State) (H1 : Heap) (locs1 : List Loc), t.heap = H1 → s.vm.Alike t.vm → post r u → B u t → H.size ≤ H1.size → (∀ q : Nat, q < H.size → ¬ A1 q → H1[q]? = H[q]?) → va_S A0 H0 H1 locs1 → W p l e R s m args below meth c H1 locs1 (cells + mc) (slots + ms) Q (F0 m (pc + 3) ls (.int r :: rest))) : W p l e R s m args below meth c H locs cells slots Q (F0 m pc ls st0) := by
  intro T hT X
  rcases hr T hT X with ⟨v, st₀, t, T', L, h0, X', hL, e1, e2, ⟨⟨r, u, hv, hp, hb⟩, hF⟩, st⟩ | ⟨q, st₀, t, T', L, E, ce, h0, X', hL, e1, e2, ⟨u, hp, hb, hF⟩, hce, hcv, hcl, st⟩
  · cases hv
    obtain ⟨k1, k2, k3⟩ := vx_keep h0 e1 hS hA hf hL hF
    obtain ⟨t2, a1, b1⟩ := kk r u t T'.heap (locs ++ L) e1.symm (by rw [← e2]; exact X'.warmed.alike) hp hb k1 k2 k3 T' rfl X'
    exact ⟨t2, st t2 a1, b1⟩
  · obtain ⟨k1, k2, k3⟩ := vx_keep h0 e1 hS hAX hf hL hF
    obtain ⟨t2, a1, b1⟩ := kx E ce q u t T'.heap (locs ++ L) e1.symm (by rw [← e2]; exact X'.warmed.alike) hp hb k1 k2 k3 (by rw [e1]; exact hce) hcv hcl T' rfl X'
    exact ⟨t2, st.trans a1, b1⟩
theorem vx_calll {S SX : Type} {post : Int64 → S → Prop} {px : SX → Prop} {B : S → State → Prop} {BX : String → SX → State → Prop} {AX : Nat → Prop} (hr : vx_Run p l e R s m args below meth c H locs cells slots mc ms (F0 m pc ls st0) rest (va_Ql post B A1 a) (vx_X px BX AX) free) (hS : va_S A0 H0 H locs) (hA : ∀ q, q < H.size → A1 q → A0 q) (hf : ∀ q, free q → A0 q) (hAX : ∀ q, q < H.size → AX q → A0 q)
    (kx : ∀ (E : String) (ce : Cell) (q9 : Addr) (u : SX) (t : State) (H1 : Heap) (locs1 : List Loc), t.heap = H1 → s.vm.Alike t.vm → px u → BX E u t → H.size ≤ H1.size → (∀ q : Nat, q < H.size → ¬ AX q → H1[q]? = H[q]?) → va_S A0 H0 H1 locs1 → H1[q9]? = some ce → ce.vm = .none → s.vm.findClass E = some ce.cls → vx_W p l e R s m args below meth c H1 locs1 (cells + mc) (slots + ms) Q (F0 m pc ls rest) q9)
    (kk : ∀ (r : Int64) (u : S) (t : State) (H1 : Heap) (locs1 : List Loc), t.heap = H1 → s.vm.Alike t.vm → post r u → B u t → H.size ≤ H1.size → (∀ q : Nat, q < H.size → ¬ A1 q → H1[q]? = H[q]?) → va_S A0 H0 H1 locs1 → W p l e R s m args below meth c H1 locs1 (cells + mc) (slots + ms) Q (F0 m (pc + 3) ls (.long r :: rest))) : W p l e R s m args below meth c H locs cells slots Q (F0 m pc ls st0) := by
  intro T hT X
  rcases hr T hT X with ⟨v, st₀, t, T', L, h0, X', hL, e1, e2, ⟨⟨r, u, hv, hp, hb⟩, hF⟩, st⟩ | ⟨q, st₀, t, T', L, E, ce, h0, X', hL, e1, e2, ⟨u, hp, hb, hF⟩, hce, hcv, hcl, st⟩
  · cases hv
    obtain ⟨k1, k2, k3⟩ := vx_keep h0 e1 hS hA hf hL hF
    obtain ⟨t2, a1, b1⟩ := kk r u t T'.heap (locs ++ L) e1.symm (by rw [← e2]; exact X'.warmed.alike) hp hb k1 k2 k3 T' rfl X'
    exact ⟨t2, st t2 a1, b1⟩
  · obtain ⟨k1, k2, k3⟩ := vx_keep h0 e1 hS hAX hf hL hF
    obtain ⟨t2, a1, b1⟩ := kx E ce q u t T'.heap (locs ++ L) e1.symm (by rw [← e2]; exact X'.warmed.alike) hp hb k1 k2 k3 (by rw [e1]; exact hce) hcv hcl T' rfl X'
    exact ⟨t2, st.trans a1, b1⟩
theorem vx_callf {S SX : Type} {post : UInt32 → S → Prop} {px : SX → Prop} {B : S → State → Prop} {BX : String → SX → State → Prop} {AX : Nat → Prop} (hr : vx_Run p l e R s m args below meth c H locs cells slots mc ms (F0 m pc ls st0) rest (va_Qf post B A1 a) (vx_X px BX AX) free) (hS : va_S A0 H0 H locs) (hA : ∀ q, q < H.size → A1 q → A0 q) (hf : ∀ q, free q → A0 q) (hAX : ∀ q, q < H.size → AX q → A0 q)
    (kx : ∀ (E : String) (ce : Cell) (q9 : Addr) (u : SX) (t : State) (H1 : Heap) (locs1 : List Loc), t.heap = H1 → s.vm.Alike t.vm → px u → BX E u t → H.size ≤ H1.size → (∀ q : Nat, q < H.size → ¬ AX q → H1[q]? = H[q]?) → va_S A0 H0 H1 locs1 → H1[q9]? = some ce → ce.vm = .none → s.vm.findClass E = some ce.cls → vx_W p l e R s m args below meth c H1 locs1 (cells + mc) (slots + ms) Q (F0 m pc ls rest) q9)
    (kk : ∀ (r : UInt32) (u : S) (t : State) (H1 : Heap) (locs1 : List Loc), t.heap = H1 → s.vm.Alike t.vm → post r u → B u t → H.size ≤ H1.size → (∀ q : Nat, q < H.size → ¬ A1 q → H1[q]? = H[q]?) → va_S A0 H0 H1 locs1 → W p l e R s m args below meth c H1 locs1 (cells + mc) (slots + ms) Q (F0 m (pc + 3) ls (.float r :: rest))) : W p l e R s m args below meth c H locs cells slots Q (F0 m pc ls st0) := by
  intro T hT X
  rcases hr T hT X with ⟨v, st₀, t, T', L, h0, X', hL, e1, e2, ⟨⟨r, u, hv, hp, hb⟩, hF⟩, st⟩ | ⟨q, st₀, t, T', L, E, ce, h0, X', hL, e1, e2, ⟨u, hp, hb, hF⟩, hce, hcv, hcl, st⟩
  · cases hv
    obtain ⟨k1, k2, k3⟩ := vx_keep h0 e1 hS hA hf hL hF
    obtain ⟨t2, a1, b1⟩ := kk r u t T'.heap (locs ++ L) e1.symm (by rw [← e2]; exact X'.warmed.alike) hp hb k1 k2 k3 T' rfl X'
    exact ⟨t2, st t2 a1, b1⟩
  · obtain ⟨k1, k2, k3⟩ := vx_keep h0 e1 hS hAX hf hL hF
    obtain ⟨t2, a1, b1⟩ := kx E ce q u t T'.heap (locs ++ L) e1.symm (by rw [← e2]; exact X'.warmed.alike) hp hb k1 k2 k3 (by rw [e1]; exact hce) hcv hcl T' rfl X'
    exact ⟨t2, st.trans a1, b1⟩
theorem vx_calld {S SX : Type} {post : UInt64 → S → Prop} {px : SX → Prop} {B : S → State → Prop} {BX : String → SX → State → Prop} {AX : Nat → Prop} (hr : vx_Run p l e R s m args below meth c H locs cells slots mc ms (F0 m pc ls st0) rest (va_Qd post B A1 a) (vx_X px BX AX) free) (hS : va_S A0 H0 H locs) (hA : ∀ q, q < H.size → A1 q → A0 q) (hf : ∀ q, free q → A0 q) (hAX : ∀ q, q < H.size → AX q → A0 q)
    (kx : ∀ (E : String) (ce : Cell) (q9 : Addr) (u : SX) (t : State) (H1 : Heap) (locs1 : List Loc), t.heap = H1 → s.vm.Alike t.vm → px u → BX E u t → H.size ≤ H1.size → (∀ q : Nat, q < H.size → ¬ AX q → H1[q]? = H[q]?) → va_S A0 H0 H1 locs1 → H1[q9]? = some ce → ce.vm = .none → s.vm.findClass E = some ce.cls → vx_W p l e R s m args below meth c H1 locs1 (cells + mc) (slots + ms) Q (F0 m pc ls rest) q9)
    (kk : ∀ (r : UInt64) (u : S) (t : State) (H1 : Heap) (locs1 : List Loc), t.heap = H1 → s.vm.Alike t.vm → post r u → B u t → H.size ≤ H1.size → (∀ q : Nat, q < H.size → ¬ A1 q → H1[q]? = H[q]?) → va_S A0 H0 H1 locs1 → W p l e R s m args below meth c H1 locs1 (cells + mc) (slots + ms) Q (F0 m (pc + 3) ls (.double r :: rest))) : W p l e R s m args below meth c H locs cells slots Q (F0 m pc ls st0) := by
  intro T hT X
  rcases hr T hT X with ⟨v, st₀, t, T', L, h0, X', hL, e1, e2, ⟨⟨r, u, hv, hp, hb⟩, hF⟩, st⟩ | ⟨q, st₀, t, T', L, E, ce, h0, X', hL, e1, e2, ⟨u, hp, hb, hF⟩, hce, hcv, hcl, st⟩
  · cases hv
    obtain ⟨k1, k2, k3⟩ := vx_keep h0 e1 hS hA hf hL hF
    obtain ⟨t2, a1, b1⟩ := kk r u t T'.heap (locs ++ L) e1.symm (by rw [← e2]; exact X'.warmed.alike) hp hb k1 k2 k3 T' rfl X'
    exact ⟨t2, st t2 a1, b1⟩
  · obtain ⟨k1, k2, k3⟩ := vx_keep h0 e1 hS hAX hf hL hF
    obtain ⟨t2, a1, b1⟩ := kx E ce q u t T'.heap (locs ++ L) e1.symm (by rw [← e2]; exact X'.warmed.alike) hp hb k1 k2 k3 (by rw [e1]; exact hce) hcv hcl T' rfl X'
    exact ⟨t2, st.trans a1, b1⟩
theorem vx_callv {S SX : Type} {post : S → Prop} {px : SX → Prop} {B : S → State → Prop} {BX : String → SX → State → Prop} {AX : Nat → Prop} (hr : vx_Run p l e R s m args below meth c H locs cells slots mc ms (F0 m pc ls st0) rest (va_Qv post B A1 a) (vx_X px BX AX) free) (hS : va_S A0 H0 H locs) (hA : ∀ q, q < H.size → A1 q → A0 q) (hf : ∀ q, free q → A0 q) (hAX : ∀ q, q < H.size → AX q → A0 q)
    (kx : ∀ (E : String) (ce : Cell) (q9 : Addr) (u : SX) (t : State) (H1 : Heap) (locs1 : List Loc), t.heap = H1 → s.vm.Alike t.vm → px u → BX E u t → H.size ≤ H1.size → (∀ q : Nat, q < H.size → ¬ AX q → H1[q]? = H[q]?) → va_S A0 H0 H1 locs1 → H1[q9]? = some ce → ce.vm = .none → s.vm.findClass E = some ce.cls → vx_W p l e R s m args below meth c H1 locs1 (cells + mc) (slots + ms) Q (F0 m pc ls rest) q9)
    (kk : ∀ (u : S) (t : State) (H1 : Heap) (locs1 : List Loc), t.heap = H1 → s.vm.Alike t.vm → post u → B u t → H.size ≤ H1.size → (∀ q : Nat, q < H.size → ¬ A1 q → H1[q]? = H[q]?) → va_S A0 H0 H1 locs1 → W p l e R s m args below meth c H1 locs1 (cells + mc) (slots + ms) Q (F0 m (pc + 3) ls (rest))) : W p l e R s m args below meth c H locs cells slots Q (F0 m pc ls st0) := by
  intro T hT X
  rcases hr T hT X with ⟨v, st₀, t, T', L, h0, X', hL, e1, e2, ⟨⟨u, hv, hp, hb⟩, hF⟩, st⟩ | ⟨q, st₀, t, T', L, E, ce, h0, X', hL, e1, e2, ⟨u, hp, hb, hF⟩, hce, hcv, hcl, st⟩
  · cases hv
    obtain ⟨k1, k2, k3⟩ := vx_keep h0 e1 hS hA hf hL hF
    obtain ⟨t2, a1, b1⟩ := kk u t T'.heap (locs ++ L) e1.symm (by rw [← e2]; exact X'.warmed.alike) hp hb k1 k2 k3 T' rfl X'
    exact ⟨t2, st t2 a1, b1⟩
  · obtain ⟨k1, k2, k3⟩ := vx_keep h0 e1 hS hAX hf hL hF
    obtain ⟨t2, a1, b1⟩ := kx E ce q u t T'.heap (locs ++ L) e1.symm (by rw [← e2]; exact X'.warmed.alike) hp hb k1 k2 k3 (by rw [e1]; exact hce) hcv hcl T' rfl X'
    exact ⟨t2, st.trans a1, b1⟩
/-- caught by the row x of this method's table; the rows ahead don't take it -/
theorem vx_catch {own name : String} {E : String} {ce : Cell} {q : Addr} (hown : s.vm.findClass own = some m.cls) (pre : List ExceptionTableEntry) (x : ExceptionTableEntry) (suf : List ExceptionTableEntry) (hsplit : c.exceptionTable.toList = pre ++ x :: suf)
    (hpass : ∀ z ∈ pre, covers z pc = false ∨ (z.catchType ≠ 0 ∧ ∃ nm : String, (Cond.classLink own z.catchType nm).before args s = true ∧ va_Nc E nm s)) (hx : covers x pc = true) (h0 : x.catchType ≠ 0)
    (hlink : (Cond.classLink own x.catchType name).before args s = true) (hcast : (Cond.castable E name).before args s = true) (hcell : H[q]? = some ce) (hv : ce.vm = .none) (hcl : s.vm.findClass E = some ce.cls)
    (kk : W p l e R s m args below meth c H locs cells slots Q (F0 m x.handlerPc ls [.ref q])) : vx_W p l e R s m args below meth c H locs cells slots Q (F0 m pc ls rest) q := by
  intro T hT X
  have hpl : e.platform.magicAccessors = ({} : Platform).magicAccessors := by rw [X.admits.platform]
  obtain ⟨c3, c4, hc3, hc4, hasg⟩ := Cond.castable_spec hcast
  cases Option.some.inj (hc3.symm.trans hcl)
  obtain ⟨c5, hc5, hcl5⟩ := Cond.classLink_spec hown hlink e.platform hpl
  cases Option.some.inj (hc4.symm.trans hc5)
  obtain ⟨vm', X', st⟩ := Jvm.Stand.thenCaughtThrough X q (g := F0 m pc ls rest) rfl (Steps.refl _) (by rw [hT]; exact hcell) (by rw [hv]; rfl) (by obtain ⟨k9, h9, -⟩ := Vm.findClass_spec hcl; exact ⟨k9, h9⟩) pre x suf hsplit
    (fun z hz => by
      rcases hpass z hz with h | ⟨hz0, nm, hl1, hn1⟩
      · exact Or.inl h
      · obtain ⟨c6, hc6, hcl6⟩ := Cond.classLink_spec hown hl1 e.platform hpl
        obtain ⟨a8, b8, h1, h2, h3⟩ := hn1
        cases Option.some.inj (h1.symm.trans hcl)
        cases Option.some.inj (h2.symm.trans hc6)
        exact Or.inr ⟨hz0, _, hcl6, h3⟩) hx (Or.inr ⟨h0, c4, hcl5, hasg⟩)
  obtain ⟨t, a1, b1⟩ := kk (T.setVm vm') hT X'
  exact ⟨t, st.trans a1, b1⟩
end Rows
section Ends
variable {p : Program} {l : Launch} {e : Env} {R : Room} {s : State} {m : MethodId} {args : Array Value} {below : List Frame} {meth : Method} {c : Code} {H : Heap} {locs : List Loc} {cells slots : Nat} {Q : State → Prop}
variable {mc ms : Nat} {free : Addr → Prop} {A0 A1 : Nat → Prop} {H0 : Heap} {a : Array Value} {ls : Array Slot} {st0 rest : List Value}
variable {Qc : Array Value → State → Outcome → State → Prop} {XC : String → State → State → Prop}
/-- what a body that may throw owes at its end -/
def vx_MQ (below : List Frame) (Qc : Array Value → State → Outcome → State → Prop) (XC : String → State → State → Prop) (a : Array Value) (s : State) (mc ms : Nat) (free : Addr → Prop) : State → Prop := fun t =>
  ∃ o, t.status = .running ∧ Ended t below o ∧ vx_Q Qc XC mc ms free a s o t
theorem vx_ret {g : JFrame} {mc ms : Nat} (k : W p l e R s m args below meth c H locs cells slots (MQ below Qc args s mc ms free) g) : W p l e R s m args below meth c H locs cells slots (vx_MQ below Qc XC args s mc ms free) g := by
  intro T hT X
  obtain ⟨t, a1, o, b1, b2, b3, b4⟩ := k T hT X
  exact ⟨t, a1, o, b1, b2, Or.inl ⟨b3, b4⟩⟩
/-- not caught here: it goes on to the caller -/
theorem vx_widen {g : JFrame} {q : Addr} {k n : Nat} (h1 : cells ≤ k) (h2 : slots ≤ n) (kk : vx_W p l e R s m args below meth c H locs k n Q g q) : vx_W p l e R s m args below meth c H locs cells slots Q g q := fun T hT X => kk T hT (stand_widen X h1 h2)
theorem vx_out {pc : Nat} {E : String} {ce : Cell} {q : Addr} {mc ms : Nat} (hout : ∀ x ∈ c.exceptionTable.toList, covers x pc = false) (hlocks : meth.locks = false) (hcell : H[q]? = some ce) (hv : ce.vm = .none) (hcl : s.vm.findClass E = some ce.cls)
    (hx : ∀ t : State, t.heap = H → s.vm.Alike t.vm → XC E s t) (hf : ∀ z ∈ locs, free z.base) (hc : cells ≤ mc) (hs : slots ≤ ms) :
    vx_W p l e R s m args below meth c H locs cells slots (vx_MQ below Qc XC args s mc ms free) (F0 m pc ls rest) q := by
  intro T hT X
  obtain ⟨st1, hrun, hend, hW, hsm⟩ := X.leaveThrown q (g := F0 m pc ls rest) rfl rfl rfl hout hlocks
  have hcell9 : (T.setFrames (.throwing q :: below)).heap[q]? = some ce := by
    show T.heap[q]? = some ce
    rw [hT]; exact hcell
  exact ⟨_, st1, .threw q, hrun, hend, Or.inr ⟨q, rfl, E, ce, locs, hx _ hT hW.alike, hcell9, hv, hcl, hW, hsm.mono hc hs, hf⟩⟩
theorem vx_frame {U : State} {k n : Nat} (h : s.sameButNew ({ U with vm := s.vm } : State) locs k n) : s.heap.size ≤ U.heap.size ∧ ∀ q : Nat, q < s.heap.size → (∀ z ∈ locs, z.base ≠ q) → U.heap[q]? = s.heap[q]? := by
  obtain ⟨-, h2, -, -, -, h6⟩ := h
  refine ⟨h2, fun q hq hz => ?_⟩
  obtain ⟨c9, e1, e2, e3, e4⟩ := h6 q _ (Array.getElem?_eq_getElem hq)
  have hs : c9.slots = (s.heap[q]).slots := Array.ext_getElem? fun i => e4 i fun hm => hz _ hm rfl
  have h9 : c9 = s.heap[q] := by
    rw [hs] at e2
    exact e2
  have e5 : U.heap[q]? = some c9 := e1
  rw [e5, h9, Array.getElem?_eq_getElem hq]
/-- the words of a throw but the four that speak of the heap -/
def vx_no (w : Cond) : Bool := decide (w ≠ .isRef (.static Bundle.tN "UNASSIGNED_STACK" Bundle.steD)) && decide (w ≠ .isRef (.static Bundle.tN "SUPPRESSED_SENTINEL" Bundle.listD)) && decide (w ≠ .laysStatic Bundle.tN "UNASSIGNED_STACK" Bundle.steD) && decide (w ≠ .laysStatic Bundle.tN "SUPPRESSED_SENTINEL" Bundle.listD)
def vx_at0 (own : String) (ic : Nat) (X : String) (names : List String) : List Cond := (Bundle.ownAtoms0 own ic X names).filter vx_no
def vx_atS (own : String) (ic : Nat) (X : String) (names : List String) : List Cond := (Bundle.ownAtoms own ic X names).filter vx_no
/-- a word that the tables alone decide, or a good one -/
def vx_ot (w : Cond) : Bool := w.onTables || goodWord w
theorem vx_ot_at {args a' : Array Value} {s U : State} {w : Cond} (hW : s.WarmedH U.vm) (hvm : s.vm = U.vm) (hg : vx_ot w = true) (h : w.before args s = true) : w.before a' U = true := by
  simp only [vx_ot, Bool.or_eq_true] at hg
  rcases hg with hg | hg
  · exact va_tabs hg hvm h
  · exact word_at hW (good_of_word hg) h
/-- a list's words: the good ones out of the method's own list, the others by premises of their own -/
theorem vx_hat {args : Array Value} {s : State} {L B : List Cond} (h1 : ∀ w ∈ L.filter goodWord, w.before args s = true) (h2 : ∀ w ∈ L.filter (fun w => !goodWord w), w ∈ B) (h3 : ∀ w ∈ B, w.before args s = true) : ∀ w ∈ L, w.before args s = true := by
  intro w hw
  by_cases g : goodWord w = true
  · exact h1 w (List.mem_filter.mpr ⟨hw, g⟩)
  · refine h3 w (h2 w (List.mem_filter.mpr ⟨hw, ?_⟩))
    show (!goodWord w) = true
    cases hgw : goodWord w
    · rfl
    · exact absurd hgw g
theorem vx_c {args : Array Value} {s : State} {w : Cond} {B : List Cond} (h : w.before args s = true) (t : ∀ w ∈ B, w.before args s = true) : ∀ w' ∈ w :: B, w'.before args s = true := fun w' h' => (List.mem_cons.mp h').elim (fun e => by rw [e]; exact h) (t w')
theorem vx_n {args : Array Value} {s : State} : ∀ w ∈ ([] : List Cond), w.before args s = true := fun _ h => nomatch h
theorem vx_own {args : Array Value} {s : State} {L : List Cond} (h1 : ∀ w ∈ L.filter vx_no, w.before args s = true)
    (hU : (Cond.isRef (.static Bundle.tN "UNASSIGNED_STACK" Bundle.steD)).before args s = true) (hN : (Cond.isRef (.static Bundle.tN "SUPPRESSED_SENTINEL" Bundle.listD)).before args s = true)
    (lU : (Cond.laysStatic Bundle.tN "UNASSIGNED_STACK" Bundle.steD).before args s = true) (lN : (Cond.laysStatic Bundle.tN "SUPPRESSED_SENTINEL" Bundle.listD).before args s = true) : ∀ w ∈ L, w.before args s = true := by
  intro w hw
  by_cases e1 : w = .isRef (.static Bundle.tN "UNASSIGNED_STACK" Bundle.steD)
  · rw [e1]; exact hU
  · by_cases e2 : w = .isRef (.static Bundle.tN "SUPPRESSED_SENTINEL" Bundle.listD)
    · rw [e2]; exact hN
    · by_cases e3 : w = .laysStatic Bundle.tN "UNASSIGNED_STACK" Bundle.steD
      · rw [e3]; exact lU
      · by_cases e4 : w = .laysStatic Bundle.tN "SUPPRESSED_SENTINEL" Bundle.listD
        · rw [e4]; exact lN
        · exact h1 w (List.mem_filter.mpr ⟨hw, by unfold vx_no; rw [decide_eq_true e1, decide_eq_true e2, decide_eq_true e3, decide_eq_true e4]; rfl⟩)
/-- where a static field lies, its class's statics cell in H -/
def vx_L (C n d : String) (A : Nat → Prop) (U : State) (H : Heap) : Prop := ∃ (c : ClassId) (k : Class) (i : Nat) (f : Field) (a : Nat) (cell : Cell), U.vm.findClass C = some c ∧ U.fieldFound? C n d = some (c, k, i, f) ∧ f.isStatic = true ∧ k.statics = some a ∧ H[a]? = some cell ∧ cell.vm.isStatics = true ∧ cell.cls = c ∧ f.slot < cell.slots.size ∧ k.staticTypes[f.slot]? = some f.type ∧ ¬ A a
theorem vx_L.moved {C n d : String} {A : Nat → Prop} {u U : State} {H : Heap} (hvm : u.vm.Alike U.vm) (h : vx_L C n d A u H) : vx_L C n d A U H := by
  obtain ⟨c, k, i, f, a, cell, h1, h2, h3, h4, h5, h6, h7, h8, h9, h10⟩ := h
  obtain ⟨k', hi', he⟩ := State.fieldFound?_setVm hvm h2
  exact ⟨c, k', i, f, a, cell, by rw [hvm.findClass]; exact h1, hi', h3, by rw [he]; exact h4, h5, h6, h7, h8, by rw [he]; exact h9, h10⟩
theorem vx_L.kept {C n d : String} {A : Nat → Prop} {U : State} {H H1 : Heap} (h : vx_L C n d A U H) (hq : ∀ a : Nat, a < H.size → ¬ A a → H1[a]? = H[a]?) : vx_L C n d A U H1 := by
  obtain ⟨c, k, i, f, a, cell, h1, h2, h3, h4, h5, h6, h7, h8, h9, h10⟩ := h
  exact ⟨c, k, i, f, a, cell, h1, h2, h3, h4, by rw [hq a (Array.getElem?_eq_some_iff.mp h5).1 h10]; exact h5, h6, h7, h8, h9, h10⟩
theorem vx_L.narrow {C n d : String} {A B : Nat → Prop} {U : State} {H : Heap} (h : vx_L C n d A U H) (hAB : ∀ q, B q → A q) : vx_L C n d B U H := by
  obtain ⟨c, k, i, f, a, cell, h1, h2, h3, h4, h5, h6, h7, h8, h9, h10⟩ := h
  exact ⟨c, k, i, f, a, cell, h1, h2, h3, h4, h5, h6, h7, h8, h9, fun z => h10 (hAB _ z)⟩
theorem vx_L.word {C n d : String} {A : Nat → Prop} {s : State} {args : Array Value} (h : vx_L C n d A s s.heap) : (Cond.laysStatic C n d).before args s = true := by
  obtain ⟨c, k, i, f, a, cell, h1, h2, h3, h4, h5, h6, h7, h8, h9, -⟩ := h
  show (Cond.laysStatic C n d).holds args s none s [] = true
  exact Cond.laysStatic_of h1 h2 h3 h4 h5 h6 h7 h8 h9
/-- .. and what it holds: null or some reference -/
def vx_Zq (C n d : String) (A : Nat → Prop) (U : State) (H : Heap) : Prop := va_Zq C n d A U H ∧ vx_L C n d A U H
theorem vx_Zq.moved {C n d : String} {A : Nat → Prop} {u U : State} {H : Heap} (hvm : u.vm.Alike U.vm) (h : vx_Zq C n d A u H) : vx_Zq C n d A U H := ⟨va_Zq.moved hvm h.1, vx_L.moved hvm h.2⟩
theorem vx_Zq.kept {C n d : String} {A : Nat → Prop} {U : State} {H H1 : Heap} (h : vx_Zq C n d A U H) (hq : ∀ a : Nat, a < H.size → ¬ A a → H1[a]? = H[a]?) : vx_Zq C n d A U H1 := ⟨va_Zq.kept h.1 hq, vx_L.kept h.2 hq⟩
theorem vx_Zq.narrow {C n d : String} {A B : Nat → Prop} {U : State} {H : Heap} (h : vx_Zq C n d A U H) (hAB : ∀ q, B q → A q) : vx_Zq C n d B U H := ⟨va_Zq.narrow h.1 hAB, vx_L.narrow h.2 hAB⟩
theorem vx_Zqof {args : Array Value} {s : State} {C n d : String} {A : Nat → Prop} (hl : (Cond.laysStatic C n d).before args s = true) (hini : (Cond.initialized C).before args s = true) (h : (Cond.isRef (.static C n d)).before args s = true) (hA : ∀ a : Nat, a < s.heap.size → ¬ A a) : vx_Zq C n d A s s.heap := by
  refine ⟨va_Zqof hl hini h hA, ?_⟩
  obtain ⟨c, k, i, f, a, cell, h1, h2, h3, h4, h5, h6, h7, h8, h9⟩ := Cond.laysStatic_spec hl
  exact ⟨c, k, i, f, a, cell, h1, h2, h3, h4, h5, h6, h7, h8, h9, hA a (Array.getElem?_eq_some_iff.mp h5).1⟩
theorem vx_isRef {C n d : String} {v : Value} {A : Nat → Prop} {s : State} {args : Array Value} (h : va_Z C n d v A s s.heap) (hv : v.isRef = true) : (Cond.isRef (.static C n d)).before args s = true := by
  obtain ⟨cf, kf, fi, f, a, cell, h1, h2, h3, h4, h5, h6, h7, -⟩ := h
  have he : (Term.static C n d).eval args s none [] s = some v := by
    simp [Term.eval, State.fieldNamed?, h1, h2, h4, h5, h6, h7]
  simp only [Cond.before, Cond.holds, Cond.value, he]
  cases v <;> simp_all [Value.isRef]
theorem vx_isRefq {C n d : String} {A : Nat → Prop} {s : State} {args : Array Value} (h : va_Zq C n d A s s.heap) : (Cond.isRef (.static C n d)).before args s = true := by
  rcases h with h | ⟨t, h⟩
  · exact vx_isRef h rfl
  · exact vx_isRef h rfl
/-- the same frame, seen from here: as if the method were called anew in this heap -/
theorem vx_rebase {T : State} (X : Stand p l e R s m args below meth c T locs cells slots) {R' : Room} (hf : R'.frames ≤ R.frames) (hl : R'.locals ≤ R.locals) (hc : cells + R'.cells ≤ R.cells) (hs : slots + R'.slots ≤ R.slots) :
    Stand p l e R' ((T.setVm s.vm).setFrames (.invoking m args :: below)) m args below meth c T [] 0 0 := by
  have htop : (T.setVm s.vm).topJava?.isSome := X.here.top
  have hF : ((T.setVm s.vm).setFrames (.invoking m args :: below)).frames = .invoking m args :: below := State.frames_setFrames _ (State.cur_lt_of_top htop)
  obtain ⟨g₀, hg0⟩ := Option.isSome_iff_exists.mp htop
  obtain ⟨r, hr⟩ := State.topJava?_eq_some.mp hg0
  have hl9 : e.platform.stackLimits (T.setVm s.vm).me = e.platform.stackLimits s.me := X.limits
  have hb9 : (T.setVm s.vm).me.stackBytes = s.me.stackBytes := X.bytes
  refine ⟨X.admits, X.cas, X.clock, hF, ?_, X.hears, X.method, X.code, X.here, X.tail, X.warmed, ?_, ?_, ?_⟩
  · have h := X.room
    have hU : ((T.setVm s.vm).setFrames (.invoking m args :: below)).localsInUse = s.localsInUse := by
      rw [State.localsInUse_invoking hF (meth := meth) (c := c) X.method X.code, State.localsInUse_invoking X.frames X.method X.code]
    simp only [State.hasRoom, Bool.and_eq_true, decide_eq_true_eq] at h ⊢
    obtain ⟨⟨⟨⟨h1, h2, h3, h4, h5, h6⟩, h7⟩, h8⟩, h9⟩ := h
    rw [X.frames, List.length_cons] at h2 h3
    have q1 := X.heapSize
    have q2 := X.used
    simp only [hF, hU, List.length_cons, State.stackLimits_setFrames, State.stackBytes_setFrames, hl9, hb9]
    refine ⟨⟨⟨⟨by omega, by omega, by omega, by omega, by omega, h6⟩, ?_⟩, ?_⟩, X.book⟩
    · show T.heap.size + R'.cells ≤ e.platform.maxCells
      omega
    · show T.slotsUsed + R'.slots ≤ e.platform.maxSlots
      omega
  · rw [State.stackLimits_setFrames]; rfl
  · rw [State.stackBytes_setFrames]; rfl
  · refine ⟨?_, Nat.le_refl _, Nat.le_refl _, ?_, ?_, fun a c9 h9 => ⟨c9, h9, rfl, rfl, fun _ _ => rfl⟩⟩
    · obtain ⟨t, ht, -⟩ := State.frames_cons hr
      show T.setVm s.vm = { ((T.setVm s.vm).setFrames (.invoking m args :: below)).setFrames (T.setVm s.vm).frames with heap := T.heap, slotsUsed := T.slotsUsed }
      rw [State.setFrames_setFrames, State.setFrames_self ht]
      rfl
    · show T.slotsUsed = T.slotsUsed + ((T.heap.toList.drop T.heap.size).map (·.slots.size)).sum
      rw [List.drop_eq_nil_of_le (Nat.le_of_eq Array.length_toList)]
      rfl
    · show ((T.heap.toList.drop T.heap.size).map (·.slots.size)).sum ≤ 0
      rw [List.drop_eq_nil_of_le (Nat.le_of_eq Array.length_toList)]
      exact Nat.le_refl _
/-- 'throw new E()': new; dup; invokespecial; athrow -/
theorem vx_throw0 {cc : ByteArray} {pc : Nat} (hexec : p.tables.exec = Jvm.exec) (hb : c.code = cc) (hl : l.stackTraces = false) {own cls : String} {names : List String} {ik ic mc ms : Nat} {A : Nat → Prop}
    (hown : s.vm.findClass own = some m.cls) (hcls : Bundle.fit cls = true) (hnames : ∀ n ∈ names, Bundle.fit n = true)
    (hk : (Cond.classLink own ik cls).before args s = true) (hini : (Cond.initialized cls).before args s = true) (hat : ∀ w ∈ vx_at0 own ic cls names, w.before args s = true)
    (hgood : ∀ w ∈ Cond.classLink own ik cls :: Cond.initialized cls :: vx_at0 own ic cls names, vx_ot w = true)
    (hU : vx_Zq Bundle.tN "UNASSIGNED_STACK" Bundle.steD A s s.heap) (hN : vx_Zq Bundle.tN "SUPPRESSED_SENTINEL" Bundle.listD A s s.heap) (hS : va_S A s.heap H locs) (hsize : ls.size = c.maxLocals)
    (d0 : decode cc pc = .ok (.new ik, 3)) (d3 : decode cc (pc + 3) = .ok (.dup, 1)) (d4 : decode cc (pc + 4) = .ok (.invokespecial ic, 3)) (d7 : decode cc (pc + 7) = .ok (.athrow, 1))
    (hout : ∀ x ∈ c.exceptionTable.toList, covers x (pc + 7) = false)
    (hRframes : names.length + 3 < R.frames) (hRlocals : (rest.map fun v => v.category).sum + (13 * (names.length + 1) + 42) ≤ R.locals) (hRcells : cells + 1 ≤ R.cells) (hRslots : slots + 6 ≤ R.slots) (hlocks : meth.locks = false)
    (hx : ∀ t : State, s.vm.Alike t.vm → H.size ≤ t.heap.size → (∀ q : Nat, q < H.size → t.heap[q]? = H[q]?) → XC cls s t)
    (hf : ∀ z ∈ locs, free z.base) (hc : cells + 1 ≤ mc) (hs : slots + 6 ≤ ms) :
    W p l e R s m args below meth c H locs cells slots (vx_MQ below Qc XC args s mc ms free) (F0 m pc ls rest) := by
  intro T hT X
  have htr : e.platform.stackTraces = false := (show e.platform.stackTraces = l.stackTraces by rw [X.admits.platform]).trans hl
  have Y := vx_rebase X (R' := { frames := R.frames, locals := R.locals, cells := 1, slots := 6 }) (Nat.le_refl _) (Nat.le_refl _) hRcells hRslots
  obtain ⟨s', hA⟩ : ∃ z, z = (T.setVm s.vm).setFrames (.invoking m args :: below) := ⟨_, rfl⟩
  rw [← hA] at Y
  have hvm : s'.vm = s.vm := by rw [hA]; rfl
  have hhp : s'.heap = H := by rw [hA]; exact hT
  have hW0 : s.WarmedH s'.vm := by rw [hvm]; exact State.WarmedH.refl s
  have hat' : ∀ w ∈ vx_at0 own ic cls names, w.before args s' = true := fun w hw => vx_ot_at hW0 hvm.symm (hgood w (List.mem_cons_of_mem _ (List.mem_cons_of_mem _ hw))) (hat w hw)
  have hk' : (Cond.classLink own ik cls).before args s' = true := vx_ot_at hW0 hvm.symm (hgood _ List.mem_cons_self) hk
  have hini' : (Cond.initialized cls).before args s' = true := vx_ot_at hW0 hvm.symm (hgood _ (List.mem_cons_of_mem _ List.mem_cons_self)) hini
  have hU' : vx_Zq Bundle.tN "UNASSIGNED_STACK" Bundle.steD A s' s'.heap := by rw [hhp]; exact vx_Zq.moved hW0.alike (hU.kept hS.2.1)
  have hN' : vx_Zq Bundle.tN "SUPPRESSED_SENTINEL" Bundle.listD A s' s'.heap := by rw [hhp]; exact vx_Zq.moved hW0.alike (hN.kept hS.2.1)
  have h : ∀ w ∈ Bundle.ownAtoms0 own ic cls names, w.before args s' = true := vx_own hat' (vx_isRefq hU'.1) (vx_isRefq hN'.1) hU'.2.word hN'.2.word
  have hown' : s'.vm.findClass own = some m.cls := by rw [hvm]; exact hown
  have hins : (Cond.instantiable cls 6).before args s' = true := h _ (by simp [Bundle.ownAtoms0])
  obtain ⟨vm₁, cX, kX, hfX, hkX, -, -, X₁, st1⟩ := Y.newCold hexec (own := own) (C := cls) (index := ik) (n := 6) hown' hk' hins hini'
    (g := F0 m pc ls rest) rfl (by rw [hb]; exact d0) (Nat.le_refl _) (Nat.le_refl _)
  generalize hT1 : (T.setVm vm₁).pushCell { cls := cX, slots := kX.instanceTypes.map defaultValue, vm := .none } = T1 at X₁ st1
  have hcat : (Value.ref T.heap.size).category = 1 := rfl
  have hcellA : T1.heap[T.heap.size]? = some (freshCell cX kX) := by rw [← hT1]; exact State.heap_pushCell_size _ _
  have d3' : decode c.code (pc + 3) = .ok (.dup, 1) := by rw [hb]; exact d3
  obtain ⟨U, hsteps, hrun, hend, hW, hsame, ce, hce, hO⟩ := X₁.ctorThrow0 hexec htr (own := own) (cls := cls) (names := names) (ic := ic) hown' hcls hnames h (fun x hx => nomatch hx) hfX hkX hcellA (by rw [hhp, hT]; exact Nat.le_refl _)
    (g := { method := m, pc := pc + 4, locals := ls, stack := .ref T.heap.size :: .ref T.heap.size :: rest, locked := none }) rfl hsize rfl rfl (rest := rest) rfl
    (by rw [hb]; exact d4) (by rw [hb]; exact d7) hout hRframes (by simp only [List.map_cons, List.sum_cons, hcat]; omega) hlocks
  obtain ⟨f1, f2⟩ := vx_frame hsame
  rw [hhp] at f1 f2
  have hWs : s.WarmedH U.vm := State.WarmedH.trans hW0 hW
  have hcl : s.vm.findClass cls = some ce.cls := by
    have h9 := hO.cls
    rw [hvm] at h9
    exact h9
  have hall : s.sameButNew ({ U with vm := s.vm } : State) locs mc ms := by
    subst hA
    obtain ⟨e1, e2⟩ := hsame
    rw [State.setFrames_setFrames] at e1
    have h2 : (T.setVm s.vm).sameButNew ({ U with vm := s.vm } : State) [] (0 + 1) (0 + 6) := ⟨e1, e2⟩
    have h3 := X.same.trans h2
    rw [List.append_nil] at h3
    exact h3.mono hc hs
  refine ⟨U, ?_, .threw T.heap.size, hrun, hend, Or.inr ⟨T.heap.size, rfl, cls, ce, locs, hx U hWs.alike f1 (fun q hq => f2 q hq (fun z hz => nomatch hz)), hce, hO.vm, hcl, hWs, hall, hf⟩⟩
  refine st1 _ ?_
  show Steps p.tables e below (T1.setTop { method := m, pc := pc + 3, locals := ls, stack := .ref T.heap.size :: rest, locked := none }) _
  jvm_step X₁.here [X₁.here.top, hexec, d3', Value.category]
  exact hsteps
/-- 'throw new E("text")': new; dup; ldc; invokespecial; athrow -/
theorem vx_throwS {cc : ByteArray} {pc : Nat} (hexec : p.tables.exec = Jvm.exec) (hb : c.code = cc) (hl : l.stackTraces = false) {own cls text : String} {names : List String} {ik is ic mc ms sa : Nat} {A : Nat → Prop}
    (hown : s.vm.findClass own = some m.cls) (hcls : Bundle.fit cls = true) (hnames : ∀ n ∈ names, Bundle.fit n = true)
    (hk : (Cond.classLink own ik cls).before args s = true) (hini : (Cond.initialized cls).before args s = true) (hstr : vk_R own is text sa s) (hat : ∀ w ∈ vx_atS own ic cls names, w.before args s = true)
    (hgood : ∀ w ∈ Cond.classLink own ik cls :: Cond.initialized cls :: vx_atS own ic cls names, vx_ot w = true)
    (hU : vx_Zq Bundle.tN "UNASSIGNED_STACK" Bundle.steD A s s.heap) (hN : vx_Zq Bundle.tN "SUPPRESSED_SENTINEL" Bundle.listD A s s.heap) (hS : va_S A s.heap H locs) (hsize : ls.size = c.maxLocals)
    (d0 : decode cc pc = .ok (.new ik, 3)) (d3 : decode cc (pc + 3) = .ok (.dup, 1)) (d4 : decode cc (pc + 4) = .ok (.ldc is, 2)) (d6 : decode cc (pc + 6) = .ok (.invokespecial ic, 3)) (d9 : decode cc (pc + 9) = .ok (.athrow, 1))
    (hout : ∀ x ∈ c.exceptionTable.toList, covers x (pc + 9) = false)
    (hRframes : names.length + 3 < R.frames) (hRlocals : (rest.map fun v => v.category).sum + (13 * (names.length + 1) + 43) ≤ R.locals) (hRcells : cells + 1 ≤ R.cells) (hRslots : slots + 6 ≤ R.slots) (hlocks : meth.locks = false)
    (hx : ∀ t : State, s.vm.Alike t.vm → H.size ≤ t.heap.size → (∀ q : Nat, q < H.size → t.heap[q]? = H[q]?) → XC cls s t)
    (hf : ∀ z ∈ locs, free z.base) (hc : cells + 1 ≤ mc) (hs : slots + 6 ≤ ms) :
    W p l e R s m args below meth c H locs cells slots (vx_MQ below Qc XC args s mc ms free) (F0 m pc ls rest) := by
  intro T hT X
  have htr : e.platform.stackTraces = false := (show e.platform.stackTraces = l.stackTraces by rw [X.admits.platform]).trans hl
  have Y := vx_rebase X (R' := { frames := R.frames, locals := R.locals, cells := 1, slots := 6 }) (Nat.le_refl _) (Nat.le_refl _) hRcells hRslots
  obtain ⟨s', hA⟩ : ∃ z, z = (T.setVm s.vm).setFrames (.invoking m args :: below) := ⟨_, rfl⟩
  rw [← hA] at Y
  have hvm : s'.vm = s.vm := by rw [hA]; rfl
  have hhp : s'.heap = H := by rw [hA]; exact hT
  have hW0 : s.WarmedH s'.vm := by rw [hvm]; exact State.WarmedH.refl s
  have hat' : ∀ w ∈ vx_atS own ic cls names, w.before args s' = true := fun w hw => vx_ot_at hW0 hvm.symm (hgood w (List.mem_cons_of_mem _ (List.mem_cons_of_mem _ hw))) (hat w hw)
  have hk' : (Cond.classLink own ik cls).before args s' = true := vx_ot_at hW0 hvm.symm (hgood _ List.mem_cons_self) hk
  have hini' : (Cond.initialized cls).before args s' = true := vx_ot_at hW0 hvm.symm (hgood _ (List.mem_cons_of_mem _ List.mem_cons_self)) hini
  have hU' : vx_Zq Bundle.tN "UNASSIGNED_STACK" Bundle.steD A s' s'.heap := by rw [hhp]; exact vx_Zq.moved hW0.alike (hU.kept hS.2.1)
  have hN' : vx_Zq Bundle.tN "SUPPRESSED_SENTINEL" Bundle.listD A s' s'.heap := by rw [hhp]; exact vx_Zq.moved hW0.alike (hN.kept hS.2.1)
  have h : ∀ w ∈ Bundle.ownAtoms own ic cls names, w.before args s' = true := vx_own hat' (vx_isRefq hU'.1) (vx_isRefq hN'.1) hU'.2.word hN'.2.word
  have hown' : s'.vm.findClass own = some m.cls := by rw [hvm]; exact hown
  have hins : (Cond.instantiable cls 6).before args s' = true := h _ (by simp [Bundle.ownAtoms])
  obtain ⟨vm₁, cX, kX, hfX, hkX, -, -, X₁, st1⟩ := Y.newCold hexec (own := own) (C := cls) (index := ik) (n := 6) hown' hk' hins hini'
    (g := F0 m pc ls rest) rfl (by rw [hb]; exact d0) (Nat.le_refl _) (Nat.le_refl _)
  generalize hT1 : (T.setVm vm₁).pushCell { cls := cX, slots := kX.instanceTypes.map defaultValue, vm := .none } = T1 at X₁ st1
  have hcat : (Value.ref T.heap.size).category = 1 := rfl
  have hcellA : T1.heap[T.heap.size]? = some (freshCell cX kX) := by rw [← hT1]; exact State.heap_pushCell_size _ _
  have d3' : decode c.code (pc + 3) = .ok (.dup, 1) := by rw [hb]; exact d3
  have d4' : decode c.code (pc + 4) = .ok (.ldc is, 2) := by rw [hb]; exact d4
  have hstr' : vk_R own is text sa s' := vk_R.warm hW0 hstr
  obtain ⟨U, hsteps, hrun, hend, hW, hsame, ce, hce, hO⟩ := X₁.ctorThrowS hexec htr (own := own) (cls := cls) (names := names) (ic := ic) hown' hcls hnames h (fun x hx => nomatch hx) hfX hkX hcellA (by rw [hhp, hT]; exact Nat.le_refl _) (msg := .ref sa) rfl
    (g := { method := m, pc := pc + 6, locals := ls, stack := .ref sa :: .ref T.heap.size :: .ref T.heap.size :: rest, locked := none }) rfl hsize rfl rfl (rest := rest) rfl
    (by rw [hb]; exact d6) (by rw [hb]; exact d9) hout hRframes (by simp only [List.map_cons, List.sum_cons, hcat]; omega) hlocks
  obtain ⟨f1, f2⟩ := vx_frame hsame
  rw [hhp] at f1 f2
  have hWs : s.WarmedH U.vm := State.WarmedH.trans hW0 hW
  have hcl : s.vm.findClass cls = some ce.cls := by
    have h9 := hO.cls
    rw [hvm] at h9
    exact h9
  have hall : s.sameButNew ({ U with vm := s.vm } : State) locs mc ms := by
    subst hA
    obtain ⟨e1, e2⟩ := hsame
    rw [State.setFrames_setFrames] at e1
    have h2 : (T.setVm s.vm).sameButNew ({ U with vm := s.vm } : State) [] (0 + 1) (0 + 6) := ⟨e1, e2⟩
    have h3 := X.same.trans h2
    rw [List.append_nil] at h3
    exact h3.mono hc hs
  refine ⟨U, ?_, .threw T.heap.size, hrun, hend, Or.inr ⟨T.heap.size, rfl, cls, ce, locs, hx U hWs.alike f1 (fun q hq => f2 q hq (fun z hz => nomatch hz)), hce, hO.vm, hcl, hWs, hall, hf⟩⟩
  refine st1 _ ?_
  show Steps p.tables e below (T1.setTop { method := m, pc := pc + 3, locals := ls, stack := .ref T.heap.size :: rest, locked := none }) _
  jvm_step X₁.here [X₁.here.top, hexec, d3', Value.category]
  exact X₁.ldcString hexec (own := own) (text := text) (index := is) (a := sa) hown' hstr'.1 hstr'.2
    (g := { method := m, pc := pc + 4, locals := ls, stack := .ref T.heap.size :: .ref T.heap.size :: rest, locked := none }) rfl d4' _ hsteps
/-- 'throw new E("text")', the text by a wide index -/
theorem vx_throwSW {cc : ByteArray} {pc : Nat} (hexec : p.tables.exec = Jvm.exec) (hb : c.code = cc) (hl : l.stackTraces = false) {own cls text : String} {names : List String} {ik is ic mc ms sa : Nat} {A : Nat → Prop}
    (hown : s.vm.findClass own = some m.cls) (hcls : Bundle.fit cls = true) (hnames : ∀ n ∈ names, Bundle.fit n = true)
    (hk : (Cond.classLink own ik cls).before args s = true) (hini : (Cond.initialized cls).before args s = true) (hstr : vk_R own is text sa s) (hat : ∀ w ∈ vx_atS own ic cls names, w.before args s = true)
    (hgood : ∀ w ∈ Cond.classLink own ik cls :: Cond.initialized cls :: vx_atS own ic cls names, vx_ot w = true)
    (hU : vx_Zq Bundle.tN "UNASSIGNED_STACK" Bundle.steD A s s.heap) (hN : vx_Zq Bundle.tN "SUPPRESSED_SENTINEL" Bundle.listD A s s.heap) (hS : va_S A s.heap H locs) (hsize : ls.size = c.maxLocals)
    (d0 : decode cc pc = .ok (.new ik, 3)) (d3 : decode cc (pc + 3) = .ok (.dup, 1)) (d4 : decode cc (pc + 4) = .ok (.ldc_w is, 3)) (d7 : decode cc (pc + 7) = .ok (.invokespecial ic, 3)) (d10 : decode cc (pc + 10) = .ok (.athrow, 1))
    (hout : ∀ x ∈ c.exceptionTable.toList, covers x (pc + 10) = false)
    (hRframes : names.length + 3 < R.frames) (hRlocals : (rest.map fun v => v.category).sum + (13 * (names.length + 1) + 43) ≤ R.locals) (hRcells : cells + 1 ≤ R.cells) (hRslots : slots + 6 ≤ R.slots) (hlocks : meth.locks = false)
    (hx : ∀ t : State, s.vm.Alike t.vm → H.size ≤ t.heap.size → (∀ q : Nat, q < H.size → t.heap[q]? = H[q]?) → XC cls s t)
    (hf : ∀ z ∈ locs, free z.base) (hc : cells + 1 ≤ mc) (hs : slots + 6 ≤ ms) :
    W p l e R s m args below meth c H locs cells slots (vx_MQ below Qc XC args s mc ms free) (F0 m pc ls rest) := by
  intro T hT X
  have htr : e.platform.stackTraces = false := (show e.platform.stackTraces = l.stackTraces by rw [X.admits.platform]).trans hl
  have Y := vx_rebase X (R' := { frames := R.frames, locals := R.locals, cells := 1, slots := 6 }) (Nat.le_refl _) (Nat.le_refl _) hRcells hRslots
  obtain ⟨s', hA⟩ : ∃ z, z = (T.setVm s.vm).setFrames (.invoking m args :: below) := ⟨_, rfl⟩
  rw [← hA] at Y
  have hvm : s'.vm = s.vm := by rw [hA]; rfl
  have hhp : s'.heap = H := by rw [hA]; exact hT
  have hW0 : s.WarmedH s'.vm := by rw [hvm]; exact State.WarmedH.refl s
  have hat' : ∀ w ∈ vx_atS own ic cls names, w.before args s' = true := fun w hw => vx_ot_at hW0 hvm.symm (hgood w (List.mem_cons_of_mem _ (List.mem_cons_of_mem _ hw))) (hat w hw)
  have hk' : (Cond.classLink own ik cls).before args s' = true := vx_ot_at hW0 hvm.symm (hgood _ List.mem_cons_self) hk
  have hini' : (Cond.initialized cls).before args s' = true := vx_ot_at hW0 hvm.symm (hgood _ (List.mem_cons_of_mem _ List.mem_cons_self)) hini
  have hU' : vx_Zq Bundle.tN "UNASSIGNED_STACK" Bundle.steD A s' s'.heap := by rw [hhp]; exact vx_Zq.moved hW0.alike (hU.kept hS.2.1)
  have hN' : vx_Zq Bundle.tN "SUPPRESSED_SENTINEL" Bundle.listD A s' s'.heap := by rw [hhp]; exact vx_Zq.moved hW0.alike (hN.kept hS.2.1)
  have h : ∀ w ∈ Bundle.ownAtoms own ic cls names, w.before args s' = true := vx_own hat' (vx_isRefq hU'.1) (vx_isRefq hN'.1) hU'.2.word hN'.2.word
  have hown' : s'.vm.findClass own = some m.cls := by rw [hvm]; exact hown
  have hins : (Cond.instantiable cls 6).before args s' = true := h _ (by simp [Bundle.ownAtoms])
  obtain ⟨vm₁, cX, kX, hfX, hkX, -, -, X₁, st1⟩ := Y.newCold hexec (own := own) (C := cls) (index := ik) (n := 6) hown' hk' hins hini'
    (g := F0 m pc ls rest) rfl (by rw [hb]; exact d0) (Nat.le_refl _) (Nat.le_refl _)
  generalize hT1 : (T.setVm vm₁).pushCell { cls := cX, slots := kX.instanceTypes.map defaultValue, vm := .none } = T1 at X₁ st1
  have hcat : (Value.ref T.heap.size).category = 1 := rfl
  have hcellA : T1.heap[T.heap.size]? = some (freshCell cX kX) := by rw [← hT1]; exact State.heap_pushCell_size _ _
  have d3' : decode c.code (pc + 3) = .ok (.dup, 1) := by rw [hb]; exact d3
  have d4' : decode c.code (pc + 4) = .ok (.ldc_w is, 3) := by rw [hb]; exact d4
  have hstr' : vk_R own is text sa s' := vk_R.warm hW0 hstr
  obtain ⟨U, hsteps, hrun, hend, hW, hsame, ce, hce, hO⟩ := X₁.ctorThrowS hexec htr (own := own) (cls := cls) (names := names) (ic := ic) hown' hcls hnames h (fun x hx => nomatch hx) hfX hkX hcellA (by rw [hhp, hT]; exact Nat.le_refl _) (msg := .ref sa) rfl
    (g := { method := m, pc := pc + 7, locals := ls, stack := .ref sa :: .ref T.heap.size :: .ref T.heap.size :: rest, locked := none }) rfl hsize rfl rfl (rest := rest) rfl
    (by rw [hb]; exact d7) (by rw [hb]; exact d10) hout hRframes (by simp only [List.map_cons, List.sum_cons, hcat]; omega) hlocks
  obtain ⟨f1, f2⟩ := vx_frame hsame
  rw [hhp] at f1 f2
  have hWs : s.WarmedH U.vm := State.WarmedH.trans hW0 hW
  have hcl : s.vm.findClass cls = some ce.cls := by
    have h9 := hO.cls
    rw [hvm] at h9
    exact h9
  have hall : s.sameButNew ({ U with vm := s.vm } : State) locs mc ms := by
    subst hA
    obtain ⟨e1, e2⟩ := hsame
    rw [State.setFrames_setFrames] at e1
    have h2 : (T.setVm s.vm).sameButNew ({ U with vm := s.vm } : State) [] (0 + 1) (0 + 6) := ⟨e1, e2⟩
    have h3 := X.same.trans h2
    rw [List.append_nil] at h3
    exact h3.mono hc hs
  refine ⟨U, ?_, .threw T.heap.size, hrun, hend, Or.inr ⟨T.heap.size, rfl, cls, ce, locs, hx U hWs.alike f1 (fun q hq => f2 q hq (fun z hz => nomatch hz)), hce, hO.vm, hcl, hWs, hall, hf⟩⟩
  refine st1 _ ?_
  show Steps p.tables e below (T1.setTop { method := m, pc := pc + 3, locals := ls, stack := .ref T.heap.size :: rest, locked := none }) _
  jvm_step X₁.here [X₁.here.top, hexec, d3', Value.category]
  exact X₁.ldcStringW hexec (own := own) (text := text) (index := is) (a := sa) hown' hstr'.1 hstr'.2
    (g := { method := m, pc := pc + 4, locals := ls, stack := .ref T.heap.size :: .ref T.heap.size :: rest, locked := none }) rfl d4' _ hsteps
end Ends
section Bodies
variable {l : Launch}
theorem vx_ofW {y : MethodName} {ws ws' : List Cond} {rm : Room} {Pc : Array Value → State → Prop} {Qc : Array Value → State → Outcome → State → Prop} {XC : String → State → State → Prop} {mc ms : Nat} {free : Addr → Prop} {cc : ByteArray} {maxL : Nat} {ret : Option FieldType}
    (hy : plainName y.cls = true) (hw : ws = Cond.code y cc maxL ret :: ws')
    (body : ∀ p e s m args below meth c s₁, BodyLoose p l y (headSpec ws rm) cc maxL ret e s m args below meth c s₁ → c.maxLocals = maxL → (∀ x ∈ c.exceptionTable.toList, False) → Pc args s →
      W p l e (headSpec ws rm).room s m args below meth c s.heap [] 0 0 (vx_MQ below Qc XC args s mc ms free) (entryFrame m args maxL)) : vx_Met l y ws rm Pc Qc XC mc ms free := by
  refine MetFree.of_bodyS (code := cc) (maxLocals := maxL) (ret := ret) hy ?_ ?_
  · intro args s m h hn
    obtain ⟨meth, c, h1, h2, h3, h4, h5, h6, -, -⟩ := Cond.code_spec hn (atoms_spec (ws := ws) h _ (by rw [hw]; exact List.mem_cons_self))
    exact ⟨meth, c, h1, h2, h3, h4, h5, h6⟩
  · intro p e s m args below meth c s₁ B hml hP _
    have hh0 : s₁.heap = s.heap := by rw [B.state]; rfl
    have ht : ∀ x ∈ c.exceptionTable.toList, False := by
      obtain ⟨meth9, c9, h1, h2, -, -, -, -, h7, -⟩ := Cond.code_spec B.named (atoms_spec (ws := ws) B.pre _ (by rw [hw]; exact List.mem_cons_self))
      cases Option.some.inj (h1.symm.trans B.method)
      cases Option.some.inj (h2.symm.trans (Stand.of_body B).code)
      intro x hx
      rw [Array.isEmpty_iff.mp h7] at hx
      cases hx
    obtain ⟨t, a1, o, b1, b2, b3⟩ := body p e s m args below meth c s₁ B hml ht hP s₁ hh0 (Stand.of_body B)
    exact ⟨t, o, a1, b1, b2, b3⟩
/-- the table of a body with handlers -/
theorem vx_table {p : Program} {x y : MethodName} {S : Spec} {cc bytes : ByteArray} {maxL maxL' : Nat} {ret ret' : Option FieldType} {e : Env} {s s₁ : State} {m : MethodId} {args : Array Value} {below : List Frame} {meth : Method} {c : Code} {hh : List (Nat × Nat × Nat × Nat)}
    (B : BodyLoose p l y S cc maxL ret e s m args below meth c s₁) (h : (Cond.codeWith y bytes maxL' ret' hh).before args s = true) : c.exceptionTable.toList = tableOf hh := by
  obtain ⟨m9, meth9, c9, hn9, h1, h2, -, -, h6, -⟩ := Cond.codeWith_spec h
  cases Option.some.inj (hn9.symm.trans B.named)
  cases Option.some.inj (h1.symm.trans B.method)
  cases Option.some.inj (h2.symm.trans (Stand.of_body B).code)
  rw [← h6, table_eq]
end Bodies
end VXA
/-! ===== END ===== -/
/-! ===== BEGIN a static call of a method with an exception table ===== -/
section VXS
variable {p : Program} {l : Launch} {e : Env} {R : Room} {s : State} {m : MethodId} {args : Array Value} {below : List Frame} {meth : Method} {c : Code} {T : State} {H : Heap} {locs : List Loc} {cells slots : Nat}
abbrev vx_CSW (R : Room) (s : State) (args : Array Value) (own : String) (index : Nat) (y : MethodName) (bytes : ByteArray) (maxL : Nat) (ret : Option FieldType) (hh : List (Nat × Nat × Nat × Nat)) (ws : List Cond) (rm : Room) (mc ms n : Nat) : Prop :=
  (rm.cells = mc ∧ rm.slots = ms ∧ rm.frames + 1 ≤ R.frames ∧ 8 + (maxL + 11) + rm.locals ≤ R.locals ∧ (∀ w ∈ ws, ∀ (a' : Array Value) (U : State), s.WarmedH U.vm → w.before a' U = true) ∧ Cond.codeWith y bytes maxL ret hh ∈ ws) ∧
  (Cond.codeWith y bytes maxL ret hh).before args s = true ∧ (Cond.initialized y.cls).before args s = true ∧ (y.cls ≠ "java/lang/invoke/MethodHandle" ∧ y.cls ≠ "java/lang/invoke/VarHandle") ∧
  (∀ sig, parseMethodDescriptor y.desc = some sig → n = sig.parameters.length) ∧ (Cond.methodLink own index y).before args s = true ∧ (Cond.static y).before args s = true
theorem vx_cwSW {own : String} {index maxL mc ms : Nat} {y : MethodName} {bytes : ByteArray} {ret : Option FieldType} {hh : List (Nat × Nat × Nat × Nat)} {Ts ws ws' : List Cond} {rm : Room} (n : Nat) (ht : ∀ w ∈ Ts, w.before args s = true) (hT : GoodIn Ts (va_wsS own index y ws)) (hw : ws = Cond.codeWith y bytes maxL ret hh :: ws') (hrc : rm.cells = mc) (hrs : rm.slots = ms)
    (hd : y.cls ≠ "java/lang/invoke/MethodHandle" ∧ y.cls ≠ "java/lang/invoke/VarHandle" ∧ (parseMethodDescriptor y.desc).map (fun d => d.parameters.length) = some n) (hR : rm.frames + 1 ≤ R.frames ∧ 8 + (maxL + 11) + rm.locals ≤ R.locals) :
    vx_CSW R s args own index y bytes maxL ret hh ws rm mc ms n := by
  have ok : ∀ w ∈ va_wsS own index y ws, w.before args s = true := fun w h => ht w (hT w h).1
  have hG : GoodIn Ts ws := fun w h => hT w (by unfold va_wsS; exact List.mem_append_right _ h)
  have hc : Cond.codeWith y bytes maxL ret hh ∈ ws := by rw [hw]; exact List.mem_cons_self
  refine ⟨⟨hrc, hrs, hR.1, hR.2, pay_in ht hG, hc⟩, ht _ (hG _ hc).1, ok _ (by simp [va_wsS]), ⟨hd.1, hd.2.1⟩, fun sig h => ?_, ok _ (by simp [va_wsS]), ok _ (by simp [va_wsS])⟩
  have h2 := hd.2.2
  rw [h] at h2
  exact (Option.some.inj h2).symm
theorem vx_callSW (X : Stand p l e R s m args below meth c T locs cells slots) (hexec : p.tables.exec = Jvm.exec) {own : String} {index : Nat} {y : MethodName} {bytes : ByteArray} {maxL : Nat} {ret : Option FieldType} {hh : List (Nat × Nat × Nat × Nat)}
    (hown : s.vm.findClass own = some m.cls) (hlink : (Cond.methodLink own index y).before args s = true) (hstat : (Cond.static y).before args s = true) (hinit : (Cond.initialized y.cls).before args s = true)
    (hcode : (Cond.codeWith y bytes maxL ret hh).before args s = true) (hy : y.cls ≠ "java/lang/invoke/MethodHandle" ∧ y.cls ≠ "java/lang/invoke/VarHandle")
    {W9 : Nat} {Pre : Pt → Array Value → Prop} {Post : Pt → Array Value → Option Value → Pt → Prop} (hK : Back l R p e below s args y 3 W9 Pre Post)
    {g : JFrame} (hg : g.method = m) (hsize : g.locals.size = c.maxLocals) {argsL rest : List Value} (hlen : ∀ sig, parseMethodDescriptor y.desc = some sig → argsL.length = sig.parameters.length)
    (hstack : g.stack = argsL.reverse ++ rest) (hW : 2 * g.monitorRoom + (rest.map fun v => v.category).sum ≤ W9) (hdg : decode c.code g.pc = .ok (.invokestatic index, 3))
    (hpre : ∀ vm₁, s.WarmedH vm₁ → Pre ⟨T.setVm vm₁, locs, cells, slots⟩ argsL.toArray) :
    ∃ (v : Option Value) (vm₁ : Vm) (B : Pt), s.WarmedH vm₁ ∧ Stand p l e R s m args below meth c B.U B.locs B.cells B.slots ∧ Post ⟨T.setVm vm₁, locs, cells, slots⟩ argsL.toArray v B ∧
      ∀ target, Steps p.tables e below (B.U.setTop { g with pc := g.pc + 3, stack := v.toList ++ rest }) target → Steps p.tables e below (T.setTop g) target := by
  obtain ⟨mk, methM, cM, hnamed, hmethM, -, -, -, -, -, -, hsigM⟩ := Cond.codeWith_spec hcode
  have hstatic : methM.isStatic = true := Cond.static_spec hnamed hmethM hstat
  obtain ⟨kP, hkP, -⟩ := className_of_methodNamed hnamed
  have hinitP : kP.init = .initialized := Cond.initialized_spec (findClass_of_methodNamed hnamed) hkP hinit
  obtain ⟨vm₁, X₁, hstep₁⟩ := X.invokestatic hexec hown hlink hnamed hmethM hstatic hkP hinitP hy (g := g) hg (argsL := argsL) (rest := rest) (hlen _ hsigM) hstack hdg
  obtain ⟨v, B, X', hpost, hsteps⟩ := hK m meth c ⟨T.setVm vm₁, locs, cells, slots⟩ { g with stack := rest } (.invokestatic index) mk argsL.toArray X₁ hg hsize hdg hW (X₁.named hnamed) (hpre vm₁ X₁.warmed)
  exact ⟨v, vm₁, B, X₁.warmed, X', hpost, fun target h => hstep₁ _ fun acts => by rw [doInvoke_state]; exact hsteps.trans h⟩
theorem vx_runSW {y : MethodName} {bytes cc : ByteArray} {maxL nL mc ms n index : Nat} {ret : Option FieldType} {hh : List (Nat × Nat × Nat × Nat)} {ws : List Cond} {rm : Room} {Pc : Array Value → State → Prop} {Qc : Array Value → State → Outcome → State → Prop} {free : Addr → Prop} {Ts : List Cond} {own : String} {As rest : List Value} {g : JFrame}
    (S : CallFix p m c cc nL s args Ts own) (hM : Met l y ws rm Pc Qc mc ms free) (cw : vx_CSW R s args own index y bytes maxL ret hh ws rm mc ms n) (hp : PreS s H Pc As)
    (hg : g.method = m) (hn : As.length = n) (hsize : g.locals.size = nL) (hstack : g.stack = As.reverse ++ rest) (hW : 2 * g.monitorRoom + (rest.map fun v => v.category).sum ≤ 8) (hdg : decode cc g.pc = .ok (.invokestatic index, 3)) (hf : cells + mc ≤ R.cells ∧ slots + ms ≤ R.slots) :
    va_Run p l e R s m args below meth c H locs cells slots mc ms g rest (Qc As.toArray) (free) := by
  obtain ⟨⟨hrc, hrs, hfr, hlo, hws, hcw⟩, hcode, hini, hy, hlen, hl, hstt⟩ := cw
  have hK : Back l R p e below s args y 3 8 (PreOf R mc ms Pc) (PostOf Qc mc ms free) := va_backW (hh := hh) (bytes := bytes) (maxL := maxL) (ret := ret) hM hp.1 hrc hrs hfr hlo hws hcw (fun a' U hW => word_at hW (Or.inl (by first | rfl | simp [Cond.onTables, Cond.keeps, Cond.steady])) hini)
  obtain ⟨hx, hb, hml, ho, -⟩ := S
  intro T hT X
  obtain ⟨v, vm₁, ⟨U', l2, c2, s2⟩, hW₁, X', ⟨g', mk, t, L, e1, e2, hq, h1, hL, h2, h3⟩, st⟩ := vx_callSW X hx (hh := hh) (bytes := bytes) (maxL := maxL) (ret := ret) ho hl hstt hini hcode hy hK hg (hsize.trans hml.symm) (argsL := As) (rest := rest) (fun sig h => hn.trans (hlen sig h)) hstack hW (by rw [hb]; exact hdg)
    (fun vm₁ hW₁ => ⟨hf.1, hf.2, hp.2 (T.setVm vm₁) hT hW₁⟩)
  dsimp only [Pt.U, Pt.locs, Pt.cells, Pt.slots] at X' e1 e2 h1 h2 h3 st
  subst h1; subst h2; subst h3
  exact ⟨v, (T.setVm vm₁).calling g' mk As.toArray, t, U', L, hT, X', hL, e1, e2, hq, st⟩
/-- not caught here, past rows that name other classes: it goes on to the caller -/
theorem vx_outP {p : Program} {l : Launch} {e : Env} {R : Room} {s : State} {m : MethodId} {args : Array Value} {below : List Frame} {meth : Method} {c : Code} {H : Heap} {locs : List Loc} {cells slots : Nat} {free : Addr → Prop} {ls : Array Slot} {rest : List Value} {Qc : Array Value → State → Outcome → State → Prop} {XC : String → State → State → Prop}
    {pc : Nat} {own E : String} {ce : Cell} {q : Addr} {mc ms : Nat} (hown : s.vm.findClass own = some m.cls) (hlocks : meth.locks = false)
    (hpass : ∀ z ∈ c.exceptionTable.toList, covers z pc = false ∨ (z.catchType ≠ 0 ∧ ∃ nm : String, (Cond.classLink own z.catchType nm).before args s = true ∧ va_Nc E nm s)) (hcell : H[q]? = some ce) (hv : ce.vm = .none) (hcl : s.vm.findClass E = some ce.cls)
    (hx : ∀ t : State, t.heap = H → s.vm.Alike t.vm → XC E s t) (hf : ∀ z ∈ locs, free z.base) (hc : cells ≤ mc) (hs : slots ≤ ms) :
    vx_W p l e R s m args below meth c H locs cells slots (vx_MQ below Qc XC args s mc ms free) (F0 m pc ls rest) q := by
  intro T hT X
  have hpl : e.platform.magicAccessors = ({} : Platform).magicAccessors := by rw [X.admits.platform]
  obtain ⟨vm', hW', X', st⟩ := Jvm.Stand.outThrough X hlocks q (g := F0 m pc ls rest) rfl rfl rfl (cell := ce) (by rw [hT]; exact hcell) (by rw [hv]; rfl)
    (by obtain ⟨k9, h9, -⟩ := Vm.findClass_spec hcl; exact ⟨k9, h9⟩) (fun z hz => by
      rcases hpass z hz with h | ⟨hz0, nm, hl1, hn1⟩
      · exact Or.inl h
      · obtain ⟨c6, hc6, hcl6⟩ := Cond.classLink_spec hown hl1 e.platform hpl
        obtain ⟨a8, b8, h1, h2, h3⟩ := hn1
        cases Option.some.inj (h1.symm.trans hcl)
        cases Option.some.inj (h2.symm.trans hc6)
        exact Or.inr ⟨hz0, _, hcl6, h3⟩)
  obtain ⟨g₀, hfr⟩ := X'.frames_eq
  have hcell9 : ((T.setVm vm').setFrames (.throwing q :: below)).heap[q]? = some ce := by
    show T.heap[q]? = some ce
    rw [hT]; exact hcell
  have hend : Ended ((T.setVm vm').setFrames (.throwing q :: below)) below (.threw q) := State.frames_setFrames _ (State.cur_lt_of_frames hfr)
  refine ⟨(T.setVm vm').setFrames (.throwing q :: below), ?_, .threw q, X'.here.running, hend, Or.inr ⟨q, rfl, E, ce, locs, hx _ hT (X'.ends _).1.alike, hcell9, hv, hcl, (X'.ends _).1, (X'.ends _).2.mono hc hs, hf⟩⟩
  rw [X.pushThrowing_eq]
  exact st
/-- a thing of a world lies in the heap -/
theorem vx_lt {D : va_G} {cl : List vw_C} {ws : va_W} {H1 : Heap} (h : va_P D cl ws H1) {k : Nat} {q : Nat × va_E} (hk : ws[k]? = some q) : q.1 < H1.size := (h k q hk).lt
end VXS
/-! ===== END ===== -/
/-! ===== BEGIN methods with a table of their own: called by a name, returning or throwing ===== -/
section VXH
/-! vx_backW, vx_callVX, vx_callSX, vx_callVW, vx_runVW, vx_runVX, vx_runSX, vx_ofWH follow the same proofs as their sisters above (Free/Laws.lean, Shelf42/LK1.lean); vx_outP calls Shelf42/NT130.lean (outThrough). -/
section
variable {l : Launch} {R : Room} {p : Program} {e : Env} {below : List Frame} {s : State} {sargs : Array Value} {y : MethodName} {len W9 : Nat}
theorem vx_backW {ws : List Cond} {rm : Room} {Pc : Array Value → State → Prop} {Qc : Array Value → State → Outcome → State → Prop} {XC : String → State → State → Prop} {mc ms : Nat} {free : Addr → Prop} {bytes : ByteArray} {maxL : Nat} {ret : Option FieldType} {hh : List (Nat × Nat × Nat × Nat)}
    (hM : vx_Met l y ws rm Pc Qc XC mc ms free) (hblind : FrameBlind Pc) (hrc : rm.cells = mc) (hrs : rm.slots = ms)
    (hframes : rm.frames + 1 ≤ R.frames) (hlocals : W9 + (maxL + 11) + rm.locals ≤ R.locals)
    (hws : ∀ w ∈ ws, ∀ a' U, s.WarmedH U.vm → w.before a' U = true) (hcode : Cond.codeWith y bytes maxL ret hh ∈ ws) (hinit : ∀ a' U, s.WarmedH U.vm → (Cond.initialized y.cls).before a' U = true) :
    vx_Back l R p e below s sargs y len W9 (PreOf R mc ms Pc) (PostOf Qc mc ms free) (vx_Post XC mc ms free) := by
  intro m meth c A g ig mk a X hg hsize hdg hW hn hp
  have h1 : (headSpec ws rm).pre.before a A.U = true := atoms_intro fun w hw => hws w hw _ _ X.warmed
  have h2 : (Cond.codeWith y bytes maxL ret hh).before a A.U = true := hws _ hcode _ _ X.warmed
  have h3 : (Cond.initialized y.cls).before a A.U = true := hinit _ _ X.warmed
  have h4 : A.cells + (headSpec ws rm).room.cells ≤ R.cells := by rw [show (headSpec ws rm).room.cells = mc from hrc]; exact hp.1
  have h5 : A.slots + (headSpec ws rm).room.slots ≤ R.slots := by rw [show (headSpec ws rm).room.slots = ms from hrs]; exact hp.2.1
  have hPc : Pc a (A.U.calling g mk a) := hblind _ _ _ _ hp.2.2
  obtain ⟨U, Ls, c0, s0⟩ := A
  dsimp only [Pt.U, Pt.locs, Pt.cells, Pt.slots] at h1 h2 h3 h4 h5 X hn hPc ⊢
  obtain ⟨m9, methY, cY, hn9, hmY, hcY, -, hlY, -⟩ := Cond.codeWith_spec h2
  cases Option.some.inj (hn9.symm.trans hn)
  obtain ⟨kY, hkY, -⟩ := className_of_methodNamed hn
  have hinitY : kY.init = .initialized := Cond.initialized_spec (findClass_of_methodNamed hn) hkY h3
  have h : At U g.method c below := by rw [hg]; exact X.here
  have hlocals9 : W9 + (maxL + 11) + (headSpec ws rm).room.locals ≤ R.locals := hlocals
  have happ : (headSpec ws rm).appliesLoose y e.platform (U.calling g mk a) = true :=
    Spec.appliesLoose_calling (g := g) h hdg hn hkY hinitY
      (X.room_calling (g := g) (R' := (headSpec ws rm).room) hsize hmY hcY hframes (by rw [hlY]; omega) h4 h5) h1
  obtain ⟨mid, hmid⟩ := h.above
  have hfr : (U.setTop g).frames = (.java g :: mid) ++ below := by rw [State.frames_setTop' g h.top, hmid]; rfl
  obtain ⟨o, s₂, hsteps, -, hend, hq⟩ := Steps.callFree hM p X.admits X.cas X.clock (acts := []) hfr happ hPc trivial
  have hq' : vx_Q Qc XC mc ms free a (U.calling g mk a) o s₂ := hq
  rw [State.frames_setTop' g h.top] at hend
  obtain ⟨g₀, hg0⟩ := Option.isSome_iff_exists.mp h.top
  obtain ⟨r, hr⟩ := State.topJava?_eq_some.mp hg0
  have hr' : (({ U with heap := s₂.heap, slotsUsed := s₂.slotsUsed } : State).setVm s₂.vm).frames = .java g₀ :: r := hr
  rcases hq' with ⟨hqc, L, hfe, hL⟩ | ⟨q, rfl, E, ce, L, hx, hce, hcv, hcl, hW₂, hsm, hL⟩
  · obtain ⟨⟨v, rfl⟩, hW₂, e2, q2, q3, q4, q5, q6⟩ := id hfe
    have e3 : s₂ = ({ (U.calling g mk a).setFrames s₂.frames with heap := s₂.heap, slotsUsed := s₂.slotsUsed } : State).setVm s₂.vm := by
      have : s₂ = ({ s₂ with vm := (U.calling g mk a).vm } : State).setVm s₂.vm := rfl
      rw [e2] at this
      exact this
    obtain ⟨c₂, i₂, len₂, hc₂, hd₂, hf₂⟩ := hend
    have hW' : U.WarmedH s₂.vm := hW₂
    have hcc : c₂ = c := by
      have h1 : s₂.code? g.method = U.code? g.method := by
        rw [State.code?_eq, State.code?_eq, hW'.alike.method?]
      exact Option.some.inj (hc₂.symm.trans (h1.trans h.code))
    subst hcc
    have hlen : len₂ = len := by rw [hdg] at hd₂; cases hd₂; rfl
    subst hlen
    have hs₂ : s₂ = (({ U with heap := s₂.heap, slotsUsed := s₂.slotsUsed } : State).setVm s₂.vm).setTop { g with pc := g.pc + len₂, stack := v.toList ++ g.stack } := by
      refine e3.trans ?_
      rw [hf₂, State.calling_eq h.top, State.setFrames_setFrames, State.setTop_of_frames _ hr', hr]
      rfl
    have hsame : U.sameButNew ({ U with heap := s₂.heap, slotsUsed := s₂.slotsUsed } : State) L mc ms := by
      refine ⟨?_, q2, q3, q4, q5, q6⟩
      obtain ⟨t, ht, -⟩ := State.frames_cons hr
      show ({ U with heap := s₂.heap, slotsUsed := s₂.slotsUsed } : State) = { U.setFrames U.frames with heap := s₂.heap, slotsUsed := s₂.slotsUsed }
      rw [State.setFrames_self ht]
    subst hg
    refine Or.inl ⟨v, ⟨(({ U with heap := s₂.heap, slotsUsed := s₂.slotsUsed } : State).setVm s₂.vm), Ls ++ L, c0 + mc, s0 + ms⟩,
      ⟨X.admits, X.cas, X.clock, X.frames, X.room, X.hears, X.method, X.code, (X.here.setHeapUsed s₂.heap s₂.slotsUsed).setVm hW'.alike, X.tail, State.WarmedH.trans X.warmed hW', X.limits, X.bytes, X.same.trans (hsame.setVm s.vm)⟩,
      ⟨g, mk, s₂, L, rfl, rfl, hqc, rfl, hL, rfl, rfl⟩, ?_⟩
    show Steps p.tables e below _ ((({ U with heap := s₂.heap, slotsUsed := s₂.slotsUsed } : State).setVm s₂.vm).setTop { g with pc := g.pc + len₂, stack := v.toList ++ g.stack })
    rw [← hs₂]
    exact hsteps
  · obtain ⟨e2, q2, q3, q4, q5, q6⟩ := id hsm
    have e3 : s₂ = ({ (U.calling g mk a).setFrames s₂.frames with heap := s₂.heap, slotsUsed := s₂.slotsUsed } : State).setVm s₂.vm := by
      have : s₂ = ({ s₂ with vm := (U.calling g mk a).vm } : State).setVm s₂.vm := rfl
      rw [e2] at this
      exact this
    have hf₂ : s₂.frames = .throwing q :: .java g :: U.frames.tail := hend
    have hW' : U.WarmedH s₂.vm := hW₂
    have hs₂ : s₂ = ((({ U with heap := s₂.heap, slotsUsed := s₂.slotsUsed } : State).setVm s₂.vm).setTop g).pushFrame (.throwing q) := by
      refine e3.trans ?_
      rw [hf₂, State.calling_eq h.top, State.setFrames_setFrames, State.pushFrame, State.frames_setTop _ hr', State.setTop_of_frames _ hr', State.setFrames_setFrames, hr]
      rfl
    have hsame : U.sameButNew ({ U with heap := s₂.heap, slotsUsed := s₂.slotsUsed } : State) L mc ms := by
      refine ⟨?_, q2, q3, q4, q5, q6⟩
      obtain ⟨t, ht, -⟩ := State.frames_cons hr
      show ({ U with heap := s₂.heap, slotsUsed := s₂.slotsUsed } : State) = { U.setFrames U.frames with heap := s₂.heap, slotsUsed := s₂.slotsUsed }
      rw [State.setFrames_self ht]
    subst hg
    refine Or.inr ⟨q, ⟨(({ U with heap := s₂.heap, slotsUsed := s₂.slotsUsed } : State).setVm s₂.vm), Ls ++ L, c0 + mc, s0 + ms⟩,
      ⟨X.admits, X.cas, X.clock, X.frames, X.room, X.hears, X.method, X.code, (X.here.setHeapUsed s₂.heap s₂.slotsUsed).setVm hW'.alike, X.tail, State.WarmedH.trans X.warmed hW', X.limits, X.bytes, X.same.trans (hsame.setVm s.vm)⟩,
      ⟨g, mk, s₂, L, E, ce, rfl, rfl, hx, hce, hcv, hcl, rfl, hL, rfl, rfl⟩, ?_⟩
    show Steps p.tables e below _ (((({ U with heap := s₂.heap, slotsUsed := s₂.slotsUsed } : State).setVm s₂.vm).setTop g).pushFrame (.throwing q))
    rw [← hs₂]
    exact hsteps
end
variable {p : Program} {l : Launch} {e : Env} {R : Room} {s : State} {m : MethodId} {args : Array Value} {below : List Frame} {meth : Method} {c : Code} {T : State} {H : Heap} {locs : List Loc} {cells slots : Nat}
theorem vx_callVX (X : Stand p l e R s m args below meth c T locs cells slots) (hexec : p.tables.exec = Jvm.exec) {own C : String} {index : Nat} {y : MethodName} {bytes : ByteArray} {maxL : Nat} {ret : Option FieldType} {hh : List (Nat × Nat × Nat × Nat)}
    (hown : s.vm.findClass own = some m.cls) (hlink : (Cond.methodLink own index y).before args s = true) (hinst : (Cond.instanceMethod y).before args s = true) (hsel : (Cond.selects C y y).before args s = true)
    (hcode : (Cond.codeWith y bytes maxL ret hh).before args s = true) (hy : y.cls ≠ "java/lang/invoke/MethodHandle" ∧ y.cls ≠ "java/lang/invoke/VarHandle")
    {W9 : Nat} {Pre : Pt → Array Value → Prop} {Post : Pt → Array Value → Option Value → Pt → Prop} {PostX : Pt → Array Value → Addr → Pt → Prop} (hK : vx_Back l R p e below s args y 3 W9 Pre Post PostX)
    {b : Addr} {cellB : Cell} (hcell : T.heap[b]? = some cellB) (hobj : cellB.vm.isStatics = false) (hcls : s.vm.findClass C = some cellB.cls)
    {g : JFrame} (hg : g.method = m) (hsize : g.locals.size = c.maxLocals) {argsL rest : List Value} (hlen : ∀ sig, parseMethodDescriptor y.desc = some sig → argsL.length = sig.parameters.length)
    (hstack : g.stack = argsL.reverse ++ .ref b :: rest) (hW : 2 * g.monitorRoom + (rest.map fun v => v.category).sum ≤ W9) (hdg : decode c.code g.pc = .ok (.invokevirtual index, 3))
    (hpre : ∀ vm₁, s.WarmedH vm₁ → Pre ⟨T.setVm vm₁, locs, cells, slots⟩ (Value.ref b :: argsL).toArray) :
    (∃ (v : Option Value) (vm₁ : Vm) (B : Pt), s.WarmedH vm₁ ∧ Stand p l e R s m args below meth c B.U B.locs B.cells B.slots ∧ Post ⟨T.setVm vm₁, locs, cells, slots⟩ (Value.ref b :: argsL).toArray v B ∧
      ∀ target, Steps p.tables e below (B.U.setTop { g with pc := g.pc + 3, stack := v.toList ++ rest }) target → Steps p.tables e below (T.setTop g) target) ∨
    (∃ (q : Addr) (vm₁ : Vm) (B : Pt), s.WarmedH vm₁ ∧ Stand p l e R s m args below meth c B.U B.locs B.cells B.slots ∧ PostX ⟨T.setVm vm₁, locs, cells, slots⟩ (Value.ref b :: argsL).toArray q B ∧
      Steps p.tables e below (T.setTop g) ((B.U.setTop { g with stack := rest }).pushFrame (.throwing q))) := by
  obtain ⟨mk, methM, hnamed, hmethM, hstM, habM⟩ := Cond.instanceMethod_spec hinst
  obtain ⟨m8, methM', cM, hn8, hmethM', -, -, -, -, -, -, hsigM⟩ := Cond.codeWith_spec hcode
  cases Option.some.inj (hn8.symm.trans hnamed)
  cases hmethM.symm.trans hmethM'
  obtain ⟨c2, r2, m2, q1, q2, q3, q4, kP, hkP, hkPi⟩ := Cond.selects_spec hsel
  cases hcls.symm.trans q1
  cases (State.methodFound?_of_named hnamed hy).symm.trans q2
  cases hnamed.symm.trans q3
  have hselP : selectMethod e.platform s.vm cellB.cls mk = .method mk := by rw [Launch.admits_selectMethod X.admits]; exact q4
  obtain ⟨vm₁, X₁, hstep₁⟩ := X.invokevirtual hexec hown hlink hnamed hmethM hstM hkP hkPi hy (a := b) (cell := cellB) hcell
    (fun z h => by rw [h] at hobj; cases hobj) hselP hmethM habM hkP hkPi (g := g) hg (argsL := argsL) (rest := rest) (hlen _ hsigM) hstack hdg
  rcases hK m meth c ⟨T.setVm vm₁, locs, cells, slots⟩ { g with stack := rest } (.invokevirtual index) mk (Value.ref b :: argsL).toArray X₁ hg hsize hdg hW (X₁.named hnamed) (hpre vm₁ X₁.warmed) with ⟨v, B, X', hpost, hsteps⟩ | ⟨q, B, X', hpost, hsteps⟩
  · exact Or.inl ⟨v, vm₁, B, X₁.warmed, X', hpost, fun target h => hstep₁ _ fun acts => by rw [doInvoke_state]; exact hsteps.trans h⟩
  · exact Or.inr ⟨q, vm₁, B, X₁.warmed, X', hpost, hstep₁ _ fun acts => by rw [doInvoke_state]; exact hsteps⟩
theorem vx_callSX (X : Stand p l e R s m args below meth c T locs cells slots) (hexec : p.tables.exec = Jvm.exec) {own : String} {index : Nat} {y : MethodName} {bytes : ByteArray} {maxL : Nat} {ret : Option FieldType} {hh : List (Nat × Nat × Nat × Nat)}
    (hown : s.vm.findClass own = some m.cls) (hlink : (Cond.methodLink own index y).before args s = true) (hstat : (Cond.static y).before args s = true) (hinit : (Cond.initialized y.cls).before args s = true)
    (hcode : (Cond.codeWith y bytes maxL ret hh).before args s = true) (hy : y.cls ≠ "java/lang/invoke/MethodHandle" ∧ y.cls ≠ "java/lang/invoke/VarHandle")
    {W9 : Nat} {Pre : Pt → Array Value → Prop} {Post : Pt → Array Value → Option Value → Pt → Prop} {PostX : Pt → Array Value → Addr → Pt → Prop} (hK : vx_Back l R p e below s args y 3 W9 Pre Post PostX)
    {g : JFrame} (hg : g.method = m) (hsize : g.locals.size = c.maxLocals) {argsL rest : List Value} (hlen : ∀ sig, parseMethodDescriptor y.desc = some sig → argsL.length = sig.parameters.length)
    (hstack : g.stack = argsL.reverse ++ rest) (hW : 2 * g.monitorRoom + (rest.map fun v => v.category).sum ≤ W9) (hdg : decode c.code g.pc = .ok (.invokestatic index, 3))
    (hpre : ∀ vm₁, s.WarmedH vm₁ → Pre ⟨T.setVm vm₁, locs, cells, slots⟩ argsL.toArray) :
    (∃ (v : Option Value) (vm₁ : Vm) (B : Pt), s.WarmedH vm₁ ∧ Stand p l e R s m args below meth c B.U B.locs B.cells B.slots ∧ Post ⟨T.setVm vm₁, locs, cells, slots⟩ argsL.toArray v B ∧
      ∀ target, Steps p.tables e below (B.U.setTop { g with pc := g.pc + 3, stack := v.toList ++ rest }) target → Steps p.tables e below (T.setTop g) target) ∨
    (∃ (q : Addr) (vm₁ : Vm) (B : Pt), s.WarmedH vm₁ ∧ Stand p l e R s m args below meth c B.U B.locs B.cells B.slots ∧ PostX ⟨T.setVm vm₁, locs, cells, slots⟩ argsL.toArray q B ∧
      Steps p.tables e below (T.setTop g) ((B.U.setTop { g with stack := rest }).pushFrame (.throwing q))) := by
  obtain ⟨mk, methM, cM, hnamed, hmethM, -, -, -, -, -, -, hsigM⟩ := Cond.codeWith_spec hcode
  have hstatic : methM.isStatic = true := Cond.static_spec hnamed hmethM hstat
  obtain ⟨kP, hkP, -⟩ := className_of_methodNamed hnamed
  have hinitP : kP.init = .initialized := Cond.initialized_spec (findClass_of_methodNamed hnamed) hkP hinit
  obtain ⟨vm₁, X₁, hstep₁⟩ := X.invokestatic hexec hown hlink hnamed hmethM hstatic hkP hinitP hy (g := g) hg (argsL := argsL) (rest := rest) (hlen _ hsigM) hstack hdg
  rcases hK m meth c ⟨T.setVm vm₁, locs, cells, slots⟩ { g with stack := rest } (.invokestatic index) mk argsL.toArray X₁ hg hsize hdg hW (X₁.named hnamed) (hpre vm₁ X₁.warmed) with ⟨v, B, X', hpost, hsteps⟩ | ⟨q, B, X', hpost, hsteps⟩
  · exact Or.inl ⟨v, vm₁, B, X₁.warmed, X', hpost, fun target h => hstep₁ _ fun acts => by rw [doInvoke_state]; exact hsteps.trans h⟩
  · exact Or.inr ⟨q, vm₁, B, X₁.warmed, X', hpost, hstep₁ _ fun acts => by rw [doInvoke_state]; exact hsteps⟩
theorem vx_callVW (X : Stand p l e R s m args below meth c T locs cells slots) (hexec : p.tables.exec = Jvm.exec) {own C : String} {index : Nat} {y : MethodName} {bytes : ByteArray} {maxL : Nat} {ret : Option FieldType} {hh : List (Nat × Nat × Nat × Nat)}
    (hown : s.vm.findClass own = some m.cls) (hlink : (Cond.methodLink own index y).before args s = true) (hinst : (Cond.instanceMethod y).before args s = true) (hsel : (Cond.selects C y y).before args s = true)
    (hcode : (Cond.codeWith y bytes maxL ret hh).before args s = true) (hy : y.cls ≠ "java/lang/invoke/MethodHandle" ∧ y.cls ≠ "java/lang/invoke/VarHandle")
    {W9 : Nat} {Pre : Pt → Array Value → Prop} {Post : Pt → Array Value → Option Value → Pt → Prop} (hK : Back l R p e below s args y 3 W9 Pre Post)
    {b : Addr} {cellB : Cell} (hcell : T.heap[b]? = some cellB) (hobj : cellB.vm.isStatics = false) (hcls : s.vm.findClass C = some cellB.cls)
    {g : JFrame} (hg : g.method = m) (hsize : g.locals.size = c.maxLocals) {argsL rest : List Value} (hlen : ∀ sig, parseMethodDescriptor y.desc = some sig → argsL.length = sig.parameters.length)
    (hstack : g.stack = argsL.reverse ++ .ref b :: rest) (hW : 2 * g.monitorRoom + (rest.map fun v => v.category).sum ≤ W9) (hdg : decode c.code g.pc = .ok (.invokevirtual index, 3))
    (hpre : ∀ vm₁, s.WarmedH vm₁ → Pre ⟨T.setVm vm₁, locs, cells, slots⟩ (Value.ref b :: argsL).toArray) :
    ∃ (v : Option Value) (vm₁ : Vm) (B : Pt), s.WarmedH vm₁ ∧ Stand p l e R s m args below meth c B.U B.locs B.cells B.slots ∧ Post ⟨T.setVm vm₁, locs, cells, slots⟩ (Value.ref b :: argsL).toArray v B ∧
      ∀ target, Steps p.tables e below (B.U.setTop { g with pc := g.pc + 3, stack := v.toList ++ rest }) target → Steps p.tables e below (T.setTop g) target := by
  obtain ⟨mk, methM, hnamed, hmethM, hstM, habM⟩ := Cond.instanceMethod_spec hinst
  obtain ⟨m8, methM', cM, hn8, hmethM', -, -, -, -, -, -, hsigM⟩ := Cond.codeWith_spec hcode
  cases Option.some.inj (hn8.symm.trans hnamed)
  cases hmethM.symm.trans hmethM'
  obtain ⟨c2, r2, m2, q1, q2, q3, q4, kP, hkP, hkPi⟩ := Cond.selects_spec hsel
  cases hcls.symm.trans q1
  cases (State.methodFound?_of_named hnamed hy).symm.trans q2
  cases hnamed.symm.trans q3
  have hselP : selectMethod e.platform s.vm cellB.cls mk = .method mk := by rw [Launch.admits_selectMethod X.admits]; exact q4
  obtain ⟨vm₁, X₁, hstep₁⟩ := X.invokevirtual hexec hown hlink hnamed hmethM hstM hkP hkPi hy (a := b) (cell := cellB) hcell
    (fun z h => by rw [h] at hobj; cases hobj) hselP hmethM habM hkP hkPi (g := g) hg (argsL := argsL) (rest := rest) (hlen _ hsigM) hstack hdg
  obtain ⟨v, B, X', hpost, hsteps⟩ := hK m meth c ⟨T.setVm vm₁, locs, cells, slots⟩ { g with stack := rest } (.invokevirtual index) mk (Value.ref b :: argsL).toArray X₁ hg hsize hdg hW (X₁.named hnamed) (hpre vm₁ X₁.warmed)
  exact ⟨v, vm₁, B, X₁.warmed, X', hpost, fun target h => hstep₁ _ fun acts => by rw [doInvoke_state]; exact hsteps.trans h⟩
abbrev vx_CVW (R : Room) (s : State) (args : Array Value) (own C : String) (index : Nat) (y : MethodName) (bytes : ByteArray) (maxL : Nat) (ret : Option FieldType) (hh : List (Nat × Nat × Nat × Nat)) (ws : List Cond) (rm : Room) (mc ms n : Nat) : Prop :=
  (rm.cells = mc ∧ rm.slots = ms ∧ rm.frames + 1 ≤ R.frames ∧ 8 + (maxL + 11) + rm.locals ≤ R.locals ∧ (∀ w ∈ ws, ∀ (a' : Array Value) (U : State), s.WarmedH U.vm → w.before a' U = true) ∧ Cond.codeWith y bytes maxL ret hh ∈ ws) ∧
  (Cond.codeWith y bytes maxL ret hh).before args s = true ∧ (Cond.initialized y.cls).before args s = true ∧ (y.cls ≠ "java/lang/invoke/MethodHandle" ∧ y.cls ≠ "java/lang/invoke/VarHandle") ∧
  (∀ sig, parseMethodDescriptor y.desc = some sig → n = sig.parameters.length) ∧ (Cond.methodLink own index y).before args s = true ∧ (Cond.instanceMethod y).before args s = true ∧ (Cond.selects C y y).before args s = true
theorem vx_cwVW {own C : String} {index maxL mc ms : Nat} {y : MethodName} {bytes : ByteArray} {ret : Option FieldType} {hh : List (Nat × Nat × Nat × Nat)} {Ts ws ws' : List Cond} {rm : Room} (n : Nat) (ht : ∀ w ∈ Ts, w.before args s = true) (hT : GoodIn Ts (wsV own index C y ws)) (hw : ws = Cond.codeWith y bytes maxL ret hh :: ws') (hrc : rm.cells = mc) (hrs : rm.slots = ms)
    (hd : y.cls = C ∧ y.cls ≠ "java/lang/invoke/MethodHandle" ∧ y.cls ≠ "java/lang/invoke/VarHandle" ∧ (parseMethodDescriptor y.desc).map (fun d => d.parameters.length) = some n) (hR : rm.frames + 1 ≤ R.frames ∧ 8 + (maxL + 11) + rm.locals ≤ R.locals) :
    vx_CVW R s args own C index y bytes maxL ret hh ws rm mc ms n := by
  obtain ⟨hC, hd⟩ := hd
  subst hC
  have ok : ∀ w ∈ wsV own index y.cls y ws, w.before args s = true := fun w h => ht w (hT w h).1
  have hG : GoodIn Ts ws := fun w h => hT w (by unfold wsV; exact List.mem_append_right _ h)
  have hc : Cond.codeWith y bytes maxL ret hh ∈ ws := by rw [hw]; exact List.mem_cons_self
  refine ⟨⟨hrc, hrs, hR.1, hR.2, pay_in ht hG, hc⟩, ht _ (hG _ hc).1, ok _ (by simp [wsV]), ⟨hd.1, hd.2.1⟩, fun sig h => ?_, ok _ (by simp [wsV]), ok _ (by simp [wsV]), ok _ (by simp [wsV])⟩
  have h2 := hd.2.2
  rw [h] at h2
  exact (Option.some.inj h2).symm
theorem vx_runVW {y : MethodName} {bytes cc : ByteArray} {maxL nL mc ms n index : Nat} {ret : Option FieldType} {hh : List (Nat × Nat × Nat × Nat)} {ws : List Cond} {rm : Room} {Pc : Array Value → State → Prop} {Qc : Array Value → State → Outcome → State → Prop} {free : Addr → Prop} {Ts : List Cond} {own C : String} {b : Addr} {As rest : List Value} {g : JFrame}
    (S : CallFix p m c cc nL s args Ts own) (hM : Met l y ws rm Pc Qc mc ms free) (cw : vx_CVW R s args own C index y bytes maxL ret hh ws rm mc ms n) (hp : PreV s H C b Pc As)
    (hg : g.method = m) (hn : As.length = n) (hsize : g.locals.size = nL) (hstack : g.stack = As.reverse ++ .ref b :: rest) (hW : 2 * g.monitorRoom + (rest.map fun v => v.category).sum ≤ 8) (hdg : decode cc g.pc = .ok (.invokevirtual index, 3)) (hf : cells + mc ≤ R.cells ∧ slots + ms ≤ R.slots) :
    va_Run p l e R s m args below meth c H locs cells slots mc ms g rest (Qc (Value.ref b :: As).toArray) free := by
  obtain ⟨⟨hrc, hrs, hfr, hlo, hws, hcw⟩, hcode, hini, hy, hlen, hl, hin, hse⟩ := cw
  have hK : Back l R p e below s args y 3 8 (PreOf R mc ms Pc) (PostOf Qc mc ms free) := va_backW (hh := hh) (bytes := bytes) (maxL := maxL) (ret := ret) hM hp.1 hrc hrs hfr hlo hws hcw (fun a' U hW => word_at hW (Or.inl (by first | rfl | simp [Cond.onTables, Cond.keeps, Cond.steady])) hini)
  obtain ⟨hx, hb, hml, ho, -⟩ := S
  obtain ⟨-, ⟨cellB, hcB, hoB, hclB⟩, hPc⟩ := hp
  intro T hT X
  obtain ⟨v, vm₁, ⟨U', l2, c2, s2⟩, hW₁, X', ⟨g', mk, t, L, e1, e2, hq, h1, hL, h2, h3⟩, st⟩ := vx_callVW X hx (C := C) (hh := hh) (bytes := bytes) (maxL := maxL) (ret := ret) ho hl hin hse hcode hy hK (by rw [hT]; exact hcB) hoB hclB hg (hsize.trans hml.symm) (argsL := As) (rest := rest) (fun sig h => hn.trans (hlen sig h)) hstack hW (by rw [hb]; exact hdg)
    (fun vm₁ hW₁ => ⟨hf.1, hf.2, hPc (T.setVm vm₁) hT hW₁⟩)
  dsimp only [Pt.U, Pt.locs, Pt.cells, Pt.slots] at X' e1 e2 h1 h2 h3 st
  subst h1; subst h2; subst h3
  exact ⟨v, (T.setVm vm₁).calling g' mk (Value.ref b :: As).toArray, t, U', L, hT, X', hL, e1, e2, hq, st⟩
section
variable {y : MethodName} {bytes cc : ByteArray} {maxL nL mc ms n index : Nat} {ret : Option FieldType} {ws : List Cond} {rm : Room} {Pc : Array Value → State → Prop} {Qc : Array Value → State → Outcome → State → Prop} {XC : String → State → State → Prop} {free : Addr → Prop} {Ts : List Cond} {own C : String} {b : Addr} {As rest : List Value} {g : JFrame}
theorem vx_runVX {hh : List (Nat × Nat × Nat × Nat)} (S : CallFix p m c cc nL s args Ts own) (hM : vx_Met l y ws rm Pc Qc XC mc ms free) (cw : vx_CVW R s args own C index y bytes maxL ret hh ws rm mc ms n) (hp : PreV s H C b Pc As)
    (hg : g.method = m) (hn : As.length = n) (hsize : g.locals.size = nL) (hstack : g.stack = As.reverse ++ .ref b :: rest) (hW : 2 * g.monitorRoom + (rest.map fun v => v.category).sum ≤ 8) (hdg : decode cc g.pc = .ok (.invokevirtual index, 3)) (hf : cells + mc ≤ R.cells ∧ slots + ms ≤ R.slots) :
    vx_Run p l e R s m args below meth c H locs cells slots mc ms g rest (Qc (Value.ref b :: As).toArray) XC free := by
  obtain ⟨⟨hrc, hrs, hfr, hlo, hws, hcw⟩, hcode, hini, hy, hlen, hl, hin, hse⟩ := cw
  have hK : vx_Back l R p e below s args y 3 8 (PreOf R mc ms Pc) (PostOf Qc mc ms free) (vx_Post XC mc ms free) := vx_backW (hh := hh) (bytes := bytes) (maxL := maxL) (ret := ret) hM hp.1 hrc hrs hfr hlo hws hcw (fun a' U hW => word_at hW (Or.inl (by first | rfl | simp [Cond.onTables, Cond.keeps, Cond.steady])) hini)
  obtain ⟨hx, hb, hml, ho, -⟩ := S
  obtain ⟨-, ⟨cellB, hcB, hoB, hclB⟩, hPc⟩ := hp
  intro T hT X
  rcases vx_callVX X hx (C := C) (hh := hh) (bytes := bytes) (maxL := maxL) (ret := ret) ho hl hin hse hcode hy hK (by rw [hT]; exact hcB) hoB hclB hg (hsize.trans hml.symm) (argsL := As) (rest := rest) (fun sig h => hn.trans (hlen sig h)) hstack hW (by rw [hb]; exact hdg)
    (fun vm₁ hW₁ => ⟨hf.1, hf.2, hPc (T.setVm vm₁) hT hW₁⟩) with ⟨v, vm₁, ⟨U', l2, c2, s2⟩, hW₁, X', ⟨g', mk, t, L, e1, e2, hq, h1, hL, h2, h3⟩, st⟩ | ⟨q, vm₁, ⟨U', l2, c2, s2⟩, hW₁, X', ⟨g', mk, t, L, E, ce, e1, e2, hq, hce, hcv, hcl, h1, hL, h2, h3⟩, st⟩
  · dsimp only [Pt.U, Pt.locs, Pt.cells, Pt.slots] at X' e1 e2 h1 h2 h3 st
    subst h1; subst h2; subst h3
    exact Or.inl ⟨v, (T.setVm vm₁).calling g' mk (Value.ref b :: As).toArray, t, U', L, hT, X', hL, e1, e2, hq, st⟩
  · dsimp only [Pt.U, Pt.locs, Pt.cells, Pt.slots] at X' e1 e2 h1 h2 h3 st hcl
    subst h1; subst h2; subst h3
    exact Or.inr ⟨q, (T.setVm vm₁).calling g' mk (Value.ref b :: As).toArray, t, U', L, E, ce, hT, X', hL, e1, e2, hq, hce, hcv, vx_cls hW₁ hcl, st⟩
theorem vx_runSX {hh : List (Nat × Nat × Nat × Nat)} (S : CallFix p m c cc nL s args Ts own) (hM : vx_Met l y ws rm Pc Qc XC mc ms free) (cw : vx_CSW R s args own index y bytes maxL ret hh ws rm mc ms n) (hp : PreS s H Pc As)
    (hg : g.method = m) (hn : As.length = n) (hsize : g.locals.size = nL) (hstack : g.stack = As.reverse ++ rest) (hW : 2 * g.monitorRoom + (rest.map fun v => v.category).sum ≤ 8) (hdg : decode cc g.pc = .ok (.invokestatic index, 3)) (hf : cells + mc ≤ R.cells ∧ slots + ms ≤ R.slots) :
    vx_Run p l e R s m args below meth c H locs cells slots mc ms g rest (Qc As.toArray) XC free := by
  obtain ⟨⟨hrc, hrs, hfr, hlo, hws, hcw⟩, hcode, hini, hy, hlen, hl, hstt⟩ := cw
  have hK : vx_Back l R p e below s args y 3 8 (PreOf R mc ms Pc) (PostOf Qc mc ms free) (vx_Post XC mc ms free) := vx_backW (hh := hh) (bytes := bytes) (maxL := maxL) (ret := ret) hM hp.1 hrc hrs hfr hlo hws hcw (fun a' U hW => word_at hW (Or.inl (by first | rfl | simp [Cond.onTables, Cond.keeps, Cond.steady])) hini)
  obtain ⟨hx, hb, hml, ho, -⟩ := S
  intro T hT X
  rcases vx_callSX X hx (hh := hh) (bytes := bytes) (maxL := maxL) (ret := ret) ho hl hstt hini hcode hy hK hg (hsize.trans hml.symm) (argsL := As) (rest := rest) (fun sig h => hn.trans (hlen sig h)) hstack hW (by rw [hb]; exact hdg)
    (fun vm₁ hW₁ => ⟨hf.1, hf.2, hp.2 (T.setVm vm₁) hT hW₁⟩) with ⟨v, vm₁, ⟨U', l2, c2, s2⟩, hW₁, X', ⟨g', mk, t, L, e1, e2, hq, h1, hL, h2, h3⟩, st⟩ | ⟨q, vm₁, ⟨U', l2, c2, s2⟩, hW₁, X', ⟨g', mk, t, L, E, ce, e1, e2, hq, hce, hcv, hcl, h1, hL, h2, h3⟩, st⟩
  · dsimp only [Pt.U, Pt.locs, Pt.cells, Pt.slots] at X' e1 e2 h1 h2 h3 st
    subst h1; subst h2; subst h3
    exact Or.inl ⟨v, (T.setVm vm₁).calling g' mk As.toArray, t, U', L, hT, X', hL, e1, e2, hq, st⟩
  · dsimp only [Pt.U, Pt.locs, Pt.cells, Pt.slots] at X' e1 e2 h1 h2 h3 st hcl
    subst h1; subst h2; subst h3
    exact Or.inr ⟨q, (T.setVm vm₁).calling g' mk As.toArray, t, U', L, E, ce, hT, X', hL, e1, e2, hq, hce, hcv, vx_cls hW₁ hcl, st⟩
end
end VXH
theorem vx_ofWH {l : Launch} {y : MethodName} {ws ws' : List Cond} {rm : Room} {Pc : Array Value → State → Prop} {Qc : Array Value → State → Outcome → State → Prop} {XC : String → State → State → Prop} {mc ms : Nat} {free : Addr → Prop} {cc : ByteArray} {maxL : Nat} {ret : Option FieldType} {hh : List (Nat × Nat × Nat × Nat)}
    (hy : plainName y.cls = true) (hw : ws = Cond.codeWith y cc maxL ret hh :: ws')
    (body : ∀ p e s m args below meth c s₁, BodyLoose p l y (headSpec ws rm) cc maxL ret e s m args below meth c s₁ → c.maxLocals = maxL → Pc args s →
      W p l e (headSpec ws rm).room s m args below meth c s.heap [] 0 0 (vx_MQ below Qc XC args s mc ms free) (entryFrame m args maxL)) : vx_Met l y ws rm Pc Qc XC mc ms free := by
  refine MetFree.of_bodyS (code := cc) (maxLocals := maxL) (ret := ret) hy ?_ ?_
  · intro args s m h hn
    obtain ⟨m9, meth, c, hn9, h1, h2, h3, h4, -, h5, h6, -⟩ := Cond.codeWith_spec (atoms_spec (ws := ws) h _ (by rw [hw]; exact List.mem_cons_self))
    cases hn.symm.trans hn9
    exact ⟨meth, c, h1, h2, h3, h4, h5, h6⟩
  · intro p e s m args below meth c s₁ B hml hP _
    have hh0 : s₁.heap = s.heap := by rw [B.state]; rfl
    obtain ⟨t, a1, o, b1, b2, b3⟩ := body p e s m args below meth c s₁ B hml hP s₁ hh0 (Stand.of_body B)
    exact ⟨t, o, a1, b1, b2, b3⟩
/-! ===== END ===== -/
end
section
/-! ===== BEGIN printed: names, fields, word lists, decode rows ===== -/
def RX0 : String := "BatchOrder$Acts"
def TX0 : u_T := fun k => match k with
  | _ => ("", "", "", false)
def tyX0 : Nat → FieldType := fun k => match k with
  | _ => .int
abbrev wsX00 : List Cond := u_ws RX0 TX0 0
theorem nmX0 : ∀ a, a < 0 → ∀ b, b < 0 → a ≠ b → (TX0 a).2.1 ≠ (TX0 b).2.1 := by decide +kernel
theorem tyX0_ok : ∀ k, k < 0 → parseFieldDescriptor (TX0 k).2.2.1 = some (tyX0 k) := by decide +kernel
abbrev cX0_allows : ByteArray := prog_2_method_2_code
def yX0_allows : MethodName := ⟨RX0, "allows", "(II)Z"⟩
abbrev cX0_failure : ByteArray := prog_2_method_3_code
def yX0_failure : MethodName := ⟨RX0, "failure", "(ILBatchOrder$Content;I)I"⟩
abbrev cX0_failureOfCrop : ByteArray := prog_2_method_4_code
def yX0_failureOfCrop : MethodName := ⟨RX0, "failureOfCrop", "(LBatchOrder$Content;I)I"⟩
abbrev cX0_failureOfSwap : ByteArray := prog_2_method_5_code
def yX0_failureOfSwap : MethodName := ⟨RX0, "failureOfSwap", "(LBatchOrder$Content;I)I"⟩
abbrev cX0_alter : ByteArray := prog_2_method_6_code
def yX0_alter : MethodName := ⟨RX0, "alter", "(ILBatchOrder$Content;ILBatchOrder$Draws;LBatchOrder$Content;)V"⟩
abbrev cX0_turn : ByteArray := prog_2_method_7_code
def yX0_turn : MethodName := ⟨RX0, "turn", "(LBatchOrder$Content;ILBatchOrder$Content;)V"⟩
abbrev cX0_turnedPlace : ByteArray := prog_2_method_8_code
def yX0_turnedPlace : MethodName := ⟨RX0, "turnedPlace", "(LBatchOrder$Content;III)I"⟩
abbrev cX0_crop : ByteArray := prog_2_method_9_code
def yX0_crop : MethodName := ⟨RX0, "crop", "(LBatchOrder$Content;ILBatchOrder$Draws;LBatchOrder$Content;)V"⟩
abbrev cX0_addNoise : ByteArray := prog_2_method_10_code
def yX0_addNoise : MethodName := ⟨RX0, "addNoise", "(LBatchOrder$Content;ILBatchOrder$Draws;LBatchOrder$Content;)V"⟩
abbrev cX0_leaveOut : ByteArray := prog_2_method_11_code
def yX0_leaveOut : MethodName := ⟨RX0, "leaveOut", "(LBatchOrder$Content;ILBatchOrder$Draws;LBatchOrder$Content;)V"⟩
abbrev cX0_swapSome : ByteArray := prog_2_method_12_code
def yX0_swapSome : MethodName := ⟨RX0, "swapSome", "(LBatchOrder$Content;ILBatchOrder$Draws;LBatchOrder$Content;)V"⟩
def RX1 : String := "BatchOrder$Content"
def TX1 : u_T := fun k => match k with
  | 0 => ("BatchOrder$Content", "items", "[I", true)
  | 1 => ("BatchOrder$Content", "kind", "I", false)
  | 2 => ("BatchOrder$Content", "high", "I", false)
  | 3 => ("BatchOrder$Content", "wide", "I", false)
  | _ => ("BatchOrder$Content", "length", "I", false)
def tyX1 : Nat → FieldType := fun k => match k with
  | 0 => .array .int
  | 1 => .int
  | 2 => .int
  | 3 => .int
  | _ => .int
abbrev wsX10 : List Cond := u_ws RX1 TX1 5
theorem nmX1 : ∀ a, a < 5 → ∀ b, b < 5 → a ≠ b → (TX1 a).2.1 ≠ (TX1 b).2.1 := by decide +kernel
theorem tyX1_ok : ∀ k, k < 5 → parseFieldDescriptor (TX1 k).2.2.1 = some (tyX1 k) := by decide +kernel
abbrev cX1_init : ByteArray := prog_3_method_1_code
def yX1_init : MethodName := ⟨RX1, "<init>", "(IIII)V"⟩
abbrev cX1_holds : ByteArray := prog_3_method_2_code
def yX1_holds : MethodName := ⟨RX1, "holds", "(I)Z"⟩
abbrev cX1_item : ByteArray := prog_3_method_3_code
def yX1_item : MethodName := ⟨RX1, "item", "(I)I"⟩
abbrev cX1_put : ByteArray := prog_3_method_4_code
def yX1_put : MethodName := ⟨RX1, "put", "(II)V"⟩
abbrev cX1_append : ByteArray := prog_3_method_5_code
def yX1_append : MethodName := ⟨RX1, "append", "(I)V"⟩
abbrev cX1_becomePicture : ByteArray := prog_3_method_6_code
def yX1_becomePicture : MethodName := ⟨RX1, "becomePicture", "(II)V"⟩
abbrev cX1_becomeNoWords : ByteArray := prog_3_method_7_code
def yX1_becomeNoWords : MethodName := ⟨RX1, "becomeNoWords", "()V"⟩
abbrev cX1_swapWithNext : ByteArray := prog_3_method_8_code
def yX1_swapWithNext : MethodName := ⟨RX1, "swapWithNext", "(I)V"⟩
abbrev cX1_isLike : ByteArray := prog_3_method_9_code
def yX1_isLike : MethodName := ⟨RX1, "isLike", "(LBatchOrder$Content;)Z"⟩
def RX2 : String := "BatchOrder$Draws"
def TX2 : u_T := fun k => match k with
  | _ => ("BatchOrder$Draws", "state", "J", false)
def tyX2 : Nat → FieldType := fun k => match k with
  | _ => .long
abbrev wsX20 : List Cond := u_ws RX2 TX2 1
theorem nmX2 : ∀ a, a < 1 → ∀ b, b < 1 → a ≠ b → (TX2 a).2.1 ≠ (TX2 b).2.1 := by decide +kernel
theorem tyX2_ok : ∀ k, k < 1 → parseFieldDescriptor (TX2 k).2.2.1 = some (tyX2 k) := by decide +kernel
abbrev cX2_init : ByteArray := prog_4_method_1_code
def yX2_init : MethodName := ⟨RX2, "<init>", "()V"⟩
abbrev cX2_begin : ByteArray := prog_4_method_2_code
def yX2_begin : MethodName := ⟨RX2, "begin", "(J)V"⟩
abbrev cX2_key : ByteArray := prog_4_method_3_code
def yX2_key : MethodName := ⟨RX2, "key", "(I)V"⟩
abbrev cX2_below : ByteArray := prog_4_method_4_code
def yX2_below : MethodName := ⟨RX2, "below", "(I)I"⟩
abbrev cX2_shuffle : ByteArray := prog_4_method_5_code
def yX2_shuffle : MethodName := ⟨RX2, "shuffle", "([III)V"⟩
abbrev cX2_mixed : ByteArray := prog_4_method_6_code
def yX2_mixed : MethodName := ⟨RX2, "mixed", "(J)J"⟩
def RX3 : String := "BatchOrder$Order"
def TX3 : u_T := fun k => match k with
  | 0 => ("BatchOrder$Order", "rows", "LBatchOrder$Rows;", true)
  | 1 => ("BatchOrder$Order", "settings", "LBatchOrder$Settings;", true)
  | 2 => ("BatchOrder$Order", "draws", "LBatchOrder$Draws;", true)
  | 3 => ("BatchOrder$Order", "places", "[I", true)
  | 4 => ("BatchOrder$Order", "many", "I", false)
  | 5 => ("BatchOrder$Order", "scratch", "[I", true)
  | 6 => ("BatchOrder$Order", "firsts", "[I", true)
  | 7 => ("BatchOrder$Order", "sizes", "[I", true)
  | 8 => ("BatchOrder$Order", "taken", "[I", true)
  | _ => ("BatchOrder$Order", "mixings", "[I", true)
def tyX3 : Nat → FieldType := fun k => match k with
  | 0 => .object "BatchOrder$Rows"
  | 1 => .object "BatchOrder$Settings"
  | 2 => .object "BatchOrder$Draws"
  | 3 => .array .int
  | 4 => .int
  | 5 => .array .int
  | 6 => .array .int
  | 7 => .array .int
  | 8 => .array .int
  | _ => .array .int
abbrev wsX30 : List Cond := u_ws RX3 TX3 10
theorem nmX3 : ∀ a, a < 10 → ∀ b, b < 10 → a ≠ b → (TX3 a).2.1 ≠ (TX3 b).2.1 := by decide +kernel
theorem tyX3_ok : ∀ k, k < 10 → parseFieldDescriptor (TX3 k).2.2.1 = some (tyX3 k) := by decide +kernel
abbrev cX3_init : ByteArray := prog_5_method_1_code
def yX3_init : MethodName := ⟨RX3, "<init>", "(LBatchOrder$Rows;LBatchOrder$Settings;LBatchOrder$Draws;)V"⟩
abbrev cX3_make : ByteArray := prog_5_method_2_code
def yX3_make : MethodName := ⟨RX3, "make", "(II)Z"⟩
abbrev cX3_rowAt : ByteArray := prog_5_method_3_code
def yX3_rowAt : MethodName := ⟨RX3, "rowAt", "(I)I"⟩
abbrev cX3_hasEachOnce : ByteArray := prog_5_method_4_code
def yX3_hasEachOnce : MethodName := ⟨RX3, "hasEachOnce", "()Z"⟩
abbrev cX3_beginStream : ByteArray := prog_5_method_5_code
def yX3_beginStream : MethodName := ⟨RX3, "beginStream", "(II)V"⟩
abbrev cX3_makePlain : ByteArray := prog_5_method_6_code
def yX3_makePlain : MethodName := ⟨RX3, "makePlain", "()V"⟩
abbrev cX3_sortParts : ByteArray := prog_5_method_7_code
def yX3_sortParts : MethodName := ⟨RX3, "sortParts", "()V"⟩
abbrev cX3_sortByLength : ByteArray := prog_5_method_8_code
def yX3_sortByLength : MethodName := ⟨RX3, "sortByLength", "(II)V"⟩
abbrev cX3_makeWeighted : ByteArray := prog_5_method_9_code
def yX3_makeWeighted : MethodName := ⟨RX3, "makeWeighted", "()V"⟩
abbrev cX3_rowAbove : ByteArray := prog_5_method_10_code
def yX3_rowAbove : MethodName := ⟨RX3, "rowAbove", "(I)I"⟩
abbrev cX3_makeBalanced : ByteArray := prog_5_method_11_code
def yX3_makeBalanced : MethodName := ⟨RX3, "makeBalanced", "(I)V"⟩
abbrev cX3_layOutLabels : ByteArray := prog_5_method_12_code
def yX3_layOutLabels : MethodName := ⟨RX3, "layOutLabels", "()V"⟩
abbrev cX3_rowHeld : ByteArray := prog_5_method_13_code
def yX3_rowHeld : MethodName := ⟨RX3, "rowHeld", "(I)I"⟩
abbrev cX3_mixLabel : ByteArray := prog_5_method_14_code
def yX3_mixLabel : MethodName := ⟨RX3, "mixLabel", "(II)V"⟩
abbrev cX3_makeBuffered : ByteArray := prog_5_method_15_code
def yX3_makeBuffered : MethodName := ⟨RX3, "makeBuffered", "()V"⟩
def RX4 : String := "BatchOrder$Rows"
def TX4 : u_T := fun k => match k with
  | 0 => ("BatchOrder$Rows", "contents", "[LBatchOrder$Content;", true)
  | 1 => ("BatchOrder$Rows", "labels", "[I", true)
  | 2 => ("BatchOrder$Rows", "weights", "[I", true)
  | _ => ("BatchOrder$Rows", "many", "I", false)
def tyX4 : Nat → FieldType := fun k => match k with
  | 0 => .array (.object "BatchOrder$Content")
  | 1 => .array .int
  | 2 => .array .int
  | _ => .int
abbrev wsX40 : List Cond := u_ws RX4 TX4 4
theorem nmX4 : ∀ a, a < 4 → ∀ b, b < 4 → a ≠ b → (TX4 a).2.1 ≠ (TX4 b).2.1 := by decide +kernel
theorem tyX4_ok : ∀ k, k < 4 → parseFieldDescriptor (TX4 k).2.2.1 = some (tyX4 k) := by decide +kernel
abbrev cX4_init : ByteArray := prog_6_method_1_code
def yX4_init : MethodName := ⟨RX4, "<init>", "()V"⟩
abbrev cX4_isFull : ByteArray := prog_6_method_2_code
def yX4_isFull : MethodName := ⟨RX4, "isFull", "()Z"⟩
abbrev cX4_has : ByteArray := prog_6_method_3_code
def yX4_has : MethodName := ⟨RX4, "has", "(I)Z"⟩
abbrev cX4_find : ByteArray := prog_6_method_4_code
def yX4_find : MethodName := ⟨RX4, "find", "(I)LBatchOrder$Content;"⟩
abbrev cX4_append : ByteArray := prog_6_method_5_code
def yX4_append : MethodName := ⟨RX4, "append", "(LBatchOrder$Content;II)I"⟩
abbrev cX4_relabel : ByteArray := prog_6_method_6_code
def yX4_relabel : MethodName := ⟨RX4, "relabel", "(III)V"⟩
abbrev cX4_label : ByteArray := prog_6_method_7_code
def yX4_label : MethodName := ⟨RX4, "label", "(I)I"⟩
abbrev cX4_weight : ByteArray := prog_6_method_8_code
def yX4_weight : MethodName := ⟨RX4, "weight", "(I)I"⟩
abbrev cX4_length : ByteArray := prog_6_method_9_code
def yX4_length : MethodName := ⟨RX4, "length", "(I)I"⟩
abbrev cX4_sumOfWeights : ByteArray := prog_6_method_10_code
def yX4_sumOfWeights : MethodName := ⟨RX4, "sumOfWeights", "()I"⟩
def RX5 : String := "BatchOrder$Settings"
def TX5 : u_T := fun k => match k with
  | 0 => ("BatchOrder$Settings", "start", "J", false)
  | 1 => ("BatchOrder$Settings", "size", "I", false)
  | 2 => ("BatchOrder$Settings", "group", "I", false)
  | 3 => ("BatchOrder$Settings", "buffer", "I", false)
  | _ => ("BatchOrder$Settings", "drops", "I", false)
def tyX5 : Nat → FieldType := fun k => match k with
  | 0 => .long
  | 1 => .int
  | 2 => .int
  | 3 => .int
  | _ => .int
abbrev wsX50 : List Cond := u_ws RX5 TX5 5
theorem nmX5 : ∀ a, a < 5 → ∀ b, b < 5 → a ≠ b → (TX5 a).2.1 ≠ (TX5 b).2.1 := by decide +kernel
theorem tyX5_ok : ∀ k, k < 5 → parseFieldDescriptor (TX5 k).2.2.1 = some (tyX5 k) := by decide +kernel
abbrev cX5_init : ByteArray := prog_7_method_1_code
def yX5_init : MethodName := ⟨RX5, "<init>", "()V"⟩
abbrev cX5_allows : ByteArray := prog_7_method_2_code
def yX5_allows : MethodName := ⟨RX5, "allows", "(II)Z"⟩
abbrev cX5_exchange : ByteArray := prog_7_method_3_code
def yX5_exchange : MethodName := ⟨RX5, "exchange", "(II)I"⟩
abbrev cX5_batchesOf : ByteArray := prog_7_method_4_code
def yX5_batchesOf : MethodName := ⟨RX5, "batchesOf", "(I)I"⟩
def RX6 : String := "BatchOrder"
def TX6 : u_T := fun k => match k with
  | 0 => ("BatchOrder", "rows", "LBatchOrder$Rows;", true)
  | 1 => ("BatchOrder", "settings", "LBatchOrder$Settings;", true)
  | 2 => ("BatchOrder", "draws", "LBatchOrder$Draws;", true)
  | 3 => ("BatchOrder", "order", "LBatchOrder$Order;", true)
  | 4 => ("BatchOrder", "altered", "LBatchOrder$Content;", true)
  | 5 => ("BatchOrder", "wayAtHand", "I", false)
  | 6 => ("BatchOrder", "roundAtHand", "I", false)
  | _ => ("BatchOrder", "placeAtHand", "I", false)
def tyX6 : Nat → FieldType := fun k => match k with
  | 0 => .object "BatchOrder$Rows"
  | 1 => .object "BatchOrder$Settings"
  | 2 => .object "BatchOrder$Draws"
  | 3 => .object "BatchOrder$Order"
  | 4 => .object "BatchOrder$Content"
  | 5 => .int
  | 6 => .int
  | _ => .int
abbrev wsX60 : List Cond := u_ws RX6 TX6 8
theorem nmX6 : ∀ a, a < 8 → ∀ b, b < 8 → a ≠ b → (TX6 a).2.1 ≠ (TX6 b).2.1 := by decide +kernel
theorem tyX6_ok : ∀ k, k < 8 → parseFieldDescriptor (TX6 k).2.2.1 = some (tyX6 k) := by decide +kernel
abbrev cX6_init : ByteArray := prog_1_method_1_code
def yX6_init : MethodName := ⟨RX6, "<init>", "()V"⟩
abbrev cX6_row : ByteArray := prog_1_method_2_code
def yX6_row : MethodName := ⟨RX6, "row", "(III)I"⟩
abbrev cX6_picture : ByteArray := prog_1_method_3_code
def yX6_picture : MethodName := ⟨RX6, "picture", "(IIII)I"⟩
abbrev cX6_word : ByteArray := prog_1_method_4_code
def yX6_word : MethodName := ⟨RX6, "word", "(II)I"⟩
abbrev cX6_paint : ByteArray := prog_1_method_5_code
def yX6_paint : MethodName := ⟨RX6, "paint", "(IIJ)I"⟩
abbrev cX6_mark : ByteArray := prog_1_method_6_code
def yX6_mark : MethodName := ⟨RX6, "mark", "(III)I"⟩
abbrev cX6_of : ByteArray := prog_1_method_7_code
def yX6_of : MethodName := ⟨RX6, "of", "(II)I"⟩
abbrev cX6_seed : ByteArray := prog_1_method_8_code
def yX6_seed : MethodName := ⟨RX6, "seed", "(J)J"⟩
abbrev cX6_set : ByteArray := prog_1_method_9_code
def yX6_set : MethodName := ⟨RX6, "set", "(II)I"⟩
abbrev cX6_count : ByteArray := prog_1_method_10_code
def yX6_count : MethodName := ⟨RX6, "count", "()I"⟩
abbrev cX6_batch : ByteArray := prog_1_method_11_code
def yX6_batch : MethodName := ⟨RX6, "batch", "(IIII)I"⟩
abbrev cX6_share : ByteArray := prog_1_method_12_code
def yX6_share : MethodName := ⟨RX6, "share", "(IIIIII)I"⟩
abbrev cX6_once : ByteArray := prog_1_method_13_code
def yX6_once : MethodName := ⟨RX6, "once", "(II)I"⟩
abbrev cX6_resume : ByteArray := prog_1_method_14_code
def yX6_resume : MethodName := ⟨RX6, "resume", "(III)I"⟩
abbrev cX6_next : ByteArray := prog_1_method_15_code
def yX6_next : MethodName := ⟨RX6, "next", "()I"⟩
abbrev cX6_at : ByteArray := prog_1_method_16_code
def yX6_at : MethodName := ⟨RX6, "at", "(I)I"⟩
abbrev cX6_act : ByteArray := prog_1_method_17_code
def yX6_act : MethodName := ⟨RX6, "act", "(IIII)I"⟩
abbrev cX6_out : ByteArray := prog_1_method_18_code
def yX6_out : MethodName := ⟨RX6, "out", "(I)I"⟩
abbrev cX6_like : ByteArray := prog_1_method_19_code
def yX6_like : MethodName := ⟨RX6, "like", "(I)I"⟩
abbrev cX6_rowInBatch : ByteArray := prog_1_method_20_code
def yX6_rowInBatch : MethodName := ⟨RX6, "rowInBatch", "(IJ)I"⟩
abbrev cX6_isLabel : ByteArray := prog_1_method_21_code
def yX6_isLabel : MethodName := ⟨RX6, "isLabel", "(I)Z"⟩
abbrev cX6_isWeight : ByteArray := prog_1_method_22_code
def yX6_isWeight : MethodName := ⟨RX6, "isWeight", "(I)Z"⟩
abbrev cX6_isSide : ByteArray := prog_1_method_23_code
def yX6_isSide : MethodName := ⟨RX6, "isSide", "(I)Z"⟩
abbrev cX6_isWay : ByteArray := prog_1_method_24_code
def yX6_isWay : MethodName := ⟨RX6, "isWay", "(I)Z"⟩
abbrev cX6_isRound : ByteArray := prog_1_method_25_code
def yX6_isRound : MethodName := ⟨RX6, "isRound", "(I)Z"⟩
def RX7 : String := "BatchOrderModel"
def TX7 : u_T := fun k => match k with
  | 0 => ("BatchOrderModel", "thrown", "I", false)
  | 1 => ("BatchOrderModel", "seed", "J", false)
  | 2 => ("BatchOrderModel", "state", "J", false)
  | 3 => ("BatchOrderModel", "rows", "I", false)
  | 4 => ("BatchOrderModel", "kinds", "[I", true)
  | 5 => ("BatchOrderModel", "labels", "[I", true)
  | 6 => ("BatchOrderModel", "weights", "[I", true)
  | 7 => ("BatchOrderModel", "lengths", "[I", true)
  | 8 => ("BatchOrderModel", "highs", "[I", true)
  | 9 => ("BatchOrderModel", "wides", "[I", true)
  | 10 => ("BatchOrderModel", "items", "[I", true)
  | 11 => ("BatchOrderModel", "size", "I", false)
  | 12 => ("BatchOrderModel", "group", "I", false)
  | 13 => ("BatchOrderModel", "buffer", "I", false)
  | 14 => ("BatchOrderModel", "drops", "I", false)
  | 15 => ("BatchOrderModel", "order", "[I", true)
  | 16 => ("BatchOrderModel", "spare", "[I", true)
  | 17 => ("BatchOrderModel", "firsts", "[I", true)
  | 18 => ("BatchOrderModel", "manies", "[I", true)
  | 19 => ("BatchOrderModel", "comers", "[I", true)
  | 20 => ("BatchOrderModel", "times", "[I", true)
  | 21 => ("BatchOrderModel", "wayAt", "I", false)
  | 22 => ("BatchOrderModel", "roundAt", "I", false)
  | 23 => ("BatchOrderModel", "placeAt", "I", false)
  | 24 => ("BatchOrderModel", "outKind", "I", false)
  | 25 => ("BatchOrderModel", "outLength", "I", false)
  | 26 => ("BatchOrderModel", "outHigh", "I", false)
  | 27 => ("BatchOrderModel", "outWide", "I", false)
  | 28 => ("BatchOrderModel", "out", "[I", true)
  | _ => ("BatchOrderModel", "other", "[I", true)
def tyX7 : Nat → FieldType := fun k => match k with
  | 0 => .int
  | 1 => .long
  | 2 => .long
  | 3 => .int
  | 4 => .array .int
  | 5 => .array .int
  | 6 => .array .int
  | 7 => .array .int
  | 8 => .array .int
  | 9 => .array .int
  | 10 => .array .int
  | 11 => .int
  | 12 => .int
  | 13 => .int
  | 14 => .int
  | 15 => .array .int
  | 16 => .array .int
  | 17 => .array .int
  | 18 => .array .int
  | 19 => .array .int
  | 20 => .array .int
  | 21 => .int
  | 22 => .int
  | 23 => .int
  | 24 => .int
  | 25 => .int
  | 26 => .int
  | 27 => .int
  | 28 => .array .int
  | _ => .array .int
abbrev wsX70 : List Cond := u_ws RX7 TX7 30
theorem nmX7 : ∀ a, a < 30 → ∀ b, b < 30 → a ≠ b → (TX7 a).2.1 ≠ (TX7 b).2.1 := by decide +kernel
theorem tyX7_ok : ∀ k, k < 30 → parseFieldDescriptor (TX7 k).2.2.1 = some (tyX7 k) := by decide +kernel
abbrev cX7_init : ByteArray := prog_9_method_1_code
def yX7_init : MethodName := ⟨RX7, "<init>", "()V"⟩
abbrev cX7_thrown : ByteArray := prog_9_method_2_code
def yX7_thrown : MethodName := ⟨RX7, "thrown", "()I"⟩
abbrev cX7_in : ByteArray := prog_9_method_3_code
def yX7_in : MethodName := ⟨RX7, "in", "(JJJ)Z"⟩
abbrev cX7_mix : ByteArray := prog_9_method_4_code
def yX7_mix : MethodName := ⟨RX7, "mix", "(J)J"⟩
abbrev cX7_begin : ByteArray := prog_9_method_5_code
def yX7_begin : MethodName := ⟨RX7, "begin", "()V"⟩
abbrev cX7_with : ByteArray := prog_9_method_6_code
def yX7_with : MethodName := ⟨RX7, "with", "(J)V"⟩
abbrev cX7_draw : ByteArray := prog_9_method_7_code
def yX7_draw : MethodName := ⟨RX7, "draw", "(J)I"⟩
abbrev cX7_mixes : ByteArray := prog_9_method_8_code
def yX7_mixes : MethodName := ⟨RX7, "mixes", "([III)V"⟩
abbrev cX7_isRow : ByteArray := prog_9_method_9_code
def yX7_isRow : MethodName := ⟨RX7, "isRow", "(I)Z"⟩
abbrev cX7_comes : ByteArray := prog_9_method_10_code
def yX7_comes : MethodName := ⟨RX7, "comes", "(IIIII)I"⟩
abbrev cX7_row : ByteArray := prog_9_method_11_code
def yX7_row : MethodName := ⟨RX7, "row", "(III)I"⟩
abbrev cX7_picture : ByteArray := prog_9_method_12_code
def yX7_picture : MethodName := ⟨RX7, "picture", "(IIII)I"⟩
abbrev cX7_word : ByteArray := prog_9_method_13_code
def yX7_word : MethodName := ⟨RX7, "word", "(II)I"⟩
abbrev cX7_paint : ByteArray := prog_9_method_14_code
def yX7_paint : MethodName := ⟨RX7, "paint", "(IIJ)I"⟩
abbrev cX7_mark : ByteArray := prog_9_method_15_code
def yX7_mark : MethodName := ⟨RX7, "mark", "(III)I"⟩
abbrev cX7_of : ByteArray := prog_9_method_16_code
def yX7_of : MethodName := ⟨RX7, "of", "(II)I"⟩
abbrev cX7_seed : ByteArray := prog_9_method_17_code
def yX7_seed : MethodName := ⟨RX7, "seed", "(J)J"⟩
abbrev cX7_set : ByteArray := prog_9_method_18_code
def yX7_set : MethodName := ⟨RX7, "set", "(II)I"⟩
abbrev cX7_weightsOfAll : ByteArray := prog_9_method_19_code
def yX7_weightsOfAll : MethodName := ⟨RX7, "weightsOfAll", "()I"⟩
abbrev cX7_orders : ByteArray := prog_9_method_20_code
def yX7_orders : MethodName := ⟨RX7, "orders", "(II)Z"⟩
abbrev cX7_byLengths : ByteArray := prog_9_method_21_code
def yX7_byLengths : MethodName := ⟨RX7, "byLengths", "()V"⟩
abbrev cX7_byWeights : ByteArray := prog_9_method_22_code
def yX7_byWeights : MethodName := ⟨RX7, "byWeights", "()Z"⟩
abbrev cX7_again : ByteArray := prog_9_method_23_code
def yX7_again : MethodName := ⟨RX7, "again", "(II)V"⟩
abbrev cX7_balanced : ByteArray := prog_9_method_24_code
def yX7_balanced : MethodName := ⟨RX7, "balanced", "(I)V"⟩
abbrev cX7_buffered : ByteArray := prog_9_method_25_code
def yX7_buffered : MethodName := ⟨RX7, "buffered", "()V"⟩
abbrev cX7_isAsked : ByteArray := prog_9_method_26_code
def yX7_isAsked : MethodName := ⟨RX7, "isAsked", "(II)Z"⟩
abbrev cX7_count : ByteArray := prog_9_method_27_code
def yX7_count : MethodName := ⟨RX7, "count", "()I"⟩
abbrev cX7_manyOf : ByteArray := prog_9_method_28_code
def yX7_manyOf : MethodName := ⟨RX7, "manyOf", "(I)I"⟩
abbrev cX7_batch : ByteArray := prog_9_method_29_code
def yX7_batch : MethodName := ⟨RX7, "batch", "(IIII)I"⟩
abbrev cX7_share : ByteArray := prog_9_method_30_code
def yX7_share : MethodName := ⟨RX7, "share", "(IIIIII)I"⟩
abbrev cX7_once : ByteArray := prog_9_method_31_code
def yX7_once : MethodName := ⟨RX7, "once", "(II)I"⟩
abbrev cX7_resume : ByteArray := prog_9_method_32_code
def yX7_resume : MethodName := ⟨RX7, "resume", "(III)I"⟩
abbrev cX7_next : ByteArray := prog_9_method_33_code
def yX7_next : MethodName := ⟨RX7, "next", "()I"⟩
abbrev cX7_at : ByteArray := prog_9_method_34_code
def yX7_at : MethodName := ⟨RX7, "at", "(I)I"⟩
abbrev cX7_failure : ByteArray := prog_9_method_35_code
def yX7_failure : MethodName := ⟨RX7, "failure", "(III)I"⟩
abbrev cX7_act : ByteArray := prog_9_method_36_code
def yX7_act : MethodName := ⟨RX7, "act", "(IIII)I"⟩
abbrev cX7_turn : ByteArray := prog_9_method_37_code
def yX7_turn : MethodName := ⟨RX7, "turn", "()V"⟩
abbrev cX7_crop : ByteArray := prog_9_method_38_code
def yX7_crop : MethodName := ⟨RX7, "crop", "(I)V"⟩
abbrev cX7_out : ByteArray := prog_9_method_39_code
def yX7_out : MethodName := ⟨RX7, "out", "(I)I"⟩
abbrev cX7_like : ByteArray := prog_9_method_40_code
def yX7_like : MethodName := ⟨RX7, "like", "(I)I"⟩
def RJ9 : String := "java/lang/Math"
def TJ9 : u_T := fun k => match k with
  | _ => ("", "", "", false)
def tyJ9 : Nat → FieldType := fun k => match k with
  | _ => .int
abbrev wsJ90 : List Cond := u_ws RJ9 TJ9 0
theorem nmJ9 : ∀ a, a < 0 → ∀ b, b < 0 → a ≠ b → (TJ9 a).2.1 ≠ (TJ9 b).2.1 := by decide +kernel
theorem tyJ9_ok : ∀ k, k < 0 → parseFieldDescriptor (TJ9 k).2.2.1 = some (tyJ9 k) := by decide +kernel
abbrev cJ9_max_7cf53 : ByteArray := prog_12_method_65_code
def yJ9_max_7cf53 : MethodName := ⟨RJ9, "max", "(II)I"⟩
abbrev cJ9_min_7cf53 : ByteArray := prog_12_method_69_code
def yJ9_min_7cf53 : MethodName := ⟨RJ9, "min", "(II)I"⟩
def RJ0 : String := "java/lang/String"
def TJ0 : u_T := fun k => match k with
  | _ => ("", "", "", false)
def tyJ0 : Nat → FieldType := fun k => match k with
  | _ => .int
abbrev wsJ00 : List Cond := u_ws RJ0 TJ0 0
theorem nmJ0 : ∀ a, a < 0 → ∀ b, b < 0 → a ≠ b → (TJ0 a).2.1 ≠ (TJ0 b).2.1 := by decide +kernel
theorem tyJ0_ok : ∀ k, k < 0 → parseFieldDescriptor (TJ0 k).2.2.1 = some (tyJ0 k) := by decide +kernel
def RL : String := "BatchOrderLaw"
abbrev cL_count : ByteArray := method_3_code
def yL_count : MethodName := ⟨RL, "count", "(LBatchOrder;[J)I"⟩
abbrev cL_law : ByteArray := code
def yL_law : MethodName := ⟨RL, "law", "([I)Z"⟩
def wsX0_allows : List Cond := .code yX0_allows cX0_allows 2 (some .boolean) :: ([])
def wsX0_failureOfCrop : List Cond := .code yX0_failureOfCrop cX0_failureOfCrop 2 (some .int) :: ([] ++ wsX10)
def wsX0_failureOfSwap : List Cond := .code yX0_failureOfSwap cX0_failureOfSwap 2 (some .int) :: ([] ++ wsX10)
def wsX0_failure : List Cond := .code yX0_failure cX0_failure 4 (some .int) :: ([.methodLink RX0 17 yX0_failureOfCrop, .static yX0_failureOfCrop, .initialized RX0, .code yX0_failureOfCrop cX0_failureOfCrop 2 (some .int), .methodLink RX0 24 yX0_failureOfSwap, .static yX0_failureOfSwap, .code yX0_failureOfSwap cX0_failureOfSwap 2 (some .int)] ++ wsX10)
def wsX2_mixed : List Cond := .code yX2_mixed cX2_mixed 2 (some .long) :: ([.constantLong RX2 23 (-4658895280553007687), .constantLong RX2 25 (-7723592293110705685)])
def wsX2_below : List Cond := .code yX2_below cX2_below 2 (some .int) :: ([.fieldLink RX2 7 "BatchOrder$Draws" "state" "J", .constantLong RX2 13 (-7046029254386353131), .methodLink RX2 15 yX2_mixed, .static yX2_mixed, .initialized RX2, .code yX2_mixed cX2_mixed 2 (some .long), .constantLong RX2 23 (-4658895280553007687), .constantLong RX2 25 (-7723592293110705685)] ++ wsX20)
def wsX1_becomePicture : List Cond := .code yX1_becomePicture cX1_becomePicture 3 none :: ([.fieldLink RX1 21 "BatchOrder$Content" "kind" "I", .fieldLink RX1 25 "BatchOrder$Content" "high" "I", .fieldLink RX1 28 "BatchOrder$Content" "wide" "I", .fieldLink RX1 31 "BatchOrder$Content" "length" "I"] ++ wsX10)
def wsX0_turnedPlace : List Cond := .code yX0_turnedPlace cX0_turnedPlace 6 (some .int) :: ([] ++ wsX10)
def wsX1_holds : List Cond := .code yX1_holds cX1_holds 2 (some .boolean) :: ([.fieldLink RX1 31 "BatchOrder$Content" "length" "I", .fieldLink RX1 15 "BatchOrder$Content" "items" "[I"] ++ wsX10)
def wsX1_item : List Cond := .code yX1_item cX1_item 2 (some .int) :: ([.fieldLink RX1 15 "BatchOrder$Content" "items" "[I", .methodLink RX1 34 yX1_holds, .instanceMethod yX1_holds, .selects RX1 yX1_holds yX1_holds, .initialized RX1, .code yX1_holds cX1_holds 2 (some .boolean), .fieldLink RX1 31 "BatchOrder$Content" "length" "I"] ++ wsX10)
def wsX1_put : List Cond := .code yX1_put cX1_put 3 none :: ([.fieldLink RX1 15 "BatchOrder$Content" "items" "[I", .methodLink RX1 34 yX1_holds, .instanceMethod yX1_holds, .selects RX1 yX1_holds yX1_holds, .initialized RX1, .code yX1_holds cX1_holds 2 (some .boolean), .fieldLink RX1 31 "BatchOrder$Content" "length" "I"] ++ wsX10)
def wsX0_turn_r1 : List Cond := [Cond.methodLink RX0 56 yX1_becomePicture, Cond.instanceMethod yX1_becomePicture, Cond.selects RX1 yX1_becomePicture yX1_becomePicture, Cond.initialized RX1, Cond.code yX1_becomePicture cX1_becomePicture 3 none, Cond.fieldLink RX1 21 "BatchOrder$Content" "kind" "I", Cond.fieldLink RX1 25 "BatchOrder$Content" "high" "I", Cond.fieldLink RX1 28 "BatchOrder$Content" "wide" "I", Cond.fieldLink RX1 31 "BatchOrder$Content" "length" "I", Cond.methodLink RX0 60 yX0_turnedPlace, Cond.static yX0_turnedPlace, Cond.initialized RX0, Cond.code yX0_turnedPlace cX0_turnedPlace 6 (some .int), Cond.methodLink RX0 64 yX1_item, Cond.instanceMethod yX1_item, Cond.selects RX1 yX1_item yX1_item, Cond.code yX1_item cX1_item 2 (some .int), Cond.fieldLink RX1 15 "BatchOrder$Content" "items" "[I", Cond.methodLink RX1 34 yX1_holds, Cond.instanceMethod yX1_holds, Cond.selects RX1 yX1_holds yX1_holds, Cond.code yX1_holds cX1_holds 2 (some .boolean), Cond.methodLink RX0 67 yX1_put, Cond.instanceMethod yX1_put]
def wsX0_turn_r2 : List Cond := [Cond.selects RX1 yX1_put yX1_put, Cond.code yX1_put cX1_put 3 none]
def wsX0_turn : List Cond := .code yX0_turn cX0_turn 6 none :: ((wsX0_turn_r1 ++ wsX0_turn_r2) ++ wsX10)
def wsX0_crop_r1 : List Cond := [Cond.methodLink RX0 33 yX2_below, Cond.instanceMethod yX2_below, Cond.selects RX2 yX2_below yX2_below, Cond.initialized RX2, Cond.code yX2_below cX2_below 2 (some .int), Cond.fieldLink RX2 7 "BatchOrder$Draws" "state" "J", Cond.constantLong RX2 13 (-7046029254386353131), Cond.methodLink RX2 15 yX2_mixed, Cond.static yX2_mixed, Cond.code yX2_mixed cX2_mixed 2 (some .long), Cond.constantLong RX2 23 (-4658895280553007687), Cond.constantLong RX2 25 (-7723592293110705685), Cond.methodLink RX0 56 yX1_becomePicture, Cond.instanceMethod yX1_becomePicture, Cond.selects RX1 yX1_becomePicture yX1_becomePicture, Cond.initialized RX1, Cond.code yX1_becomePicture cX1_becomePicture 3 none, Cond.fieldLink RX1 21 "BatchOrder$Content" "kind" "I", Cond.fieldLink RX1 25 "BatchOrder$Content" "high" "I", Cond.fieldLink RX1 28 "BatchOrder$Content" "wide" "I", Cond.fieldLink RX1 31 "BatchOrder$Content" "length" "I", Cond.methodLink RX0 64 yX1_item, Cond.instanceMethod yX1_item, Cond.selects RX1 yX1_item yX1_item]
def wsX0_crop_r2 : List Cond := [Cond.code yX1_item cX1_item 2 (some .int), Cond.fieldLink RX1 15 "BatchOrder$Content" "items" "[I", Cond.methodLink RX1 34 yX1_holds, Cond.instanceMethod yX1_holds, Cond.selects RX1 yX1_holds yX1_holds, Cond.code yX1_holds cX1_holds 2 (some .boolean), Cond.methodLink RX0 67 yX1_put, Cond.instanceMethod yX1_put, Cond.selects RX1 yX1_put yX1_put, Cond.code yX1_put cX1_put 3 none]
def wsX0_crop : List Cond := .code yX0_crop cX0_crop 8 none :: ((wsX0_crop_r1 ++ wsX0_crop_r2) ++ wsX10 ++ wsX20)
def wsX0_addNoise_r1 : List Cond := [Cond.methodLink RX0 56 yX1_becomePicture, Cond.instanceMethod yX1_becomePicture, Cond.selects RX1 yX1_becomePicture yX1_becomePicture, Cond.initialized RX1, Cond.code yX1_becomePicture cX1_becomePicture 3 none, Cond.fieldLink RX1 21 "BatchOrder$Content" "kind" "I", Cond.fieldLink RX1 25 "BatchOrder$Content" "high" "I", Cond.fieldLink RX1 28 "BatchOrder$Content" "wide" "I", Cond.fieldLink RX1 31 "BatchOrder$Content" "length" "I", Cond.methodLink RX0 64 yX1_item, Cond.instanceMethod yX1_item, Cond.selects RX1 yX1_item yX1_item, Cond.code yX1_item cX1_item 2 (some .int), Cond.fieldLink RX1 15 "BatchOrder$Content" "items" "[I", Cond.methodLink RX1 34 yX1_holds, Cond.instanceMethod yX1_holds, Cond.selects RX1 yX1_holds yX1_holds, Cond.code yX1_holds cX1_holds 2 (some .boolean), Cond.methodLink RX0 33 yX2_below, Cond.instanceMethod yX2_below, Cond.selects RX2 yX2_below yX2_below, Cond.initialized RX2, Cond.code yX2_below cX2_below 2 (some .int), Cond.fieldLink RX2 7 "BatchOrder$Draws" "state" "J"]
def wsX0_addNoise_r2 : List Cond := [Cond.constantLong RX2 13 (-7046029254386353131), Cond.methodLink RX2 15 yX2_mixed, Cond.static yX2_mixed, Cond.code yX2_mixed cX2_mixed 2 (some .long), Cond.constantLong RX2 23 (-4658895280553007687), Cond.constantLong RX2 25 (-7723592293110705685), Cond.methodLink RX0 67 yX1_put, Cond.instanceMethod yX1_put, Cond.selects RX1 yX1_put yX1_put, Cond.code yX1_put cX1_put 3 none]
def wsX0_addNoise : List Cond := .code yX0_addNoise cX0_addNoise 5 none :: ((wsX0_addNoise_r1 ++ wsX0_addNoise_r2) ++ wsX10 ++ wsX20)
def wsX1_becomeNoWords : List Cond := .code yX1_becomeNoWords cX1_becomeNoWords 1 none :: ([.fieldLink RX1 21 "BatchOrder$Content" "kind" "I", .fieldLink RX1 25 "BatchOrder$Content" "high" "I", .fieldLink RX1 28 "BatchOrder$Content" "wide" "I", .fieldLink RX1 31 "BatchOrder$Content" "length" "I"] ++ wsX10)
def wsX1_append : List Cond := .code yX1_append cX1_append 2 none :: ([.fieldLink RX1 31 "BatchOrder$Content" "length" "I", .fieldLink RX1 15 "BatchOrder$Content" "items" "[I"] ++ wsX10)
def wsX0_leaveOut_r1 : List Cond := [Cond.methodLink RX0 70 yX1_becomeNoWords, Cond.instanceMethod yX1_becomeNoWords, Cond.selects RX1 yX1_becomeNoWords yX1_becomeNoWords, Cond.initialized RX1, Cond.code yX1_becomeNoWords cX1_becomeNoWords 1 none, Cond.fieldLink RX1 21 "BatchOrder$Content" "kind" "I", Cond.fieldLink RX1 25 "BatchOrder$Content" "high" "I", Cond.fieldLink RX1 28 "BatchOrder$Content" "wide" "I", Cond.fieldLink RX1 31 "BatchOrder$Content" "length" "I", Cond.methodLink RX0 33 yX2_below, Cond.instanceMethod yX2_below, Cond.selects RX2 yX2_below yX2_below, Cond.initialized RX2, Cond.code yX2_below cX2_below 2 (some .int), Cond.fieldLink RX2 7 "BatchOrder$Draws" "state" "J", Cond.constantLong RX2 13 (-7046029254386353131), Cond.methodLink RX2 15 yX2_mixed, Cond.static yX2_mixed, Cond.code yX2_mixed cX2_mixed 2 (some .long), Cond.constantLong RX2 23 (-4658895280553007687), Cond.constantLong RX2 25 (-7723592293110705685), Cond.methodLink RX0 64 yX1_item, Cond.instanceMethod yX1_item, Cond.selects RX1 yX1_item yX1_item]
def wsX0_leaveOut_r2 : List Cond := [Cond.code yX1_item cX1_item 2 (some .int), Cond.fieldLink RX1 15 "BatchOrder$Content" "items" "[I", Cond.methodLink RX1 34 yX1_holds, Cond.instanceMethod yX1_holds, Cond.selects RX1 yX1_holds yX1_holds, Cond.code yX1_holds cX1_holds 2 (some .boolean), Cond.methodLink RX0 73 yX1_append, Cond.instanceMethod yX1_append, Cond.selects RX1 yX1_append yX1_append, Cond.code yX1_append cX1_append 2 none]
def wsX0_leaveOut : List Cond := .code yX0_leaveOut cX0_leaveOut 5 none :: ((wsX0_leaveOut_r1 ++ wsX0_leaveOut_r2) ++ wsX10 ++ wsX20)
def wsX1_swapWithNext : List Cond := .code yX1_swapWithNext cX1_swapWithNext 3 none :: ([.methodLink RX1 38 yX1_item, .instanceMethod yX1_item, .selects RX1 yX1_item yX1_item, .initialized RX1, .code yX1_item cX1_item 2 (some .int), .fieldLink RX1 15 "BatchOrder$Content" "items" "[I", .methodLink RX1 34 yX1_holds, .instanceMethod yX1_holds, .selects RX1 yX1_holds yX1_holds, .code yX1_holds cX1_holds 2 (some .boolean), .fieldLink RX1 31 "BatchOrder$Content" "length" "I", .methodLink RX1 42 yX1_put, .instanceMethod yX1_put, .selects RX1 yX1_put yX1_put, .code yX1_put cX1_put 3 none] ++ wsX10)
def wsX0_swapSome_r1 : List Cond := [Cond.methodLink RX0 70 yX1_becomeNoWords, Cond.instanceMethod yX1_becomeNoWords, Cond.selects RX1 yX1_becomeNoWords yX1_becomeNoWords, Cond.initialized RX1, Cond.code yX1_becomeNoWords cX1_becomeNoWords 1 none, Cond.fieldLink RX1 21 "BatchOrder$Content" "kind" "I", Cond.fieldLink RX1 25 "BatchOrder$Content" "high" "I", Cond.fieldLink RX1 28 "BatchOrder$Content" "wide" "I", Cond.fieldLink RX1 31 "BatchOrder$Content" "length" "I", Cond.methodLink RX0 64 yX1_item, Cond.instanceMethod yX1_item, Cond.selects RX1 yX1_item yX1_item, Cond.code yX1_item cX1_item 2 (some .int), Cond.fieldLink RX1 15 "BatchOrder$Content" "items" "[I", Cond.methodLink RX1 34 yX1_holds, Cond.instanceMethod yX1_holds, Cond.selects RX1 yX1_holds yX1_holds, Cond.code yX1_holds cX1_holds 2 (some .boolean), Cond.methodLink RX0 73 yX1_append, Cond.instanceMethod yX1_append, Cond.selects RX1 yX1_append yX1_append, Cond.code yX1_append cX1_append 2 none, Cond.methodLink RX0 33 yX2_below, Cond.instanceMethod yX2_below]
def wsX0_swapSome_r2 : List Cond := [Cond.selects RX2 yX2_below yX2_below, Cond.initialized RX2, Cond.code yX2_below cX2_below 2 (some .int), Cond.fieldLink RX2 7 "BatchOrder$Draws" "state" "J", Cond.constantLong RX2 13 (-7046029254386353131), Cond.methodLink RX2 15 yX2_mixed, Cond.static yX2_mixed, Cond.code yX2_mixed cX2_mixed 2 (some .long), Cond.constantLong RX2 23 (-4658895280553007687), Cond.constantLong RX2 25 (-7723592293110705685), Cond.methodLink RX0 77 yX1_swapWithNext, Cond.instanceMethod yX1_swapWithNext, Cond.selects RX1 yX1_swapWithNext yX1_swapWithNext, Cond.code yX1_swapWithNext cX1_swapWithNext 3 none, Cond.methodLink RX1 38 yX1_item, Cond.methodLink RX1 42 yX1_put, Cond.instanceMethod yX1_put, Cond.selects RX1 yX1_put yX1_put, Cond.code yX1_put cX1_put 3 none]
def wsX0_swapSome : List Cond := .code yX0_swapSome cX0_swapSome 5 none :: ((wsX0_swapSome_r1 ++ wsX0_swapSome_r2) ++ wsX10 ++ wsX20)
def wsX0_alter_r1 : List Cond := [Cond.methodLink RX0 33 yX2_below, Cond.instanceMethod yX2_below, Cond.selects RX2 yX2_below yX2_below, Cond.initialized RX2, Cond.code yX2_below cX2_below 2 (some .int), Cond.fieldLink RX2 7 "BatchOrder$Draws" "state" "J", Cond.constantLong RX2 13 (-7046029254386353131), Cond.methodLink RX2 15 yX2_mixed, Cond.static yX2_mixed, Cond.code yX2_mixed cX2_mixed 2 (some .long), Cond.constantLong RX2 23 (-4658895280553007687), Cond.constantLong RX2 25 (-7723592293110705685), Cond.methodLink RX0 39 yX0_turn, Cond.static yX0_turn, Cond.initialized RX0, Cond.code yX0_turn cX0_turn 6 none, Cond.methodLink RX0 56 yX1_becomePicture, Cond.instanceMethod yX1_becomePicture, Cond.selects RX1 yX1_becomePicture yX1_becomePicture, Cond.initialized RX1, Cond.code yX1_becomePicture cX1_becomePicture 3 none, Cond.fieldLink RX1 21 "BatchOrder$Content" "kind" "I", Cond.fieldLink RX1 25 "BatchOrder$Content" "high" "I", Cond.fieldLink RX1 28 "BatchOrder$Content" "wide" "I"]
def wsX0_alter_r2 : List Cond := [Cond.fieldLink RX1 31 "BatchOrder$Content" "length" "I", Cond.methodLink RX0 60 yX0_turnedPlace, Cond.static yX0_turnedPlace, Cond.code yX0_turnedPlace cX0_turnedPlace 6 (some .int), Cond.methodLink RX0 64 yX1_item, Cond.instanceMethod yX1_item, Cond.selects RX1 yX1_item yX1_item, Cond.code yX1_item cX1_item 2 (some .int), Cond.fieldLink RX1 15 "BatchOrder$Content" "items" "[I", Cond.methodLink RX1 34 yX1_holds, Cond.instanceMethod yX1_holds, Cond.selects RX1 yX1_holds yX1_holds, Cond.code yX1_holds cX1_holds 2 (some .boolean), Cond.methodLink RX0 67 yX1_put, Cond.instanceMethod yX1_put, Cond.selects RX1 yX1_put yX1_put, Cond.code yX1_put cX1_put 3 none, Cond.methodLink RX0 43 yX0_crop, Cond.static yX0_crop, Cond.code yX0_crop cX0_crop 8 none, Cond.methodLink RX0 47 yX0_addNoise, Cond.static yX0_addNoise, Cond.code yX0_addNoise cX0_addNoise 5 none, Cond.methodLink RX0 50 yX0_leaveOut]
def wsX0_alter_r3 : List Cond := [Cond.static yX0_leaveOut, Cond.code yX0_leaveOut cX0_leaveOut 5 none, Cond.methodLink RX0 70 yX1_becomeNoWords, Cond.instanceMethod yX1_becomeNoWords, Cond.selects RX1 yX1_becomeNoWords yX1_becomeNoWords, Cond.code yX1_becomeNoWords cX1_becomeNoWords 1 none, Cond.methodLink RX0 73 yX1_append, Cond.instanceMethod yX1_append, Cond.selects RX1 yX1_append yX1_append, Cond.code yX1_append cX1_append 2 none, Cond.methodLink RX0 53 yX0_swapSome, Cond.static yX0_swapSome, Cond.code yX0_swapSome cX0_swapSome 5 none, Cond.methodLink RX0 77 yX1_swapWithNext, Cond.instanceMethod yX1_swapWithNext, Cond.selects RX1 yX1_swapWithNext yX1_swapWithNext, Cond.code yX1_swapWithNext cX1_swapWithNext 3 none, Cond.methodLink RX1 38 yX1_item, Cond.methodLink RX1 42 yX1_put]
def wsX0_alter : List Cond := .code yX0_alter cX0_alter 5 none :: ((wsX0_alter_r1 ++ (wsX0_alter_r2 ++ wsX0_alter_r3)) ++ wsX20 ++ wsX10)
def wsX1_init : List Cond := .code yX1_init cX1_init 5 none :: ([.methodLink RX1 3 objectInit, .instanceMethod objectInit, .code objectInit ⟨#[0xb1]⟩ 1 none, .methodLink RX1 9 Lib.Math.max.name, .static Lib.Math.max.name, .initialized "java/lang/Math", .code Lib.Math.max.name Lib.Math.max.code 2 (some .int), .arrayClass .int, .fieldLink RX1 15 "BatchOrder$Content" "items" "[I", .fieldLink RX1 21 "BatchOrder$Content" "kind" "I", .fieldLink RX1 25 "BatchOrder$Content" "high" "I", .fieldLink RX1 28 "BatchOrder$Content" "wide" "I", .fieldLink RX1 31 "BatchOrder$Content" "length" "I"] ++ wsX10)
def wsX1_isLike : List Cond := .code yX1_isLike cX1_isLike 3 (some .boolean) :: ([.fieldLink RX1 21 "BatchOrder$Content" "kind" "I", .fieldLink RX1 25 "BatchOrder$Content" "high" "I", .fieldLink RX1 28 "BatchOrder$Content" "wide" "I", .fieldLink RX1 31 "BatchOrder$Content" "length" "I", .methodLink RX1 38 yX1_item, .instanceMethod yX1_item, .selects RX1 yX1_item yX1_item, .initialized RX1, .code yX1_item cX1_item 2 (some .int), .fieldLink RX1 15 "BatchOrder$Content" "items" "[I", .methodLink RX1 34 yX1_holds, .instanceMethod yX1_holds, .selects RX1 yX1_holds yX1_holds, .code yX1_holds cX1_holds 2 (some .boolean)] ++ wsX10)
def wsX2_init : List Cond := .code yX2_init cX2_init 1 none :: ([.methodLink RX2 1 objectInit, .instanceMethod objectInit, .code objectInit ⟨#[0xb1]⟩ 1 none, .fieldLink RX2 7 "BatchOrder$Draws" "state" "J"] ++ wsX20)
def wsX2_begin : List Cond := .code yX2_begin cX2_begin 3 none :: ([.fieldLink RX2 7 "BatchOrder$Draws" "state" "J"] ++ wsX20)
def wsX2_key : List Cond := .code yX2_key cX2_key 2 none :: ([.fieldLink RX2 7 "BatchOrder$Draws" "state" "J", .constantLong RX2 13 (-7046029254386353131), .methodLink RX2 15 yX2_mixed, .static yX2_mixed, .initialized RX2, .code yX2_mixed cX2_mixed 2 (some .long), .constantLong RX2 23 (-4658895280553007687), .constantLong RX2 25 (-7723592293110705685)] ++ wsX20)
def wsX2_shuffle : List Cond := .code yX2_shuffle cX2_shuffle 7 none :: ([.methodLink RX2 19 yX2_below, .instanceMethod yX2_below, .selects RX2 yX2_below yX2_below, .initialized RX2, .code yX2_below cX2_below 2 (some .int), .fieldLink RX2 7 "BatchOrder$Draws" "state" "J", .constantLong RX2 13 (-7046029254386353131), .methodLink RX2 15 yX2_mixed, .static yX2_mixed, .code yX2_mixed cX2_mixed 2 (some .long), .constantLong RX2 23 (-4658895280553007687), .constantLong RX2 25 (-7723592293110705685)] ++ wsX20)
def wsX3_init : List Cond := .code yX3_init cX3_init 4 none :: ([.methodLink RX3 3 objectInit, .instanceMethod objectInit, .code objectInit ⟨#[0xb1]⟩ 1 none, .arrayClass .int, .fieldLink RX3 9 "BatchOrder$Order" "places" "[I", .fieldLink RX3 15 "BatchOrder$Order" "many" "I", .fieldLink RX3 19 "BatchOrder$Order" "scratch" "[I", .fieldLink RX3 22 "BatchOrder$Order" "firsts" "[I", .fieldLink RX3 25 "BatchOrder$Order" "sizes" "[I", .fieldLink RX3 28 "BatchOrder$Order" "taken" "[I", .fieldLink RX3 31 "BatchOrder$Order" "mixings" "[I", .fieldLink RX3 34 "BatchOrder$Order" "rows" "LBatchOrder$Rows;", .fieldLink RX3 38 "BatchOrder$Order" "settings" "LBatchOrder$Settings;", .fieldLink RX3 42 "BatchOrder$Order" "draws" "LBatchOrder$Draws;"] ++ wsX30)
def wsX4_has : List Cond := .code yX4_has cX4_has 2 (some .boolean) :: ([.fieldLink RX4 24 "BatchOrder$Rows" "many" "I"] ++ wsX40)
def wsX4_weight : List Cond := .code yX4_weight cX4_weight 2 (some .int) :: ([.fieldLink RX4 21 "BatchOrder$Rows" "weights" "[I", .methodLink RX4 28 yX4_has, .instanceMethod yX4_has, .selects RX4 yX4_has yX4_has, .initialized RX4, .code yX4_has cX4_has 2 (some .boolean), .fieldLink RX4 24 "BatchOrder$Rows" "many" "I"] ++ wsX40)
def wsX4_sumOfWeights : List Cond := .code yX4_sumOfWeights cX4_sumOfWeights 3 (some .int) :: ([.fieldLink RX4 24 "BatchOrder$Rows" "many" "I", .methodLink RX4 47 yX4_weight, .instanceMethod yX4_weight, .selects RX4 yX4_weight yX4_weight, .initialized RX4, .code yX4_weight cX4_weight 2 (some .int), .fieldLink RX4 21 "BatchOrder$Rows" "weights" "[I", .methodLink RX4 28 yX4_has, .instanceMethod yX4_has, .selects RX4 yX4_has yX4_has, .code yX4_has cX4_has 2 (some .boolean)] ++ wsX40)
def wsX3_beginStream : List Cond := .code yX3_beginStream cX3_beginStream 3 none :: ([.fieldLink RX3 42 "BatchOrder$Order" "draws" "LBatchOrder$Draws;", .fieldLink RX3 38 "BatchOrder$Order" "settings" "LBatchOrder$Settings;", .methodLink RX3 85 yX2_begin, .instanceMethod yX2_begin, .selects RX2 yX2_begin yX2_begin, .initialized RX2, .code yX2_begin cX2_begin 3 none, .fieldLink RX2 7 "BatchOrder$Draws" "state" "J", .methodLink RX3 91 yX2_key, .instanceMethod yX2_key, .selects RX2 yX2_key yX2_key, .code yX2_key cX2_key 2 none, .constantLong RX2 13 (-7046029254386353131), .methodLink RX2 15 yX2_mixed, .static yX2_mixed, .code yX2_mixed cX2_mixed 2 (some .long), .constantLong RX2 23 (-4658895280553007687), .constantLong RX2 25 (-7723592293110705685)] ++ wsX30 ++ wsX50 ++ wsX20)
def wsX3_makePlain : List Cond := .code yX3_makePlain cX3_makePlain 2 none :: ([.fieldLink RX3 15 "BatchOrder$Order" "many" "I", .fieldLink RX3 9 "BatchOrder$Order" "places" "[I", .fieldLink RX3 42 "BatchOrder$Order" "draws" "LBatchOrder$Draws;", .methodLink RX3 94 yX2_shuffle, .instanceMethod yX2_shuffle, .selects RX2 yX2_shuffle yX2_shuffle, .initialized RX2, .code yX2_shuffle cX2_shuffle 7 none, .methodLink RX2 19 yX2_below, .instanceMethod yX2_below, .selects RX2 yX2_below yX2_below, .code yX2_below cX2_below 2 (some .int), .fieldLink RX2 7 "BatchOrder$Draws" "state" "J", .constantLong RX2 13 (-7046029254386353131), .methodLink RX2 15 yX2_mixed, .static yX2_mixed, .code yX2_mixed cX2_mixed 2 (some .long), .constantLong RX2 23 (-4658895280553007687), .constantLong RX2 25 (-7723592293110705685)] ++ wsX30 ++ wsX20)
def wsX4_find : List Cond := .code yX4_find cX4_find 2 (some (.object "BatchOrder$Content")) :: ([.fieldLink RX4 11 "BatchOrder$Rows" "contents" "[LBatchOrder$Content;", .methodLink RX4 28 yX4_has, .instanceMethod yX4_has, .selects RX4 yX4_has yX4_has, .initialized RX4, .code yX4_has cX4_has 2 (some .boolean), .fieldLink RX4 24 "BatchOrder$Rows" "many" "I"] ++ wsX40)
def wsX4_length : List Cond := .code yX4_length cX4_length 3 (some .int) :: ([.methodLink RX4 40 yX4_find, .instanceMethod yX4_find, .selects RX4 yX4_find yX4_find, .initialized RX4, .code yX4_find cX4_find 2 (some (.object "BatchOrder$Content")), .fieldLink RX4 11 "BatchOrder$Rows" "contents" "[LBatchOrder$Content;", .methodLink RX4 28 yX4_has, .instanceMethod yX4_has, .selects RX4 yX4_has yX4_has, .code yX4_has cX4_has 2 (some .boolean), .fieldLink RX4 24 "BatchOrder$Rows" "many" "I"] ++ wsX10 ++ wsX40)
def wsX3_sortByLength : List Cond := .code yX3_sortByLength cX3_sortByLength 7 none :: ([.fieldLink RX3 9 "BatchOrder$Order" "places" "[I", .fieldLink RX3 34 "BatchOrder$Order" "rows" "LBatchOrder$Rows;", .methodLink RX3 107 yX4_length, .instanceMethod yX4_length, .selects RX4 yX4_length yX4_length, .initialized RX4, .code yX4_length cX4_length 3 (some .int), .methodLink RX4 40 yX4_find, .instanceMethod yX4_find, .selects RX4 yX4_find yX4_find, .code yX4_find cX4_find 2 (some (.object "BatchOrder$Content")), .fieldLink RX4 11 "BatchOrder$Rows" "contents" "[LBatchOrder$Content;", .methodLink RX4 28 yX4_has, .instanceMethod yX4_has, .selects RX4 yX4_has yX4_has, .code yX4_has cX4_has 2 (some .boolean), .fieldLink RX4 24 "BatchOrder$Rows" "many" "I"] ++ wsX30 ++ wsX10 ++ wsX40)
def wsX3_sortParts_r1 : List Cond := [Cond.fieldLink RX3 38 "BatchOrder$Order" "settings" "LBatchOrder$Settings;", Cond.methodLink RX3 101 Lib.Math.max.name, Cond.static Lib.Math.max.name, Cond.initialized "java/lang/Math", Cond.code Lib.Math.max.name Lib.Math.max.code 2 (some .int), Cond.fieldLink RX3 15 "BatchOrder$Order" "many" "I", Cond.methodLink RX3 49 Lib.Math.min.name, Cond.static Lib.Math.min.name, Cond.code Lib.Math.min.name Lib.Math.min.code 2 (some .int), Cond.methodLink RX3 104 yX3_sortByLength, Cond.instanceMethod yX3_sortByLength, Cond.selects RX3 yX3_sortByLength yX3_sortByLength, Cond.initialized RX3, Cond.code yX3_sortByLength cX3_sortByLength 7 none, Cond.fieldLink RX3 9 "BatchOrder$Order" "places" "[I", Cond.fieldLink RX3 34 "BatchOrder$Order" "rows" "LBatchOrder$Rows;", Cond.methodLink RX3 107 yX4_length, Cond.instanceMethod yX4_length, Cond.selects RX4 yX4_length yX4_length, Cond.initialized RX4, Cond.code yX4_length cX4_length 3 (some .int), Cond.methodLink RX4 40 yX4_find, Cond.instanceMethod yX4_find, Cond.selects RX4 yX4_find yX4_find]
def wsX3_sortParts_r2 : List Cond := [Cond.code yX4_find cX4_find 2 (some (.object "BatchOrder$Content")), Cond.fieldLink RX4 11 "BatchOrder$Rows" "contents" "[LBatchOrder$Content;", Cond.methodLink RX4 28 yX4_has, Cond.instanceMethod yX4_has, Cond.selects RX4 yX4_has yX4_has, Cond.code yX4_has cX4_has 2 (some .boolean), Cond.fieldLink RX4 24 "BatchOrder$Rows" "many" "I"]
def wsX3_sortParts : List Cond := .code yX3_sortParts cX3_sortParts 3 none :: ((wsX3_sortParts_r1 ++ wsX3_sortParts_r2) ++ wsX30 ++ wsX50 ++ wsX10 ++ wsX40)
def wsX3_rowAbove : List Cond := .code yX3_rowAbove cX3_rowAbove 4 (some .int) :: ([.fieldLink RX3 15 "BatchOrder$Order" "many" "I", .fieldLink RX3 34 "BatchOrder$Order" "rows" "LBatchOrder$Rows;", .methodLink RX3 117 yX4_weight, .instanceMethod yX4_weight, .selects RX4 yX4_weight yX4_weight, .initialized RX4, .code yX4_weight cX4_weight 2 (some .int), .fieldLink RX4 21 "BatchOrder$Rows" "weights" "[I", .methodLink RX4 28 yX4_has, .instanceMethod yX4_has, .selects RX4 yX4_has yX4_has, .code yX4_has cX4_has 2 (some .boolean), .fieldLink RX4 24 "BatchOrder$Rows" "many" "I"] ++ wsX30 ++ wsX40)
def wsX3_makeWeighted_r1 : List Cond := [Cond.fieldLink RX3 34 "BatchOrder$Order" "rows" "LBatchOrder$Rows;", Cond.fieldLink RX3 15 "BatchOrder$Order" "many" "I", Cond.fieldLink RX3 9 "BatchOrder$Order" "places" "[I", Cond.fieldLink RX3 42 "BatchOrder$Order" "draws" "LBatchOrder$Draws;", Cond.methodLink RX3 55 yX4_sumOfWeights, Cond.instanceMethod yX4_sumOfWeights, Cond.selects RX4 yX4_sumOfWeights yX4_sumOfWeights, Cond.initialized RX4, Cond.code yX4_sumOfWeights cX4_sumOfWeights 3 (some .int), Cond.fieldLink RX4 24 "BatchOrder$Rows" "many" "I", Cond.methodLink RX4 47 yX4_weight, Cond.instanceMethod yX4_weight, Cond.selects RX4 yX4_weight yX4_weight, Cond.code yX4_weight cX4_weight 2 (some .int), Cond.fieldLink RX4 21 "BatchOrder$Rows" "weights" "[I", Cond.methodLink RX4 28 yX4_has, Cond.instanceMethod yX4_has, Cond.selects RX4 yX4_has yX4_has, Cond.code yX4_has cX4_has 2 (some .boolean), Cond.methodLink RX3 111 yX2_below, Cond.instanceMethod yX2_below, Cond.selects RX2 yX2_below yX2_below, Cond.initialized RX2, Cond.code yX2_below cX2_below 2 (some .int)]
def wsX3_makeWeighted_r2 : List Cond := [Cond.fieldLink RX2 7 "BatchOrder$Draws" "state" "J", Cond.constantLong RX2 13 (-7046029254386353131), Cond.methodLink RX2 15 yX2_mixed, Cond.static yX2_mixed, Cond.code yX2_mixed cX2_mixed 2 (some .long), Cond.constantLong RX2 23 (-4658895280553007687), Cond.constantLong RX2 25 (-7723592293110705685), Cond.methodLink RX3 114 yX3_rowAbove, Cond.instanceMethod yX3_rowAbove, Cond.selects RX3 yX3_rowAbove yX3_rowAbove, Cond.initialized RX3, Cond.code yX3_rowAbove cX3_rowAbove 4 (some .int), Cond.methodLink RX3 117 yX4_weight]
def wsX3_makeWeighted : List Cond := .code yX3_makeWeighted cX3_makeWeighted 3 none :: ((wsX3_makeWeighted_r1 ++ wsX3_makeWeighted_r2) ++ wsX30 ++ wsX40 ++ wsX20)
def wsX4_label : List Cond := .code yX4_label cX4_label 2 (some .int) :: ([.fieldLink RX4 17 "BatchOrder$Rows" "labels" "[I", .methodLink RX4 28 yX4_has, .instanceMethod yX4_has, .selects RX4 yX4_has yX4_has, .initialized RX4, .code yX4_has cX4_has 2 (some .boolean), .fieldLink RX4 24 "BatchOrder$Rows" "many" "I"] ++ wsX40)
def wsX3_layOutLabels : List Cond := .code yX3_layOutLabels cX3_layOutLabels 5 none :: ([.fieldLink RX3 15 "BatchOrder$Order" "many" "I", .fieldLink RX3 34 "BatchOrder$Order" "rows" "LBatchOrder$Rows;", .fieldLink RX3 22 "BatchOrder$Order" "firsts" "[I", .fieldLink RX3 25 "BatchOrder$Order" "sizes" "[I", .fieldLink RX3 28 "BatchOrder$Order" "taken" "[I", .fieldLink RX3 31 "BatchOrder$Order" "mixings" "[I", .methodLink RX3 129 yX4_label, .instanceMethod yX4_label, .selects RX4 yX4_label yX4_label, .initialized RX4, .code yX4_label cX4_label 2 (some .int), .fieldLink RX4 17 "BatchOrder$Rows" "labels" "[I", .methodLink RX4 28 yX4_has, .instanceMethod yX4_has, .selects RX4 yX4_has yX4_has, .code yX4_has cX4_has 2 (some .boolean), .fieldLink RX4 24 "BatchOrder$Rows" "many" "I"] ++ wsX30 ++ wsX40)
def wsX3_mixLabel_r1 : List Cond := [Cond.fieldLink RX3 22 "BatchOrder$Order" "firsts" "[I", Cond.fieldLink RX3 15 "BatchOrder$Order" "many" "I", Cond.fieldLink RX3 34 "BatchOrder$Order" "rows" "LBatchOrder$Rows;", Cond.fieldLink RX3 19 "BatchOrder$Order" "scratch" "[I", Cond.fieldLink RX3 42 "BatchOrder$Order" "draws" "LBatchOrder$Draws;", Cond.fieldLink RX3 31 "BatchOrder$Order" "mixings" "[I", Cond.fieldLink RX3 25 "BatchOrder$Order" "sizes" "[I", Cond.fieldLink RX3 28 "BatchOrder$Order" "taken" "[I", Cond.methodLink RX3 129 yX4_label, Cond.instanceMethod yX4_label, Cond.selects RX4 yX4_label yX4_label, Cond.initialized RX4, Cond.code yX4_label cX4_label 2 (some .int), Cond.fieldLink RX4 17 "BatchOrder$Rows" "labels" "[I", Cond.methodLink RX4 28 yX4_has, Cond.instanceMethod yX4_has, Cond.selects RX4 yX4_has yX4_has, Cond.code yX4_has cX4_has 2 (some .boolean), Cond.fieldLink RX4 24 "BatchOrder$Rows" "many" "I", Cond.methodLink RX3 59 yX3_beginStream, Cond.instanceMethod yX3_beginStream, Cond.selects RX3 yX3_beginStream yX3_beginStream, Cond.initialized RX3, Cond.code yX3_beginStream cX3_beginStream 3 none]
def wsX3_mixLabel_r2 : List Cond := [Cond.fieldLink RX3 38 "BatchOrder$Order" "settings" "LBatchOrder$Settings;", Cond.methodLink RX3 85 yX2_begin, Cond.instanceMethod yX2_begin, Cond.selects RX2 yX2_begin yX2_begin, Cond.initialized RX2, Cond.code yX2_begin cX2_begin 3 none, Cond.fieldLink RX2 7 "BatchOrder$Draws" "state" "J", Cond.methodLink RX3 91 yX2_key, Cond.instanceMethod yX2_key, Cond.selects RX2 yX2_key yX2_key, Cond.code yX2_key cX2_key 2 none, Cond.constantLong RX2 13 (-7046029254386353131), Cond.methodLink RX2 15 yX2_mixed, Cond.static yX2_mixed, Cond.code yX2_mixed cX2_mixed 2 (some .long), Cond.constantLong RX2 23 (-4658895280553007687), Cond.constantLong RX2 25 (-7723592293110705685), Cond.methodLink RX3 94 yX2_shuffle, Cond.instanceMethod yX2_shuffle, Cond.selects RX2 yX2_shuffle yX2_shuffle, Cond.code yX2_shuffle cX2_shuffle 7 none, Cond.methodLink RX2 19 yX2_below, Cond.instanceMethod yX2_below, Cond.selects RX2 yX2_below yX2_below]
def wsX3_mixLabel_r3 : List Cond := [Cond.code yX2_below cX2_below 2 (some .int)]
def wsX3_mixLabel : List Cond := .code yX3_mixLabel cX3_mixLabel 5 none :: ((wsX3_mixLabel_r1 ++ (wsX3_mixLabel_r2 ++ wsX3_mixLabel_r3)) ++ wsX30 ++ wsX40 ++ wsX50 ++ wsX20)
def wsX3_rowHeld : List Cond := .code yX3_rowHeld cX3_rowHeld 2 (some .int) :: ([.fieldLink RX3 19 "BatchOrder$Order" "scratch" "[I"] ++ wsX30)
def wsX3_makeBalanced_r1 : List Cond := [Cond.fieldLink RX3 15 "BatchOrder$Order" "many" "I", Cond.fieldLink RX3 25 "BatchOrder$Order" "sizes" "[I", Cond.fieldLink RX3 28 "BatchOrder$Order" "taken" "[I", Cond.fieldLink RX3 9 "BatchOrder$Order" "places" "[I", Cond.fieldLink RX3 22 "BatchOrder$Order" "firsts" "[I", Cond.methodLink RX3 120 yX3_layOutLabels, Cond.instanceMethod yX3_layOutLabels, Cond.selects RX3 yX3_layOutLabels yX3_layOutLabels, Cond.initialized RX3, Cond.code yX3_layOutLabels cX3_layOutLabels 5 none, Cond.fieldLink RX3 34 "BatchOrder$Order" "rows" "LBatchOrder$Rows;", Cond.fieldLink RX3 31 "BatchOrder$Order" "mixings" "[I", Cond.methodLink RX3 129 yX4_label, Cond.instanceMethod yX4_label, Cond.selects RX4 yX4_label yX4_label, Cond.initialized RX4, Cond.code yX4_label cX4_label 2 (some .int), Cond.fieldLink RX4 17 "BatchOrder$Rows" "labels" "[I", Cond.methodLink RX4 28 yX4_has, Cond.instanceMethod yX4_has, Cond.selects RX4 yX4_has yX4_has, Cond.code yX4_has cX4_has 2 (some .boolean), Cond.fieldLink RX4 24 "BatchOrder$Rows" "many" "I", Cond.methodLink RX3 123 yX3_mixLabel]
def wsX3_makeBalanced_r2 : List Cond := [Cond.instanceMethod yX3_mixLabel, Cond.selects RX3 yX3_mixLabel yX3_mixLabel, Cond.code yX3_mixLabel cX3_mixLabel 5 none, Cond.fieldLink RX3 19 "BatchOrder$Order" "scratch" "[I", Cond.fieldLink RX3 42 "BatchOrder$Order" "draws" "LBatchOrder$Draws;", Cond.methodLink RX3 59 yX3_beginStream, Cond.instanceMethod yX3_beginStream, Cond.selects RX3 yX3_beginStream yX3_beginStream, Cond.code yX3_beginStream cX3_beginStream 3 none, Cond.fieldLink RX3 38 "BatchOrder$Order" "settings" "LBatchOrder$Settings;", Cond.methodLink RX3 85 yX2_begin, Cond.instanceMethod yX2_begin, Cond.selects RX2 yX2_begin yX2_begin, Cond.initialized RX2, Cond.code yX2_begin cX2_begin 3 none, Cond.fieldLink RX2 7 "BatchOrder$Draws" "state" "J", Cond.methodLink RX3 91 yX2_key, Cond.instanceMethod yX2_key, Cond.selects RX2 yX2_key yX2_key, Cond.code yX2_key cX2_key 2 none, Cond.constantLong RX2 13 (-7046029254386353131), Cond.methodLink RX2 15 yX2_mixed, Cond.static yX2_mixed, Cond.code yX2_mixed cX2_mixed 2 (some .long)]
def wsX3_makeBalanced_r3 : List Cond := [Cond.constantLong RX2 23 (-4658895280553007687), Cond.constantLong RX2 25 (-7723592293110705685), Cond.methodLink RX3 94 yX2_shuffle, Cond.instanceMethod yX2_shuffle, Cond.selects RX2 yX2_shuffle yX2_shuffle, Cond.code yX2_shuffle cX2_shuffle 7 none, Cond.methodLink RX2 19 yX2_below, Cond.instanceMethod yX2_below, Cond.selects RX2 yX2_below yX2_below, Cond.code yX2_below cX2_below 2 (some .int), Cond.methodLink RX3 126 yX3_rowHeld, Cond.instanceMethod yX3_rowHeld, Cond.selects RX3 yX3_rowHeld yX3_rowHeld, Cond.code yX3_rowHeld cX3_rowHeld 2 (some .int)]
def wsX3_makeBalanced : List Cond := .code yX3_makeBalanced cX3_makeBalanced 5 none :: ((wsX3_makeBalanced_r1 ++ (wsX3_makeBalanced_r2 ++ wsX3_makeBalanced_r3)) ++ wsX30 ++ wsX40 ++ wsX50 ++ wsX20)
def wsX3_makeBuffered : List Cond := .code yX3_makeBuffered cX3_makeBuffered 5 none :: ([.fieldLink RX3 15 "BatchOrder$Order" "many" "I", .fieldLink RX3 38 "BatchOrder$Order" "settings" "LBatchOrder$Settings;", .methodLink RX3 49 Lib.Math.min.name, .static Lib.Math.min.name, .initialized "java/lang/Math", .code Lib.Math.min.name Lib.Math.min.code 2 (some .int), .fieldLink RX3 19 "BatchOrder$Order" "scratch" "[I", .fieldLink RX3 42 "BatchOrder$Order" "draws" "LBatchOrder$Draws;", .fieldLink RX3 9 "BatchOrder$Order" "places" "[I", .methodLink RX3 111 yX2_below, .instanceMethod yX2_below, .selects RX2 yX2_below yX2_below, .initialized RX2, .code yX2_below cX2_below 2 (some .int), .fieldLink RX2 7 "BatchOrder$Draws" "state" "J", .constantLong RX2 13 (-7046029254386353131), .methodLink RX2 15 yX2_mixed, .static yX2_mixed, .code yX2_mixed cX2_mixed 2 (some .long), .constantLong RX2 23 (-4658895280553007687), .constantLong RX2 25 (-7723592293110705685)] ++ wsX30 ++ wsX50 ++ wsX20)
def wsX3_make_r1 : List Cond := [Cond.fieldLink RX3 34 "BatchOrder$Order" "rows" "LBatchOrder$Rows;", Cond.methodLink RX3 49 Lib.Math.min.name, Cond.static Lib.Math.min.name, Cond.initialized "java/lang/Math", Cond.code Lib.Math.min.name Lib.Math.min.code 2 (some .int), Cond.fieldLink RX3 15 "BatchOrder$Order" "many" "I", Cond.methodLink RX3 55 yX4_sumOfWeights, Cond.instanceMethod yX4_sumOfWeights, Cond.selects RX4 yX4_sumOfWeights yX4_sumOfWeights, Cond.initialized RX4, Cond.code yX4_sumOfWeights cX4_sumOfWeights 3 (some .int), Cond.fieldLink RX4 24 "BatchOrder$Rows" "many" "I", Cond.methodLink RX4 47 yX4_weight, Cond.instanceMethod yX4_weight, Cond.selects RX4 yX4_weight yX4_weight, Cond.code yX4_weight cX4_weight 2 (some .int), Cond.fieldLink RX4 21 "BatchOrder$Rows" "weights" "[I", Cond.methodLink RX4 28 yX4_has, Cond.instanceMethod yX4_has, Cond.selects RX4 yX4_has yX4_has, Cond.code yX4_has cX4_has 2 (some .boolean), Cond.methodLink RX3 59 yX3_beginStream, Cond.instanceMethod yX3_beginStream, Cond.selects RX3 yX3_beginStream yX3_beginStream]
def wsX3_make_r2 : List Cond := [Cond.initialized RX3, Cond.code yX3_beginStream cX3_beginStream 3 none, Cond.fieldLink RX3 42 "BatchOrder$Order" "draws" "LBatchOrder$Draws;", Cond.fieldLink RX3 38 "BatchOrder$Order" "settings" "LBatchOrder$Settings;", Cond.methodLink RX3 85 yX2_begin, Cond.instanceMethod yX2_begin, Cond.selects RX2 yX2_begin yX2_begin, Cond.initialized RX2, Cond.code yX2_begin cX2_begin 3 none, Cond.fieldLink RX2 7 "BatchOrder$Draws" "state" "J", Cond.methodLink RX3 91 yX2_key, Cond.instanceMethod yX2_key, Cond.selects RX2 yX2_key yX2_key, Cond.code yX2_key cX2_key 2 none, Cond.constantLong RX2 13 (-7046029254386353131), Cond.methodLink RX2 15 yX2_mixed, Cond.static yX2_mixed, Cond.code yX2_mixed cX2_mixed 2 (some .long), Cond.constantLong RX2 23 (-4658895280553007687), Cond.constantLong RX2 25 (-7723592293110705685), Cond.methodLink RX3 63 yX3_makePlain, Cond.instanceMethod yX3_makePlain, Cond.selects RX3 yX3_makePlain yX3_makePlain, Cond.code yX3_makePlain cX3_makePlain 2 none]
def wsX3_make_r3 : List Cond := [Cond.fieldLink RX3 9 "BatchOrder$Order" "places" "[I", Cond.methodLink RX3 94 yX2_shuffle, Cond.instanceMethod yX2_shuffle, Cond.selects RX2 yX2_shuffle yX2_shuffle, Cond.code yX2_shuffle cX2_shuffle 7 none, Cond.methodLink RX2 19 yX2_below, Cond.instanceMethod yX2_below, Cond.selects RX2 yX2_below yX2_below, Cond.code yX2_below cX2_below 2 (some .int), Cond.methodLink RX3 66 yX3_sortParts, Cond.instanceMethod yX3_sortParts, Cond.selects RX3 yX3_sortParts yX3_sortParts, Cond.code yX3_sortParts cX3_sortParts 3 none, Cond.methodLink RX3 101 Lib.Math.max.name, Cond.static Lib.Math.max.name, Cond.code Lib.Math.max.name Lib.Math.max.code 2 (some .int), Cond.methodLink RX3 104 yX3_sortByLength, Cond.instanceMethod yX3_sortByLength, Cond.selects RX3 yX3_sortByLength yX3_sortByLength, Cond.code yX3_sortByLength cX3_sortByLength 7 none, Cond.methodLink RX3 107 yX4_length, Cond.instanceMethod yX4_length, Cond.selects RX4 yX4_length yX4_length, Cond.code yX4_length cX4_length 3 (some .int)]
def wsX3_make_r4 : List Cond := [Cond.methodLink RX4 40 yX4_find, Cond.instanceMethod yX4_find, Cond.selects RX4 yX4_find yX4_find, Cond.code yX4_find cX4_find 2 (some (.object "BatchOrder$Content")), Cond.fieldLink RX4 11 "BatchOrder$Rows" "contents" "[LBatchOrder$Content;", Cond.methodLink RX3 69 yX3_makeWeighted, Cond.instanceMethod yX3_makeWeighted, Cond.selects RX3 yX3_makeWeighted yX3_makeWeighted, Cond.code yX3_makeWeighted cX3_makeWeighted 3 none, Cond.methodLink RX3 111 yX2_below, Cond.methodLink RX3 114 yX3_rowAbove, Cond.instanceMethod yX3_rowAbove, Cond.selects RX3 yX3_rowAbove yX3_rowAbove, Cond.code yX3_rowAbove cX3_rowAbove 4 (some .int), Cond.methodLink RX3 117 yX4_weight, Cond.methodLink RX3 72 yX3_makeBalanced, Cond.instanceMethod yX3_makeBalanced, Cond.selects RX3 yX3_makeBalanced yX3_makeBalanced, Cond.code yX3_makeBalanced cX3_makeBalanced 5 none, Cond.fieldLink RX3 25 "BatchOrder$Order" "sizes" "[I", Cond.fieldLink RX3 28 "BatchOrder$Order" "taken" "[I", Cond.fieldLink RX3 22 "BatchOrder$Order" "firsts" "[I", Cond.methodLink RX3 120 yX3_layOutLabels, Cond.instanceMethod yX3_layOutLabels]
def wsX3_make_r5 : List Cond := [Cond.selects RX3 yX3_layOutLabels yX3_layOutLabels, Cond.code yX3_layOutLabels cX3_layOutLabels 5 none, Cond.fieldLink RX3 31 "BatchOrder$Order" "mixings" "[I", Cond.methodLink RX3 129 yX4_label, Cond.instanceMethod yX4_label, Cond.selects RX4 yX4_label yX4_label, Cond.code yX4_label cX4_label 2 (some .int), Cond.fieldLink RX4 17 "BatchOrder$Rows" "labels" "[I", Cond.methodLink RX3 123 yX3_mixLabel, Cond.instanceMethod yX3_mixLabel, Cond.selects RX3 yX3_mixLabel yX3_mixLabel, Cond.code yX3_mixLabel cX3_mixLabel 5 none, Cond.fieldLink RX3 19 "BatchOrder$Order" "scratch" "[I", Cond.methodLink RX3 126 yX3_rowHeld, Cond.instanceMethod yX3_rowHeld, Cond.selects RX3 yX3_rowHeld yX3_rowHeld, Cond.code yX3_rowHeld cX3_rowHeld 2 (some .int), Cond.methodLink RX3 76 yX3_makeBuffered, Cond.instanceMethod yX3_makeBuffered, Cond.selects RX3 yX3_makeBuffered yX3_makeBuffered, Cond.code yX3_makeBuffered cX3_makeBuffered 5 none]
def wsX3_make : List Cond := .code yX3_make cX3_make 3 (some .boolean) :: ((wsX3_make_r1 ++ (wsX3_make_r2 ++ (wsX3_make_r3 ++ (wsX3_make_r4 ++ wsX3_make_r5)))) ++ wsX30 ++ wsX40 ++ wsX50 ++ wsX20 ++ wsX10)
def wsX3_rowAt : List Cond := .code yX3_rowAt cX3_rowAt 2 (some .int) :: ([.fieldLink RX3 15 "BatchOrder$Order" "many" "I", .fieldLink RX3 9 "BatchOrder$Order" "places" "[I"] ++ wsX30)
def wsX3_hasEachOnce : List Cond := .code yX3_hasEachOnce cX3_hasEachOnce 3 (some .boolean) :: ([.fieldLink RX3 15 "BatchOrder$Order" "many" "I", .fieldLink RX3 19 "BatchOrder$Order" "scratch" "[I", .fieldLink RX3 9 "BatchOrder$Order" "places" "[I"] ++ wsX30)
def wsX4_init : List Cond := .code yX4_init cX4_init 1 none :: ([.methodLink RX4 3 objectInit, .instanceMethod objectInit, .code objectInit ⟨#[0xb1]⟩ 1 none, .classLink RX4 9 RX1, .fieldLink RX4 11 "BatchOrder$Rows" "contents" "[LBatchOrder$Content;", .arrayClass .int, .fieldLink RX4 17 "BatchOrder$Rows" "labels" "[I", .fieldLink RX4 21 "BatchOrder$Rows" "weights" "[I", .fieldLink RX4 24 "BatchOrder$Rows" "many" "I"] ++ wsX40)
def wsX4_isFull : List Cond := .code yX4_isFull cX4_isFull 1 (some .boolean) :: ([.fieldLink RX4 24 "BatchOrder$Rows" "many" "I"] ++ wsX40)
def wsX4_relabel : List Cond := .code yX4_relabel cX4_relabel 4 none :: ([.fieldLink RX4 17 "BatchOrder$Rows" "labels" "[I", .fieldLink RX4 21 "BatchOrder$Rows" "weights" "[I", .methodLink RX4 28 yX4_has, .instanceMethod yX4_has, .selects RX4 yX4_has yX4_has, .initialized RX4, .code yX4_has cX4_has 2 (some .boolean), .fieldLink RX4 24 "BatchOrder$Rows" "many" "I"] ++ wsX40)
def wsX4_append : List Cond := .code yX4_append cX4_append 5 (some .int) :: ([.fieldLink RX4 24 "BatchOrder$Rows" "many" "I", .fieldLink RX4 11 "BatchOrder$Rows" "contents" "[LBatchOrder$Content;", .methodLink RX4 32 yX4_isFull, .instanceMethod yX4_isFull, .selects RX4 yX4_isFull yX4_isFull, .initialized RX4, .code yX4_isFull cX4_isFull 1 (some .boolean), .methodLink RX4 36 yX4_relabel, .instanceMethod yX4_relabel, .selects RX4 yX4_relabel yX4_relabel, .code yX4_relabel cX4_relabel 4 none, .fieldLink RX4 17 "BatchOrder$Rows" "labels" "[I", .fieldLink RX4 21 "BatchOrder$Rows" "weights" "[I", .methodLink RX4 28 yX4_has, .instanceMethod yX4_has, .selects RX4 yX4_has yX4_has, .code yX4_has cX4_has 2 (some .boolean)] ++ wsX40)
def wsX5_init : List Cond := .code yX5_init cX5_init 1 none :: ([.methodLink RX5 3 objectInit, .instanceMethod objectInit, .code objectInit ⟨#[0xb1]⟩ 1 none, .fieldLink RX5 9 "BatchOrder$Settings" "start" "J", .fieldLink RX5 15 "BatchOrder$Settings" "size" "I", .fieldLink RX5 19 "BatchOrder$Settings" "group" "I", .fieldLink RX5 22 "BatchOrder$Settings" "buffer" "I", .fieldLink RX5 25 "BatchOrder$Settings" "drops" "I"] ++ wsX50)
def wsX5_allows : List Cond := .code yX5_allows cX5_allows 3 (some .boolean) :: ([])
def wsX5_exchange : List Cond := .code yX5_exchange cX5_exchange 4 (some .int) :: ([.fieldLink RX5 15 "BatchOrder$Settings" "size" "I", .fieldLink RX5 19 "BatchOrder$Settings" "group" "I", .fieldLink RX5 22 "BatchOrder$Settings" "buffer" "I", .fieldLink RX5 25 "BatchOrder$Settings" "drops" "I"] ++ wsX50)
def wsX5_batchesOf : List Cond := .code yX5_batchesOf cX5_batchesOf 2 (some .int) :: ([.fieldLink RX5 15 "BatchOrder$Settings" "size" "I", .fieldLink RX5 25 "BatchOrder$Settings" "drops" "I"] ++ wsX50)
def wsX6_init_r1 : List Cond := [Cond.methodLink RX6 1 objectInit, Cond.instanceMethod objectInit, Cond.code objectInit ⟨#[0xb1]⟩ 1 none, Cond.classLink RX6 7 RX4, Cond.instantiable RX4 4, Cond.initialized RX4, Cond.fieldLink RX6 10 "BatchOrder" "rows" "LBatchOrder$Rows;", Cond.classLink RX6 16 RX5, Cond.instantiable RX5 5, Cond.initialized RX5, Cond.fieldLink RX6 19 "BatchOrder" "settings" "LBatchOrder$Settings;", Cond.classLink RX6 23 RX2, Cond.instantiable RX2 1, Cond.initialized RX2, Cond.fieldLink RX6 26 "BatchOrder" "draws" "LBatchOrder$Draws;", Cond.classLink RX6 30 RX3, Cond.instantiable RX3 10, Cond.initialized RX3, Cond.fieldLink RX6 35 "BatchOrder" "order" "LBatchOrder$Order;", Cond.classLink RX6 39 RX1, Cond.instantiable RX1 5, Cond.initialized RX1, Cond.fieldLink RX6 44 "BatchOrder" "altered" "LBatchOrder$Content;", Cond.fieldLink RX6 48 "BatchOrder" "wayAtHand" "I"]
def wsX6_init_r2 : List Cond := [Cond.fieldLink RX6 52 "BatchOrder" "roundAtHand" "I", Cond.fieldLink RX6 55 "BatchOrder" "placeAtHand" "I", Cond.instanceMethod yX4_init, Cond.code yX4_init cX4_init 1 none, Cond.methodLink RX4 3 objectInit, Cond.classLink RX4 9 RX1, Cond.fieldLink RX4 11 "BatchOrder$Rows" "contents" "[LBatchOrder$Content;", Cond.arrayClass .int, Cond.fieldLink RX4 17 "BatchOrder$Rows" "labels" "[I", Cond.fieldLink RX4 21 "BatchOrder$Rows" "weights" "[I", Cond.fieldLink RX4 24 "BatchOrder$Rows" "many" "I", Cond.instanceMethod yX5_init, Cond.code yX5_init cX5_init 1 none, Cond.methodLink RX5 3 objectInit, Cond.fieldLink RX5 9 "BatchOrder$Settings" "start" "J", Cond.fieldLink RX5 15 "BatchOrder$Settings" "size" "I", Cond.fieldLink RX5 19 "BatchOrder$Settings" "group" "I", Cond.fieldLink RX5 22 "BatchOrder$Settings" "buffer" "I", Cond.fieldLink RX5 25 "BatchOrder$Settings" "drops" "I", Cond.instanceMethod yX2_init, Cond.code yX2_init cX2_init 1 none, Cond.methodLink RX2 1 objectInit, Cond.fieldLink RX2 7 "BatchOrder$Draws" "state" "J", Cond.methodLink RX6 32 yX3_init]
def wsX6_init_r3 : List Cond := [Cond.instanceMethod yX3_init, Cond.code yX3_init cX3_init 4 none, Cond.methodLink RX3 3 objectInit, Cond.fieldLink RX3 9 "BatchOrder$Order" "places" "[I", Cond.fieldLink RX3 15 "BatchOrder$Order" "many" "I", Cond.fieldLink RX3 19 "BatchOrder$Order" "scratch" "[I", Cond.fieldLink RX3 22 "BatchOrder$Order" "firsts" "[I", Cond.fieldLink RX3 25 "BatchOrder$Order" "sizes" "[I", Cond.fieldLink RX3 28 "BatchOrder$Order" "taken" "[I", Cond.fieldLink RX3 31 "BatchOrder$Order" "mixings" "[I", Cond.fieldLink RX3 34 "BatchOrder$Order" "rows" "LBatchOrder$Rows;", Cond.fieldLink RX3 38 "BatchOrder$Order" "settings" "LBatchOrder$Settings;", Cond.fieldLink RX3 42 "BatchOrder$Order" "draws" "LBatchOrder$Draws;", Cond.methodLink RX6 41 yX1_init, Cond.instanceMethod yX1_init, Cond.code yX1_init cX1_init 5 none, Cond.methodLink RX1 3 objectInit, Cond.methodLink RX1 9 Lib.Math.max.name, Cond.static Lib.Math.max.name, Cond.initialized "java/lang/Math", Cond.code Lib.Math.max.name Lib.Math.max.code 2 (some .int), Cond.fieldLink RX1 15 "BatchOrder$Content" "items" "[I", Cond.fieldLink RX1 21 "BatchOrder$Content" "kind" "I", Cond.fieldLink RX1 25 "BatchOrder$Content" "high" "I"]
def wsX6_init_r4 : List Cond := [Cond.fieldLink RX1 28 "BatchOrder$Content" "wide" "I", Cond.fieldLink RX1 31 "BatchOrder$Content" "length" "I"]
def wsX6_init : List Cond := .code yX6_init cX6_init 1 none :: ((wsX6_init_r1 ++ (wsX6_init_r2 ++ (wsX6_init_r3 ++ wsX6_init_r4))) ++ wsX40 ++ wsX60 ++ wsX50 ++ wsX20 ++ wsX30 ++ wsX10)
def wsX6_isLabel : List Cond := .code yX6_isLabel cX6_isLabel 1 (some .boolean) :: ([])
def wsX6_isWeight : List Cond := .code yX6_isWeight cX6_isWeight 1 (some .boolean) :: ([])
def wsX6_row_r1 : List Cond := [Cond.fieldLink RX6 10 "BatchOrder" "rows" "LBatchOrder$Rows;", Cond.classLink RX6 39 RX1, Cond.instantiable RX1 5, Cond.initialized RX1, Cond.methodLink RX6 58 yX6_isLabel, Cond.static yX6_isLabel, Cond.initialized RX6, Cond.code yX6_isLabel cX6_isLabel 1 (some .boolean), Cond.methodLink RX6 62 yX6_isWeight, Cond.static yX6_isWeight, Cond.code yX6_isWeight cX6_isWeight 1 (some .boolean), Cond.methodLink RX6 65 yX4_isFull, Cond.instanceMethod yX4_isFull, Cond.selects RX4 yX4_isFull yX4_isFull, Cond.initialized RX4, Cond.code yX4_isFull cX4_isFull 1 (some .boolean), Cond.fieldLink RX4 24 "BatchOrder$Rows" "many" "I", Cond.methodLink RX6 41 yX1_init, Cond.instanceMethod yX1_init, Cond.code yX1_init cX1_init 5 none, Cond.methodLink RX1 3 objectInit, Cond.instanceMethod objectInit, Cond.code objectInit ⟨#[0xb1]⟩ 1 none, Cond.methodLink RX1 9 Lib.Math.max.name]
def wsX6_row_r2 : List Cond := [Cond.static Lib.Math.max.name, Cond.initialized "java/lang/Math", Cond.code Lib.Math.max.name Lib.Math.max.code 2 (some .int), Cond.arrayClass .int, Cond.fieldLink RX1 15 "BatchOrder$Content" "items" "[I", Cond.fieldLink RX1 21 "BatchOrder$Content" "kind" "I", Cond.fieldLink RX1 25 "BatchOrder$Content" "high" "I", Cond.fieldLink RX1 28 "BatchOrder$Content" "wide" "I", Cond.fieldLink RX1 31 "BatchOrder$Content" "length" "I", Cond.methodLink RX6 69 yX4_append, Cond.instanceMethod yX4_append, Cond.selects RX4 yX4_append yX4_append, Cond.code yX4_append cX4_append 5 (some .int), Cond.fieldLink RX4 11 "BatchOrder$Rows" "contents" "[LBatchOrder$Content;", Cond.methodLink RX4 32 yX4_isFull, Cond.methodLink RX4 36 yX4_relabel, Cond.instanceMethod yX4_relabel, Cond.selects RX4 yX4_relabel yX4_relabel, Cond.code yX4_relabel cX4_relabel 4 none, Cond.fieldLink RX4 17 "BatchOrder$Rows" "labels" "[I", Cond.fieldLink RX4 21 "BatchOrder$Rows" "weights" "[I", Cond.methodLink RX4 28 yX4_has, Cond.instanceMethod yX4_has, Cond.selects RX4 yX4_has yX4_has]
def wsX6_row_r3 : List Cond := [Cond.code yX4_has cX4_has 2 (some .boolean)]
def wsX6_row : List Cond := .code yX6_row cX6_row 5 (some .int) :: ((wsX6_row_r1 ++ (wsX6_row_r2 ++ wsX6_row_r3)) ++ wsX60 ++ wsX10 ++ wsX40)
def wsX6_isSide : List Cond := .code yX6_isSide cX6_isSide 1 (some .boolean) :: ([])
def wsX6_picture_r1 : List Cond := [Cond.fieldLink RX6 10 "BatchOrder" "rows" "LBatchOrder$Rows;", Cond.classLink RX6 39 RX1, Cond.instantiable RX1 5, Cond.initialized RX1, Cond.methodLink RX6 73 yX6_isSide, Cond.static yX6_isSide, Cond.initialized RX6, Cond.code yX6_isSide cX6_isSide 1 (some .boolean), Cond.methodLink RX6 58 yX6_isLabel, Cond.static yX6_isLabel, Cond.code yX6_isLabel cX6_isLabel 1 (some .boolean), Cond.methodLink RX6 62 yX6_isWeight, Cond.static yX6_isWeight, Cond.code yX6_isWeight cX6_isWeight 1 (some .boolean), Cond.methodLink RX6 65 yX4_isFull, Cond.instanceMethod yX4_isFull, Cond.selects RX4 yX4_isFull yX4_isFull, Cond.initialized RX4, Cond.code yX4_isFull cX4_isFull 1 (some .boolean), Cond.fieldLink RX4 24 "BatchOrder$Rows" "many" "I", Cond.methodLink RX6 41 yX1_init, Cond.instanceMethod yX1_init, Cond.code yX1_init cX1_init 5 none, Cond.methodLink RX1 3 objectInit]
def wsX6_picture_r2 : List Cond := [Cond.instanceMethod objectInit, Cond.code objectInit ⟨#[0xb1]⟩ 1 none, Cond.methodLink RX1 9 Lib.Math.max.name, Cond.static Lib.Math.max.name, Cond.initialized "java/lang/Math", Cond.code Lib.Math.max.name Lib.Math.max.code 2 (some .int), Cond.arrayClass .int, Cond.fieldLink RX1 15 "BatchOrder$Content" "items" "[I", Cond.fieldLink RX1 21 "BatchOrder$Content" "kind" "I", Cond.fieldLink RX1 25 "BatchOrder$Content" "high" "I", Cond.fieldLink RX1 28 "BatchOrder$Content" "wide" "I", Cond.fieldLink RX1 31 "BatchOrder$Content" "length" "I", Cond.methodLink RX6 69 yX4_append, Cond.instanceMethod yX4_append, Cond.selects RX4 yX4_append yX4_append, Cond.code yX4_append cX4_append 5 (some .int), Cond.fieldLink RX4 11 "BatchOrder$Rows" "contents" "[LBatchOrder$Content;", Cond.methodLink RX4 32 yX4_isFull, Cond.methodLink RX4 36 yX4_relabel, Cond.instanceMethod yX4_relabel, Cond.selects RX4 yX4_relabel yX4_relabel, Cond.code yX4_relabel cX4_relabel 4 none, Cond.fieldLink RX4 17 "BatchOrder$Rows" "labels" "[I", Cond.fieldLink RX4 21 "BatchOrder$Rows" "weights" "[I"]
def wsX6_picture_r3 : List Cond := [Cond.methodLink RX4 28 yX4_has, Cond.instanceMethod yX4_has, Cond.selects RX4 yX4_has yX4_has, Cond.code yX4_has cX4_has 2 (some .boolean)]
def wsX6_picture : List Cond := .code yX6_picture cX6_picture 5 (some .int) :: ((wsX6_picture_r1 ++ (wsX6_picture_r2 ++ wsX6_picture_r3)) ++ wsX60 ++ wsX10 ++ wsX40)
def wsX6_word : List Cond := .code yX6_word cX6_word 4 (some .int) :: ([.fieldLink RX6 10 "BatchOrder" "rows" "LBatchOrder$Rows;", .methodLink RX6 76 yX4_find, .instanceMethod yX4_find, .selects RX4 yX4_find yX4_find, .initialized RX4, .code yX4_find cX4_find 2 (some (.object "BatchOrder$Content")), .fieldLink RX4 11 "BatchOrder$Rows" "contents" "[LBatchOrder$Content;", .methodLink RX4 28 yX4_has, .instanceMethod yX4_has, .selects RX4 yX4_has yX4_has, .code yX4_has cX4_has 2 (some .boolean), .fieldLink RX4 24 "BatchOrder$Rows" "many" "I", .methodLink RX6 86 yX1_append, .instanceMethod yX1_append, .selects RX1 yX1_append yX1_append, .initialized RX1, .code yX1_append cX1_append 2 none, .fieldLink RX1 31 "BatchOrder$Content" "length" "I", .fieldLink RX1 15 "BatchOrder$Content" "items" "[I"] ++ wsX60 ++ wsX10 ++ wsX40)
def wsX6_paint_r1 : List Cond := [Cond.fieldLink RX6 10 "BatchOrder" "rows" "LBatchOrder$Rows;", Cond.methodLink RX6 92 Lib.Math.min.name, Cond.static Lib.Math.min.name, Cond.initialized "java/lang/Math", Cond.code Lib.Math.min.name Lib.Math.min.code 2 (some .int), Cond.methodLink RX6 76 yX4_find, Cond.instanceMethod yX4_find, Cond.selects RX4 yX4_find yX4_find, Cond.initialized RX4, Cond.code yX4_find cX4_find 2 (some (.object "BatchOrder$Content")), Cond.fieldLink RX4 11 "BatchOrder$Rows" "contents" "[LBatchOrder$Content;", Cond.methodLink RX4 28 yX4_has, Cond.instanceMethod yX4_has, Cond.selects RX4 yX4_has yX4_has, Cond.code yX4_has cX4_has 2 (some .boolean), Cond.fieldLink RX4 24 "BatchOrder$Rows" "many" "I", Cond.methodLink RX6 89 yX1_holds, Cond.instanceMethod yX1_holds, Cond.selects RX1 yX1_holds yX1_holds, Cond.initialized RX1, Cond.code yX1_holds cX1_holds 2 (some .boolean), Cond.fieldLink RX1 31 "BatchOrder$Content" "length" "I", Cond.fieldLink RX1 15 "BatchOrder$Content" "items" "[I", Cond.methodLink RX6 98 yX1_put]
def wsX6_paint_r2 : List Cond := [Cond.instanceMethod yX1_put, Cond.selects RX1 yX1_put yX1_put, Cond.code yX1_put cX1_put 3 none, Cond.methodLink RX1 34 yX1_holds]
def wsX6_paint : List Cond := .code yX6_paint cX6_paint 8 (some .int) :: ((wsX6_paint_r1 ++ wsX6_paint_r2) ++ wsX60 ++ wsX10 ++ wsX40)
def wsX6_mark : List Cond := .code yX6_mark cX6_mark 4 (some .int) :: ([.fieldLink RX6 10 "BatchOrder" "rows" "LBatchOrder$Rows;", .methodLink RX6 102 yX4_has, .instanceMethod yX4_has, .selects RX4 yX4_has yX4_has, .initialized RX4, .code yX4_has cX4_has 2 (some .boolean), .fieldLink RX4 24 "BatchOrder$Rows" "many" "I", .methodLink RX6 58 yX6_isLabel, .static yX6_isLabel, .initialized RX6, .code yX6_isLabel cX6_isLabel 1 (some .boolean), .methodLink RX6 62 yX6_isWeight, .static yX6_isWeight, .code yX6_isWeight cX6_isWeight 1 (some .boolean), .methodLink RX6 105 yX4_relabel, .instanceMethod yX4_relabel, .selects RX4 yX4_relabel yX4_relabel, .code yX4_relabel cX4_relabel 4 none, .fieldLink RX4 17 "BatchOrder$Rows" "labels" "[I", .fieldLink RX4 21 "BatchOrder$Rows" "weights" "[I", .methodLink RX4 28 yX4_has] ++ wsX60 ++ wsX40)
def wsX6_of : List Cond := .code yX6_of cX6_of 4 (some .int) :: ([.fieldLink RX6 10 "BatchOrder" "rows" "LBatchOrder$Rows;", .methodLink RX6 76 yX4_find, .instanceMethod yX4_find, .selects RX4 yX4_find yX4_find, .initialized RX4, .code yX4_find cX4_find 2 (some (.object "BatchOrder$Content")), .fieldLink RX4 11 "BatchOrder$Rows" "contents" "[LBatchOrder$Content;", .methodLink RX4 28 yX4_has, .instanceMethod yX4_has, .selects RX4 yX4_has yX4_has, .code yX4_has cX4_has 2 (some .boolean), .fieldLink RX4 24 "BatchOrder$Rows" "many" "I", .methodLink RX6 109 yX4_label, .instanceMethod yX4_label, .selects RX4 yX4_label yX4_label, .code yX4_label cX4_label 2 (some .int), .fieldLink RX4 17 "BatchOrder$Rows" "labels" "[I", .methodLink RX6 113 yX4_weight, .instanceMethod yX4_weight, .selects RX4 yX4_weight yX4_weight, .code yX4_weight cX4_weight 2 (some .int), .fieldLink RX4 21 "BatchOrder$Rows" "weights" "[I"] ++ wsX60 ++ wsX10 ++ wsX40)
def wsX6_seed : List Cond := .code yX6_seed cX6_seed 5 (some .long) :: ([.fieldLink RX6 19 "BatchOrder" "settings" "LBatchOrder$Settings;"] ++ wsX60 ++ wsX50)
def wsX6_set : List Cond := .code yX6_set cX6_set 3 (some .int) :: ([.fieldLink RX6 19 "BatchOrder" "settings" "LBatchOrder$Settings;", .methodLink RX6 126 yX5_allows, .instanceMethod yX5_allows, .selects RX5 yX5_allows yX5_allows, .initialized RX5, .code yX5_allows cX5_allows 3 (some .boolean), .methodLink RX6 130 yX5_exchange, .instanceMethod yX5_exchange, .selects RX5 yX5_exchange yX5_exchange, .code yX5_exchange cX5_exchange 4 (some .int), .fieldLink RX5 15 "BatchOrder$Settings" "size" "I", .fieldLink RX5 19 "BatchOrder$Settings" "group" "I", .fieldLink RX5 22 "BatchOrder$Settings" "buffer" "I", .fieldLink RX5 25 "BatchOrder$Settings" "drops" "I"] ++ wsX60 ++ wsX50)
def wsX6_count : List Cond := .code yX6_count cX6_count 1 (some .int) :: ([.classLink RX6 136 "java/lang/ArithmeticException", .initialized "java/lang/ArithmeticException", .fieldLink RX6 19 "BatchOrder" "settings" "LBatchOrder$Settings;", .fieldLink RX6 10 "BatchOrder" "rows" "LBatchOrder$Rows;", .methodLink RX6 146 yX5_batchesOf, .instanceMethod yX5_batchesOf, .selects RX5 yX5_batchesOf yX5_batchesOf, .initialized RX5, .code yX5_batchesOf cX5_batchesOf 2 (some .int), .fieldLink RX5 15 "BatchOrder$Settings" "size" "I", .fieldLink RX5 25 "BatchOrder$Settings" "drops" "I"] ++ wsX60 ++ wsX50 ++ wsX40 ++ (vx_atS RX6 140 "java/lang/ArithmeticException" ["java/lang/RuntimeException", "java/lang/Exception"]).filter goodWord)
def wsX6_isWay : List Cond := .code yX6_isWay cX6_isWay 1 (some .boolean) :: ([])
def wsX6_isRound : List Cond := .code yX6_isRound cX6_isRound 1 (some .boolean) :: ([])
def wsX6_rowInBatch : List Cond := .code yX6_rowInBatch cX6_rowInBatch 4 (some .int) :: ([.fieldLink RX6 19 "BatchOrder" "settings" "LBatchOrder$Settings;", .fieldLink RX6 10 "BatchOrder" "rows" "LBatchOrder$Rows;", .fieldLink RX6 35 "BatchOrder" "order" "LBatchOrder$Order;", .methodLink RX6 146 yX5_batchesOf, .instanceMethod yX5_batchesOf, .selects RX5 yX5_batchesOf yX5_batchesOf, .initialized RX5, .code yX5_batchesOf cX5_batchesOf 2 (some .int), .fieldLink RX5 15 "BatchOrder$Settings" "size" "I", .fieldLink RX5 25 "BatchOrder$Settings" "drops" "I", .methodLink RX6 165 yX3_rowAt, .instanceMethod yX3_rowAt, .selects RX3 yX3_rowAt yX3_rowAt, .initialized RX3, .code yX3_rowAt cX3_rowAt 2 (some .int), .fieldLink RX3 15 "BatchOrder$Order" "many" "I", .fieldLink RX3 9 "BatchOrder$Order" "places" "[I"] ++ wsX60 ++ wsX40 ++ wsX50 ++ wsX30)
def wsX6_batch_r1 : List Cond := [Cond.fieldLink RX6 19 "BatchOrder" "settings" "LBatchOrder$Settings;", Cond.fieldLink RX6 35 "BatchOrder" "order" "LBatchOrder$Order;", Cond.methodLink RX6 149 yX6_isWay, Cond.static yX6_isWay, Cond.initialized RX6, Cond.code yX6_isWay cX6_isWay 1 (some .boolean), Cond.methodLink RX6 152 yX6_isRound, Cond.static yX6_isRound, Cond.code yX6_isRound cX6_isRound 1 (some .boolean), Cond.methodLink RX6 155 yX3_make, Cond.instanceMethod yX3_make, Cond.selects RX3 yX3_make yX3_make, Cond.initialized RX3, Cond.code yX3_make cX3_make 3 (some .boolean), Cond.fieldLink RX3 34 "BatchOrder$Order" "rows" "LBatchOrder$Rows;", Cond.methodLink RX3 49 Lib.Math.min.name, Cond.static Lib.Math.min.name, Cond.initialized "java/lang/Math", Cond.code Lib.Math.min.name Lib.Math.min.code 2 (some .int), Cond.fieldLink RX3 15 "BatchOrder$Order" "many" "I", Cond.methodLink RX3 55 yX4_sumOfWeights, Cond.instanceMethod yX4_sumOfWeights, Cond.selects RX4 yX4_sumOfWeights yX4_sumOfWeights, Cond.initialized RX4]
def wsX6_batch_r2 : List Cond := [Cond.code yX4_sumOfWeights cX4_sumOfWeights 3 (some .int), Cond.fieldLink RX4 24 "BatchOrder$Rows" "many" "I", Cond.methodLink RX4 47 yX4_weight, Cond.instanceMethod yX4_weight, Cond.selects RX4 yX4_weight yX4_weight, Cond.code yX4_weight cX4_weight 2 (some .int), Cond.fieldLink RX4 21 "BatchOrder$Rows" "weights" "[I", Cond.methodLink RX4 28 yX4_has, Cond.instanceMethod yX4_has, Cond.selects RX4 yX4_has yX4_has, Cond.code yX4_has cX4_has 2 (some .boolean), Cond.methodLink RX3 59 yX3_beginStream, Cond.instanceMethod yX3_beginStream, Cond.selects RX3 yX3_beginStream yX3_beginStream, Cond.code yX3_beginStream cX3_beginStream 3 none, Cond.fieldLink RX3 42 "BatchOrder$Order" "draws" "LBatchOrder$Draws;", Cond.fieldLink RX3 38 "BatchOrder$Order" "settings" "LBatchOrder$Settings;", Cond.methodLink RX3 85 yX2_begin, Cond.instanceMethod yX2_begin, Cond.selects RX2 yX2_begin yX2_begin, Cond.initialized RX2, Cond.code yX2_begin cX2_begin 3 none, Cond.fieldLink RX2 7 "BatchOrder$Draws" "state" "J", Cond.methodLink RX3 91 yX2_key]
def wsX6_batch_r3 : List Cond := [Cond.instanceMethod yX2_key, Cond.selects RX2 yX2_key yX2_key, Cond.code yX2_key cX2_key 2 none, Cond.constantLong RX2 13 (-7046029254386353131), Cond.methodLink RX2 15 yX2_mixed, Cond.static yX2_mixed, Cond.code yX2_mixed cX2_mixed 2 (some .long), Cond.constantLong RX2 23 (-4658895280553007687), Cond.constantLong RX2 25 (-7723592293110705685), Cond.methodLink RX3 63 yX3_makePlain, Cond.instanceMethod yX3_makePlain, Cond.selects RX3 yX3_makePlain yX3_makePlain, Cond.code yX3_makePlain cX3_makePlain 2 none, Cond.fieldLink RX3 9 "BatchOrder$Order" "places" "[I", Cond.methodLink RX3 94 yX2_shuffle, Cond.instanceMethod yX2_shuffle, Cond.selects RX2 yX2_shuffle yX2_shuffle, Cond.code yX2_shuffle cX2_shuffle 7 none, Cond.methodLink RX2 19 yX2_below, Cond.instanceMethod yX2_below, Cond.selects RX2 yX2_below yX2_below, Cond.code yX2_below cX2_below 2 (some .int), Cond.methodLink RX3 66 yX3_sortParts, Cond.instanceMethod yX3_sortParts]
def wsX6_batch_r4 : List Cond := [Cond.selects RX3 yX3_sortParts yX3_sortParts, Cond.code yX3_sortParts cX3_sortParts 3 none, Cond.methodLink RX3 101 Lib.Math.max.name, Cond.static Lib.Math.max.name, Cond.code Lib.Math.max.name Lib.Math.max.code 2 (some .int), Cond.methodLink RX3 104 yX3_sortByLength, Cond.instanceMethod yX3_sortByLength, Cond.selects RX3 yX3_sortByLength yX3_sortByLength, Cond.code yX3_sortByLength cX3_sortByLength 7 none, Cond.methodLink RX3 107 yX4_length, Cond.instanceMethod yX4_length, Cond.selects RX4 yX4_length yX4_length, Cond.code yX4_length cX4_length 3 (some .int), Cond.methodLink RX4 40 yX4_find, Cond.instanceMethod yX4_find, Cond.selects RX4 yX4_find yX4_find, Cond.code yX4_find cX4_find 2 (some (.object "BatchOrder$Content")), Cond.fieldLink RX4 11 "BatchOrder$Rows" "contents" "[LBatchOrder$Content;", Cond.methodLink RX3 69 yX3_makeWeighted, Cond.instanceMethod yX3_makeWeighted, Cond.selects RX3 yX3_makeWeighted yX3_makeWeighted, Cond.code yX3_makeWeighted cX3_makeWeighted 3 none, Cond.methodLink RX3 111 yX2_below, Cond.methodLink RX3 114 yX3_rowAbove]
def wsX6_batch_r5 : List Cond := [Cond.instanceMethod yX3_rowAbove, Cond.selects RX3 yX3_rowAbove yX3_rowAbove, Cond.code yX3_rowAbove cX3_rowAbove 4 (some .int), Cond.methodLink RX3 117 yX4_weight, Cond.methodLink RX3 72 yX3_makeBalanced, Cond.instanceMethod yX3_makeBalanced, Cond.selects RX3 yX3_makeBalanced yX3_makeBalanced, Cond.code yX3_makeBalanced cX3_makeBalanced 5 none, Cond.fieldLink RX3 25 "BatchOrder$Order" "sizes" "[I", Cond.fieldLink RX3 28 "BatchOrder$Order" "taken" "[I", Cond.fieldLink RX3 22 "BatchOrder$Order" "firsts" "[I", Cond.methodLink RX3 120 yX3_layOutLabels, Cond.instanceMethod yX3_layOutLabels, Cond.selects RX3 yX3_layOutLabels yX3_layOutLabels, Cond.code yX3_layOutLabels cX3_layOutLabels 5 none, Cond.fieldLink RX3 31 "BatchOrder$Order" "mixings" "[I", Cond.methodLink RX3 129 yX4_label, Cond.instanceMethod yX4_label, Cond.selects RX4 yX4_label yX4_label, Cond.code yX4_label cX4_label 2 (some .int), Cond.fieldLink RX4 17 "BatchOrder$Rows" "labels" "[I", Cond.methodLink RX3 123 yX3_mixLabel, Cond.instanceMethod yX3_mixLabel, Cond.selects RX3 yX3_mixLabel yX3_mixLabel]
def wsX6_batch_r6 : List Cond := [Cond.code yX3_mixLabel cX3_mixLabel 5 none, Cond.fieldLink RX3 19 "BatchOrder$Order" "scratch" "[I", Cond.methodLink RX3 126 yX3_rowHeld, Cond.instanceMethod yX3_rowHeld, Cond.selects RX3 yX3_rowHeld yX3_rowHeld, Cond.code yX3_rowHeld cX3_rowHeld 2 (some .int), Cond.methodLink RX3 76 yX3_makeBuffered, Cond.instanceMethod yX3_makeBuffered, Cond.selects RX3 yX3_makeBuffered yX3_makeBuffered, Cond.code yX3_makeBuffered cX3_makeBuffered 5 none, Cond.methodLink RX6 158 yX6_rowInBatch, Cond.instanceMethod yX6_rowInBatch, Cond.selects RX6 yX6_rowInBatch yX6_rowInBatch, Cond.code yX6_rowInBatch cX6_rowInBatch 4 (some .int), Cond.fieldLink RX6 10 "BatchOrder" "rows" "LBatchOrder$Rows;", Cond.methodLink RX6 146 yX5_batchesOf, Cond.instanceMethod yX5_batchesOf, Cond.selects RX5 yX5_batchesOf yX5_batchesOf, Cond.initialized RX5, Cond.code yX5_batchesOf cX5_batchesOf 2 (some .int), Cond.fieldLink RX5 15 "BatchOrder$Settings" "size" "I", Cond.fieldLink RX5 25 "BatchOrder$Settings" "drops" "I", Cond.methodLink RX6 165 yX3_rowAt, Cond.instanceMethod yX3_rowAt]
def wsX6_batch_r7 : List Cond := [Cond.selects RX3 yX3_rowAt yX3_rowAt, Cond.code yX3_rowAt cX3_rowAt 2 (some .int)]
def wsX6_batch : List Cond := .code yX6_batch cX6_batch 5 (some .int) :: ((wsX6_batch_r1 ++ (wsX6_batch_r2 ++ (wsX6_batch_r3 ++ (wsX6_batch_r4 ++ (wsX6_batch_r5 ++ (wsX6_batch_r6 ++ wsX6_batch_r7)))))) ++ wsX60 ++ wsX50 ++ wsX30 ++ wsX40 ++ wsX20 ++ wsX10)
def wsX6_share_r1 : List Cond := [Cond.fieldLink RX6 19 "BatchOrder" "settings" "LBatchOrder$Settings;", Cond.fieldLink RX6 35 "BatchOrder" "order" "LBatchOrder$Order;", Cond.methodLink RX6 149 yX6_isWay, Cond.static yX6_isWay, Cond.initialized RX6, Cond.code yX6_isWay cX6_isWay 1 (some .boolean), Cond.methodLink RX6 152 yX6_isRound, Cond.static yX6_isRound, Cond.code yX6_isRound cX6_isRound 1 (some .boolean), Cond.methodLink RX6 155 yX3_make, Cond.instanceMethod yX3_make, Cond.selects RX3 yX3_make yX3_make, Cond.initialized RX3, Cond.code yX3_make cX3_make 3 (some .boolean), Cond.fieldLink RX3 34 "BatchOrder$Order" "rows" "LBatchOrder$Rows;", Cond.methodLink RX3 49 Lib.Math.min.name, Cond.static Lib.Math.min.name, Cond.initialized "java/lang/Math", Cond.code Lib.Math.min.name Lib.Math.min.code 2 (some .int), Cond.fieldLink RX3 15 "BatchOrder$Order" "many" "I", Cond.methodLink RX3 55 yX4_sumOfWeights, Cond.instanceMethod yX4_sumOfWeights, Cond.selects RX4 yX4_sumOfWeights yX4_sumOfWeights, Cond.initialized RX4]
def wsX6_share_r2 : List Cond := [Cond.code yX4_sumOfWeights cX4_sumOfWeights 3 (some .int), Cond.fieldLink RX4 24 "BatchOrder$Rows" "many" "I", Cond.methodLink RX4 47 yX4_weight, Cond.instanceMethod yX4_weight, Cond.selects RX4 yX4_weight yX4_weight, Cond.code yX4_weight cX4_weight 2 (some .int), Cond.fieldLink RX4 21 "BatchOrder$Rows" "weights" "[I", Cond.methodLink RX4 28 yX4_has, Cond.instanceMethod yX4_has, Cond.selects RX4 yX4_has yX4_has, Cond.code yX4_has cX4_has 2 (some .boolean), Cond.methodLink RX3 59 yX3_beginStream, Cond.instanceMethod yX3_beginStream, Cond.selects RX3 yX3_beginStream yX3_beginStream, Cond.code yX3_beginStream cX3_beginStream 3 none, Cond.fieldLink RX3 42 "BatchOrder$Order" "draws" "LBatchOrder$Draws;", Cond.fieldLink RX3 38 "BatchOrder$Order" "settings" "LBatchOrder$Settings;", Cond.methodLink RX3 85 yX2_begin, Cond.instanceMethod yX2_begin, Cond.selects RX2 yX2_begin yX2_begin, Cond.initialized RX2, Cond.code yX2_begin cX2_begin 3 none, Cond.fieldLink RX2 7 "BatchOrder$Draws" "state" "J", Cond.methodLink RX3 91 yX2_key]
def wsX6_share_r3 : List Cond := [Cond.instanceMethod yX2_key, Cond.selects RX2 yX2_key yX2_key, Cond.code yX2_key cX2_key 2 none, Cond.constantLong RX2 13 (-7046029254386353131), Cond.methodLink RX2 15 yX2_mixed, Cond.static yX2_mixed, Cond.code yX2_mixed cX2_mixed 2 (some .long), Cond.constantLong RX2 23 (-4658895280553007687), Cond.constantLong RX2 25 (-7723592293110705685), Cond.methodLink RX3 63 yX3_makePlain, Cond.instanceMethod yX3_makePlain, Cond.selects RX3 yX3_makePlain yX3_makePlain, Cond.code yX3_makePlain cX3_makePlain 2 none, Cond.fieldLink RX3 9 "BatchOrder$Order" "places" "[I", Cond.methodLink RX3 94 yX2_shuffle, Cond.instanceMethod yX2_shuffle, Cond.selects RX2 yX2_shuffle yX2_shuffle, Cond.code yX2_shuffle cX2_shuffle 7 none, Cond.methodLink RX2 19 yX2_below, Cond.instanceMethod yX2_below, Cond.selects RX2 yX2_below yX2_below, Cond.code yX2_below cX2_below 2 (some .int), Cond.methodLink RX3 66 yX3_sortParts, Cond.instanceMethod yX3_sortParts]
def wsX6_share_r4 : List Cond := [Cond.selects RX3 yX3_sortParts yX3_sortParts, Cond.code yX3_sortParts cX3_sortParts 3 none, Cond.methodLink RX3 101 Lib.Math.max.name, Cond.static Lib.Math.max.name, Cond.code Lib.Math.max.name Lib.Math.max.code 2 (some .int), Cond.methodLink RX3 104 yX3_sortByLength, Cond.instanceMethod yX3_sortByLength, Cond.selects RX3 yX3_sortByLength yX3_sortByLength, Cond.code yX3_sortByLength cX3_sortByLength 7 none, Cond.methodLink RX3 107 yX4_length, Cond.instanceMethod yX4_length, Cond.selects RX4 yX4_length yX4_length, Cond.code yX4_length cX4_length 3 (some .int), Cond.methodLink RX4 40 yX4_find, Cond.instanceMethod yX4_find, Cond.selects RX4 yX4_find yX4_find, Cond.code yX4_find cX4_find 2 (some (.object "BatchOrder$Content")), Cond.fieldLink RX4 11 "BatchOrder$Rows" "contents" "[LBatchOrder$Content;", Cond.methodLink RX3 69 yX3_makeWeighted, Cond.instanceMethod yX3_makeWeighted, Cond.selects RX3 yX3_makeWeighted yX3_makeWeighted, Cond.code yX3_makeWeighted cX3_makeWeighted 3 none, Cond.methodLink RX3 111 yX2_below, Cond.methodLink RX3 114 yX3_rowAbove]
def wsX6_share_r5 : List Cond := [Cond.instanceMethod yX3_rowAbove, Cond.selects RX3 yX3_rowAbove yX3_rowAbove, Cond.code yX3_rowAbove cX3_rowAbove 4 (some .int), Cond.methodLink RX3 117 yX4_weight, Cond.methodLink RX3 72 yX3_makeBalanced, Cond.instanceMethod yX3_makeBalanced, Cond.selects RX3 yX3_makeBalanced yX3_makeBalanced, Cond.code yX3_makeBalanced cX3_makeBalanced 5 none, Cond.fieldLink RX3 25 "BatchOrder$Order" "sizes" "[I", Cond.fieldLink RX3 28 "BatchOrder$Order" "taken" "[I", Cond.fieldLink RX3 22 "BatchOrder$Order" "firsts" "[I", Cond.methodLink RX3 120 yX3_layOutLabels, Cond.instanceMethod yX3_layOutLabels, Cond.selects RX3 yX3_layOutLabels yX3_layOutLabels, Cond.code yX3_layOutLabels cX3_layOutLabels 5 none, Cond.fieldLink RX3 31 "BatchOrder$Order" "mixings" "[I", Cond.methodLink RX3 129 yX4_label, Cond.instanceMethod yX4_label, Cond.selects RX4 yX4_label yX4_label, Cond.code yX4_label cX4_label 2 (some .int), Cond.fieldLink RX4 17 "BatchOrder$Rows" "labels" "[I", Cond.methodLink RX3 123 yX3_mixLabel, Cond.instanceMethod yX3_mixLabel, Cond.selects RX3 yX3_mixLabel yX3_mixLabel]
def wsX6_share_r6 : List Cond := [Cond.code yX3_mixLabel cX3_mixLabel 5 none, Cond.fieldLink RX3 19 "BatchOrder$Order" "scratch" "[I", Cond.methodLink RX3 126 yX3_rowHeld, Cond.instanceMethod yX3_rowHeld, Cond.selects RX3 yX3_rowHeld yX3_rowHeld, Cond.code yX3_rowHeld cX3_rowHeld 2 (some .int), Cond.methodLink RX3 76 yX3_makeBuffered, Cond.instanceMethod yX3_makeBuffered, Cond.selects RX3 yX3_makeBuffered yX3_makeBuffered, Cond.code yX3_makeBuffered cX3_makeBuffered 5 none, Cond.methodLink RX6 158 yX6_rowInBatch, Cond.instanceMethod yX6_rowInBatch, Cond.selects RX6 yX6_rowInBatch yX6_rowInBatch, Cond.code yX6_rowInBatch cX6_rowInBatch 4 (some .int), Cond.fieldLink RX6 10 "BatchOrder" "rows" "LBatchOrder$Rows;", Cond.methodLink RX6 146 yX5_batchesOf, Cond.instanceMethod yX5_batchesOf, Cond.selects RX5 yX5_batchesOf yX5_batchesOf, Cond.initialized RX5, Cond.code yX5_batchesOf cX5_batchesOf 2 (some .int), Cond.fieldLink RX5 15 "BatchOrder$Settings" "size" "I", Cond.fieldLink RX5 25 "BatchOrder$Settings" "drops" "I", Cond.methodLink RX6 165 yX3_rowAt, Cond.instanceMethod yX3_rowAt]
def wsX6_share_r7 : List Cond := [Cond.selects RX3 yX3_rowAt yX3_rowAt, Cond.code yX3_rowAt cX3_rowAt 2 (some .int)]
def wsX6_share : List Cond := .code yX6_share cX6_share 7 (some .int) :: ((wsX6_share_r1 ++ (wsX6_share_r2 ++ (wsX6_share_r3 ++ (wsX6_share_r4 ++ (wsX6_share_r5 ++ (wsX6_share_r6 ++ wsX6_share_r7)))))) ++ wsX60 ++ wsX50 ++ wsX30 ++ wsX40 ++ wsX20 ++ wsX10)
def wsX6_once_r1 : List Cond := [Cond.fieldLink RX6 35 "BatchOrder" "order" "LBatchOrder$Order;", Cond.methodLink RX6 149 yX6_isWay, Cond.static yX6_isWay, Cond.initialized RX6, Cond.code yX6_isWay cX6_isWay 1 (some .boolean), Cond.methodLink RX6 152 yX6_isRound, Cond.static yX6_isRound, Cond.code yX6_isRound cX6_isRound 1 (some .boolean), Cond.methodLink RX6 155 yX3_make, Cond.instanceMethod yX3_make, Cond.selects RX3 yX3_make yX3_make, Cond.initialized RX3, Cond.code yX3_make cX3_make 3 (some .boolean), Cond.fieldLink RX3 34 "BatchOrder$Order" "rows" "LBatchOrder$Rows;", Cond.methodLink RX3 49 Lib.Math.min.name, Cond.static Lib.Math.min.name, Cond.initialized "java/lang/Math", Cond.code Lib.Math.min.name Lib.Math.min.code 2 (some .int), Cond.fieldLink RX3 15 "BatchOrder$Order" "many" "I", Cond.methodLink RX3 55 yX4_sumOfWeights, Cond.instanceMethod yX4_sumOfWeights, Cond.selects RX4 yX4_sumOfWeights yX4_sumOfWeights, Cond.initialized RX4, Cond.code yX4_sumOfWeights cX4_sumOfWeights 3 (some .int)]
def wsX6_once_r2 : List Cond := [Cond.fieldLink RX4 24 "BatchOrder$Rows" "many" "I", Cond.methodLink RX4 47 yX4_weight, Cond.instanceMethod yX4_weight, Cond.selects RX4 yX4_weight yX4_weight, Cond.code yX4_weight cX4_weight 2 (some .int), Cond.fieldLink RX4 21 "BatchOrder$Rows" "weights" "[I", Cond.methodLink RX4 28 yX4_has, Cond.instanceMethod yX4_has, Cond.selects RX4 yX4_has yX4_has, Cond.code yX4_has cX4_has 2 (some .boolean), Cond.methodLink RX3 59 yX3_beginStream, Cond.instanceMethod yX3_beginStream, Cond.selects RX3 yX3_beginStream yX3_beginStream, Cond.code yX3_beginStream cX3_beginStream 3 none, Cond.fieldLink RX3 42 "BatchOrder$Order" "draws" "LBatchOrder$Draws;", Cond.fieldLink RX3 38 "BatchOrder$Order" "settings" "LBatchOrder$Settings;", Cond.methodLink RX3 85 yX2_begin, Cond.instanceMethod yX2_begin, Cond.selects RX2 yX2_begin yX2_begin, Cond.initialized RX2, Cond.code yX2_begin cX2_begin 3 none, Cond.fieldLink RX2 7 "BatchOrder$Draws" "state" "J", Cond.methodLink RX3 91 yX2_key, Cond.instanceMethod yX2_key]
def wsX6_once_r3 : List Cond := [Cond.selects RX2 yX2_key yX2_key, Cond.code yX2_key cX2_key 2 none, Cond.constantLong RX2 13 (-7046029254386353131), Cond.methodLink RX2 15 yX2_mixed, Cond.static yX2_mixed, Cond.code yX2_mixed cX2_mixed 2 (some .long), Cond.constantLong RX2 23 (-4658895280553007687), Cond.constantLong RX2 25 (-7723592293110705685), Cond.methodLink RX3 63 yX3_makePlain, Cond.instanceMethod yX3_makePlain, Cond.selects RX3 yX3_makePlain yX3_makePlain, Cond.code yX3_makePlain cX3_makePlain 2 none, Cond.fieldLink RX3 9 "BatchOrder$Order" "places" "[I", Cond.methodLink RX3 94 yX2_shuffle, Cond.instanceMethod yX2_shuffle, Cond.selects RX2 yX2_shuffle yX2_shuffle, Cond.code yX2_shuffle cX2_shuffle 7 none, Cond.methodLink RX2 19 yX2_below, Cond.instanceMethod yX2_below, Cond.selects RX2 yX2_below yX2_below, Cond.code yX2_below cX2_below 2 (some .int), Cond.methodLink RX3 66 yX3_sortParts, Cond.instanceMethod yX3_sortParts, Cond.selects RX3 yX3_sortParts yX3_sortParts]
def wsX6_once_r4 : List Cond := [Cond.code yX3_sortParts cX3_sortParts 3 none, Cond.methodLink RX3 101 Lib.Math.max.name, Cond.static Lib.Math.max.name, Cond.code Lib.Math.max.name Lib.Math.max.code 2 (some .int), Cond.methodLink RX3 104 yX3_sortByLength, Cond.instanceMethod yX3_sortByLength, Cond.selects RX3 yX3_sortByLength yX3_sortByLength, Cond.code yX3_sortByLength cX3_sortByLength 7 none, Cond.methodLink RX3 107 yX4_length, Cond.instanceMethod yX4_length, Cond.selects RX4 yX4_length yX4_length, Cond.code yX4_length cX4_length 3 (some .int), Cond.methodLink RX4 40 yX4_find, Cond.instanceMethod yX4_find, Cond.selects RX4 yX4_find yX4_find, Cond.code yX4_find cX4_find 2 (some (.object "BatchOrder$Content")), Cond.fieldLink RX4 11 "BatchOrder$Rows" "contents" "[LBatchOrder$Content;", Cond.methodLink RX3 69 yX3_makeWeighted, Cond.instanceMethod yX3_makeWeighted, Cond.selects RX3 yX3_makeWeighted yX3_makeWeighted, Cond.code yX3_makeWeighted cX3_makeWeighted 3 none, Cond.methodLink RX3 111 yX2_below, Cond.methodLink RX3 114 yX3_rowAbove, Cond.instanceMethod yX3_rowAbove]
def wsX6_once_r5 : List Cond := [Cond.selects RX3 yX3_rowAbove yX3_rowAbove, Cond.code yX3_rowAbove cX3_rowAbove 4 (some .int), Cond.methodLink RX3 117 yX4_weight, Cond.methodLink RX3 72 yX3_makeBalanced, Cond.instanceMethod yX3_makeBalanced, Cond.selects RX3 yX3_makeBalanced yX3_makeBalanced, Cond.code yX3_makeBalanced cX3_makeBalanced 5 none, Cond.fieldLink RX3 25 "BatchOrder$Order" "sizes" "[I", Cond.fieldLink RX3 28 "BatchOrder$Order" "taken" "[I", Cond.fieldLink RX3 22 "BatchOrder$Order" "firsts" "[I", Cond.methodLink RX3 120 yX3_layOutLabels, Cond.instanceMethod yX3_layOutLabels, Cond.selects RX3 yX3_layOutLabels yX3_layOutLabels, Cond.code yX3_layOutLabels cX3_layOutLabels 5 none, Cond.fieldLink RX3 31 "BatchOrder$Order" "mixings" "[I", Cond.methodLink RX3 129 yX4_label, Cond.instanceMethod yX4_label, Cond.selects RX4 yX4_label yX4_label, Cond.code yX4_label cX4_label 2 (some .int), Cond.fieldLink RX4 17 "BatchOrder$Rows" "labels" "[I", Cond.methodLink RX3 123 yX3_mixLabel, Cond.instanceMethod yX3_mixLabel, Cond.selects RX3 yX3_mixLabel yX3_mixLabel, Cond.code yX3_mixLabel cX3_mixLabel 5 none]
def wsX6_once_r6 : List Cond := [Cond.fieldLink RX3 19 "BatchOrder$Order" "scratch" "[I", Cond.methodLink RX3 126 yX3_rowHeld, Cond.instanceMethod yX3_rowHeld, Cond.selects RX3 yX3_rowHeld yX3_rowHeld, Cond.code yX3_rowHeld cX3_rowHeld 2 (some .int), Cond.methodLink RX3 76 yX3_makeBuffered, Cond.instanceMethod yX3_makeBuffered, Cond.selects RX3 yX3_makeBuffered yX3_makeBuffered, Cond.code yX3_makeBuffered cX3_makeBuffered 5 none, Cond.methodLink RX6 162 yX3_hasEachOnce, Cond.instanceMethod yX3_hasEachOnce, Cond.selects RX3 yX3_hasEachOnce yX3_hasEachOnce, Cond.code yX3_hasEachOnce cX3_hasEachOnce 3 (some .boolean)]
def wsX6_once : List Cond := .code yX6_once cX6_once 3 (some .int) :: ((wsX6_once_r1 ++ (wsX6_once_r2 ++ (wsX6_once_r3 ++ (wsX6_once_r4 ++ (wsX6_once_r5 ++ wsX6_once_r6))))) ++ wsX60 ++ wsX30 ++ wsX40 ++ wsX50 ++ wsX20 ++ wsX10)
def wsX6_resume : List Cond := .code yX6_resume cX6_resume 4 (some .int) :: ([.fieldLink RX6 10 "BatchOrder" "rows" "LBatchOrder$Rows;", .fieldLink RX6 48 "BatchOrder" "wayAtHand" "I", .fieldLink RX6 52 "BatchOrder" "roundAtHand" "I", .fieldLink RX6 55 "BatchOrder" "placeAtHand" "I", .methodLink RX6 149 yX6_isWay, .static yX6_isWay, .initialized RX6, .code yX6_isWay cX6_isWay 1 (some .boolean), .methodLink RX6 152 yX6_isRound, .static yX6_isRound, .code yX6_isRound cX6_isRound 1 (some .boolean)] ++ wsX60 ++ wsX40)
def wsX6_next_r1 : List Cond := [Cond.fieldLink RX6 10 "BatchOrder" "rows" "LBatchOrder$Rows;", Cond.fieldLink RX6 52 "BatchOrder" "roundAtHand" "I", Cond.fieldLink RX6 55 "BatchOrder" "placeAtHand" "I", Cond.fieldLink RX6 35 "BatchOrder" "order" "LBatchOrder$Order;", Cond.fieldLink RX6 48 "BatchOrder" "wayAtHand" "I", Cond.methodLink RX6 155 yX3_make, Cond.instanceMethod yX3_make, Cond.selects RX3 yX3_make yX3_make, Cond.initialized RX3, Cond.code yX3_make cX3_make 3 (some .boolean), Cond.fieldLink RX3 34 "BatchOrder$Order" "rows" "LBatchOrder$Rows;", Cond.methodLink RX3 49 Lib.Math.min.name, Cond.static Lib.Math.min.name, Cond.initialized "java/lang/Math", Cond.code Lib.Math.min.name Lib.Math.min.code 2 (some .int), Cond.fieldLink RX3 15 "BatchOrder$Order" "many" "I", Cond.methodLink RX3 55 yX4_sumOfWeights, Cond.instanceMethod yX4_sumOfWeights, Cond.selects RX4 yX4_sumOfWeights yX4_sumOfWeights, Cond.initialized RX4, Cond.code yX4_sumOfWeights cX4_sumOfWeights 3 (some .int), Cond.fieldLink RX4 24 "BatchOrder$Rows" "many" "I", Cond.methodLink RX4 47 yX4_weight, Cond.instanceMethod yX4_weight]
def wsX6_next_r2 : List Cond := [Cond.selects RX4 yX4_weight yX4_weight, Cond.code yX4_weight cX4_weight 2 (some .int), Cond.fieldLink RX4 21 "BatchOrder$Rows" "weights" "[I", Cond.methodLink RX4 28 yX4_has, Cond.instanceMethod yX4_has, Cond.selects RX4 yX4_has yX4_has, Cond.code yX4_has cX4_has 2 (some .boolean), Cond.methodLink RX3 59 yX3_beginStream, Cond.instanceMethod yX3_beginStream, Cond.selects RX3 yX3_beginStream yX3_beginStream, Cond.code yX3_beginStream cX3_beginStream 3 none, Cond.fieldLink RX3 42 "BatchOrder$Order" "draws" "LBatchOrder$Draws;", Cond.fieldLink RX3 38 "BatchOrder$Order" "settings" "LBatchOrder$Settings;", Cond.methodLink RX3 85 yX2_begin, Cond.instanceMethod yX2_begin, Cond.selects RX2 yX2_begin yX2_begin, Cond.initialized RX2, Cond.code yX2_begin cX2_begin 3 none, Cond.fieldLink RX2 7 "BatchOrder$Draws" "state" "J", Cond.methodLink RX3 91 yX2_key, Cond.instanceMethod yX2_key, Cond.selects RX2 yX2_key yX2_key, Cond.code yX2_key cX2_key 2 none, Cond.constantLong RX2 13 (-7046029254386353131)]
def wsX6_next_r3 : List Cond := [Cond.methodLink RX2 15 yX2_mixed, Cond.static yX2_mixed, Cond.code yX2_mixed cX2_mixed 2 (some .long), Cond.constantLong RX2 23 (-4658895280553007687), Cond.constantLong RX2 25 (-7723592293110705685), Cond.methodLink RX3 63 yX3_makePlain, Cond.instanceMethod yX3_makePlain, Cond.selects RX3 yX3_makePlain yX3_makePlain, Cond.code yX3_makePlain cX3_makePlain 2 none, Cond.fieldLink RX3 9 "BatchOrder$Order" "places" "[I", Cond.methodLink RX3 94 yX2_shuffle, Cond.instanceMethod yX2_shuffle, Cond.selects RX2 yX2_shuffle yX2_shuffle, Cond.code yX2_shuffle cX2_shuffle 7 none, Cond.methodLink RX2 19 yX2_below, Cond.instanceMethod yX2_below, Cond.selects RX2 yX2_below yX2_below, Cond.code yX2_below cX2_below 2 (some .int), Cond.methodLink RX3 66 yX3_sortParts, Cond.instanceMethod yX3_sortParts, Cond.selects RX3 yX3_sortParts yX3_sortParts, Cond.code yX3_sortParts cX3_sortParts 3 none, Cond.methodLink RX3 101 Lib.Math.max.name, Cond.static Lib.Math.max.name]
def wsX6_next_r4 : List Cond := [Cond.code Lib.Math.max.name Lib.Math.max.code 2 (some .int), Cond.methodLink RX3 104 yX3_sortByLength, Cond.instanceMethod yX3_sortByLength, Cond.selects RX3 yX3_sortByLength yX3_sortByLength, Cond.code yX3_sortByLength cX3_sortByLength 7 none, Cond.methodLink RX3 107 yX4_length, Cond.instanceMethod yX4_length, Cond.selects RX4 yX4_length yX4_length, Cond.code yX4_length cX4_length 3 (some .int), Cond.methodLink RX4 40 yX4_find, Cond.instanceMethod yX4_find, Cond.selects RX4 yX4_find yX4_find, Cond.code yX4_find cX4_find 2 (some (.object "BatchOrder$Content")), Cond.fieldLink RX4 11 "BatchOrder$Rows" "contents" "[LBatchOrder$Content;", Cond.methodLink RX3 69 yX3_makeWeighted, Cond.instanceMethod yX3_makeWeighted, Cond.selects RX3 yX3_makeWeighted yX3_makeWeighted, Cond.code yX3_makeWeighted cX3_makeWeighted 3 none, Cond.methodLink RX3 111 yX2_below, Cond.methodLink RX3 114 yX3_rowAbove, Cond.instanceMethod yX3_rowAbove, Cond.selects RX3 yX3_rowAbove yX3_rowAbove, Cond.code yX3_rowAbove cX3_rowAbove 4 (some .int), Cond.methodLink RX3 117 yX4_weight]
def wsX6_next_r5 : List Cond := [Cond.methodLink RX3 72 yX3_makeBalanced, Cond.instanceMethod yX3_makeBalanced, Cond.selects RX3 yX3_makeBalanced yX3_makeBalanced, Cond.code yX3_makeBalanced cX3_makeBalanced 5 none, Cond.fieldLink RX3 25 "BatchOrder$Order" "sizes" "[I", Cond.fieldLink RX3 28 "BatchOrder$Order" "taken" "[I", Cond.fieldLink RX3 22 "BatchOrder$Order" "firsts" "[I", Cond.methodLink RX3 120 yX3_layOutLabels, Cond.instanceMethod yX3_layOutLabels, Cond.selects RX3 yX3_layOutLabels yX3_layOutLabels, Cond.code yX3_layOutLabels cX3_layOutLabels 5 none, Cond.fieldLink RX3 31 "BatchOrder$Order" "mixings" "[I", Cond.methodLink RX3 129 yX4_label, Cond.instanceMethod yX4_label, Cond.selects RX4 yX4_label yX4_label, Cond.code yX4_label cX4_label 2 (some .int), Cond.fieldLink RX4 17 "BatchOrder$Rows" "labels" "[I", Cond.methodLink RX3 123 yX3_mixLabel, Cond.instanceMethod yX3_mixLabel, Cond.selects RX3 yX3_mixLabel yX3_mixLabel, Cond.code yX3_mixLabel cX3_mixLabel 5 none, Cond.fieldLink RX3 19 "BatchOrder$Order" "scratch" "[I", Cond.methodLink RX3 126 yX3_rowHeld, Cond.instanceMethod yX3_rowHeld]
def wsX6_next_r6 : List Cond := [Cond.selects RX3 yX3_rowHeld yX3_rowHeld, Cond.code yX3_rowHeld cX3_rowHeld 2 (some .int), Cond.methodLink RX3 76 yX3_makeBuffered, Cond.instanceMethod yX3_makeBuffered, Cond.selects RX3 yX3_makeBuffered yX3_makeBuffered, Cond.code yX3_makeBuffered cX3_makeBuffered 5 none, Cond.methodLink RX6 165 yX3_rowAt, Cond.instanceMethod yX3_rowAt, Cond.selects RX3 yX3_rowAt yX3_rowAt, Cond.code yX3_rowAt cX3_rowAt 2 (some .int)]
def wsX6_next : List Cond := .code yX6_next cX6_next 3 (some .int) :: ((wsX6_next_r1 ++ (wsX6_next_r2 ++ (wsX6_next_r3 ++ (wsX6_next_r4 ++ (wsX6_next_r5 ++ wsX6_next_r6))))) ++ wsX60 ++ wsX40 ++ wsX30 ++ wsX50 ++ wsX20 ++ wsX10)
def wsX6_at : List Cond := .code yX6_at cX6_at 2 (some .int) :: ([.fieldLink RX6 48 "BatchOrder" "wayAtHand" "I", .fieldLink RX6 52 "BatchOrder" "roundAtHand" "I", .fieldLink RX6 55 "BatchOrder" "placeAtHand" "I"] ++ wsX60)
def wsX6_act_r1 : List Cond := [Cond.fieldLink RX6 10 "BatchOrder" "rows" "LBatchOrder$Rows;", Cond.fieldLink RX6 26 "BatchOrder" "draws" "LBatchOrder$Draws;", Cond.fieldLink RX6 19 "BatchOrder" "settings" "LBatchOrder$Settings;", Cond.fieldLink RX6 44 "BatchOrder" "altered" "LBatchOrder$Content;", Cond.methodLink RX6 76 yX4_find, Cond.instanceMethod yX4_find, Cond.selects RX4 yX4_find yX4_find, Cond.initialized RX4, Cond.code yX4_find cX4_find 2 (some (.object "BatchOrder$Content")), Cond.fieldLink RX4 11 "BatchOrder$Rows" "contents" "[LBatchOrder$Content;", Cond.methodLink RX4 28 yX4_has, Cond.instanceMethod yX4_has, Cond.selects RX4 yX4_has yX4_has, Cond.code yX4_has cX4_has 2 (some .boolean), Cond.fieldLink RX4 24 "BatchOrder$Rows" "many" "I", Cond.methodLink RX6 152 yX6_isRound, Cond.static yX6_isRound, Cond.initialized RX6, Cond.code yX6_isRound cX6_isRound 1 (some .boolean), Cond.methodLink RX6 168 yX0_allows, Cond.static yX0_allows, Cond.initialized RX0, Cond.code yX0_allows cX0_allows 2 (some .boolean), Cond.methodLink RX6 171 yX0_failure]
def wsX6_act_r2 : List Cond := [Cond.static yX0_failure, Cond.code yX0_failure cX0_failure 4 (some .int), Cond.methodLink RX0 17 yX0_failureOfCrop, Cond.static yX0_failureOfCrop, Cond.code yX0_failureOfCrop cX0_failureOfCrop 2 (some .int), Cond.methodLink RX0 24 yX0_failureOfSwap, Cond.static yX0_failureOfSwap, Cond.code yX0_failureOfSwap cX0_failureOfSwap 2 (some .int), Cond.methodLink RX6 175 yX2_begin, Cond.instanceMethod yX2_begin, Cond.selects RX2 yX2_begin yX2_begin, Cond.initialized RX2, Cond.code yX2_begin cX2_begin 3 none, Cond.fieldLink RX2 7 "BatchOrder$Draws" "state" "J", Cond.methodLink RX6 179 yX2_key, Cond.instanceMethod yX2_key, Cond.selects RX2 yX2_key yX2_key, Cond.code yX2_key cX2_key 2 none, Cond.constantLong RX2 13 (-7046029254386353131), Cond.methodLink RX2 15 yX2_mixed, Cond.static yX2_mixed, Cond.code yX2_mixed cX2_mixed 2 (some .long), Cond.constantLong RX2 23 (-4658895280553007687), Cond.constantLong RX2 25 (-7723592293110705685)]
def wsX6_act_r3 : List Cond := [Cond.methodLink RX6 182 yX0_alter, Cond.static yX0_alter, Cond.code yX0_alter cX0_alter 5 none, Cond.methodLink RX0 33 yX2_below, Cond.instanceMethod yX2_below, Cond.selects RX2 yX2_below yX2_below, Cond.code yX2_below cX2_below 2 (some .int), Cond.methodLink RX0 39 yX0_turn, Cond.static yX0_turn, Cond.code yX0_turn cX0_turn 6 none, Cond.methodLink RX0 56 yX1_becomePicture, Cond.instanceMethod yX1_becomePicture, Cond.selects RX1 yX1_becomePicture yX1_becomePicture, Cond.initialized RX1, Cond.code yX1_becomePicture cX1_becomePicture 3 none, Cond.fieldLink RX1 21 "BatchOrder$Content" "kind" "I", Cond.fieldLink RX1 25 "BatchOrder$Content" "high" "I", Cond.fieldLink RX1 28 "BatchOrder$Content" "wide" "I", Cond.fieldLink RX1 31 "BatchOrder$Content" "length" "I", Cond.methodLink RX0 60 yX0_turnedPlace, Cond.static yX0_turnedPlace, Cond.code yX0_turnedPlace cX0_turnedPlace 6 (some .int), Cond.methodLink RX0 64 yX1_item, Cond.instanceMethod yX1_item]
def wsX6_act_r4 : List Cond := [Cond.selects RX1 yX1_item yX1_item, Cond.code yX1_item cX1_item 2 (some .int), Cond.fieldLink RX1 15 "BatchOrder$Content" "items" "[I", Cond.methodLink RX1 34 yX1_holds, Cond.instanceMethod yX1_holds, Cond.selects RX1 yX1_holds yX1_holds, Cond.code yX1_holds cX1_holds 2 (some .boolean), Cond.methodLink RX0 67 yX1_put, Cond.instanceMethod yX1_put, Cond.selects RX1 yX1_put yX1_put, Cond.code yX1_put cX1_put 3 none, Cond.methodLink RX0 43 yX0_crop, Cond.static yX0_crop, Cond.code yX0_crop cX0_crop 8 none, Cond.methodLink RX0 47 yX0_addNoise, Cond.static yX0_addNoise, Cond.code yX0_addNoise cX0_addNoise 5 none, Cond.methodLink RX0 50 yX0_leaveOut, Cond.static yX0_leaveOut, Cond.code yX0_leaveOut cX0_leaveOut 5 none, Cond.methodLink RX0 70 yX1_becomeNoWords, Cond.instanceMethod yX1_becomeNoWords, Cond.selects RX1 yX1_becomeNoWords yX1_becomeNoWords, Cond.code yX1_becomeNoWords cX1_becomeNoWords 1 none]
def wsX6_act_r5 : List Cond := [Cond.methodLink RX0 73 yX1_append, Cond.instanceMethod yX1_append, Cond.selects RX1 yX1_append yX1_append, Cond.code yX1_append cX1_append 2 none, Cond.methodLink RX0 53 yX0_swapSome, Cond.static yX0_swapSome, Cond.code yX0_swapSome cX0_swapSome 5 none, Cond.methodLink RX0 77 yX1_swapWithNext, Cond.instanceMethod yX1_swapWithNext, Cond.selects RX1 yX1_swapWithNext yX1_swapWithNext, Cond.code yX1_swapWithNext cX1_swapWithNext 3 none, Cond.methodLink RX1 38 yX1_item, Cond.methodLink RX1 42 yX1_put]
def wsX6_act : List Cond := .code yX6_act cX6_act 7 (some .int) :: ((wsX6_act_r1 ++ (wsX6_act_r2 ++ (wsX6_act_r3 ++ (wsX6_act_r4 ++ wsX6_act_r5)))) ++ wsX60 ++ wsX50 ++ wsX10 ++ wsX40 ++ wsX20)
def wsX6_out : List Cond := .code yX6_out cX6_out 2 (some .int) :: ([.fieldLink RX6 44 "BatchOrder" "altered" "LBatchOrder$Content;", .methodLink RX6 89 yX1_holds, .instanceMethod yX1_holds, .selects RX1 yX1_holds yX1_holds, .initialized RX1, .code yX1_holds cX1_holds 2 (some .boolean), .fieldLink RX1 31 "BatchOrder$Content" "length" "I", .fieldLink RX1 15 "BatchOrder$Content" "items" "[I", .methodLink RX6 186 yX1_item, .instanceMethod yX1_item, .selects RX1 yX1_item yX1_item, .code yX1_item cX1_item 2 (some .int), .methodLink RX1 34 yX1_holds] ++ wsX60 ++ wsX10)
def wsX6_like_r1 : List Cond := [Cond.fieldLink RX6 10 "BatchOrder" "rows" "LBatchOrder$Rows;", Cond.fieldLink RX6 44 "BatchOrder" "altered" "LBatchOrder$Content;", Cond.methodLink RX6 76 yX4_find, Cond.instanceMethod yX4_find, Cond.selects RX4 yX4_find yX4_find, Cond.initialized RX4, Cond.code yX4_find cX4_find 2 (some (.object "BatchOrder$Content")), Cond.fieldLink RX4 11 "BatchOrder$Rows" "contents" "[LBatchOrder$Content;", Cond.methodLink RX4 28 yX4_has, Cond.instanceMethod yX4_has, Cond.selects RX4 yX4_has yX4_has, Cond.code yX4_has cX4_has 2 (some .boolean), Cond.fieldLink RX4 24 "BatchOrder$Rows" "many" "I", Cond.methodLink RX6 189 yX1_isLike, Cond.instanceMethod yX1_isLike, Cond.selects RX1 yX1_isLike yX1_isLike, Cond.initialized RX1, Cond.code yX1_isLike cX1_isLike 3 (some .boolean), Cond.fieldLink RX1 21 "BatchOrder$Content" "kind" "I", Cond.fieldLink RX1 25 "BatchOrder$Content" "high" "I", Cond.fieldLink RX1 28 "BatchOrder$Content" "wide" "I", Cond.fieldLink RX1 31 "BatchOrder$Content" "length" "I", Cond.methodLink RX1 38 yX1_item, Cond.instanceMethod yX1_item]
def wsX6_like_r2 : List Cond := [Cond.selects RX1 yX1_item yX1_item, Cond.code yX1_item cX1_item 2 (some .int), Cond.fieldLink RX1 15 "BatchOrder$Content" "items" "[I", Cond.methodLink RX1 34 yX1_holds, Cond.instanceMethod yX1_holds, Cond.selects RX1 yX1_holds yX1_holds, Cond.code yX1_holds cX1_holds 2 (some .boolean)]
def wsX6_like : List Cond := .code yX6_like cX6_like 3 (some .int) :: ((wsX6_like_r1 ++ wsX6_like_r2) ++ wsX60 ++ wsX40 ++ wsX10)
def wsX7_init : List Cond := .code yX7_init cX7_init 1 none :: ([.methodLink RX7 1 objectInit, .instanceMethod objectInit, .code objectInit ⟨#[0xb1]⟩ 1 none, .arrayClass .int, .fieldLink RX7 7 "BatchOrderModel" "kinds" "[I", .fieldLink RX7 13 "BatchOrderModel" "labels" "[I", .fieldLink RX7 16 "BatchOrderModel" "weights" "[I", .fieldLink RX7 19 "BatchOrderModel" "lengths" "[I", .fieldLink RX7 22 "BatchOrderModel" "highs" "[I", .fieldLink RX7 25 "BatchOrderModel" "wides" "[I", .constant RX7 28 (96000), .fieldLink RX7 29 "BatchOrderModel" "items" "[I", .fieldLink RX7 32 "BatchOrderModel" "size" "I", .fieldLink RX7 36 "BatchOrderModel" "group" "I", .fieldLink RX7 39 "BatchOrderModel" "buffer" "I", .fieldLink RX7 42 "BatchOrderModel" "order" "[I", .fieldLink RX7 45 "BatchOrderModel" "spare" "[I", .fieldLink RX7 48 "BatchOrderModel" "firsts" "[I", .fieldLink RX7 51 "BatchOrderModel" "manies" "[I", .fieldLink RX7 54 "BatchOrderModel" "comers" "[I", .fieldLink RX7 57 "BatchOrderModel" "times" "[I", .fieldLink RX7 60 "BatchOrderModel" "outKind" "I", .fieldLink RX7 63 "BatchOrderModel" "out" "[I", .fieldLink RX7 66 "BatchOrderModel" "other" "[I"] ++ wsX70)
def wsX7_thrown : List Cond := .code yX7_thrown cX7_thrown 1 (some .int) :: ([.fieldLink RX7 69 "BatchOrderModel" "thrown" "I"] ++ wsX70)
def wsX7_in : List Cond := .code yX7_in cX7_in 6 (some .boolean) :: ([])
def wsX7_mix : List Cond := .code yX7_mix cX7_mix 4 (some .long) :: ([.constantLong RX7 72 (-4658895280553007687), .constantLong RX7 74 (-7723592293110705685)])
def wsX7_begin : List Cond := .code yX7_begin cX7_begin 1 none :: ([.fieldLink RX7 76 "BatchOrderModel" "seed" "J", .fieldLink RX7 80 "BatchOrderModel" "state" "J"] ++ wsX70)
def wsX7_with : List Cond := .code yX7_with cX7_with 3 none :: ([.fieldLink RX7 80 "BatchOrderModel" "state" "J", .constantLong RX7 83 (-7046029254386353131), .methodLink RX7 85 yX7_mix, .static yX7_mix, .initialized RX7, .code yX7_mix cX7_mix 4 (some .long), .constantLong RX7 72 (-4658895280553007687), .constantLong RX7 74 (-7723592293110705685)] ++ wsX70)
def wsX7_draw : List Cond := .code yX7_draw cX7_draw 3 (some .int) :: ([.fieldLink RX7 80 "BatchOrderModel" "state" "J", .constantLong RX7 83 (-7046029254386353131), .methodLink RX7 85 yX7_mix, .static yX7_mix, .initialized RX7, .code yX7_mix cX7_mix 4 (some .long), .constantLong RX7 72 (-4658895280553007687), .constantLong RX7 74 (-7723592293110705685)] ++ wsX70)
def wsX7_mixes : List Cond := .code yX7_mixes cX7_mixes 7 none :: ([.methodLink RX7 89 yX7_draw, .instanceMethod yX7_draw, .selects RX7 yX7_draw yX7_draw, .initialized RX7, .code yX7_draw cX7_draw 3 (some .int), .fieldLink RX7 80 "BatchOrderModel" "state" "J", .constantLong RX7 83 (-7046029254386353131), .methodLink RX7 85 yX7_mix, .static yX7_mix, .code yX7_mix cX7_mix 4 (some .long), .constantLong RX7 72 (-4658895280553007687), .constantLong RX7 74 (-7723592293110705685)] ++ wsX70)
def wsX7_isRow : List Cond := .code yX7_isRow cX7_isRow 2 (some .boolean) :: ([.fieldLink RX7 93 "BatchOrderModel" "rows" "I", .methodLink RX7 96 yX7_in, .static yX7_in, .initialized RX7, .code yX7_in cX7_in 6 (some .boolean)] ++ wsX70)
def wsX7_comes : List Cond := .code yX7_comes cX7_comes 7 (some .int) :: ([.constantLong RX7 100 (7), .constantLong RX7 102 (1000), .fieldLink RX7 93 "BatchOrderModel" "rows" "I", .fieldLink RX7 7 "BatchOrderModel" "kinds" "[I", .fieldLink RX7 13 "BatchOrderModel" "labels" "[I", .fieldLink RX7 16 "BatchOrderModel" "weights" "[I", .fieldLink RX7 22 "BatchOrderModel" "highs" "[I", .fieldLink RX7 25 "BatchOrderModel" "wides" "[I", .fieldLink RX7 19 "BatchOrderModel" "lengths" "[I", .fieldLink RX7 29 "BatchOrderModel" "items" "[I", .methodLink RX7 96 yX7_in, .static yX7_in, .initialized RX7, .code yX7_in cX7_in 6 (some .boolean)] ++ wsX70)
def wsX7_row : List Cond := .code yX7_row cX7_row 4 (some .int) :: ([.fieldLink RX7 69 "BatchOrderModel" "thrown" "I", .methodLink RX7 104 yX7_comes, .instanceMethod yX7_comes, .selects RX7 yX7_comes yX7_comes, .initialized RX7, .code yX7_comes cX7_comes 7 (some .int), .constantLong RX7 100 (7), .constantLong RX7 102 (1000), .fieldLink RX7 93 "BatchOrderModel" "rows" "I", .fieldLink RX7 7 "BatchOrderModel" "kinds" "[I", .fieldLink RX7 13 "BatchOrderModel" "labels" "[I", .fieldLink RX7 16 "BatchOrderModel" "weights" "[I", .fieldLink RX7 22 "BatchOrderModel" "highs" "[I", .fieldLink RX7 25 "BatchOrderModel" "wides" "[I", .fieldLink RX7 19 "BatchOrderModel" "lengths" "[I", .fieldLink RX7 29 "BatchOrderModel" "items" "[I", .methodLink RX7 96 yX7_in, .static yX7_in, .code yX7_in cX7_in 6 (some .boolean)] ++ wsX70)
def wsX7_picture : List Cond := .code yX7_picture cX7_picture 5 (some .int) :: ([.fieldLink RX7 69 "BatchOrderModel" "thrown" "I", .constantLong RX7 108 (40), .methodLink RX7 96 yX7_in, .static yX7_in, .initialized RX7, .code yX7_in cX7_in 6 (some .boolean), .methodLink RX7 104 yX7_comes, .instanceMethod yX7_comes, .selects RX7 yX7_comes yX7_comes, .code yX7_comes cX7_comes 7 (some .int), .constantLong RX7 100 (7), .constantLong RX7 102 (1000), .fieldLink RX7 93 "BatchOrderModel" "rows" "I", .fieldLink RX7 7 "BatchOrderModel" "kinds" "[I", .fieldLink RX7 13 "BatchOrderModel" "labels" "[I", .fieldLink RX7 16 "BatchOrderModel" "weights" "[I", .fieldLink RX7 22 "BatchOrderModel" "highs" "[I", .fieldLink RX7 25 "BatchOrderModel" "wides" "[I", .fieldLink RX7 19 "BatchOrderModel" "lengths" "[I", .fieldLink RX7 29 "BatchOrderModel" "items" "[I"] ++ wsX70)
def wsX7_word : List Cond := .code yX7_word cX7_word 3 (some .int) :: ([.fieldLink RX7 69 "BatchOrderModel" "thrown" "I", .fieldLink RX7 7 "BatchOrderModel" "kinds" "[I", .fieldLink RX7 19 "BatchOrderModel" "lengths" "[I", .fieldLink RX7 29 "BatchOrderModel" "items" "[I", .methodLink RX7 110 yX7_isRow, .instanceMethod yX7_isRow, .selects RX7 yX7_isRow yX7_isRow, .initialized RX7, .code yX7_isRow cX7_isRow 2 (some .boolean), .fieldLink RX7 93 "BatchOrderModel" "rows" "I", .methodLink RX7 96 yX7_in, .static yX7_in, .code yX7_in cX7_in 6 (some .boolean)] ++ wsX70)
def wsX7_paint : List Cond := .code yX7_paint cX7_paint 6 (some .int) :: ([.fieldLink RX7 69 "BatchOrderModel" "thrown" "I", .fieldLink RX7 7 "BatchOrderModel" "kinds" "[I", .fieldLink RX7 19 "BatchOrderModel" "lengths" "[I", .fieldLink RX7 29 "BatchOrderModel" "items" "[I", .constantLong RX7 114 (255), .methodLink RX7 110 yX7_isRow, .instanceMethod yX7_isRow, .selects RX7 yX7_isRow yX7_isRow, .initialized RX7, .code yX7_isRow cX7_isRow 2 (some .boolean), .fieldLink RX7 93 "BatchOrderModel" "rows" "I", .methodLink RX7 96 yX7_in, .static yX7_in, .code yX7_in cX7_in 6 (some .boolean)] ++ wsX70)
def wsX7_mark : List Cond := .code yX7_mark cX7_mark 4 (some .int) :: ([.fieldLink RX7 69 "BatchOrderModel" "thrown" "I", .constantLong RX7 100 (7), .constantLong RX7 102 (1000), .fieldLink RX7 13 "BatchOrderModel" "labels" "[I", .fieldLink RX7 16 "BatchOrderModel" "weights" "[I", .methodLink RX7 110 yX7_isRow, .instanceMethod yX7_isRow, .selects RX7 yX7_isRow yX7_isRow, .initialized RX7, .code yX7_isRow cX7_isRow 2 (some .boolean), .fieldLink RX7 93 "BatchOrderModel" "rows" "I", .methodLink RX7 96 yX7_in, .static yX7_in, .code yX7_in cX7_in 6 (some .boolean)] ++ wsX70)
def wsX7_of : List Cond := .code yX7_of cX7_of 3 (some .int) :: ([.fieldLink RX7 69 "BatchOrderModel" "thrown" "I", .fieldLink RX7 7 "BatchOrderModel" "kinds" "[I", .fieldLink RX7 13 "BatchOrderModel" "labels" "[I", .fieldLink RX7 16 "BatchOrderModel" "weights" "[I", .fieldLink RX7 19 "BatchOrderModel" "lengths" "[I", .fieldLink RX7 22 "BatchOrderModel" "highs" "[I", .fieldLink RX7 25 "BatchOrderModel" "wides" "[I", .methodLink RX7 110 yX7_isRow, .instanceMethod yX7_isRow, .selects RX7 yX7_isRow yX7_isRow, .initialized RX7, .code yX7_isRow cX7_isRow 2 (some .boolean), .fieldLink RX7 93 "BatchOrderModel" "rows" "I", .methodLink RX7 96 yX7_in, .static yX7_in, .code yX7_in cX7_in 6 (some .boolean)] ++ wsX70)
def wsX7_seed : List Cond := .code yX7_seed cX7_seed 5 (some .long) :: ([.fieldLink RX7 69 "BatchOrderModel" "thrown" "I", .fieldLink RX7 76 "BatchOrderModel" "seed" "J"] ++ wsX70)
def wsX7_set : List Cond := .code yX7_set cX7_set 4 (some .int) :: ([.fieldLink RX7 69 "BatchOrderModel" "thrown" "I", .constantLong RX7 116 (20), .fieldLink RX7 32 "BatchOrderModel" "size" "I", .constantLong RX7 118 (60), .fieldLink RX7 36 "BatchOrderModel" "group" "I", .fieldLink RX7 39 "BatchOrderModel" "buffer" "I", .fieldLink RX7 120 "BatchOrderModel" "drops" "I", .methodLink RX7 96 yX7_in, .static yX7_in, .initialized RX7, .code yX7_in cX7_in 6 (some .boolean)] ++ wsX70)
def wsX7_weightsOfAll : List Cond := .code yX7_weightsOfAll cX7_weightsOfAll 3 (some .int) :: ([.fieldLink RX7 93 "BatchOrderModel" "rows" "I", .fieldLink RX7 16 "BatchOrderModel" "weights" "[I"] ++ wsX70)
def wsX7_byLengths : List Cond := .code yX7_byLengths cX7_byLengths 6 none :: ([.fieldLink RX7 93 "BatchOrderModel" "rows" "I", .fieldLink RX7 36 "BatchOrderModel" "group" "I", .fieldLink RX7 42 "BatchOrderModel" "order" "[I", .fieldLink RX7 19 "BatchOrderModel" "lengths" "[I"] ++ wsX70)
def wsX7_byWeights : List Cond := .code yX7_byWeights cX7_byWeights 6 (some .boolean) :: ([.fieldLink RX7 93 "BatchOrderModel" "rows" "I", .fieldLink RX7 16 "BatchOrderModel" "weights" "[I", .fieldLink RX7 42 "BatchOrderModel" "order" "[I", .methodLink RX7 148 yX7_weightsOfAll, .instanceMethod yX7_weightsOfAll, .selects RX7 yX7_weightsOfAll yX7_weightsOfAll, .initialized RX7, .code yX7_weightsOfAll cX7_weightsOfAll 3 (some .int), .methodLink RX7 89 yX7_draw, .instanceMethod yX7_draw, .selects RX7 yX7_draw yX7_draw, .code yX7_draw cX7_draw 3 (some .int), .fieldLink RX7 80 "BatchOrderModel" "state" "J", .constantLong RX7 83 (-7046029254386353131), .methodLink RX7 85 yX7_mix, .static yX7_mix, .code yX7_mix cX7_mix 4 (some .long), .constantLong RX7 72 (-4658895280553007687), .constantLong RX7 74 (-7723592293110705685)] ++ wsX70)
def wsX7_again_r1 : List Cond := [Cond.fieldLink RX7 48 "BatchOrderModel" "firsts" "[I", Cond.fieldLink RX7 93 "BatchOrderModel" "rows" "I", Cond.fieldLink RX7 13 "BatchOrderModel" "labels" "[I", Cond.fieldLink RX7 45 "BatchOrderModel" "spare" "[I", Cond.constantLong RX7 152 (3), Cond.fieldLink RX7 57 "BatchOrderModel" "times" "[I", Cond.fieldLink RX7 51 "BatchOrderModel" "manies" "[I", Cond.fieldLink RX7 54 "BatchOrderModel" "comers" "[I", Cond.methodLink RX7 123 yX7_begin, Cond.instanceMethod yX7_begin, Cond.selects RX7 yX7_begin yX7_begin, Cond.initialized RX7, Cond.code yX7_begin cX7_begin 1 none, Cond.fieldLink RX7 76 "BatchOrderModel" "seed" "J", Cond.fieldLink RX7 80 "BatchOrderModel" "state" "J", Cond.methodLink RX7 126 yX7_with, Cond.instanceMethod yX7_with, Cond.selects RX7 yX7_with yX7_with, Cond.code yX7_with cX7_with 3 none, Cond.constantLong RX7 83 (-7046029254386353131), Cond.methodLink RX7 85 yX7_mix, Cond.static yX7_mix, Cond.code yX7_mix cX7_mix 4 (some .long), Cond.constantLong RX7 72 (-4658895280553007687)]
def wsX7_again_r2 : List Cond := [Cond.constantLong RX7 74 (-7723592293110705685), Cond.methodLink RX7 130 yX7_mixes, Cond.instanceMethod yX7_mixes, Cond.selects RX7 yX7_mixes yX7_mixes, Cond.code yX7_mixes cX7_mixes 7 none, Cond.methodLink RX7 89 yX7_draw, Cond.instanceMethod yX7_draw, Cond.selects RX7 yX7_draw yX7_draw, Cond.code yX7_draw cX7_draw 3 (some .int)]
def wsX7_again : List Cond := .code yX7_again cX7_again 5 none :: ((wsX7_again_r1 ++ wsX7_again_r2) ++ wsX70)
def wsX7_balanced_r1 : List Cond := [Cond.fieldLink RX7 48 "BatchOrderModel" "firsts" "[I", Cond.fieldLink RX7 51 "BatchOrderModel" "manies" "[I", Cond.fieldLink RX7 57 "BatchOrderModel" "times" "[I", Cond.fieldLink RX7 93 "BatchOrderModel" "rows" "I", Cond.fieldLink RX7 13 "BatchOrderModel" "labels" "[I", Cond.fieldLink RX7 54 "BatchOrderModel" "comers" "[I", Cond.fieldLink RX7 42 "BatchOrderModel" "order" "[I", Cond.fieldLink RX7 45 "BatchOrderModel" "spare" "[I", Cond.methodLink RX7 154 yX7_again, Cond.instanceMethod yX7_again, Cond.selects RX7 yX7_again yX7_again, Cond.initialized RX7, Cond.code yX7_again cX7_again 5 none, Cond.constantLong RX7 152 (3), Cond.methodLink RX7 123 yX7_begin, Cond.instanceMethod yX7_begin, Cond.selects RX7 yX7_begin yX7_begin, Cond.code yX7_begin cX7_begin 1 none, Cond.fieldLink RX7 76 "BatchOrderModel" "seed" "J", Cond.fieldLink RX7 80 "BatchOrderModel" "state" "J", Cond.methodLink RX7 126 yX7_with, Cond.instanceMethod yX7_with, Cond.selects RX7 yX7_with yX7_with, Cond.code yX7_with cX7_with 3 none]
def wsX7_balanced_r2 : List Cond := [Cond.constantLong RX7 83 (-7046029254386353131), Cond.methodLink RX7 85 yX7_mix, Cond.static yX7_mix, Cond.code yX7_mix cX7_mix 4 (some .long), Cond.constantLong RX7 72 (-4658895280553007687), Cond.constantLong RX7 74 (-7723592293110705685), Cond.methodLink RX7 130 yX7_mixes, Cond.instanceMethod yX7_mixes, Cond.selects RX7 yX7_mixes yX7_mixes, Cond.code yX7_mixes cX7_mixes 7 none, Cond.methodLink RX7 89 yX7_draw, Cond.instanceMethod yX7_draw, Cond.selects RX7 yX7_draw yX7_draw, Cond.code yX7_draw cX7_draw 3 (some .int)]
def wsX7_balanced : List Cond := .code yX7_balanced cX7_balanced 5 none :: ((wsX7_balanced_r1 ++ wsX7_balanced_r2) ++ wsX70)
def wsX7_buffered : List Cond := .code yX7_buffered cX7_buffered 5 none :: ([.fieldLink RX7 39 "BatchOrderModel" "buffer" "I", .fieldLink RX7 93 "BatchOrderModel" "rows" "I", .fieldLink RX7 45 "BatchOrderModel" "spare" "[I", .fieldLink RX7 42 "BatchOrderModel" "order" "[I", .methodLink RX7 89 yX7_draw, .instanceMethod yX7_draw, .selects RX7 yX7_draw yX7_draw, .initialized RX7, .code yX7_draw cX7_draw 3 (some .int), .fieldLink RX7 80 "BatchOrderModel" "state" "J", .constantLong RX7 83 (-7046029254386353131), .methodLink RX7 85 yX7_mix, .static yX7_mix, .code yX7_mix cX7_mix 4 (some .long), .constantLong RX7 72 (-4658895280553007687), .constantLong RX7 74 (-7723592293110705685)] ++ wsX70)
def wsX7_orders_r1 : List Cond := [Cond.fieldLink RX7 93 "BatchOrderModel" "rows" "I", Cond.fieldLink RX7 42 "BatchOrderModel" "order" "[I", Cond.methodLink RX7 123 yX7_begin, Cond.instanceMethod yX7_begin, Cond.selects RX7 yX7_begin yX7_begin, Cond.initialized RX7, Cond.code yX7_begin cX7_begin 1 none, Cond.fieldLink RX7 76 "BatchOrderModel" "seed" "J", Cond.fieldLink RX7 80 "BatchOrderModel" "state" "J", Cond.methodLink RX7 126 yX7_with, Cond.instanceMethod yX7_with, Cond.selects RX7 yX7_with yX7_with, Cond.code yX7_with cX7_with 3 none, Cond.constantLong RX7 83 (-7046029254386353131), Cond.methodLink RX7 85 yX7_mix, Cond.static yX7_mix, Cond.code yX7_mix cX7_mix 4 (some .long), Cond.constantLong RX7 72 (-4658895280553007687), Cond.constantLong RX7 74 (-7723592293110705685), Cond.methodLink RX7 130 yX7_mixes, Cond.instanceMethod yX7_mixes, Cond.selects RX7 yX7_mixes yX7_mixes, Cond.code yX7_mixes cX7_mixes 7 none, Cond.methodLink RX7 89 yX7_draw]
def wsX7_orders_r2 : List Cond := [Cond.instanceMethod yX7_draw, Cond.selects RX7 yX7_draw yX7_draw, Cond.code yX7_draw cX7_draw 3 (some .int), Cond.methodLink RX7 134 yX7_byLengths, Cond.instanceMethod yX7_byLengths, Cond.selects RX7 yX7_byLengths yX7_byLengths, Cond.code yX7_byLengths cX7_byLengths 6 none, Cond.fieldLink RX7 36 "BatchOrderModel" "group" "I", Cond.fieldLink RX7 19 "BatchOrderModel" "lengths" "[I", Cond.methodLink RX7 137 yX7_byWeights, Cond.instanceMethod yX7_byWeights, Cond.selects RX7 yX7_byWeights yX7_byWeights, Cond.code yX7_byWeights cX7_byWeights 6 (some .boolean), Cond.fieldLink RX7 16 "BatchOrderModel" "weights" "[I", Cond.methodLink RX7 148 yX7_weightsOfAll, Cond.instanceMethod yX7_weightsOfAll, Cond.selects RX7 yX7_weightsOfAll yX7_weightsOfAll, Cond.code yX7_weightsOfAll cX7_weightsOfAll 3 (some .int), Cond.methodLink RX7 141 yX7_balanced, Cond.instanceMethod yX7_balanced, Cond.selects RX7 yX7_balanced yX7_balanced, Cond.code yX7_balanced cX7_balanced 5 none, Cond.fieldLink RX7 48 "BatchOrderModel" "firsts" "[I", Cond.fieldLink RX7 51 "BatchOrderModel" "manies" "[I"]
def wsX7_orders_r3 : List Cond := [Cond.fieldLink RX7 57 "BatchOrderModel" "times" "[I", Cond.fieldLink RX7 13 "BatchOrderModel" "labels" "[I", Cond.fieldLink RX7 54 "BatchOrderModel" "comers" "[I", Cond.fieldLink RX7 45 "BatchOrderModel" "spare" "[I", Cond.methodLink RX7 154 yX7_again, Cond.instanceMethod yX7_again, Cond.selects RX7 yX7_again yX7_again, Cond.code yX7_again cX7_again 5 none, Cond.constantLong RX7 152 (3), Cond.methodLink RX7 145 yX7_buffered, Cond.instanceMethod yX7_buffered, Cond.selects RX7 yX7_buffered yX7_buffered, Cond.code yX7_buffered cX7_buffered 5 none, Cond.fieldLink RX7 39 "BatchOrderModel" "buffer" "I"]
def wsX7_orders : List Cond := .code yX7_orders cX7_orders 4 (some .boolean) :: ((wsX7_orders_r1 ++ (wsX7_orders_r2 ++ wsX7_orders_r3)) ++ wsX70)
def wsX7_isAsked : List Cond := .code yX7_isAsked cX7_isAsked 3 (some .boolean) :: ([.constantLong RX7 158 (4), .constantLong RX7 102 (1000), .methodLink RX7 96 yX7_in, .static yX7_in, .initialized RX7, .code yX7_in cX7_in 6 (some .boolean)])
def wsX7_count : List Cond := .code yX7_count cX7_count 1 (some .int) :: ([.fieldLink RX7 32 "BatchOrderModel" "size" "I", .fieldLink RX7 69 "BatchOrderModel" "thrown" "I", .fieldLink RX7 120 "BatchOrderModel" "drops" "I", .fieldLink RX7 93 "BatchOrderModel" "rows" "I"] ++ wsX70)
def wsX7_manyOf : List Cond := .code yX7_manyOf cX7_manyOf 6 (some .int) :: ([.fieldLink RX7 32 "BatchOrderModel" "size" "I", .fieldLink RX7 93 "BatchOrderModel" "rows" "I", .fieldLink RX7 120 "BatchOrderModel" "drops" "I"] ++ wsX70)
def wsX7_batch_r1 : List Cond := [Cond.fieldLink RX7 69 "BatchOrderModel" "thrown" "I", Cond.fieldLink RX7 32 "BatchOrderModel" "size" "I", Cond.fieldLink RX7 42 "BatchOrderModel" "order" "[I", Cond.methodLink RX7 160 yX7_isAsked, Cond.instanceMethod yX7_isAsked, Cond.selects RX7 yX7_isAsked yX7_isAsked, Cond.initialized RX7, Cond.code yX7_isAsked cX7_isAsked 3 (some .boolean), Cond.constantLong RX7 158 (4), Cond.constantLong RX7 102 (1000), Cond.methodLink RX7 96 yX7_in, Cond.static yX7_in, Cond.code yX7_in cX7_in 6 (some .boolean), Cond.methodLink RX7 164 yX7_orders, Cond.instanceMethod yX7_orders, Cond.selects RX7 yX7_orders yX7_orders, Cond.code yX7_orders cX7_orders 4 (some .boolean), Cond.fieldLink RX7 93 "BatchOrderModel" "rows" "I", Cond.methodLink RX7 123 yX7_begin, Cond.instanceMethod yX7_begin, Cond.selects RX7 yX7_begin yX7_begin, Cond.code yX7_begin cX7_begin 1 none, Cond.fieldLink RX7 76 "BatchOrderModel" "seed" "J", Cond.fieldLink RX7 80 "BatchOrderModel" "state" "J"]
def wsX7_batch_r2 : List Cond := [Cond.methodLink RX7 126 yX7_with, Cond.instanceMethod yX7_with, Cond.selects RX7 yX7_with yX7_with, Cond.code yX7_with cX7_with 3 none, Cond.constantLong RX7 83 (-7046029254386353131), Cond.methodLink RX7 85 yX7_mix, Cond.static yX7_mix, Cond.code yX7_mix cX7_mix 4 (some .long), Cond.constantLong RX7 72 (-4658895280553007687), Cond.constantLong RX7 74 (-7723592293110705685), Cond.methodLink RX7 130 yX7_mixes, Cond.instanceMethod yX7_mixes, Cond.selects RX7 yX7_mixes yX7_mixes, Cond.code yX7_mixes cX7_mixes 7 none, Cond.methodLink RX7 89 yX7_draw, Cond.instanceMethod yX7_draw, Cond.selects RX7 yX7_draw yX7_draw, Cond.code yX7_draw cX7_draw 3 (some .int), Cond.methodLink RX7 134 yX7_byLengths, Cond.instanceMethod yX7_byLengths, Cond.selects RX7 yX7_byLengths yX7_byLengths, Cond.code yX7_byLengths cX7_byLengths 6 none, Cond.fieldLink RX7 36 "BatchOrderModel" "group" "I", Cond.fieldLink RX7 19 "BatchOrderModel" "lengths" "[I"]
def wsX7_batch_r3 : List Cond := [Cond.methodLink RX7 137 yX7_byWeights, Cond.instanceMethod yX7_byWeights, Cond.selects RX7 yX7_byWeights yX7_byWeights, Cond.code yX7_byWeights cX7_byWeights 6 (some .boolean), Cond.fieldLink RX7 16 "BatchOrderModel" "weights" "[I", Cond.methodLink RX7 148 yX7_weightsOfAll, Cond.instanceMethod yX7_weightsOfAll, Cond.selects RX7 yX7_weightsOfAll yX7_weightsOfAll, Cond.code yX7_weightsOfAll cX7_weightsOfAll 3 (some .int), Cond.methodLink RX7 141 yX7_balanced, Cond.instanceMethod yX7_balanced, Cond.selects RX7 yX7_balanced yX7_balanced, Cond.code yX7_balanced cX7_balanced 5 none, Cond.fieldLink RX7 48 "BatchOrderModel" "firsts" "[I", Cond.fieldLink RX7 51 "BatchOrderModel" "manies" "[I", Cond.fieldLink RX7 57 "BatchOrderModel" "times" "[I", Cond.fieldLink RX7 13 "BatchOrderModel" "labels" "[I", Cond.fieldLink RX7 54 "BatchOrderModel" "comers" "[I", Cond.fieldLink RX7 45 "BatchOrderModel" "spare" "[I", Cond.methodLink RX7 154 yX7_again, Cond.instanceMethod yX7_again, Cond.selects RX7 yX7_again yX7_again, Cond.code yX7_again cX7_again 5 none, Cond.constantLong RX7 152 (3)]
def wsX7_batch_r4 : List Cond := [Cond.methodLink RX7 145 yX7_buffered, Cond.instanceMethod yX7_buffered, Cond.selects RX7 yX7_buffered yX7_buffered, Cond.code yX7_buffered cX7_buffered 5 none, Cond.fieldLink RX7 39 "BatchOrderModel" "buffer" "I", Cond.methodLink RX7 167 yX7_manyOf, Cond.instanceMethod yX7_manyOf, Cond.selects RX7 yX7_manyOf yX7_manyOf, Cond.code yX7_manyOf cX7_manyOf 6 (some .int), Cond.fieldLink RX7 120 "BatchOrderModel" "drops" "I"]
def wsX7_batch : List Cond := .code yX7_batch cX7_batch 5 (some .int) :: ((wsX7_batch_r1 ++ (wsX7_batch_r2 ++ (wsX7_batch_r3 ++ wsX7_batch_r4))) ++ wsX70)
def wsX7_share_r1 : List Cond := [Cond.fieldLink RX7 69 "BatchOrderModel" "thrown" "I", Cond.constantLong RX7 171 (8), Cond.fieldLink RX7 32 "BatchOrderModel" "size" "I", Cond.fieldLink RX7 42 "BatchOrderModel" "order" "[I", Cond.methodLink RX7 160 yX7_isAsked, Cond.instanceMethod yX7_isAsked, Cond.selects RX7 yX7_isAsked yX7_isAsked, Cond.initialized RX7, Cond.code yX7_isAsked cX7_isAsked 3 (some .boolean), Cond.constantLong RX7 158 (4), Cond.constantLong RX7 102 (1000), Cond.methodLink RX7 96 yX7_in, Cond.static yX7_in, Cond.code yX7_in cX7_in 6 (some .boolean), Cond.methodLink RX7 164 yX7_orders, Cond.instanceMethod yX7_orders, Cond.selects RX7 yX7_orders yX7_orders, Cond.code yX7_orders cX7_orders 4 (some .boolean), Cond.fieldLink RX7 93 "BatchOrderModel" "rows" "I", Cond.methodLink RX7 123 yX7_begin, Cond.instanceMethod yX7_begin, Cond.selects RX7 yX7_begin yX7_begin, Cond.code yX7_begin cX7_begin 1 none, Cond.fieldLink RX7 76 "BatchOrderModel" "seed" "J"]
def wsX7_share_r2 : List Cond := [Cond.fieldLink RX7 80 "BatchOrderModel" "state" "J", Cond.methodLink RX7 126 yX7_with, Cond.instanceMethod yX7_with, Cond.selects RX7 yX7_with yX7_with, Cond.code yX7_with cX7_with 3 none, Cond.constantLong RX7 83 (-7046029254386353131), Cond.methodLink RX7 85 yX7_mix, Cond.static yX7_mix, Cond.code yX7_mix cX7_mix 4 (some .long), Cond.constantLong RX7 72 (-4658895280553007687), Cond.constantLong RX7 74 (-7723592293110705685), Cond.methodLink RX7 130 yX7_mixes, Cond.instanceMethod yX7_mixes, Cond.selects RX7 yX7_mixes yX7_mixes, Cond.code yX7_mixes cX7_mixes 7 none, Cond.methodLink RX7 89 yX7_draw, Cond.instanceMethod yX7_draw, Cond.selects RX7 yX7_draw yX7_draw, Cond.code yX7_draw cX7_draw 3 (some .int), Cond.methodLink RX7 134 yX7_byLengths, Cond.instanceMethod yX7_byLengths, Cond.selects RX7 yX7_byLengths yX7_byLengths, Cond.code yX7_byLengths cX7_byLengths 6 none, Cond.fieldLink RX7 36 "BatchOrderModel" "group" "I"]
def wsX7_share_r3 : List Cond := [Cond.fieldLink RX7 19 "BatchOrderModel" "lengths" "[I", Cond.methodLink RX7 137 yX7_byWeights, Cond.instanceMethod yX7_byWeights, Cond.selects RX7 yX7_byWeights yX7_byWeights, Cond.code yX7_byWeights cX7_byWeights 6 (some .boolean), Cond.fieldLink RX7 16 "BatchOrderModel" "weights" "[I", Cond.methodLink RX7 148 yX7_weightsOfAll, Cond.instanceMethod yX7_weightsOfAll, Cond.selects RX7 yX7_weightsOfAll yX7_weightsOfAll, Cond.code yX7_weightsOfAll cX7_weightsOfAll 3 (some .int), Cond.methodLink RX7 141 yX7_balanced, Cond.instanceMethod yX7_balanced, Cond.selects RX7 yX7_balanced yX7_balanced, Cond.code yX7_balanced cX7_balanced 5 none, Cond.fieldLink RX7 48 "BatchOrderModel" "firsts" "[I", Cond.fieldLink RX7 51 "BatchOrderModel" "manies" "[I", Cond.fieldLink RX7 57 "BatchOrderModel" "times" "[I", Cond.fieldLink RX7 13 "BatchOrderModel" "labels" "[I", Cond.fieldLink RX7 54 "BatchOrderModel" "comers" "[I", Cond.fieldLink RX7 45 "BatchOrderModel" "spare" "[I", Cond.methodLink RX7 154 yX7_again, Cond.instanceMethod yX7_again, Cond.selects RX7 yX7_again yX7_again, Cond.code yX7_again cX7_again 5 none]
def wsX7_share_r4 : List Cond := [Cond.constantLong RX7 152 (3), Cond.methodLink RX7 145 yX7_buffered, Cond.instanceMethod yX7_buffered, Cond.selects RX7 yX7_buffered yX7_buffered, Cond.code yX7_buffered cX7_buffered 5 none, Cond.fieldLink RX7 39 "BatchOrderModel" "buffer" "I", Cond.methodLink RX7 167 yX7_manyOf, Cond.instanceMethod yX7_manyOf, Cond.selects RX7 yX7_manyOf yX7_manyOf, Cond.code yX7_manyOf cX7_manyOf 6 (some .int), Cond.fieldLink RX7 120 "BatchOrderModel" "drops" "I"]
def wsX7_share : List Cond := .code yX7_share cX7_share 9 (some .int) :: ((wsX7_share_r1 ++ (wsX7_share_r2 ++ (wsX7_share_r3 ++ wsX7_share_r4))) ++ wsX70)
def wsX7_once_r1 : List Cond := [Cond.fieldLink RX7 69 "BatchOrderModel" "thrown" "I", Cond.fieldLink RX7 93 "BatchOrderModel" "rows" "I", Cond.fieldLink RX7 45 "BatchOrderModel" "spare" "[I", Cond.fieldLink RX7 42 "BatchOrderModel" "order" "[I", Cond.methodLink RX7 160 yX7_isAsked, Cond.instanceMethod yX7_isAsked, Cond.selects RX7 yX7_isAsked yX7_isAsked, Cond.initialized RX7, Cond.code yX7_isAsked cX7_isAsked 3 (some .boolean), Cond.constantLong RX7 158 (4), Cond.constantLong RX7 102 (1000), Cond.methodLink RX7 96 yX7_in, Cond.static yX7_in, Cond.code yX7_in cX7_in 6 (some .boolean), Cond.methodLink RX7 164 yX7_orders, Cond.instanceMethod yX7_orders, Cond.selects RX7 yX7_orders yX7_orders, Cond.code yX7_orders cX7_orders 4 (some .boolean), Cond.methodLink RX7 123 yX7_begin, Cond.instanceMethod yX7_begin, Cond.selects RX7 yX7_begin yX7_begin, Cond.code yX7_begin cX7_begin 1 none, Cond.fieldLink RX7 76 "BatchOrderModel" "seed" "J", Cond.fieldLink RX7 80 "BatchOrderModel" "state" "J"]
def wsX7_once_r2 : List Cond := [Cond.methodLink RX7 126 yX7_with, Cond.instanceMethod yX7_with, Cond.selects RX7 yX7_with yX7_with, Cond.code yX7_with cX7_with 3 none, Cond.constantLong RX7 83 (-7046029254386353131), Cond.methodLink RX7 85 yX7_mix, Cond.static yX7_mix, Cond.code yX7_mix cX7_mix 4 (some .long), Cond.constantLong RX7 72 (-4658895280553007687), Cond.constantLong RX7 74 (-7723592293110705685), Cond.methodLink RX7 130 yX7_mixes, Cond.instanceMethod yX7_mixes, Cond.selects RX7 yX7_mixes yX7_mixes, Cond.code yX7_mixes cX7_mixes 7 none, Cond.methodLink RX7 89 yX7_draw, Cond.instanceMethod yX7_draw, Cond.selects RX7 yX7_draw yX7_draw, Cond.code yX7_draw cX7_draw 3 (some .int), Cond.methodLink RX7 134 yX7_byLengths, Cond.instanceMethod yX7_byLengths, Cond.selects RX7 yX7_byLengths yX7_byLengths, Cond.code yX7_byLengths cX7_byLengths 6 none, Cond.fieldLink RX7 36 "BatchOrderModel" "group" "I", Cond.fieldLink RX7 19 "BatchOrderModel" "lengths" "[I"]
def wsX7_once_r3 : List Cond := [Cond.methodLink RX7 137 yX7_byWeights, Cond.instanceMethod yX7_byWeights, Cond.selects RX7 yX7_byWeights yX7_byWeights, Cond.code yX7_byWeights cX7_byWeights 6 (some .boolean), Cond.fieldLink RX7 16 "BatchOrderModel" "weights" "[I", Cond.methodLink RX7 148 yX7_weightsOfAll, Cond.instanceMethod yX7_weightsOfAll, Cond.selects RX7 yX7_weightsOfAll yX7_weightsOfAll, Cond.code yX7_weightsOfAll cX7_weightsOfAll 3 (some .int), Cond.methodLink RX7 141 yX7_balanced, Cond.instanceMethod yX7_balanced, Cond.selects RX7 yX7_balanced yX7_balanced, Cond.code yX7_balanced cX7_balanced 5 none, Cond.fieldLink RX7 48 "BatchOrderModel" "firsts" "[I", Cond.fieldLink RX7 51 "BatchOrderModel" "manies" "[I", Cond.fieldLink RX7 57 "BatchOrderModel" "times" "[I", Cond.fieldLink RX7 13 "BatchOrderModel" "labels" "[I", Cond.fieldLink RX7 54 "BatchOrderModel" "comers" "[I", Cond.methodLink RX7 154 yX7_again, Cond.instanceMethod yX7_again, Cond.selects RX7 yX7_again yX7_again, Cond.code yX7_again cX7_again 5 none, Cond.constantLong RX7 152 (3), Cond.methodLink RX7 145 yX7_buffered]
def wsX7_once_r4 : List Cond := [Cond.instanceMethod yX7_buffered, Cond.selects RX7 yX7_buffered yX7_buffered, Cond.code yX7_buffered cX7_buffered 5 none, Cond.fieldLink RX7 39 "BatchOrderModel" "buffer" "I"]
def wsX7_once : List Cond := .code yX7_once cX7_once 4 (some .int) :: ((wsX7_once_r1 ++ (wsX7_once_r2 ++ (wsX7_once_r3 ++ wsX7_once_r4))) ++ wsX70)
def wsX7_resume : List Cond := .code yX7_resume cX7_resume 4 (some .int) :: ([.fieldLink RX7 69 "BatchOrderModel" "thrown" "I", .fieldLink RX7 93 "BatchOrderModel" "rows" "I", .fieldLink RX7 173 "BatchOrderModel" "wayAt" "I", .fieldLink RX7 176 "BatchOrderModel" "roundAt" "I", .fieldLink RX7 179 "BatchOrderModel" "placeAt" "I", .methodLink RX7 160 yX7_isAsked, .instanceMethod yX7_isAsked, .selects RX7 yX7_isAsked yX7_isAsked, .initialized RX7, .code yX7_isAsked cX7_isAsked 3 (some .boolean), .constantLong RX7 158 (4), .constantLong RX7 102 (1000), .methodLink RX7 96 yX7_in, .static yX7_in, .code yX7_in cX7_in 6 (some .boolean)] ++ wsX70)
def wsX7_next_r1 : List Cond := [Cond.fieldLink RX7 69 "BatchOrderModel" "thrown" "I", Cond.fieldLink RX7 93 "BatchOrderModel" "rows" "I", Cond.fieldLink RX7 179 "BatchOrderModel" "placeAt" "I", Cond.fieldLink RX7 176 "BatchOrderModel" "roundAt" "I", Cond.fieldLink RX7 173 "BatchOrderModel" "wayAt" "I", Cond.fieldLink RX7 42 "BatchOrderModel" "order" "[I", Cond.methodLink RX7 164 yX7_orders, Cond.instanceMethod yX7_orders, Cond.selects RX7 yX7_orders yX7_orders, Cond.initialized RX7, Cond.code yX7_orders cX7_orders 4 (some .boolean), Cond.methodLink RX7 123 yX7_begin, Cond.instanceMethod yX7_begin, Cond.selects RX7 yX7_begin yX7_begin, Cond.code yX7_begin cX7_begin 1 none, Cond.fieldLink RX7 76 "BatchOrderModel" "seed" "J", Cond.fieldLink RX7 80 "BatchOrderModel" "state" "J", Cond.methodLink RX7 126 yX7_with, Cond.instanceMethod yX7_with, Cond.selects RX7 yX7_with yX7_with, Cond.code yX7_with cX7_with 3 none, Cond.constantLong RX7 83 (-7046029254386353131), Cond.methodLink RX7 85 yX7_mix, Cond.static yX7_mix]
def wsX7_next_r2 : List Cond := [Cond.code yX7_mix cX7_mix 4 (some .long), Cond.constantLong RX7 72 (-4658895280553007687), Cond.constantLong RX7 74 (-7723592293110705685), Cond.methodLink RX7 130 yX7_mixes, Cond.instanceMethod yX7_mixes, Cond.selects RX7 yX7_mixes yX7_mixes, Cond.code yX7_mixes cX7_mixes 7 none, Cond.methodLink RX7 89 yX7_draw, Cond.instanceMethod yX7_draw, Cond.selects RX7 yX7_draw yX7_draw, Cond.code yX7_draw cX7_draw 3 (some .int), Cond.methodLink RX7 134 yX7_byLengths, Cond.instanceMethod yX7_byLengths, Cond.selects RX7 yX7_byLengths yX7_byLengths, Cond.code yX7_byLengths cX7_byLengths 6 none, Cond.fieldLink RX7 36 "BatchOrderModel" "group" "I", Cond.fieldLink RX7 19 "BatchOrderModel" "lengths" "[I", Cond.methodLink RX7 137 yX7_byWeights, Cond.instanceMethod yX7_byWeights, Cond.selects RX7 yX7_byWeights yX7_byWeights, Cond.code yX7_byWeights cX7_byWeights 6 (some .boolean), Cond.fieldLink RX7 16 "BatchOrderModel" "weights" "[I", Cond.methodLink RX7 148 yX7_weightsOfAll, Cond.instanceMethod yX7_weightsOfAll]
def wsX7_next_r3 : List Cond := [Cond.selects RX7 yX7_weightsOfAll yX7_weightsOfAll, Cond.code yX7_weightsOfAll cX7_weightsOfAll 3 (some .int), Cond.methodLink RX7 141 yX7_balanced, Cond.instanceMethod yX7_balanced, Cond.selects RX7 yX7_balanced yX7_balanced, Cond.code yX7_balanced cX7_balanced 5 none, Cond.fieldLink RX7 48 "BatchOrderModel" "firsts" "[I", Cond.fieldLink RX7 51 "BatchOrderModel" "manies" "[I", Cond.fieldLink RX7 57 "BatchOrderModel" "times" "[I", Cond.fieldLink RX7 13 "BatchOrderModel" "labels" "[I", Cond.fieldLink RX7 54 "BatchOrderModel" "comers" "[I", Cond.fieldLink RX7 45 "BatchOrderModel" "spare" "[I", Cond.methodLink RX7 154 yX7_again, Cond.instanceMethod yX7_again, Cond.selects RX7 yX7_again yX7_again, Cond.code yX7_again cX7_again 5 none, Cond.constantLong RX7 152 (3), Cond.methodLink RX7 145 yX7_buffered, Cond.instanceMethod yX7_buffered, Cond.selects RX7 yX7_buffered yX7_buffered, Cond.code yX7_buffered cX7_buffered 5 none, Cond.fieldLink RX7 39 "BatchOrderModel" "buffer" "I"]
def wsX7_next : List Cond := .code yX7_next cX7_next 4 (some .int) :: ((wsX7_next_r1 ++ (wsX7_next_r2 ++ wsX7_next_r3)) ++ wsX70)
def wsX7_at : List Cond := .code yX7_at cX7_at 2 (some .int) :: ([.fieldLink RX7 69 "BatchOrderModel" "thrown" "I", .fieldLink RX7 173 "BatchOrderModel" "wayAt" "I", .fieldLink RX7 176 "BatchOrderModel" "roundAt" "I", .fieldLink RX7 179 "BatchOrderModel" "placeAt" "I"] ++ wsX70)
def wsX7_failure : List Cond := .code yX7_failure cX7_failure 4 (some .int) :: ([.fieldLink RX7 7 "BatchOrderModel" "kinds" "[I", .fieldLink RX7 22 "BatchOrderModel" "highs" "[I", .fieldLink RX7 25 "BatchOrderModel" "wides" "[I", .fieldLink RX7 19 "BatchOrderModel" "lengths" "[I"] ++ wsX70)
def wsX7_turn : List Cond := .code yX7_turn cX7_turn 3 none :: ([.fieldLink RX7 194 "BatchOrderModel" "outLength" "I", .fieldLink RX7 66 "BatchOrderModel" "other" "[I", .fieldLink RX7 63 "BatchOrderModel" "out" "[I", .fieldLink RX7 200 "BatchOrderModel" "outWide" "I", .fieldLink RX7 197 "BatchOrderModel" "outHigh" "I"] ++ wsX70)
def wsX7_crop : List Cond := .code yX7_crop cX7_crop 6 none :: ([.fieldLink RX7 197 "BatchOrderModel" "outHigh" "I", .fieldLink RX7 200 "BatchOrderModel" "outWide" "I", .fieldLink RX7 63 "BatchOrderModel" "out" "[I", .fieldLink RX7 194 "BatchOrderModel" "outLength" "I", .methodLink RX7 89 yX7_draw, .instanceMethod yX7_draw, .selects RX7 yX7_draw yX7_draw, .initialized RX7, .code yX7_draw cX7_draw 3 (some .int), .fieldLink RX7 80 "BatchOrderModel" "state" "J", .constantLong RX7 83 (-7046029254386353131), .methodLink RX7 85 yX7_mix, .static yX7_mix, .code yX7_mix cX7_mix 4 (some .long), .constantLong RX7 72 (-4658895280553007687), .constantLong RX7 74 (-7723592293110705685)] ++ wsX70)
def wsX7_act_r1 : List Cond := [Cond.fieldLink RX7 69 "BatchOrderModel" "thrown" "I", Cond.constantLong RX7 158 (4), Cond.constantLong RX7 102 (1000), Cond.constantLong RX7 182 (256), Cond.constantLong RX7 184 (100), Cond.constantLong RX7 186 (50), Cond.constantLong RX7 192 (5), Cond.fieldLink RX7 7 "BatchOrderModel" "kinds" "[I", Cond.fieldLink RX7 60 "BatchOrderModel" "outKind" "I", Cond.fieldLink RX7 19 "BatchOrderModel" "lengths" "[I", Cond.fieldLink RX7 194 "BatchOrderModel" "outLength" "I", Cond.fieldLink RX7 22 "BatchOrderModel" "highs" "[I", Cond.fieldLink RX7 197 "BatchOrderModel" "outHigh" "I", Cond.fieldLink RX7 25 "BatchOrderModel" "wides" "[I", Cond.fieldLink RX7 200 "BatchOrderModel" "outWide" "I", Cond.fieldLink RX7 63 "BatchOrderModel" "out" "[I", Cond.fieldLink RX7 29 "BatchOrderModel" "items" "[I", Cond.methodLink RX7 110 yX7_isRow, Cond.instanceMethod yX7_isRow, Cond.selects RX7 yX7_isRow yX7_isRow, Cond.initialized RX7, Cond.code yX7_isRow cX7_isRow 2 (some .boolean), Cond.fieldLink RX7 93 "BatchOrderModel" "rows" "I", Cond.methodLink RX7 96 yX7_in]
def wsX7_act_r2 : List Cond := [Cond.static yX7_in, Cond.code yX7_in cX7_in 6 (some .boolean), Cond.methodLink RX7 188 yX7_failure, Cond.instanceMethod yX7_failure, Cond.selects RX7 yX7_failure yX7_failure, Cond.code yX7_failure cX7_failure 4 (some .int), Cond.methodLink RX7 123 yX7_begin, Cond.instanceMethod yX7_begin, Cond.selects RX7 yX7_begin yX7_begin, Cond.code yX7_begin cX7_begin 1 none, Cond.fieldLink RX7 76 "BatchOrderModel" "seed" "J", Cond.fieldLink RX7 80 "BatchOrderModel" "state" "J", Cond.methodLink RX7 126 yX7_with, Cond.instanceMethod yX7_with, Cond.selects RX7 yX7_with yX7_with, Cond.code yX7_with cX7_with 3 none, Cond.constantLong RX7 83 (-7046029254386353131), Cond.methodLink RX7 85 yX7_mix, Cond.static yX7_mix, Cond.code yX7_mix cX7_mix 4 (some .long), Cond.constantLong RX7 72 (-4658895280553007687), Cond.constantLong RX7 74 (-7723592293110705685), Cond.methodLink RX7 89 yX7_draw, Cond.instanceMethod yX7_draw]
def wsX7_act_r3 : List Cond := [Cond.selects RX7 yX7_draw yX7_draw, Cond.code yX7_draw cX7_draw 3 (some .int), Cond.methodLink RX7 203 yX7_turn, Cond.instanceMethod yX7_turn, Cond.selects RX7 yX7_turn yX7_turn, Cond.code yX7_turn cX7_turn 3 none, Cond.fieldLink RX7 66 "BatchOrderModel" "other" "[I", Cond.methodLink RX7 206 yX7_crop, Cond.instanceMethod yX7_crop, Cond.selects RX7 yX7_crop yX7_crop, Cond.code yX7_crop cX7_crop 6 none]
def wsX7_act : List Cond := .code yX7_act cX7_act 9 (some .int) :: ((wsX7_act_r1 ++ (wsX7_act_r2 ++ wsX7_act_r3)) ++ wsX70)
def wsX7_out : List Cond := .code yX7_out cX7_out 2 (some .int) :: ([.fieldLink RX7 69 "BatchOrderModel" "thrown" "I", .fieldLink RX7 60 "BatchOrderModel" "outKind" "I", .fieldLink RX7 194 "BatchOrderModel" "outLength" "I", .fieldLink RX7 197 "BatchOrderModel" "outHigh" "I", .fieldLink RX7 200 "BatchOrderModel" "outWide" "I", .fieldLink RX7 63 "BatchOrderModel" "out" "[I", .methodLink RX7 96 yX7_in, .static yX7_in, .initialized RX7, .code yX7_in cX7_in 6 (some .boolean)] ++ wsX70)
def wsX7_like : List Cond := .code yX7_like cX7_like 3 (some .int) :: ([.fieldLink RX7 69 "BatchOrderModel" "thrown" "I", .fieldLink RX7 60 "BatchOrderModel" "outKind" "I", .fieldLink RX7 7 "BatchOrderModel" "kinds" "[I", .fieldLink RX7 194 "BatchOrderModel" "outLength" "I", .fieldLink RX7 19 "BatchOrderModel" "lengths" "[I", .fieldLink RX7 197 "BatchOrderModel" "outHigh" "I", .fieldLink RX7 22 "BatchOrderModel" "highs" "[I", .fieldLink RX7 200 "BatchOrderModel" "outWide" "I", .fieldLink RX7 25 "BatchOrderModel" "wides" "[I", .fieldLink RX7 63 "BatchOrderModel" "out" "[I", .fieldLink RX7 29 "BatchOrderModel" "items" "[I", .methodLink RX7 110 yX7_isRow, .instanceMethod yX7_isRow, .selects RX7 yX7_isRow yX7_isRow, .initialized RX7, .code yX7_isRow cX7_isRow 2 (some .boolean), .fieldLink RX7 93 "BatchOrderModel" "rows" "I", .methodLink RX7 96 yX7_in, .static yX7_in, .code yX7_in cX7_in 6 (some .boolean)] ++ wsX70)
def wsJ9_max_7cf53 : List Cond := .code yJ9_max_7cf53 cJ9_max_7cf53 2 (some .int) :: ([])
def wsJ9_min_7cf53 : List Cond := .code yJ9_min_7cf53 cJ9_min_7cf53 2 (some .int) :: ([])
def wsL_count : List Cond := .codeWith yL_count cL_count 3 (some .int) [(0, 8, 11, 13)] :: ([.classLink RL 13 "java/lang/ArithmeticException", .methodLink RL 7 yX6_count, .instanceMethod yX6_count, .selects RX6 yX6_count yX6_count, .initialized RX6, .code yX6_count cX6_count 1 (some .int), .classLink RX6 136 "java/lang/ArithmeticException", .initialized "java/lang/ArithmeticException", .fieldLink RX6 19 "BatchOrder" "settings" "LBatchOrder$Settings;", .fieldLink RX6 10 "BatchOrder" "rows" "LBatchOrder$Rows;", .methodLink RX6 146 yX5_batchesOf, .instanceMethod yX5_batchesOf, .selects RX5 yX5_batchesOf yX5_batchesOf, .initialized RX5, .code yX5_batchesOf cX5_batchesOf 2 (some .int), .fieldLink RX5 15 "BatchOrder$Settings" "size" "I", .fieldLink RX5 25 "BatchOrder$Settings" "drops" "I"] ++ wsX60 ++ wsX50 ++ wsX40 ++ (vx_atS RX6 140 "java/lang/ArithmeticException" ["java/lang/RuntimeException", "java/lang/Exception"]).filter goodWord)
def wsL_law0_r1 : List Cond := [Cond.classLink RL 8 RX6, Cond.instantiable RX6 8, Cond.initialized RX6, Cond.classLink RL 16 RX7, Cond.instantiable RX7 30, Cond.initialized RX7, Cond.arrayClass .long, Cond.constantLong RL 34 (4294967295), Cond.methodLink RL 15 yX6_init, Cond.instanceMethod yX6_init, Cond.code yX6_init cX6_init 1 none, Cond.methodLink RX6 1 objectInit, Cond.instanceMethod objectInit, Cond.code objectInit ⟨#[0xb1]⟩ 1 none, Cond.classLink RX6 7 RX4, Cond.instantiable RX4 4, Cond.initialized RX4, Cond.fieldLink RX6 10 "BatchOrder" "rows" "LBatchOrder$Rows;", Cond.classLink RX6 16 RX5, Cond.instantiable RX5 5, Cond.initialized RX5, Cond.fieldLink RX6 19 "BatchOrder" "settings" "LBatchOrder$Settings;", Cond.classLink RX6 23 RX2, Cond.instantiable RX2 1]
def wsL_law0_r2 : List Cond := [Cond.initialized RX2, Cond.fieldLink RX6 26 "BatchOrder" "draws" "LBatchOrder$Draws;", Cond.classLink RX6 30 RX3, Cond.instantiable RX3 10, Cond.initialized RX3, Cond.fieldLink RX6 35 "BatchOrder" "order" "LBatchOrder$Order;", Cond.classLink RX6 39 RX1, Cond.instantiable RX1 5, Cond.initialized RX1, Cond.fieldLink RX6 44 "BatchOrder" "altered" "LBatchOrder$Content;", Cond.fieldLink RX6 48 "BatchOrder" "wayAtHand" "I", Cond.fieldLink RX6 52 "BatchOrder" "roundAtHand" "I", Cond.fieldLink RX6 55 "BatchOrder" "placeAtHand" "I", Cond.instanceMethod yX4_init, Cond.code yX4_init cX4_init 1 none, Cond.methodLink RX4 3 objectInit, Cond.classLink RX4 9 RX1, Cond.fieldLink RX4 11 "BatchOrder$Rows" "contents" "[LBatchOrder$Content;", Cond.arrayClass .int, Cond.fieldLink RX4 17 "BatchOrder$Rows" "labels" "[I", Cond.fieldLink RX4 21 "BatchOrder$Rows" "weights" "[I", Cond.fieldLink RX4 24 "BatchOrder$Rows" "many" "I", Cond.instanceMethod yX5_init, Cond.code yX5_init cX5_init 1 none]
def wsL_law0_r3 : List Cond := [Cond.methodLink RX5 3 objectInit, Cond.fieldLink RX5 9 "BatchOrder$Settings" "start" "J", Cond.fieldLink RX5 15 "BatchOrder$Settings" "size" "I", Cond.fieldLink RX5 19 "BatchOrder$Settings" "group" "I", Cond.fieldLink RX5 22 "BatchOrder$Settings" "buffer" "I", Cond.fieldLink RX5 25 "BatchOrder$Settings" "drops" "I", Cond.instanceMethod yX2_init, Cond.code yX2_init cX2_init 1 none, Cond.methodLink RX2 1 objectInit, Cond.fieldLink RX2 7 "BatchOrder$Draws" "state" "J", Cond.methodLink RX6 32 yX3_init, Cond.instanceMethod yX3_init, Cond.code yX3_init cX3_init 4 none, Cond.methodLink RX3 3 objectInit, Cond.fieldLink RX3 9 "BatchOrder$Order" "places" "[I", Cond.fieldLink RX3 15 "BatchOrder$Order" "many" "I", Cond.fieldLink RX3 19 "BatchOrder$Order" "scratch" "[I", Cond.fieldLink RX3 22 "BatchOrder$Order" "firsts" "[I", Cond.fieldLink RX3 25 "BatchOrder$Order" "sizes" "[I", Cond.fieldLink RX3 28 "BatchOrder$Order" "taken" "[I", Cond.fieldLink RX3 31 "BatchOrder$Order" "mixings" "[I", Cond.fieldLink RX3 34 "BatchOrder$Order" "rows" "LBatchOrder$Rows;", Cond.fieldLink RX3 38 "BatchOrder$Order" "settings" "LBatchOrder$Settings;", Cond.fieldLink RX3 42 "BatchOrder$Order" "draws" "LBatchOrder$Draws;"]
def wsL_law0_r4 : List Cond := [Cond.methodLink RX6 41 yX1_init, Cond.instanceMethod yX1_init, Cond.code yX1_init cX1_init 5 none, Cond.methodLink RX1 3 objectInit, Cond.methodLink RX1 9 Lib.Math.max.name, Cond.static Lib.Math.max.name, Cond.initialized "java/lang/Math", Cond.code Lib.Math.max.name Lib.Math.max.code 2 (some .int), Cond.fieldLink RX1 15 "BatchOrder$Content" "items" "[I", Cond.fieldLink RX1 21 "BatchOrder$Content" "kind" "I", Cond.fieldLink RX1 25 "BatchOrder$Content" "high" "I", Cond.fieldLink RX1 28 "BatchOrder$Content" "wide" "I", Cond.fieldLink RX1 31 "BatchOrder$Content" "length" "I", Cond.methodLink RL 18 yX7_init, Cond.instanceMethod yX7_init, Cond.code yX7_init cX7_init 1 none, Cond.methodLink RX7 1 objectInit, Cond.fieldLink RX7 7 "BatchOrderModel" "kinds" "[I", Cond.fieldLink RX7 13 "BatchOrderModel" "labels" "[I", Cond.fieldLink RX7 16 "BatchOrderModel" "weights" "[I", Cond.fieldLink RX7 19 "BatchOrderModel" "lengths" "[I", Cond.fieldLink RX7 22 "BatchOrderModel" "highs" "[I", Cond.fieldLink RX7 25 "BatchOrderModel" "wides" "[I", Cond.constant RX7 28 (96000)]
def wsL_law0_r5 : List Cond := [Cond.fieldLink RX7 29 "BatchOrderModel" "items" "[I", Cond.fieldLink RX7 32 "BatchOrderModel" "size" "I", Cond.fieldLink RX7 36 "BatchOrderModel" "group" "I", Cond.fieldLink RX7 39 "BatchOrderModel" "buffer" "I", Cond.fieldLink RX7 42 "BatchOrderModel" "order" "[I", Cond.fieldLink RX7 45 "BatchOrderModel" "spare" "[I", Cond.fieldLink RX7 48 "BatchOrderModel" "firsts" "[I", Cond.fieldLink RX7 51 "BatchOrderModel" "manies" "[I", Cond.fieldLink RX7 54 "BatchOrderModel" "comers" "[I", Cond.fieldLink RX7 57 "BatchOrderModel" "times" "[I", Cond.fieldLink RX7 60 "BatchOrderModel" "outKind" "I", Cond.fieldLink RX7 63 "BatchOrderModel" "out" "[I", Cond.fieldLink RX7 66 "BatchOrderModel" "other" "[I", Cond.methodLink RL 19 yX6_row, Cond.instanceMethod yX6_row, Cond.selects RX6 yX6_row yX6_row, Cond.code yX6_row cX6_row 5 (some .int), Cond.methodLink RX6 58 yX6_isLabel, Cond.static yX6_isLabel, Cond.code yX6_isLabel cX6_isLabel 1 (some .boolean), Cond.methodLink RX6 62 yX6_isWeight, Cond.static yX6_isWeight, Cond.code yX6_isWeight cX6_isWeight 1 (some .boolean), Cond.methodLink RX6 65 yX4_isFull]
def wsL_law0_r6 : List Cond := [Cond.instanceMethod yX4_isFull, Cond.selects RX4 yX4_isFull yX4_isFull, Cond.code yX4_isFull cX4_isFull 1 (some .boolean), Cond.methodLink RX6 69 yX4_append, Cond.instanceMethod yX4_append, Cond.selects RX4 yX4_append yX4_append, Cond.code yX4_append cX4_append 5 (some .int), Cond.methodLink RX4 32 yX4_isFull, Cond.methodLink RX4 36 yX4_relabel, Cond.instanceMethod yX4_relabel, Cond.selects RX4 yX4_relabel yX4_relabel, Cond.code yX4_relabel cX4_relabel 4 none, Cond.methodLink RX4 28 yX4_has, Cond.instanceMethod yX4_has, Cond.selects RX4 yX4_has yX4_has, Cond.code yX4_has cX4_has 2 (some .boolean), Cond.methodLink RL 23 yX7_row, Cond.instanceMethod yX7_row, Cond.selects RX7 yX7_row yX7_row, Cond.code yX7_row cX7_row 4 (some .int), Cond.fieldLink RX7 69 "BatchOrderModel" "thrown" "I", Cond.methodLink RX7 104 yX7_comes, Cond.instanceMethod yX7_comes, Cond.selects RX7 yX7_comes yX7_comes]
def wsL_law0_r7 : List Cond := [Cond.code yX7_comes cX7_comes 7 (some .int), Cond.constantLong RX7 100 (7), Cond.constantLong RX7 102 (1000), Cond.fieldLink RX7 93 "BatchOrderModel" "rows" "I", Cond.methodLink RX7 96 yX7_in, Cond.static yX7_in, Cond.code yX7_in cX7_in 6 (some .boolean), Cond.methodLink RL 24 yX6_picture, Cond.instanceMethod yX6_picture, Cond.selects RX6 yX6_picture yX6_picture, Cond.code yX6_picture cX6_picture 5 (some .int), Cond.methodLink RX6 73 yX6_isSide, Cond.static yX6_isSide, Cond.code yX6_isSide cX6_isSide 1 (some .boolean), Cond.methodLink RL 28 yX7_picture, Cond.instanceMethod yX7_picture, Cond.selects RX7 yX7_picture yX7_picture, Cond.code yX7_picture cX7_picture 5 (some .int), Cond.constantLong RX7 108 (40), Cond.methodLink RL 29 yX6_word, Cond.instanceMethod yX6_word, Cond.selects RX6 yX6_word yX6_word, Cond.code yX6_word cX6_word 4 (some .int), Cond.methodLink RX6 76 yX4_find]
def wsL_law0_r8 : List Cond := [Cond.instanceMethod yX4_find, Cond.selects RX4 yX4_find yX4_find, Cond.code yX4_find cX4_find 2 (some (.object "BatchOrder$Content")), Cond.methodLink RX6 86 yX1_append, Cond.instanceMethod yX1_append, Cond.selects RX1 yX1_append yX1_append, Cond.code yX1_append cX1_append 2 none, Cond.methodLink RL 33 yX7_word, Cond.instanceMethod yX7_word, Cond.selects RX7 yX7_word yX7_word, Cond.code yX7_word cX7_word 3 (some .int), Cond.methodLink RX7 110 yX7_isRow, Cond.instanceMethod yX7_isRow, Cond.selects RX7 yX7_isRow yX7_isRow, Cond.code yX7_isRow cX7_isRow 2 (some .boolean), Cond.methodLink RL 36 yX6_paint, Cond.instanceMethod yX6_paint, Cond.selects RX6 yX6_paint yX6_paint, Cond.code yX6_paint cX6_paint 8 (some .int), Cond.methodLink RX6 92 Lib.Math.min.name, Cond.static Lib.Math.min.name, Cond.code Lib.Math.min.name Lib.Math.min.code 2 (some .int), Cond.methodLink RX6 89 yX1_holds, Cond.instanceMethod yX1_holds]
def wsL_law0_r9 : List Cond := [Cond.selects RX1 yX1_holds yX1_holds, Cond.code yX1_holds cX1_holds 2 (some .boolean), Cond.methodLink RX6 98 yX1_put, Cond.instanceMethod yX1_put, Cond.selects RX1 yX1_put yX1_put, Cond.code yX1_put cX1_put 3 none, Cond.methodLink RX1 34 yX1_holds, Cond.methodLink RL 40 yX7_paint, Cond.instanceMethod yX7_paint, Cond.selects RX7 yX7_paint yX7_paint, Cond.code yX7_paint cX7_paint 6 (some .int), Cond.constantLong RX7 114 (255), Cond.methodLink RL 41 yX6_mark, Cond.instanceMethod yX6_mark, Cond.selects RX6 yX6_mark yX6_mark, Cond.code yX6_mark cX6_mark 4 (some .int), Cond.methodLink RX6 102 yX4_has, Cond.methodLink RX6 105 yX4_relabel, Cond.methodLink RL 44 yX7_mark, Cond.instanceMethod yX7_mark, Cond.selects RX7 yX7_mark yX7_mark, Cond.code yX7_mark cX7_mark 4 (some .int), Cond.methodLink RL 45 yX6_of, Cond.instanceMethod yX6_of]
def wsL_law0_r10 : List Cond := [Cond.selects RX6 yX6_of yX6_of, Cond.code yX6_of cX6_of 4 (some .int), Cond.methodLink RX6 109 yX4_label, Cond.instanceMethod yX4_label, Cond.selects RX4 yX4_label yX4_label, Cond.code yX4_label cX4_label 2 (some .int), Cond.methodLink RX6 113 yX4_weight, Cond.instanceMethod yX4_weight, Cond.selects RX4 yX4_weight yX4_weight, Cond.code yX4_weight cX4_weight 2 (some .int), Cond.methodLink RL 48 yX7_of, Cond.instanceMethod yX7_of, Cond.selects RX7 yX7_of yX7_of, Cond.code yX7_of cX7_of 3 (some .int), Cond.methodLink RL 49 yX6_seed, Cond.instanceMethod yX6_seed, Cond.selects RX6 yX6_seed yX6_seed, Cond.code yX6_seed cX6_seed 5 (some .long), Cond.methodLink RL 53 yX7_seed, Cond.instanceMethod yX7_seed, Cond.selects RX7 yX7_seed yX7_seed, Cond.code yX7_seed cX7_seed 5 (some .long), Cond.fieldLink RX7 76 "BatchOrderModel" "seed" "J", Cond.methodLink RL 54 yX6_set]
def wsL_law0_r11 : List Cond := [Cond.instanceMethod yX6_set, Cond.selects RX6 yX6_set yX6_set, Cond.code yX6_set cX6_set 3 (some .int), Cond.methodLink RX6 126 yX5_allows, Cond.instanceMethod yX5_allows, Cond.selects RX5 yX5_allows yX5_allows, Cond.code yX5_allows cX5_allows 3 (some .boolean), Cond.methodLink RX6 130 yX5_exchange, Cond.instanceMethod yX5_exchange, Cond.selects RX5 yX5_exchange yX5_exchange, Cond.code yX5_exchange cX5_exchange 4 (some .int), Cond.methodLink RL 57 yX7_set, Cond.instanceMethod yX7_set, Cond.selects RX7 yX7_set yX7_set, Cond.code yX7_set cX7_set 4 (some .int), Cond.constantLong RX7 116 (20), Cond.constantLong RX7 118 (60), Cond.fieldLink RX7 120 "BatchOrderModel" "drops" "I", Cond.methodLink RL 58 yL_count, Cond.static yL_count, Cond.initialized RL, Cond.codeWith yL_count cL_count 3 (some .int) [(0, 8, 11, 13)], Cond.classLink RL 13 "java/lang/ArithmeticException", Cond.methodLink RL 7 yX6_count]
def wsL_law0_r12 : List Cond := [Cond.instanceMethod yX6_count, Cond.selects RX6 yX6_count yX6_count, Cond.code yX6_count cX6_count 1 (some .int), Cond.classLink RX6 136 "java/lang/ArithmeticException", Cond.initialized "java/lang/ArithmeticException", Cond.methodLink RX6 146 yX5_batchesOf, Cond.instanceMethod yX5_batchesOf, Cond.selects RX5 yX5_batchesOf yX5_batchesOf, Cond.code yX5_batchesOf cX5_batchesOf 2 (some .int), Cond.methodLink RL 63 yX7_count, Cond.instanceMethod yX7_count, Cond.selects RX7 yX7_count yX7_count, Cond.code yX7_count cX7_count 1 (some .int), Cond.methodLink RL 64 yX7_thrown, Cond.instanceMethod yX7_thrown, Cond.selects RX7 yX7_thrown yX7_thrown, Cond.code yX7_thrown cX7_thrown 1 (some .int), Cond.methodLink RL 67 yX6_batch, Cond.instanceMethod yX6_batch, Cond.selects RX6 yX6_batch yX6_batch, Cond.code yX6_batch cX6_batch 5 (some .int), Cond.methodLink RX6 149 yX6_isWay, Cond.static yX6_isWay, Cond.code yX6_isWay cX6_isWay 1 (some .boolean)]
def wsL_law0_r13 : List Cond := [Cond.methodLink RX6 152 yX6_isRound, Cond.static yX6_isRound, Cond.code yX6_isRound cX6_isRound 1 (some .boolean), Cond.methodLink RX6 155 yX3_make, Cond.instanceMethod yX3_make, Cond.selects RX3 yX3_make yX3_make, Cond.code yX3_make cX3_make 3 (some .boolean), Cond.methodLink RX3 49 Lib.Math.min.name, Cond.methodLink RX3 55 yX4_sumOfWeights, Cond.instanceMethod yX4_sumOfWeights, Cond.selects RX4 yX4_sumOfWeights yX4_sumOfWeights, Cond.code yX4_sumOfWeights cX4_sumOfWeights 3 (some .int), Cond.methodLink RX4 47 yX4_weight, Cond.methodLink RX3 59 yX3_beginStream, Cond.instanceMethod yX3_beginStream, Cond.selects RX3 yX3_beginStream yX3_beginStream, Cond.code yX3_beginStream cX3_beginStream 3 none, Cond.methodLink RX3 85 yX2_begin, Cond.instanceMethod yX2_begin, Cond.selects RX2 yX2_begin yX2_begin, Cond.code yX2_begin cX2_begin 3 none, Cond.methodLink RX3 91 yX2_key, Cond.instanceMethod yX2_key, Cond.selects RX2 yX2_key yX2_key]
def wsL_law0_r14 : List Cond := [Cond.code yX2_key cX2_key 2 none, Cond.constantLong RX2 13 (-7046029254386353131), Cond.methodLink RX2 15 yX2_mixed, Cond.static yX2_mixed, Cond.code yX2_mixed cX2_mixed 2 (some .long), Cond.constantLong RX2 23 (-4658895280553007687), Cond.constantLong RX2 25 (-7723592293110705685), Cond.methodLink RX3 63 yX3_makePlain, Cond.instanceMethod yX3_makePlain, Cond.selects RX3 yX3_makePlain yX3_makePlain, Cond.code yX3_makePlain cX3_makePlain 2 none, Cond.methodLink RX3 94 yX2_shuffle, Cond.instanceMethod yX2_shuffle, Cond.selects RX2 yX2_shuffle yX2_shuffle, Cond.code yX2_shuffle cX2_shuffle 7 none, Cond.methodLink RX2 19 yX2_below, Cond.instanceMethod yX2_below, Cond.selects RX2 yX2_below yX2_below, Cond.code yX2_below cX2_below 2 (some .int), Cond.methodLink RX3 66 yX3_sortParts, Cond.instanceMethod yX3_sortParts, Cond.selects RX3 yX3_sortParts yX3_sortParts, Cond.code yX3_sortParts cX3_sortParts 3 none, Cond.methodLink RX3 101 Lib.Math.max.name]
def wsL_law0_r15 : List Cond := [Cond.methodLink RX3 104 yX3_sortByLength, Cond.instanceMethod yX3_sortByLength, Cond.selects RX3 yX3_sortByLength yX3_sortByLength, Cond.code yX3_sortByLength cX3_sortByLength 7 none, Cond.methodLink RX3 107 yX4_length, Cond.instanceMethod yX4_length, Cond.selects RX4 yX4_length yX4_length, Cond.code yX4_length cX4_length 3 (some .int), Cond.methodLink RX4 40 yX4_find, Cond.methodLink RX3 69 yX3_makeWeighted, Cond.instanceMethod yX3_makeWeighted, Cond.selects RX3 yX3_makeWeighted yX3_makeWeighted, Cond.code yX3_makeWeighted cX3_makeWeighted 3 none, Cond.methodLink RX3 111 yX2_below, Cond.methodLink RX3 114 yX3_rowAbove, Cond.instanceMethod yX3_rowAbove, Cond.selects RX3 yX3_rowAbove yX3_rowAbove, Cond.code yX3_rowAbove cX3_rowAbove 4 (some .int), Cond.methodLink RX3 117 yX4_weight, Cond.methodLink RX3 72 yX3_makeBalanced, Cond.instanceMethod yX3_makeBalanced, Cond.selects RX3 yX3_makeBalanced yX3_makeBalanced, Cond.code yX3_makeBalanced cX3_makeBalanced 5 none, Cond.methodLink RX3 120 yX3_layOutLabels]
def wsL_law0_r16 : List Cond := [Cond.instanceMethod yX3_layOutLabels, Cond.selects RX3 yX3_layOutLabels yX3_layOutLabels, Cond.code yX3_layOutLabels cX3_layOutLabels 5 none, Cond.methodLink RX3 129 yX4_label, Cond.methodLink RX3 123 yX3_mixLabel, Cond.instanceMethod yX3_mixLabel, Cond.selects RX3 yX3_mixLabel yX3_mixLabel, Cond.code yX3_mixLabel cX3_mixLabel 5 none, Cond.methodLink RX3 126 yX3_rowHeld, Cond.instanceMethod yX3_rowHeld, Cond.selects RX3 yX3_rowHeld yX3_rowHeld, Cond.code yX3_rowHeld cX3_rowHeld 2 (some .int), Cond.methodLink RX3 76 yX3_makeBuffered, Cond.instanceMethod yX3_makeBuffered, Cond.selects RX3 yX3_makeBuffered yX3_makeBuffered, Cond.code yX3_makeBuffered cX3_makeBuffered 5 none, Cond.methodLink RX6 158 yX6_rowInBatch, Cond.instanceMethod yX6_rowInBatch, Cond.selects RX6 yX6_rowInBatch yX6_rowInBatch, Cond.code yX6_rowInBatch cX6_rowInBatch 4 (some .int), Cond.methodLink RX6 165 yX3_rowAt, Cond.instanceMethod yX3_rowAt, Cond.selects RX3 yX3_rowAt yX3_rowAt, Cond.code yX3_rowAt cX3_rowAt 2 (some .int)]
def wsL_law0_r17 : List Cond := [Cond.methodLink RL 70 yX7_batch, Cond.instanceMethod yX7_batch, Cond.selects RX7 yX7_batch yX7_batch, Cond.code yX7_batch cX7_batch 5 (some .int), Cond.methodLink RX7 160 yX7_isAsked, Cond.instanceMethod yX7_isAsked, Cond.selects RX7 yX7_isAsked yX7_isAsked, Cond.code yX7_isAsked cX7_isAsked 3 (some .boolean), Cond.constantLong RX7 158 (4), Cond.methodLink RX7 164 yX7_orders, Cond.instanceMethod yX7_orders, Cond.selects RX7 yX7_orders yX7_orders, Cond.code yX7_orders cX7_orders 4 (some .boolean), Cond.methodLink RX7 123 yX7_begin, Cond.instanceMethod yX7_begin, Cond.selects RX7 yX7_begin yX7_begin, Cond.code yX7_begin cX7_begin 1 none, Cond.fieldLink RX7 80 "BatchOrderModel" "state" "J", Cond.methodLink RX7 126 yX7_with, Cond.instanceMethod yX7_with, Cond.selects RX7 yX7_with yX7_with, Cond.code yX7_with cX7_with 3 none, Cond.constantLong RX7 83 (-7046029254386353131), Cond.methodLink RX7 85 yX7_mix]
def wsL_law0_r18 : List Cond := [Cond.static yX7_mix, Cond.code yX7_mix cX7_mix 4 (some .long), Cond.constantLong RX7 72 (-4658895280553007687), Cond.constantLong RX7 74 (-7723592293110705685), Cond.methodLink RX7 130 yX7_mixes, Cond.instanceMethod yX7_mixes, Cond.selects RX7 yX7_mixes yX7_mixes, Cond.code yX7_mixes cX7_mixes 7 none, Cond.methodLink RX7 89 yX7_draw, Cond.instanceMethod yX7_draw, Cond.selects RX7 yX7_draw yX7_draw, Cond.code yX7_draw cX7_draw 3 (some .int), Cond.methodLink RX7 134 yX7_byLengths, Cond.instanceMethod yX7_byLengths, Cond.selects RX7 yX7_byLengths yX7_byLengths, Cond.code yX7_byLengths cX7_byLengths 6 none, Cond.methodLink RX7 137 yX7_byWeights, Cond.instanceMethod yX7_byWeights, Cond.selects RX7 yX7_byWeights yX7_byWeights, Cond.code yX7_byWeights cX7_byWeights 6 (some .boolean), Cond.methodLink RX7 148 yX7_weightsOfAll, Cond.instanceMethod yX7_weightsOfAll, Cond.selects RX7 yX7_weightsOfAll yX7_weightsOfAll, Cond.code yX7_weightsOfAll cX7_weightsOfAll 3 (some .int)]
def wsL_law0_r19 : List Cond := [Cond.methodLink RX7 141 yX7_balanced, Cond.instanceMethod yX7_balanced, Cond.selects RX7 yX7_balanced yX7_balanced, Cond.code yX7_balanced cX7_balanced 5 none, Cond.methodLink RX7 154 yX7_again, Cond.instanceMethod yX7_again, Cond.selects RX7 yX7_again yX7_again, Cond.code yX7_again cX7_again 5 none, Cond.constantLong RX7 152 (3), Cond.methodLink RX7 145 yX7_buffered, Cond.instanceMethod yX7_buffered, Cond.selects RX7 yX7_buffered yX7_buffered, Cond.code yX7_buffered cX7_buffered 5 none, Cond.methodLink RX7 167 yX7_manyOf, Cond.instanceMethod yX7_manyOf, Cond.selects RX7 yX7_manyOf yX7_manyOf, Cond.code yX7_manyOf cX7_manyOf 6 (some .int), Cond.methodLink RL 71 yX6_share, Cond.instanceMethod yX6_share, Cond.selects RX6 yX6_share yX6_share, Cond.code yX6_share cX6_share 7 (some .int), Cond.methodLink RL 75 yX7_share, Cond.instanceMethod yX7_share, Cond.selects RX7 yX7_share yX7_share]
def wsL_law0_r20 : List Cond := [Cond.code yX7_share cX7_share 9 (some .int), Cond.constantLong RX7 171 (8), Cond.methodLink RL 76 yX6_once, Cond.instanceMethod yX6_once, Cond.selects RX6 yX6_once yX6_once, Cond.code yX6_once cX6_once 3 (some .int), Cond.methodLink RX6 162 yX3_hasEachOnce, Cond.instanceMethod yX3_hasEachOnce, Cond.selects RX3 yX3_hasEachOnce yX3_hasEachOnce, Cond.code yX3_hasEachOnce cX3_hasEachOnce 3 (some .boolean), Cond.methodLink RL 79 yX7_once, Cond.instanceMethod yX7_once, Cond.selects RX7 yX7_once yX7_once, Cond.code yX7_once cX7_once 4 (some .int), Cond.methodLink RL 80 yX6_resume, Cond.instanceMethod yX6_resume, Cond.selects RX6 yX6_resume yX6_resume, Cond.code yX6_resume cX6_resume 4 (some .int), Cond.methodLink RL 83 yX7_resume, Cond.instanceMethod yX7_resume, Cond.selects RX7 yX7_resume yX7_resume, Cond.code yX7_resume cX7_resume 4 (some .int), Cond.fieldLink RX7 173 "BatchOrderModel" "wayAt" "I", Cond.fieldLink RX7 176 "BatchOrderModel" "roundAt" "I"]
def wsL_law0_r21 : List Cond := [Cond.fieldLink RX7 179 "BatchOrderModel" "placeAt" "I", Cond.methodLink RL 84 yX6_next, Cond.instanceMethod yX6_next, Cond.selects RX6 yX6_next yX6_next, Cond.code yX6_next cX6_next 3 (some .int), Cond.methodLink RL 87 yX7_next, Cond.instanceMethod yX7_next, Cond.selects RX7 yX7_next yX7_next, Cond.code yX7_next cX7_next 4 (some .int), Cond.methodLink RL 88 yX6_at, Cond.instanceMethod yX6_at, Cond.selects RX6 yX6_at yX6_at, Cond.code yX6_at cX6_at 2 (some .int), Cond.methodLink RL 92 yX7_at, Cond.instanceMethod yX7_at, Cond.selects RX7 yX7_at yX7_at, Cond.code yX7_at cX7_at 2 (some .int), Cond.methodLink RL 93 yX6_act, Cond.instanceMethod yX6_act, Cond.selects RX6 yX6_act yX6_act, Cond.code yX6_act cX6_act 7 (some .int), Cond.methodLink RX6 168 yX0_allows, Cond.static yX0_allows, Cond.initialized RX0]
def wsL_law0_r22 : List Cond := [Cond.code yX0_allows cX0_allows 2 (some .boolean), Cond.methodLink RX6 171 yX0_failure, Cond.static yX0_failure, Cond.code yX0_failure cX0_failure 4 (some .int), Cond.methodLink RX0 17 yX0_failureOfCrop, Cond.static yX0_failureOfCrop, Cond.code yX0_failureOfCrop cX0_failureOfCrop 2 (some .int), Cond.methodLink RX0 24 yX0_failureOfSwap, Cond.static yX0_failureOfSwap, Cond.code yX0_failureOfSwap cX0_failureOfSwap 2 (some .int), Cond.methodLink RX6 175 yX2_begin, Cond.methodLink RX6 179 yX2_key, Cond.methodLink RX6 182 yX0_alter, Cond.static yX0_alter, Cond.code yX0_alter cX0_alter 5 none, Cond.methodLink RX0 33 yX2_below, Cond.methodLink RX0 39 yX0_turn, Cond.static yX0_turn, Cond.code yX0_turn cX0_turn 6 none, Cond.methodLink RX0 56 yX1_becomePicture, Cond.instanceMethod yX1_becomePicture, Cond.selects RX1 yX1_becomePicture yX1_becomePicture, Cond.code yX1_becomePicture cX1_becomePicture 3 none, Cond.methodLink RX0 60 yX0_turnedPlace]
def wsL_law0_r23 : List Cond := [Cond.static yX0_turnedPlace, Cond.code yX0_turnedPlace cX0_turnedPlace 6 (some .int), Cond.methodLink RX0 64 yX1_item, Cond.instanceMethod yX1_item, Cond.selects RX1 yX1_item yX1_item, Cond.code yX1_item cX1_item 2 (some .int), Cond.methodLink RX0 67 yX1_put, Cond.methodLink RX0 43 yX0_crop, Cond.static yX0_crop, Cond.code yX0_crop cX0_crop 8 none, Cond.methodLink RX0 47 yX0_addNoise, Cond.static yX0_addNoise, Cond.code yX0_addNoise cX0_addNoise 5 none, Cond.methodLink RX0 50 yX0_leaveOut, Cond.static yX0_leaveOut, Cond.code yX0_leaveOut cX0_leaveOut 5 none, Cond.methodLink RX0 70 yX1_becomeNoWords, Cond.instanceMethod yX1_becomeNoWords, Cond.selects RX1 yX1_becomeNoWords yX1_becomeNoWords, Cond.code yX1_becomeNoWords cX1_becomeNoWords 1 none, Cond.methodLink RX0 73 yX1_append, Cond.methodLink RX0 53 yX0_swapSome, Cond.static yX0_swapSome, Cond.code yX0_swapSome cX0_swapSome 5 none]
def wsL_law0_r24 : List Cond := [Cond.methodLink RX0 77 yX1_swapWithNext, Cond.instanceMethod yX1_swapWithNext, Cond.selects RX1 yX1_swapWithNext yX1_swapWithNext, Cond.code yX1_swapWithNext cX1_swapWithNext 3 none, Cond.methodLink RX1 38 yX1_item, Cond.methodLink RX1 42 yX1_put, Cond.methodLink RL 96 yX7_act, Cond.instanceMethod yX7_act, Cond.selects RX7 yX7_act yX7_act, Cond.code yX7_act cX7_act 9 (some .int), Cond.constantLong RX7 182 (256), Cond.constantLong RX7 184 (100), Cond.constantLong RX7 186 (50), Cond.constantLong RX7 192 (5), Cond.fieldLink RX7 194 "BatchOrderModel" "outLength" "I", Cond.fieldLink RX7 197 "BatchOrderModel" "outHigh" "I", Cond.fieldLink RX7 200 "BatchOrderModel" "outWide" "I", Cond.methodLink RX7 188 yX7_failure, Cond.instanceMethod yX7_failure, Cond.selects RX7 yX7_failure yX7_failure, Cond.code yX7_failure cX7_failure 4 (some .int), Cond.methodLink RX7 203 yX7_turn, Cond.instanceMethod yX7_turn, Cond.selects RX7 yX7_turn yX7_turn]
def wsL_law0_r25 : List Cond := [Cond.code yX7_turn cX7_turn 3 none, Cond.methodLink RX7 206 yX7_crop, Cond.instanceMethod yX7_crop, Cond.selects RX7 yX7_crop yX7_crop, Cond.code yX7_crop cX7_crop 6 none, Cond.methodLink RL 97 yX6_out, Cond.instanceMethod yX6_out, Cond.selects RX6 yX6_out yX6_out, Cond.code yX6_out cX6_out 2 (some .int), Cond.methodLink RX6 186 yX1_item, Cond.methodLink RL 100 yX7_out, Cond.instanceMethod yX7_out, Cond.selects RX7 yX7_out yX7_out, Cond.code yX7_out cX7_out 2 (some .int), Cond.methodLink RL 101 yX6_like, Cond.instanceMethod yX6_like, Cond.selects RX6 yX6_like yX6_like, Cond.code yX6_like cX6_like 3 (some .int), Cond.methodLink RX6 189 yX1_isLike, Cond.instanceMethod yX1_isLike, Cond.selects RX1 yX1_isLike yX1_isLike, Cond.code yX1_isLike cX1_isLike 3 (some .boolean), Cond.methodLink RL 104 yX7_like, Cond.instanceMethod yX7_like]
def wsL_law0_r26 : List Cond := [Cond.selects RX7 yX7_like yX7_like, Cond.code yX7_like cX7_like 3 (some .int)]
def wsL_law0 : List Cond := (wsL_law0_r1 ++ (wsL_law0_r2 ++ (wsL_law0_r3 ++ (wsL_law0_r4 ++ (wsL_law0_r5 ++ (wsL_law0_r6 ++ (wsL_law0_r7 ++ (wsL_law0_r8 ++ (wsL_law0_r9 ++ (wsL_law0_r10 ++ (wsL_law0_r11 ++ (wsL_law0_r12 ++ (wsL_law0_r13 ++ (wsL_law0_r14 ++ (wsL_law0_r15 ++ (wsL_law0_r16 ++ (wsL_law0_r17 ++ (wsL_law0_r18 ++ (wsL_law0_r19 ++ (wsL_law0_r20 ++ (wsL_law0_r21 ++ (wsL_law0_r22 ++ (wsL_law0_r23 ++ (wsL_law0_r24 ++ (wsL_law0_r25 ++ wsL_law0_r26))))))))))))))))))))))))) ++ wsX60 ++ wsX70 ++ wsX40 ++ wsX50 ++ wsX20 ++ wsX30 ++ wsX10 ++ ([] : List Cond)
def wsL_law : List Cond := wsL_law0 ++ (vx_atS RX6 140 "java/lang/ArithmeticException" ["java/lang/RuntimeException", "java/lang/Exception"]).filter goodWord
theorem in_places {big ws : List Cond} (ps : List Nat) (h : ws = ps.filterMap (fun i => big[i]?)) : ∀ w ∈ ws, w ∈ big := by
  intro w hw
  rw [h] at hw
  obtain ⟨i, -, hi⟩ := List.mem_filterMap.mp hw
  exact List.mem_of_getElem? hi
theorem in_app {big a b : List Cond} (ha : ∀ w ∈ a, w ∈ big) (hb : ∀ w ∈ b, w ∈ big) : ∀ w ∈ a ++ b, w ∈ big := fun w h => (List.mem_append.mp h).elim (ha w) (hb w)
theorem in_wsL_law0_r1 : ∀ w ∈ wsL_law0_r1, w ∈ lw_tbl := in_places [45, 46, 32, 584, 585, 39, 853, 852, 47, 48, 49, 50, 51, 52, 53, 54, 33, 185, 77, 78, 34, 186, 104, 105] (by decide +kernel)
theorem in_wsL_law0_r2 : ∀ w ∈ wsL_law0_r2, w ∈ lw_tbl := in_places [35, 187, 114, 115, 36, 188, 151, 152, 37, 189, 190, 191, 192, 56, 57, 58, 59, 61, 76, 62, 63, 64, 80, 81] (by decide +kernel)
theorem in_wsL_law0_r3 : ∀ w ∈ wsL_law0_r3, w ∈ lw_tbl := in_places [82, 83, 86, 88, 90, 92, 107, 108, 109, 110, 116, 117, 118, 119, 123, 124, 125, 126, 127, 128, 129, 120, 121, 122] (by decide +kernel)
theorem in_wsL_law0_r4 : ∀ w ∈ wsL_law0_r4, w ∈ lw_tbl := in_places [153, 154, 155, 156, 157, 158, 38, 159, 160, 161, 164, 167, 170, 586, 587, 588, 589, 595, 596, 597, 598, 599, 600, 590] (by decide +kernel)
theorem in_wsL_law0_r5 : ∀ w ∈ wsL_law0_r5, w ∈ lw_tbl := in_places [601, 602, 603, 604, 606, 607, 608, 609, 610, 611, 615, 619, 620, 210, 211, 212, 213, 214, 215, 216, 217, 218, 219, 220] (by decide +kernel)
theorem in_wsL_law0_r6 : ∀ w ∈ wsL_law0_r6, w ∈ lw_tbl := in_places [221, 222, 223, 224, 225, 226, 227, 228, 229, 230, 231, 232, 233, 234, 235, 236, 686, 687, 688, 689, 591, 690, 692, 13] (by decide +kernel)
theorem in_wsL_law0_r7 : ∀ w ∈ wsL_law0_r7, w ∈ lw_tbl := in_places [693, 694, 698, 594, 695, 696, 697, 237, 238, 239, 240, 241, 242, 243, 699, 700, 701, 702, 703, 244, 245, 246, 247, 248] (by decide +kernel)
theorem in_wsL_law0_r8 : ∀ w ∈ wsL_law0_r8, w ∈ lw_tbl := in_places [249, 250, 251, 252, 253, 254, 255, 704, 705, 706, 707, 708, 710, 14, 711, 256, 257, 258, 259, 264, 265, 266, 260, 261] (by decide +kernel)
theorem in_wsL_law0_r9 : ∀ w ∈ wsL_law0_r9, w ∈ lw_tbl := in_places [262, 263, 267, 268, 269, 270, 271, 712, 713, 714, 715, 716, 272, 273, 274, 275, 276, 277, 717, 718, 719, 720, 278, 279] (by decide +kernel)
theorem in_wsL_law0_r10 : ∀ w ∈ wsL_law0_r10, w ∈ lw_tbl := in_places [280, 281, 282, 283, 284, 285, 286, 287, 288, 289, 721, 722, 723, 724, 290, 291, 292, 293, 725, 726, 727, 728, 592, 294] (by decide +kernel)
theorem in_wsL_law0_r11 : ∀ w ∈ wsL_law0_r11, w ∈ lw_tbl := in_places [295, 296, 297, 298, 299, 300, 301, 302, 303, 304, 305, 729, 730, 731, 732, 733, 734, 605, 510, 511, 31, 512, 513, 514] (by decide +kernel)
theorem in_wsL_law0_r12 : ∀ w ∈ wsL_law0_r12, w ∈ lw_tbl := in_places [515, 516, 517, 518, 43, 405, 406, 407, 408, 735, 736, 737, 738, 682, 683, 684, 685, 306, 307, 308, 309, 310, 311, 312] (by decide +kernel)
theorem in_wsL_law0_r13 : ∀ w ∈ wsL_law0_r13, w ∈ lw_tbl := in_places [313, 314, 315, 316, 317, 318, 319, 320, 321, 322, 323, 324, 325, 326, 328, 0, 329, 330, 331, 332, 333, 334, 335, 336] (by decide +kernel)
theorem in_wsL_law0_r14 : ∀ w ∈ wsL_law0_r14, w ∈ lw_tbl := in_places [337, 338, 339, 340, 341, 342, 343, 344, 346, 1, 347, 348, 349, 350, 351, 352, 353, 354, 355, 356, 358, 2, 359, 360] (by decide +kernel)
theorem in_wsL_law0_r15 : ∀ w ∈ wsL_law0_r15, w ∈ lw_tbl := in_places [361, 363, 3, 364, 365, 366, 367, 368, 369, 370, 372, 4, 373, 374, 375, 377, 5, 378, 379, 380, 382, 6, 383, 384] (by decide +kernel)
theorem in_wsL_law0_r16 : ∀ w ∈ wsL_law0_r16, w ∈ lw_tbl := in_places [386, 7, 387, 388, 389, 391, 8, 392, 393, 395, 9, 396, 397, 399, 10, 400, 401, 403, 11, 404, 409, 410, 411, 412] (by decide +kernel)
theorem in_wsL_law0_r17 : ∀ w ∈ wsL_law0_r17, w ∈ lw_tbl := in_places [739, 740, 741, 742, 743, 745, 15, 746, 747, 748, 750, 16, 751, 752, 754, 17, 755, 593, 756, 758, 18, 759, 760, 761] (by decide +kernel)
theorem in_wsL_law0_r18 : ∀ w ∈ wsL_law0_r18, w ∈ lw_tbl := in_places [762, 763, 764, 765, 766, 768, 19, 769, 770, 772, 20, 773, 774, 776, 21, 777, 778, 780, 22, 781, 782, 784, 23, 785] (by decide +kernel)
theorem in_wsL_law0_r19 : ∀ w ∈ wsL_law0_r19, w ∈ lw_tbl := in_places [786, 788, 24, 789, 790, 792, 25, 793, 794, 795, 797, 26, 798, 799, 801, 27, 802, 413, 414, 415, 416, 803, 804, 805] (by decide +kernel)
theorem in_wsL_law0_r20 : ∀ w ∈ wsL_law0_r20, w ∈ lw_tbl := in_places [806, 807, 417, 418, 419, 420, 421, 422, 423, 424, 808, 809, 810, 811, 425, 426, 427, 428, 812, 813, 814, 815, 612, 613] (by decide +kernel)
theorem in_wsL_law0_r21 : ∀ w ∈ wsL_law0_r21, w ∈ lw_tbl := in_places [614, 429, 430, 431, 432, 816, 817, 818, 819, 433, 434, 435, 436, 820, 821, 822, 823, 437, 438, 439, 440, 441, 442, 44] (by decide +kernel)
theorem in_wsL_law0_r22 : ∀ w ∈ wsL_law0_r22, w ∈ lw_tbl := in_places [443, 444, 445, 446, 447, 448, 449, 450, 451, 452, 453, 454, 455, 456, 457, 458, 459, 460, 461, 462, 463, 464, 465, 466] (by decide +kernel)
theorem in_wsL_law0_r23 : ∀ w ∈ wsL_law0_r23, w ∈ lw_tbl := in_places [467, 468, 469, 470, 471, 472, 473, 474, 475, 476, 477, 478, 479, 480, 481, 482, 483, 484, 485, 486, 487, 488, 489, 490] (by decide +kernel)
theorem in_wsL_law0_r24 : ∀ w ∈ wsL_law0_r24, w ∈ lw_tbl := in_places [491, 492, 493, 494, 495, 496, 824, 825, 826, 827, 828, 829, 830, 835, 616, 617, 618, 831, 833, 28, 834, 836, 838, 29] (by decide +kernel)
theorem in_wsL_law0_r25 : ∀ w ∈ wsL_law0_r25, w ∈ lw_tbl := in_places [839, 840, 842, 30, 843, 497, 498, 499, 500, 501, 844, 845, 846, 847, 502, 503, 504, 505, 506, 507, 508, 509, 848, 849] (by decide +kernel)
theorem in_wsL_law0_r26 : ∀ w ∈ wsL_law0_r26, w ∈ lw_tbl := in_places [850, 851] (by decide +kernel)
theorem in_wsX60 : ∀ w ∈ wsX60, w ∈ lw_tbl := by decide +kernel
theorem in_wsX70 : ∀ w ∈ wsX70, w ∈ lw_tbl := by decide +kernel
theorem in_wsX40 : ∀ w ∈ wsX40, w ∈ lw_tbl := by decide +kernel
theorem in_wsX50 : ∀ w ∈ wsX50, w ∈ lw_tbl := by decide +kernel
theorem in_wsX20 : ∀ w ∈ wsX20, w ∈ lw_tbl := by decide +kernel
theorem in_wsX30 : ∀ w ∈ wsX30, w ∈ lw_tbl := by decide +kernel
theorem in_wsX10 : ∀ w ∈ wsX10, w ∈ lw_tbl := by decide +kernel
theorem wsL_law_in0 : ∀ w ∈ wsL_law0, w ∈ lw_tbl := in_app (in_app (in_app (in_app (in_app (in_app (in_app (in_app (in_app in_wsL_law0_r1 (in_app in_wsL_law0_r2 (in_app in_wsL_law0_r3 (in_app in_wsL_law0_r4 (in_app in_wsL_law0_r5 (in_app in_wsL_law0_r6 (in_app in_wsL_law0_r7 (in_app in_wsL_law0_r8 (in_app in_wsL_law0_r9 (in_app in_wsL_law0_r10 (in_app in_wsL_law0_r11 (in_app in_wsL_law0_r12 (in_app in_wsL_law0_r13 (in_app in_wsL_law0_r14 (in_app in_wsL_law0_r15 (in_app in_wsL_law0_r16 (in_app in_wsL_law0_r17 (in_app in_wsL_law0_r18 (in_app in_wsL_law0_r19 (in_app in_wsL_law0_r20 (in_app in_wsL_law0_r21 (in_app in_wsL_law0_r22 (in_app in_wsL_law0_r23 (in_app in_wsL_law0_r24 (in_app in_wsL_law0_r25 in_wsL_law0_r26))))))))))))))))))))))))) in_wsX60) in_wsX70) in_wsX40) in_wsX50) in_wsX20) in_wsX30) in_wsX10) (fun _ h => absurd h List.not_mem_nil)
theorem wsL_law_x0 : ∀ w ∈ (vx_atS RX6 140 "java/lang/ArithmeticException" ["java/lang/RuntimeException", "java/lang/Exception"]).filter goodWord, w ∈ lw_tbl := by decide +kernel
theorem wsL_law_in : ∀ w ∈ wsL_law, w ∈ lw_tbl := fun w h => (List.mem_append.mp h).elim (fun h => wsL_law_in0 w h) (fun h => wsL_law_x0 w h)
theorem inX0 : ∀ w ∈ wsX00, w ∈ lw_tbl := by decide +kernel
theorem inlX1 : ∀ w ∈ wsX10, w ∈ wsL_law := fun _ h => List.mem_append_left _ (List.mem_append_left _ (List.mem_append_right _ h))
theorem inX1 : ∀ w ∈ wsX10, w ∈ lw_tbl := fun w h => wsL_law_in w (inlX1 w h)
theorem inlX2 : ∀ w ∈ wsX20, w ∈ wsL_law := fun _ h => List.mem_append_left _ (List.mem_append_left _ (List.mem_append_left _ (List.mem_append_left _ (List.mem_append_right _ h))))
theorem inX2 : ∀ w ∈ wsX20, w ∈ lw_tbl := fun w h => wsL_law_in w (inlX2 w h)
theorem inlX3 : ∀ w ∈ wsX30, w ∈ wsL_law := fun _ h => List.mem_append_left _ (List.mem_append_left _ (List.mem_append_left _ (List.mem_append_right _ h)))
theorem inX3 : ∀ w ∈ wsX30, w ∈ lw_tbl := fun w h => wsL_law_in w (inlX3 w h)
theorem inlX4 : ∀ w ∈ wsX40, w ∈ wsL_law := fun _ h => List.mem_append_left _ (List.mem_append_left _ (List.mem_append_left _ (List.mem_append_left _ (List.mem_append_left _ (List.mem_append_left _ (List.mem_append_right _ h))))))
theorem inX4 : ∀ w ∈ wsX40, w ∈ lw_tbl := fun w h => wsL_law_in w (inlX4 w h)
theorem inlX5 : ∀ w ∈ wsX50, w ∈ wsL_law := fun _ h => List.mem_append_left _ (List.mem_append_left _ (List.mem_append_left _ (List.mem_append_left _ (List.mem_append_left _ (List.mem_append_right _ h)))))
theorem inX5 : ∀ w ∈ wsX50, w ∈ lw_tbl := fun w h => wsL_law_in w (inlX5 w h)
theorem inlX6 : ∀ w ∈ wsX60, w ∈ wsL_law := fun _ h => List.mem_append_left _ (List.mem_append_left _ (List.mem_append_left _ (List.mem_append_left _ (List.mem_append_left _ (List.mem_append_left _ (List.mem_append_left _ (List.mem_append_left _ (List.mem_append_right _ h))))))))
theorem inX6 : ∀ w ∈ wsX60, w ∈ lw_tbl := fun w h => wsL_law_in w (inlX6 w h)
theorem inlX7 : ∀ w ∈ wsX70, w ∈ wsL_law := fun _ h => List.mem_append_left _ (List.mem_append_left _ (List.mem_append_left _ (List.mem_append_left _ (List.mem_append_left _ (List.mem_append_left _ (List.mem_append_left _ (List.mem_append_right _ h)))))))
theorem inX7 : ∀ w ∈ wsX70, w ∈ lw_tbl := fun w h => wsL_law_in w (inlX7 w h)
theorem inJ9 : ∀ w ∈ wsJ90, w ∈ lw_tbl := by decide +kernel
theorem inJ0 : ∀ w ∈ wsJ00, w ∈ lw_tbl := by decide +kernel
end
section
theorem dX0_allows_0 : decode cX0_allows 0 = .ok (.iload_n 0, 1) := by decide +kernel
theorem dX0_allows_1 : decode cX0_allows 1 = .ok (.tableswitch 98 0 4 #[35, 37, 49, 66, 82], 35) := by decide +kernel
theorem dX0_allows_36 : decode cX0_allows 36 = .ok (.iconst 1, 1) := by decide +kernel
theorem dX0_allows_37 : decode cX0_allows 37 = .ok (.ireturn, 1) := by decide +kernel
theorem dX0_allows_38 : decode cX0_allows 38 = .ok (.iload_n 1, 1) := by decide +kernel
theorem dX0_allows_39 : decode cX0_allows 39 = .ok (.bipush 40, 2) := by decide +kernel
theorem dX0_allows_41 : decode cX0_allows 41 = .ok (.if_icmp .gt 7, 3) := by decide +kernel
theorem dX0_allows_44 : decode cX0_allows 44 = .ok (.iconst 1, 1) := by decide +kernel
theorem dX0_allows_45 : decode cX0_allows 45 = .ok (.goto 4, 3) := by decide +kernel
theorem dX0_allows_48 : decode cX0_allows 48 = .ok (.iconst 0, 1) := by decide +kernel
theorem dX0_allows_49 : decode cX0_allows 49 = .ok (.ireturn, 1) := by decide +kernel
theorem dX0_allows_50 : decode cX0_allows 50 = .ok (.iload_n 1, 1) := by decide +kernel
theorem dX0_allows_51 : decode cX0_allows 51 = .ok (.ifCond .lt 14, 3) := by decide +kernel
theorem dX0_allows_54 : decode cX0_allows 54 = .ok (.iload_n 1, 1) := by decide +kernel
theorem dX0_allows_55 : decode cX0_allows 55 = .ok (.sipush 256, 3) := by decide +kernel
theorem dX0_allows_58 : decode cX0_allows 58 = .ok (.if_icmp .gt 7, 3) := by decide +kernel
theorem dX0_allows_61 : decode cX0_allows 61 = .ok (.iconst 1, 1) := by decide +kernel
theorem dX0_allows_62 : decode cX0_allows 62 = .ok (.goto 4, 3) := by decide +kernel
theorem dX0_allows_65 : decode cX0_allows 65 = .ok (.iconst 0, 1) := by decide +kernel
theorem dX0_allows_66 : decode cX0_allows 66 = .ok (.ireturn, 1) := by decide +kernel
theorem dX0_allows_67 : decode cX0_allows 67 = .ok (.iload_n 1, 1) := by decide +kernel
theorem dX0_allows_68 : decode cX0_allows 68 = .ok (.ifCond .lt 13, 3) := by decide +kernel
theorem dX0_allows_71 : decode cX0_allows 71 = .ok (.iload_n 1, 1) := by decide +kernel
theorem dX0_allows_72 : decode cX0_allows 72 = .ok (.bipush 100, 2) := by decide +kernel
theorem dX0_allows_74 : decode cX0_allows 74 = .ok (.if_icmp .gt 7, 3) := by decide +kernel
theorem dX0_allows_77 : decode cX0_allows 77 = .ok (.iconst 1, 1) := by decide +kernel
theorem dX0_allows_78 : decode cX0_allows 78 = .ok (.goto 4, 3) := by decide +kernel
theorem dX0_allows_81 : decode cX0_allows 81 = .ok (.iconst 0, 1) := by decide +kernel
theorem dX0_allows_82 : decode cX0_allows 82 = .ok (.ireturn, 1) := by decide +kernel
theorem dX0_allows_83 : decode cX0_allows 83 = .ok (.iload_n 1, 1) := by decide +kernel
theorem dX0_allows_84 : decode cX0_allows 84 = .ok (.ifCond .lt 13, 3) := by decide +kernel
theorem dX0_allows_87 : decode cX0_allows 87 = .ok (.iload_n 1, 1) := by decide +kernel
theorem dX0_allows_88 : decode cX0_allows 88 = .ok (.bipush 50, 2) := by decide +kernel
theorem dX0_allows_90 : decode cX0_allows 90 = .ok (.if_icmp .gt 7, 3) := by decide +kernel
theorem dX0_allows_93 : decode cX0_allows 93 = .ok (.iconst 1, 1) := by decide +kernel
theorem dX0_allows_94 : decode cX0_allows 94 = .ok (.goto 4, 3) := by decide +kernel
theorem dX0_allows_97 : decode cX0_allows 97 = .ok (.iconst 0, 1) := by decide +kernel
theorem dX0_allows_98 : decode cX0_allows 98 = .ok (.ireturn, 1) := by decide +kernel
theorem dX0_allows_99 : decode cX0_allows 99 = .ok (.iconst 0, 1) := by decide +kernel
theorem dX0_allows_100 : decode cX0_allows 100 = .ok (.ireturn, 1) := by decide +kernel
set_option maxRecDepth 20000 in
theorem ggX0_failure_X0_failureOfCrop : GoodIn wsX0_failure wsX0_failureOfCrop := goodIn_r _ [4, 8, 9, 10, 11, 12] (by decide +kernel) (by decide +kernel)
set_option maxRecDepth 20000 in
theorem gX0_failure_X0_failureOfCrop : GoodIn wsX0_failure (va_wsS RX0 17 yX0_failureOfCrop wsX0_failureOfCrop) := goodIn_app (goodIn_of _ (by decide +kernel)) ggX0_failure_X0_failureOfCrop
set_option maxRecDepth 20000 in
theorem ggX0_failure_X0_failureOfSwap : GoodIn wsX0_failure wsX0_failureOfSwap := goodIn_r _ [7, 8, 9, 10, 11, 12] (by decide +kernel) (by decide +kernel)
set_option maxRecDepth 20000 in
theorem gX0_failure_X0_failureOfSwap : GoodIn wsX0_failure (va_wsS RX0 24 yX0_failureOfSwap wsX0_failureOfSwap) := goodIn_app (goodIn_of _ (by decide +kernel)) ggX0_failure_X0_failureOfSwap
theorem dX0_failure_0 : decode cX0_failure 0 = .ok (.aload_n 1, 1) := by decide +kernel
theorem dX0_failure_1 : decode cX0_failure 1 = .ok (.getfield 11, 3) := by decide +kernel
theorem dX0_failure_4 : decode cX0_failure 4 = .ok (.iconst 2, 1) := by decide +kernel
theorem dX0_failure_5 : decode cX0_failure 5 = .ok (.if_icmp .ne 6, 3) := by decide +kernel
theorem dX0_failure_8 : decode cX0_failure 8 = .ok (.bipush (-11), 2) := by decide +kernel
theorem dX0_failure_10 : decode cX0_failure 10 = .ok (.ireturn, 1) := by decide +kernel
theorem dX0_failure_11 : decode cX0_failure 11 = .ok (.iload_n 0, 1) := by decide +kernel
theorem dX0_failure_12 : decode cX0_failure 12 = .ok (.iconst 3, 1) := by decide +kernel
theorem dX0_failure_13 : decode cX0_failure 13 = .ok (.if_icmp .eq 8, 3) := by decide +kernel
theorem dX0_failure_16 : decode cX0_failure 16 = .ok (.iload_n 0, 1) := by decide +kernel
theorem dX0_failure_17 : decode cX0_failure 17 = .ok (.iconst 4, 1) := by decide +kernel
theorem dX0_failure_18 : decode cX0_failure 18 = .ok (.if_icmp .ne 7, 3) := by decide +kernel
theorem dX0_failure_21 : decode cX0_failure 21 = .ok (.iconst 0, 1) := by decide +kernel
theorem dX0_failure_22 : decode cX0_failure 22 = .ok (.goto 4, 3) := by decide +kernel
theorem dX0_failure_25 : decode cX0_failure 25 = .ok (.iconst 1, 1) := by decide +kernel
theorem dX0_failure_26 : decode cX0_failure 26 = .ok (.istore_n 3, 1) := by decide +kernel
theorem dX0_failure_27 : decode cX0_failure 27 = .ok (.aload_n 1, 1) := by decide +kernel
theorem dX0_failure_28 : decode cX0_failure 28 = .ok (.getfield 11, 3) := by decide +kernel
theorem dX0_failure_31 : decode cX0_failure 31 = .ok (.iload_n 3, 1) := by decide +kernel
theorem dX0_failure_32 : decode cX0_failure 32 = .ok (.if_icmp .eq 6, 3) := by decide +kernel
theorem dX0_failure_35 : decode cX0_failure 35 = .ok (.bipush (-12), 2) := by decide +kernel
theorem dX0_failure_37 : decode cX0_failure 37 = .ok (.ireturn, 1) := by decide +kernel
theorem dX0_failure_38 : decode cX0_failure 38 = .ok (.iload_n 0, 1) := by decide +kernel
theorem dX0_failure_39 : decode cX0_failure 39 = .ok (.tableswitch 59 1 4 #[29, 35, 59, 53], 29) := by decide +kernel
theorem dX0_failure_68 : decode cX0_failure 68 = .ok (.aload_n 1, 1) := by decide +kernel
theorem dX0_failure_69 : decode cX0_failure 69 = .ok (.iload_n 2, 1) := by decide +kernel
theorem dX0_failure_70 : decode cX0_failure 70 = .ok (.invokestatic 17, 3) := by decide +kernel
theorem dX0_failure_73 : decode cX0_failure 73 = .ok (.ireturn, 1) := by decide +kernel
theorem dX0_failure_74 : decode cX0_failure 74 = .ok (.iload_n 2, 1) := by decide +kernel
theorem dX0_failure_75 : decode cX0_failure 75 = .ok (.ifCond .ne 15, 3) := by decide +kernel
theorem dX0_failure_78 : decode cX0_failure 78 = .ok (.aload_n 1, 1) := by decide +kernel
theorem dX0_failure_79 : decode cX0_failure 79 = .ok (.getfield 21, 3) := by decide +kernel
theorem dX0_failure_82 : decode cX0_failure 82 = .ok (.ifCond .le 8, 3) := by decide +kernel
theorem dX0_failure_85 : decode cX0_failure 85 = .ok (.bipush (-16), 2) := by decide +kernel
theorem dX0_failure_87 : decode cX0_failure 87 = .ok (.goto 4, 3) := by decide +kernel
theorem dX0_failure_90 : decode cX0_failure 90 = .ok (.iconst 0, 1) := by decide +kernel
theorem dX0_failure_91 : decode cX0_failure 91 = .ok (.ireturn, 1) := by decide +kernel
theorem dX0_failure_92 : decode cX0_failure 92 = .ok (.aload_n 1, 1) := by decide +kernel
theorem dX0_failure_93 : decode cX0_failure 93 = .ok (.iload_n 2, 1) := by decide +kernel
theorem dX0_failure_94 : decode cX0_failure 94 = .ok (.invokestatic 24, 3) := by decide +kernel
theorem dX0_failure_97 : decode cX0_failure 97 = .ok (.ireturn, 1) := by decide +kernel
theorem dX0_failure_98 : decode cX0_failure 98 = .ok (.iconst 0, 1) := by decide +kernel
theorem dX0_failure_99 : decode cX0_failure 99 = .ok (.ireturn, 1) := by decide +kernel
theorem dX0_failureOfCrop_0 : decode cX0_failureOfCrop 0 = .ok (.iload_n 1, 1) := by decide +kernel
theorem dX0_failureOfCrop_1 : decode cX0_failureOfCrop 1 = .ok (.aload_n 0, 1) := by decide +kernel
theorem dX0_failureOfCrop_2 : decode cX0_failureOfCrop 2 = .ok (.getfield 27, 3) := by decide +kernel
theorem dX0_failureOfCrop_5 : decode cX0_failureOfCrop 5 = .ok (.if_icmp .gt 11, 3) := by decide +kernel
theorem dX0_failureOfCrop_8 : decode cX0_failureOfCrop 8 = .ok (.iload_n 1, 1) := by decide +kernel
theorem dX0_failureOfCrop_9 : decode cX0_failureOfCrop 9 = .ok (.aload_n 0, 1) := by decide +kernel
theorem dX0_failureOfCrop_10 : decode cX0_failureOfCrop 10 = .ok (.getfield 30, 3) := by decide +kernel
theorem dX0_failureOfCrop_13 : decode cX0_failureOfCrop 13 = .ok (.if_icmp .le 6, 3) := by decide +kernel
theorem dX0_failureOfCrop_16 : decode cX0_failureOfCrop 16 = .ok (.bipush (-13), 2) := by decide +kernel
theorem dX0_failureOfCrop_18 : decode cX0_failureOfCrop 18 = .ok (.ireturn, 1) := by decide +kernel
theorem dX0_failureOfCrop_19 : decode cX0_failureOfCrop 19 = .ok (.iload_n 1, 1) := by decide +kernel
theorem dX0_failureOfCrop_20 : decode cX0_failureOfCrop 20 = .ok (.ifCond .ge 8, 3) := by decide +kernel
theorem dX0_failureOfCrop_23 : decode cX0_failureOfCrop 23 = .ok (.bipush (-15), 2) := by decide +kernel
theorem dX0_failureOfCrop_25 : decode cX0_failureOfCrop 25 = .ok (.goto 4, 3) := by decide +kernel
theorem dX0_failureOfCrop_28 : decode cX0_failureOfCrop 28 = .ok (.iconst 0, 1) := by decide +kernel
theorem dX0_failureOfCrop_29 : decode cX0_failureOfCrop 29 = .ok (.ireturn, 1) := by decide +kernel
theorem dX0_failureOfSwap_0 : decode cX0_failureOfSwap 0 = .ok (.iload_n 1, 1) := by decide +kernel
theorem dX0_failureOfSwap_1 : decode cX0_failureOfSwap 1 = .ok (.ifCond .eq 11, 3) := by decide +kernel
theorem dX0_failureOfSwap_4 : decode cX0_failureOfSwap 4 = .ok (.aload_n 0, 1) := by decide +kernel
theorem dX0_failureOfSwap_5 : decode cX0_failureOfSwap 5 = .ok (.getfield 21, 3) := by decide +kernel
theorem dX0_failureOfSwap_8 : decode cX0_failureOfSwap 8 = .ok (.iconst 1, 1) := by decide +kernel
theorem dX0_failureOfSwap_9 : decode cX0_failureOfSwap 9 = .ok (.if_icmp .le 5, 3) := by decide +kernel
theorem dX0_failureOfSwap_12 : decode cX0_failureOfSwap 12 = .ok (.iconst 0, 1) := by decide +kernel
theorem dX0_failureOfSwap_13 : decode cX0_failureOfSwap 13 = .ok (.ireturn, 1) := by decide +kernel
theorem dX0_failureOfSwap_14 : decode cX0_failureOfSwap 14 = .ok (.aload_n 0, 1) := by decide +kernel
theorem dX0_failureOfSwap_15 : decode cX0_failureOfSwap 15 = .ok (.getfield 21, 3) := by decide +kernel
theorem dX0_failureOfSwap_18 : decode cX0_failureOfSwap 18 = .ok (.ifCond .ne 8, 3) := by decide +kernel
theorem dX0_failureOfSwap_21 : decode cX0_failureOfSwap 21 = .ok (.bipush (-13), 2) := by decide +kernel
theorem dX0_failureOfSwap_23 : decode cX0_failureOfSwap 23 = .ok (.goto 5, 3) := by decide +kernel
theorem dX0_failureOfSwap_26 : decode cX0_failureOfSwap 26 = .ok (.bipush (-16), 2) := by decide +kernel
theorem dX0_failureOfSwap_28 : decode cX0_failureOfSwap 28 = .ok (.ireturn, 1) := by decide +kernel
set_option maxRecDepth 20000 in
theorem ggX0_alter_X2_below : GoodIn wsX0_alter wsX2_below := goodIn_r _ [5, 6, 7, 8, 9, 4, 10, 11, 12, 68] (by decide +kernel) (by decide +kernel)
set_option maxRecDepth 20000 in
theorem gX0_alter_X2_below : GoodIn wsX0_alter (wsV RX0 33 RX2 yX2_below wsX2_below) := goodIn_app (goodIn_of _ (by decide +kernel)) ggX0_alter_X2_below
set_option maxRecDepth 20000 in
theorem ggX0_alter_X0_turn : GoodIn wsX0_alter wsX0_turn := goodIn_r _ [16, 17, 18, 19, 20, 21, 22, 23, 24, 25, 26, 27, 15, 28, 29, 30, 31, 32, 33, 34, 35, 36, 37, 38, 39, 40, 41, 69, 70, 71, 72, 73] (by decide +kernel) (by decide +kernel)
set_option maxRecDepth 20000 in
theorem gX0_alter_X0_turn : GoodIn wsX0_alter (va_wsS RX0 39 yX0_turn wsX0_turn) := goodIn_app (goodIn_of _ (by decide +kernel)) ggX0_alter_X0_turn
set_option maxRecDepth 20000 in
theorem ggX0_alter_X0_crop : GoodIn wsX0_alter wsX0_crop := goodIn_r _ [44, 1, 2, 3, 4, 5, 6, 7, 8, 9, 10, 11, 12, 17, 18, 19, 20, 21, 22, 23, 24, 25, 29, 30, 31, 32, 33, 34, 35, 36, 37, 38, 39, 40, 41, 69, 70, 71, 72, 73, 68] (by decide +kernel) (by decide +kernel)
set_option maxRecDepth 20000 in
theorem gX0_alter_X0_crop : GoodIn wsX0_alter (va_wsS RX0 43 yX0_crop wsX0_crop) := goodIn_app (goodIn_of _ (by decide +kernel)) ggX0_alter_X0_crop
set_option maxRecDepth 20000 in
theorem ggX0_alter_X0_addNoise : GoodIn wsX0_alter wsX0_addNoise := goodIn_r _ [47, 17, 18, 19, 20, 21, 22, 23, 24, 25, 29, 30, 31, 32, 33, 34, 35, 36, 37, 1, 2, 3, 4, 5, 6, 7, 8, 9, 10, 11, 12, 38, 39, 40, 41, 69, 70, 71, 72, 73, 68] (by decide +kernel) (by decide +kernel)
set_option maxRecDepth 20000 in
theorem gX0_alter_X0_addNoise : GoodIn wsX0_alter (va_wsS RX0 47 yX0_addNoise wsX0_addNoise) := goodIn_app (goodIn_of _ (by decide +kernel)) ggX0_alter_X0_addNoise
set_option maxRecDepth 20000 in
theorem ggX0_alter_X0_leaveOut : GoodIn wsX0_alter wsX0_leaveOut := goodIn_r _ [50, 51, 52, 53, 20, 54, 22, 23, 24, 25, 1, 2, 3, 4, 5, 6, 7, 8, 9, 10, 11, 12, 29, 30, 31, 32, 33, 34, 35, 36, 37, 55, 56, 57, 58, 69, 70, 71, 72, 73, 68] (by decide +kernel) (by decide +kernel)
set_option maxRecDepth 20000 in
theorem gX0_alter_X0_leaveOut : GoodIn wsX0_alter (va_wsS RX0 50 yX0_leaveOut wsX0_leaveOut) := goodIn_app (goodIn_of _ (by decide +kernel)) ggX0_alter_X0_leaveOut
set_option maxRecDepth 20000 in
theorem ggX0_alter_X0_swapSome : GoodIn wsX0_alter wsX0_swapSome := goodIn_r _ [61, 51, 52, 53, 20, 54, 22, 23, 24, 25, 29, 30, 31, 32, 33, 34, 35, 36, 37, 55, 56, 57, 58, 1, 2, 3, 4, 5, 6, 7, 8, 9, 10, 11, 12, 62, 63, 64, 65, 66, 67, 39, 40, 41, 69, 70, 71, 72, 73, 68] (by decide +kernel) (by decide +kernel)
set_option maxRecDepth 20000 in
theorem gX0_alter_X0_swapSome : GoodIn wsX0_alter (va_wsS RX0 53 yX0_swapSome wsX0_swapSome) := goodIn_app (goodIn_of _ (by decide +kernel)) ggX0_alter_X0_swapSome
theorem dX0_alter_0 : decode cX0_alter 0 = .ok (.iload_n 0, 1) := by decide +kernel
theorem dX0_alter_1 : decode cX0_alter 1 = .ok (.tableswitch 78 0 3 #[31, 45, 56, 67], 31) := by decide +kernel
theorem dX0_alter_32 : decode cX0_alter 32 = .ok (.aload_n 1, 1) := by decide +kernel
theorem dX0_alter_33 : decode cX0_alter 33 = .ok (.aload_n 3, 1) := by decide +kernel
theorem dX0_alter_34 : decode cX0_alter 34 = .ok (.iconst 4, 1) := by decide +kernel
theorem dX0_alter_35 : decode cX0_alter 35 = .ok (.invokevirtual 33, 3) := by decide +kernel
theorem dX0_alter_38 : decode cX0_alter 38 = .ok (.aload 4, 2) := by decide +kernel
theorem dX0_alter_40 : decode cX0_alter 40 = .ok (.invokestatic 39, 3) := by decide +kernel
theorem dX0_alter_43 : decode cX0_alter 43 = .ok (.goto 44, 3) := by decide +kernel
theorem dX0_alter_46 : decode cX0_alter 46 = .ok (.aload_n 1, 1) := by decide +kernel
theorem dX0_alter_47 : decode cX0_alter 47 = .ok (.iload_n 2, 1) := by decide +kernel
theorem dX0_alter_48 : decode cX0_alter 48 = .ok (.aload_n 3, 1) := by decide +kernel
theorem dX0_alter_49 : decode cX0_alter 49 = .ok (.aload 4, 2) := by decide +kernel
theorem dX0_alter_51 : decode cX0_alter 51 = .ok (.invokestatic 43, 3) := by decide +kernel
theorem dX0_alter_54 : decode cX0_alter 54 = .ok (.goto 33, 3) := by decide +kernel
theorem dX0_alter_57 : decode cX0_alter 57 = .ok (.aload_n 1, 1) := by decide +kernel
theorem dX0_alter_58 : decode cX0_alter 58 = .ok (.iload_n 2, 1) := by decide +kernel
theorem dX0_alter_59 : decode cX0_alter 59 = .ok (.aload_n 3, 1) := by decide +kernel
theorem dX0_alter_60 : decode cX0_alter 60 = .ok (.aload 4, 2) := by decide +kernel
theorem dX0_alter_62 : decode cX0_alter 62 = .ok (.invokestatic 47, 3) := by decide +kernel
theorem dX0_alter_65 : decode cX0_alter 65 = .ok (.goto 22, 3) := by decide +kernel
theorem dX0_alter_68 : decode cX0_alter 68 = .ok (.aload_n 1, 1) := by decide +kernel
theorem dX0_alter_69 : decode cX0_alter 69 = .ok (.iload_n 2, 1) := by decide +kernel
theorem dX0_alter_70 : decode cX0_alter 70 = .ok (.aload_n 3, 1) := by decide +kernel
theorem dX0_alter_71 : decode cX0_alter 71 = .ok (.aload 4, 2) := by decide +kernel
theorem dX0_alter_73 : decode cX0_alter 73 = .ok (.invokestatic 50, 3) := by decide +kernel
theorem dX0_alter_76 : decode cX0_alter 76 = .ok (.goto 11, 3) := by decide +kernel
theorem dX0_alter_79 : decode cX0_alter 79 = .ok (.aload_n 1, 1) := by decide +kernel
theorem dX0_alter_80 : decode cX0_alter 80 = .ok (.iload_n 2, 1) := by decide +kernel
theorem dX0_alter_81 : decode cX0_alter 81 = .ok (.aload_n 3, 1) := by decide +kernel
theorem dX0_alter_82 : decode cX0_alter 82 = .ok (.aload 4, 2) := by decide +kernel
theorem dX0_alter_84 : decode cX0_alter 84 = .ok (.invokestatic 53, 3) := by decide +kernel
theorem dX0_alter_87 : decode cX0_alter 87 = .ok (.return_, 1) := by decide +kernel
set_option maxRecDepth 20000 in
theorem ggX0_turn_X1_becomePicture : GoodIn wsX0_turn wsX1_becomePicture := goodIn_r _ [5, 6, 7, 8, 9, 27, 28, 29, 30, 31] (by decide +kernel) (by decide +kernel)
set_option maxRecDepth 20000 in
theorem gX0_turn_X1_becomePicture : GoodIn wsX0_turn (wsV RX0 56 RX1 yX1_becomePicture wsX1_becomePicture) := goodIn_app (goodIn_of _ (by decide +kernel)) ggX0_turn_X1_becomePicture
set_option maxRecDepth 20000 in
theorem ggX0_turn_X0_turnedPlace : GoodIn wsX0_turn wsX0_turnedPlace := goodIn_r _ [13, 27, 28, 29, 30, 31] (by decide +kernel) (by decide +kernel)
set_option maxRecDepth 20000 in
theorem gX0_turn_X0_turnedPlace : GoodIn wsX0_turn (va_wsS RX0 60 yX0_turnedPlace wsX0_turnedPlace) := goodIn_app (goodIn_of _ (by decide +kernel)) ggX0_turn_X0_turnedPlace
set_option maxRecDepth 20000 in
theorem ggX0_turn_X1_item : GoodIn wsX0_turn wsX1_item := goodIn_r _ [17, 18, 19, 20, 21, 4, 22, 9, 27, 28, 29, 30, 31] (by decide +kernel) (by decide +kernel)
set_option maxRecDepth 20000 in
theorem gX0_turn_X1_item : GoodIn wsX0_turn (wsV RX0 64 RX1 yX1_item wsX1_item) := goodIn_app (goodIn_of _ (by decide +kernel)) ggX0_turn_X1_item
set_option maxRecDepth 20000 in
theorem ggX0_turn_X1_put : GoodIn wsX0_turn wsX1_put := goodIn_r _ [26, 18, 19, 20, 21, 4, 22, 9, 27, 28, 29, 30, 31] (by decide +kernel) (by decide +kernel)
set_option maxRecDepth 20000 in
theorem gX0_turn_X1_put : GoodIn wsX0_turn (wsV RX0 67 RX1 yX1_put wsX1_put) := goodIn_app (goodIn_of _ (by decide +kernel)) ggX0_turn_X1_put
theorem dX0_turn_0 : decode cX0_turn 0 = .ok (.iload_n 1, 1) := by decide +kernel
theorem dX0_turn_1 : decode cX0_turn 1 = .ok (.iconst 2, 1) := by decide +kernel
theorem dX0_turn_2 : decode cX0_turn 2 = .ok (.irem, 1) := by decide +kernel
theorem dX0_turn_3 : decode cX0_turn 3 = .ok (.ifCond .ne 7, 3) := by decide +kernel
theorem dX0_turn_6 : decode cX0_turn 6 = .ok (.iconst 1, 1) := by decide +kernel
theorem dX0_turn_7 : decode cX0_turn 7 = .ok (.goto 4, 3) := by decide +kernel
theorem dX0_turn_10 : decode cX0_turn 10 = .ok (.iconst 0, 1) := by decide +kernel
theorem dX0_turn_11 : decode cX0_turn 11 = .ok (.istore_n 3, 1) := by decide +kernel
theorem dX0_turn_12 : decode cX0_turn 12 = .ok (.aload_n 2, 1) := by decide +kernel
theorem dX0_turn_13 : decode cX0_turn 13 = .ok (.iload_n 3, 1) := by decide +kernel
theorem dX0_turn_14 : decode cX0_turn 14 = .ok (.ifCond .eq 10, 3) := by decide +kernel
theorem dX0_turn_17 : decode cX0_turn 17 = .ok (.aload_n 0, 1) := by decide +kernel
theorem dX0_turn_18 : decode cX0_turn 18 = .ok (.getfield 27, 3) := by decide +kernel
theorem dX0_turn_21 : decode cX0_turn 21 = .ok (.goto 7, 3) := by decide +kernel
theorem dX0_turn_24 : decode cX0_turn 24 = .ok (.aload_n 0, 1) := by decide +kernel
theorem dX0_turn_25 : decode cX0_turn 25 = .ok (.getfield 30, 3) := by decide +kernel
theorem dX0_turn_28 : decode cX0_turn 28 = .ok (.iload_n 3, 1) := by decide +kernel
theorem dX0_turn_29 : decode cX0_turn 29 = .ok (.ifCond .eq 10, 3) := by decide +kernel
theorem dX0_turn_32 : decode cX0_turn 32 = .ok (.aload_n 0, 1) := by decide +kernel
theorem dX0_turn_33 : decode cX0_turn 33 = .ok (.getfield 30, 3) := by decide +kernel
theorem dX0_turn_36 : decode cX0_turn 36 = .ok (.goto 7, 3) := by decide +kernel
theorem dX0_turn_39 : decode cX0_turn 39 = .ok (.aload_n 0, 1) := by decide +kernel
theorem dX0_turn_40 : decode cX0_turn 40 = .ok (.getfield 27, 3) := by decide +kernel
theorem dX0_turn_43 : decode cX0_turn 43 = .ok (.invokevirtual 56, 3) := by decide +kernel
theorem dX0_turn_46 : decode cX0_turn 46 = .ok (.iconst 0, 1) := by decide +kernel
theorem dX0_turn_47 : decode cX0_turn 47 = .ok (.istore 4, 2) := by decide +kernel
theorem dX0_turn_49 : decode cX0_turn 49 = .ok (.iload 4, 2) := by decide +kernel
theorem dX0_turn_51 : decode cX0_turn 51 = .ok (.aload_n 0, 1) := by decide +kernel
theorem dX0_turn_52 : decode cX0_turn 52 = .ok (.getfield 27, 3) := by decide +kernel
theorem dX0_turn_55 : decode cX0_turn 55 = .ok (.if_icmp .ge 54, 3) := by decide +kernel
theorem dX0_turn_58 : decode cX0_turn 58 = .ok (.iconst 0, 1) := by decide +kernel
theorem dX0_turn_59 : decode cX0_turn 59 = .ok (.istore 5, 2) := by decide +kernel
theorem dX0_turn_61 : decode cX0_turn 61 = .ok (.iload 5, 2) := by decide +kernel
theorem dX0_turn_63 : decode cX0_turn 63 = .ok (.aload_n 0, 1) := by decide +kernel
theorem dX0_turn_64 : decode cX0_turn 64 = .ok (.getfield 30, 3) := by decide +kernel
theorem dX0_turn_67 : decode cX0_turn 67 = .ok (.if_icmp .ge 36, 3) := by decide +kernel
theorem dX0_turn_70 : decode cX0_turn 70 = .ok (.aload_n 2, 1) := by decide +kernel
theorem dX0_turn_71 : decode cX0_turn 71 = .ok (.aload_n 0, 1) := by decide +kernel
theorem dX0_turn_72 : decode cX0_turn 72 = .ok (.iload 4, 2) := by decide +kernel
theorem dX0_turn_74 : decode cX0_turn 74 = .ok (.iload 5, 2) := by decide +kernel
theorem dX0_turn_76 : decode cX0_turn 76 = .ok (.iload_n 1, 1) := by decide +kernel
theorem dX0_turn_77 : decode cX0_turn 77 = .ok (.invokestatic 60, 3) := by decide +kernel
theorem dX0_turn_80 : decode cX0_turn 80 = .ok (.aload_n 0, 1) := by decide +kernel
theorem dX0_turn_81 : decode cX0_turn 81 = .ok (.iload 4, 2) := by decide +kernel
theorem dX0_turn_83 : decode cX0_turn 83 = .ok (.aload_n 0, 1) := by decide +kernel
theorem dX0_turn_84 : decode cX0_turn 84 = .ok (.getfield 30, 3) := by decide +kernel
theorem dX0_turn_87 : decode cX0_turn 87 = .ok (.imul, 1) := by decide +kernel
theorem dX0_turn_88 : decode cX0_turn 88 = .ok (.iload 5, 2) := by decide +kernel
theorem dX0_turn_90 : decode cX0_turn 90 = .ok (.iadd, 1) := by decide +kernel
theorem dX0_turn_91 : decode cX0_turn 91 = .ok (.invokevirtual 64, 3) := by decide +kernel
theorem dX0_turn_94 : decode cX0_turn 94 = .ok (.invokevirtual 67, 3) := by decide +kernel
theorem dX0_turn_97 : decode cX0_turn 97 = .ok (.iinc 5 1, 3) := by decide +kernel
theorem dX0_turn_100 : decode cX0_turn 100 = .ok (.goto (-39), 3) := by decide +kernel
theorem dX0_turn_103 : decode cX0_turn 103 = .ok (.iinc 4 1, 3) := by decide +kernel
theorem dX0_turn_106 : decode cX0_turn 106 = .ok (.goto (-57), 3) := by decide +kernel
theorem dX0_turn_109 : decode cX0_turn 109 = .ok (.return_, 1) := by decide +kernel
theorem dX0_turnedPlace_0 : decode cX0_turnedPlace 0 = .ok (.aload_n 0, 1) := by decide +kernel
theorem dX0_turnedPlace_1 : decode cX0_turnedPlace 1 = .ok (.getfield 27, 3) := by decide +kernel
theorem dX0_turnedPlace_4 : decode cX0_turnedPlace 4 = .ok (.iconst 1, 1) := by decide +kernel
theorem dX0_turnedPlace_5 : decode cX0_turnedPlace 5 = .ok (.isub, 1) := by decide +kernel
theorem dX0_turnedPlace_6 : decode cX0_turnedPlace 6 = .ok (.istore 4, 2) := by decide +kernel
theorem dX0_turnedPlace_8 : decode cX0_turnedPlace 8 = .ok (.aload_n 0, 1) := by decide +kernel
theorem dX0_turnedPlace_9 : decode cX0_turnedPlace 9 = .ok (.getfield 30, 3) := by decide +kernel
theorem dX0_turnedPlace_12 : decode cX0_turnedPlace 12 = .ok (.iconst 1, 1) := by decide +kernel
theorem dX0_turnedPlace_13 : decode cX0_turnedPlace 13 = .ok (.isub, 1) := by decide +kernel
theorem dX0_turnedPlace_14 : decode cX0_turnedPlace 14 = .ok (.istore 5, 2) := by decide +kernel
theorem dX0_turnedPlace_16 : decode cX0_turnedPlace 16 = .ok (.iload_n 3, 1) := by decide +kernel
theorem dX0_turnedPlace_17 : decode cX0_turnedPlace 17 = .ok (.tableswitch 66 1 3 #[27, 39, 54], 27) := by decide +kernel
theorem dX0_turnedPlace_44 : decode cX0_turnedPlace 44 = .ok (.iload_n 2, 1) := by decide +kernel
theorem dX0_turnedPlace_45 : decode cX0_turnedPlace 45 = .ok (.aload_n 0, 1) := by decide +kernel
theorem dX0_turnedPlace_46 : decode cX0_turnedPlace 46 = .ok (.getfield 27, 3) := by decide +kernel
theorem dX0_turnedPlace_49 : decode cX0_turnedPlace 49 = .ok (.imul, 1) := by decide +kernel
theorem dX0_turnedPlace_50 : decode cX0_turnedPlace 50 = .ok (.iload 4, 2) := by decide +kernel
theorem dX0_turnedPlace_52 : decode cX0_turnedPlace 52 = .ok (.iload_n 1, 1) := by decide +kernel
theorem dX0_turnedPlace_53 : decode cX0_turnedPlace 53 = .ok (.isub, 1) := by decide +kernel
theorem dX0_turnedPlace_54 : decode cX0_turnedPlace 54 = .ok (.iadd, 1) := by decide +kernel
theorem dX0_turnedPlace_55 : decode cX0_turnedPlace 55 = .ok (.ireturn, 1) := by decide +kernel
theorem dX0_turnedPlace_56 : decode cX0_turnedPlace 56 = .ok (.iload 4, 2) := by decide +kernel
theorem dX0_turnedPlace_58 : decode cX0_turnedPlace 58 = .ok (.iload_n 1, 1) := by decide +kernel
theorem dX0_turnedPlace_59 : decode cX0_turnedPlace 59 = .ok (.isub, 1) := by decide +kernel
theorem dX0_turnedPlace_60 : decode cX0_turnedPlace 60 = .ok (.aload_n 0, 1) := by decide +kernel
theorem dX0_turnedPlace_61 : decode cX0_turnedPlace 61 = .ok (.getfield 30, 3) := by decide +kernel
theorem dX0_turnedPlace_64 : decode cX0_turnedPlace 64 = .ok (.imul, 1) := by decide +kernel
theorem dX0_turnedPlace_65 : decode cX0_turnedPlace 65 = .ok (.iload 5, 2) := by decide +kernel
theorem dX0_turnedPlace_67 : decode cX0_turnedPlace 67 = .ok (.iload_n 2, 1) := by decide +kernel
theorem dX0_turnedPlace_68 : decode cX0_turnedPlace 68 = .ok (.isub, 1) := by decide +kernel
theorem dX0_turnedPlace_69 : decode cX0_turnedPlace 69 = .ok (.iadd, 1) := by decide +kernel
theorem dX0_turnedPlace_70 : decode cX0_turnedPlace 70 = .ok (.ireturn, 1) := by decide +kernel
theorem dX0_turnedPlace_71 : decode cX0_turnedPlace 71 = .ok (.iload 5, 2) := by decide +kernel
theorem dX0_turnedPlace_73 : decode cX0_turnedPlace 73 = .ok (.iload_n 2, 1) := by decide +kernel
theorem dX0_turnedPlace_74 : decode cX0_turnedPlace 74 = .ok (.isub, 1) := by decide +kernel
theorem dX0_turnedPlace_75 : decode cX0_turnedPlace 75 = .ok (.aload_n 0, 1) := by decide +kernel
theorem dX0_turnedPlace_76 : decode cX0_turnedPlace 76 = .ok (.getfield 27, 3) := by decide +kernel
theorem dX0_turnedPlace_79 : decode cX0_turnedPlace 79 = .ok (.imul, 1) := by decide +kernel
theorem dX0_turnedPlace_80 : decode cX0_turnedPlace 80 = .ok (.iload_n 1, 1) := by decide +kernel
theorem dX0_turnedPlace_81 : decode cX0_turnedPlace 81 = .ok (.iadd, 1) := by decide +kernel
theorem dX0_turnedPlace_82 : decode cX0_turnedPlace 82 = .ok (.ireturn, 1) := by decide +kernel
theorem dX0_turnedPlace_83 : decode cX0_turnedPlace 83 = .ok (.iload_n 1, 1) := by decide +kernel
theorem dX0_turnedPlace_84 : decode cX0_turnedPlace 84 = .ok (.aload_n 0, 1) := by decide +kernel
theorem dX0_turnedPlace_85 : decode cX0_turnedPlace 85 = .ok (.getfield 30, 3) := by decide +kernel
theorem dX0_turnedPlace_88 : decode cX0_turnedPlace 88 = .ok (.imul, 1) := by decide +kernel
theorem dX0_turnedPlace_89 : decode cX0_turnedPlace 89 = .ok (.iload_n 2, 1) := by decide +kernel
theorem dX0_turnedPlace_90 : decode cX0_turnedPlace 90 = .ok (.iadd, 1) := by decide +kernel
theorem dX0_turnedPlace_91 : decode cX0_turnedPlace 91 = .ok (.ireturn, 1) := by decide +kernel
set_option maxRecDepth 20000 in
theorem ggX0_crop_X2_below : GoodIn wsX0_crop wsX2_below := goodIn_r _ [5, 6, 7, 8, 9, 4, 10, 11, 12, 40] (by decide +kernel) (by decide +kernel)
set_option maxRecDepth 20000 in
theorem gX0_crop_X2_below : GoodIn wsX0_crop (wsV RX0 33 RX2 yX2_below wsX2_below) := goodIn_app (goodIn_of _ (by decide +kernel)) ggX0_crop_X2_below
set_option maxRecDepth 20000 in
theorem ggX0_crop_X1_becomePicture : GoodIn wsX0_crop wsX1_becomePicture := goodIn_r _ [17, 18, 19, 20, 21, 35, 36, 37, 38, 39] (by decide +kernel) (by decide +kernel)
set_option maxRecDepth 20000 in
theorem gX0_crop_X1_becomePicture : GoodIn wsX0_crop (wsV RX0 56 RX1 yX1_becomePicture wsX1_becomePicture) := goodIn_app (goodIn_of _ (by decide +kernel)) ggX0_crop_X1_becomePicture
set_option maxRecDepth 20000 in
theorem ggX0_crop_X1_item : GoodIn wsX0_crop wsX1_item := goodIn_r _ [25, 26, 27, 28, 29, 16, 30, 21, 35, 36, 37, 38, 39] (by decide +kernel) (by decide +kernel)
set_option maxRecDepth 20000 in
theorem gX0_crop_X1_item : GoodIn wsX0_crop (wsV RX0 64 RX1 yX1_item wsX1_item) := goodIn_app (goodIn_of _ (by decide +kernel)) ggX0_crop_X1_item
set_option maxRecDepth 20000 in
theorem ggX0_crop_X1_put : GoodIn wsX0_crop wsX1_put := goodIn_r _ [34, 26, 27, 28, 29, 16, 30, 21, 35, 36, 37, 38, 39] (by decide +kernel) (by decide +kernel)
set_option maxRecDepth 20000 in
theorem gX0_crop_X1_put : GoodIn wsX0_crop (wsV RX0 67 RX1 yX1_put wsX1_put) := goodIn_app (goodIn_of _ (by decide +kernel)) ggX0_crop_X1_put
theorem dX0_crop_0 : decode cX0_crop 0 = .ok (.aload_n 2, 1) := by decide +kernel
theorem dX0_crop_1 : decode cX0_crop 1 = .ok (.aload_n 0, 1) := by decide +kernel
theorem dX0_crop_2 : decode cX0_crop 2 = .ok (.getfield 27, 3) := by decide +kernel
theorem dX0_crop_5 : decode cX0_crop 5 = .ok (.iload_n 1, 1) := by decide +kernel
theorem dX0_crop_6 : decode cX0_crop 6 = .ok (.isub, 1) := by decide +kernel
theorem dX0_crop_7 : decode cX0_crop 7 = .ok (.iconst 1, 1) := by decide +kernel
theorem dX0_crop_8 : decode cX0_crop 8 = .ok (.iadd, 1) := by decide +kernel
theorem dX0_crop_9 : decode cX0_crop 9 = .ok (.invokevirtual 33, 3) := by decide +kernel
theorem dX0_crop_12 : decode cX0_crop 12 = .ok (.istore 4, 2) := by decide +kernel
theorem dX0_crop_14 : decode cX0_crop 14 = .ok (.aload_n 2, 1) := by decide +kernel
theorem dX0_crop_15 : decode cX0_crop 15 = .ok (.aload_n 0, 1) := by decide +kernel
theorem dX0_crop_16 : decode cX0_crop 16 = .ok (.getfield 30, 3) := by decide +kernel
theorem dX0_crop_19 : decode cX0_crop 19 = .ok (.iload_n 1, 1) := by decide +kernel
theorem dX0_crop_20 : decode cX0_crop 20 = .ok (.isub, 1) := by decide +kernel
theorem dX0_crop_21 : decode cX0_crop 21 = .ok (.iconst 1, 1) := by decide +kernel
theorem dX0_crop_22 : decode cX0_crop 22 = .ok (.iadd, 1) := by decide +kernel
theorem dX0_crop_23 : decode cX0_crop 23 = .ok (.invokevirtual 33, 3) := by decide +kernel
theorem dX0_crop_26 : decode cX0_crop 26 = .ok (.istore 5, 2) := by decide +kernel
theorem dX0_crop_28 : decode cX0_crop 28 = .ok (.aload_n 3, 1) := by decide +kernel
theorem dX0_crop_29 : decode cX0_crop 29 = .ok (.iload_n 1, 1) := by decide +kernel
theorem dX0_crop_30 : decode cX0_crop 30 = .ok (.iload_n 1, 1) := by decide +kernel
theorem dX0_crop_31 : decode cX0_crop 31 = .ok (.invokevirtual 56, 3) := by decide +kernel
theorem dX0_crop_34 : decode cX0_crop 34 = .ok (.iconst 0, 1) := by decide +kernel
theorem dX0_crop_35 : decode cX0_crop 35 = .ok (.istore 6, 2) := by decide +kernel
theorem dX0_crop_37 : decode cX0_crop 37 = .ok (.iload 6, 2) := by decide +kernel
theorem dX0_crop_39 : decode cX0_crop 39 = .ok (.iload_n 1, 1) := by decide +kernel
theorem dX0_crop_40 : decode cX0_crop 40 = .ok (.if_icmp .ge 55, 3) := by decide +kernel
theorem dX0_crop_43 : decode cX0_crop 43 = .ok (.iconst 0, 1) := by decide +kernel
theorem dX0_crop_44 : decode cX0_crop 44 = .ok (.istore 7, 2) := by decide +kernel
theorem dX0_crop_46 : decode cX0_crop 46 = .ok (.iload 7, 2) := by decide +kernel
theorem dX0_crop_48 : decode cX0_crop 48 = .ok (.iload_n 1, 1) := by decide +kernel
theorem dX0_crop_49 : decode cX0_crop 49 = .ok (.if_icmp .ge 40, 3) := by decide +kernel
theorem dX0_crop_52 : decode cX0_crop 52 = .ok (.aload_n 3, 1) := by decide +kernel
theorem dX0_crop_53 : decode cX0_crop 53 = .ok (.iload 6, 2) := by decide +kernel
theorem dX0_crop_55 : decode cX0_crop 55 = .ok (.iload_n 1, 1) := by decide +kernel
theorem dX0_crop_56 : decode cX0_crop 56 = .ok (.imul, 1) := by decide +kernel
theorem dX0_crop_57 : decode cX0_crop 57 = .ok (.iload 7, 2) := by decide +kernel
theorem dX0_crop_59 : decode cX0_crop 59 = .ok (.iadd, 1) := by decide +kernel
theorem dX0_crop_60 : decode cX0_crop 60 = .ok (.aload_n 0, 1) := by decide +kernel
theorem dX0_crop_61 : decode cX0_crop 61 = .ok (.iload 4, 2) := by decide +kernel
theorem dX0_crop_63 : decode cX0_crop 63 = .ok (.iload 6, 2) := by decide +kernel
theorem dX0_crop_65 : decode cX0_crop 65 = .ok (.iadd, 1) := by decide +kernel
theorem dX0_crop_66 : decode cX0_crop 66 = .ok (.aload_n 0, 1) := by decide +kernel
theorem dX0_crop_67 : decode cX0_crop 67 = .ok (.getfield 30, 3) := by decide +kernel
theorem dX0_crop_70 : decode cX0_crop 70 = .ok (.imul, 1) := by decide +kernel
theorem dX0_crop_71 : decode cX0_crop 71 = .ok (.iload 5, 2) := by decide +kernel
theorem dX0_crop_73 : decode cX0_crop 73 = .ok (.iadd, 1) := by decide +kernel
theorem dX0_crop_74 : decode cX0_crop 74 = .ok (.iload 7, 2) := by decide +kernel
theorem dX0_crop_76 : decode cX0_crop 76 = .ok (.iadd, 1) := by decide +kernel
theorem dX0_crop_77 : decode cX0_crop 77 = .ok (.invokevirtual 64, 3) := by decide +kernel
theorem dX0_crop_80 : decode cX0_crop 80 = .ok (.invokevirtual 67, 3) := by decide +kernel
theorem dX0_crop_83 : decode cX0_crop 83 = .ok (.iinc 7 1, 3) := by decide +kernel
theorem dX0_crop_86 : decode cX0_crop 86 = .ok (.goto (-40), 3) := by decide +kernel
theorem dX0_crop_89 : decode cX0_crop 89 = .ok (.iinc 6 1, 3) := by decide +kernel
theorem dX0_crop_92 : decode cX0_crop 92 = .ok (.goto (-55), 3) := by decide +kernel
theorem dX0_crop_95 : decode cX0_crop 95 = .ok (.return_, 1) := by decide +kernel
set_option maxRecDepth 20000 in
theorem ggX0_addNoise_X1_becomePicture : GoodIn wsX0_addNoise wsX1_becomePicture := goodIn_r _ [5, 6, 7, 8, 9, 35, 36, 37, 38, 39] (by decide +kernel) (by decide +kernel)
set_option maxRecDepth 20000 in
theorem gX0_addNoise_X1_becomePicture : GoodIn wsX0_addNoise (wsV RX0 56 RX1 yX1_becomePicture wsX1_becomePicture) := goodIn_app (goodIn_of _ (by decide +kernel)) ggX0_addNoise_X1_becomePicture
set_option maxRecDepth 20000 in
theorem ggX0_addNoise_X1_item : GoodIn wsX0_addNoise wsX1_item := goodIn_r _ [13, 14, 15, 16, 17, 4, 18, 9, 35, 36, 37, 38, 39] (by decide +kernel) (by decide +kernel)
set_option maxRecDepth 20000 in
theorem gX0_addNoise_X1_item : GoodIn wsX0_addNoise (wsV RX0 64 RX1 yX1_item wsX1_item) := goodIn_app (goodIn_of _ (by decide +kernel)) ggX0_addNoise_X1_item
set_option maxRecDepth 20000 in
theorem ggX0_addNoise_X2_below : GoodIn wsX0_addNoise wsX2_below := goodIn_r _ [23, 24, 25, 26, 27, 22, 28, 29, 30, 40] (by decide +kernel) (by decide +kernel)
set_option maxRecDepth 20000 in
theorem gX0_addNoise_X2_below : GoodIn wsX0_addNoise (wsV RX0 33 RX2 yX2_below wsX2_below) := goodIn_app (goodIn_of _ (by decide +kernel)) ggX0_addNoise_X2_below
set_option maxRecDepth 20000 in
theorem ggX0_addNoise_X1_put : GoodIn wsX0_addNoise wsX1_put := goodIn_r _ [34, 14, 15, 16, 17, 4, 18, 9, 35, 36, 37, 38, 39] (by decide +kernel) (by decide +kernel)
set_option maxRecDepth 20000 in
theorem gX0_addNoise_X1_put : GoodIn wsX0_addNoise (wsV RX0 67 RX1 yX1_put wsX1_put) := goodIn_app (goodIn_of _ (by decide +kernel)) ggX0_addNoise_X1_put
theorem dX0_addNoise_0 : decode cX0_addNoise 0 = .ok (.aload_n 3, 1) := by decide +kernel
theorem dX0_addNoise_1 : decode cX0_addNoise 1 = .ok (.aload_n 0, 1) := by decide +kernel
theorem dX0_addNoise_2 : decode cX0_addNoise 2 = .ok (.getfield 27, 3) := by decide +kernel
theorem dX0_addNoise_5 : decode cX0_addNoise 5 = .ok (.aload_n 0, 1) := by decide +kernel
theorem dX0_addNoise_6 : decode cX0_addNoise 6 = .ok (.getfield 30, 3) := by decide +kernel
theorem dX0_addNoise_9 : decode cX0_addNoise 9 = .ok (.invokevirtual 56, 3) := by decide +kernel
theorem dX0_addNoise_12 : decode cX0_addNoise 12 = .ok (.iconst 0, 1) := by decide +kernel
theorem dX0_addNoise_13 : decode cX0_addNoise 13 = .ok (.istore 4, 2) := by decide +kernel
theorem dX0_addNoise_15 : decode cX0_addNoise 15 = .ok (.iload 4, 2) := by decide +kernel
theorem dX0_addNoise_17 : decode cX0_addNoise 17 = .ok (.aload_n 0, 1) := by decide +kernel
theorem dX0_addNoise_18 : decode cX0_addNoise 18 = .ok (.getfield 21, 3) := by decide +kernel
theorem dX0_addNoise_21 : decode cX0_addNoise 21 = .ok (.if_icmp .ge 27, 3) := by decide +kernel
theorem dX0_addNoise_24 : decode cX0_addNoise 24 = .ok (.aload_n 3, 1) := by decide +kernel
theorem dX0_addNoise_25 : decode cX0_addNoise 25 = .ok (.iload 4, 2) := by decide +kernel
theorem dX0_addNoise_27 : decode cX0_addNoise 27 = .ok (.aload_n 0, 1) := by decide +kernel
theorem dX0_addNoise_28 : decode cX0_addNoise 28 = .ok (.iload 4, 2) := by decide +kernel
theorem dX0_addNoise_30 : decode cX0_addNoise 30 = .ok (.invokevirtual 64, 3) := by decide +kernel
theorem dX0_addNoise_33 : decode cX0_addNoise 33 = .ok (.aload_n 2, 1) := by decide +kernel
theorem dX0_addNoise_34 : decode cX0_addNoise 34 = .ok (.iload_n 1, 1) := by decide +kernel
theorem dX0_addNoise_35 : decode cX0_addNoise 35 = .ok (.invokevirtual 33, 3) := by decide +kernel
theorem dX0_addNoise_38 : decode cX0_addNoise 38 = .ok (.ixor, 1) := by decide +kernel
theorem dX0_addNoise_39 : decode cX0_addNoise 39 = .ok (.invokevirtual 67, 3) := by decide +kernel
theorem dX0_addNoise_42 : decode cX0_addNoise 42 = .ok (.iinc 4 1, 3) := by decide +kernel
theorem dX0_addNoise_45 : decode cX0_addNoise 45 = .ok (.goto (-30), 3) := by decide +kernel
theorem dX0_addNoise_48 : decode cX0_addNoise 48 = .ok (.return_, 1) := by decide +kernel
set_option maxRecDepth 20000 in
theorem ggX0_leaveOut_X1_becomeNoWords : GoodIn wsX0_leaveOut wsX1_becomeNoWords := goodIn_r _ [5, 6, 7, 8, 9, 35, 36, 37, 38, 39] (by decide +kernel) (by decide +kernel)
set_option maxRecDepth 20000 in
theorem gX0_leaveOut_X1_becomeNoWords : GoodIn wsX0_leaveOut (wsV RX0 70 RX1 yX1_becomeNoWords wsX1_becomeNoWords) := goodIn_app (goodIn_of _ (by decide +kernel)) ggX0_leaveOut_X1_becomeNoWords
set_option maxRecDepth 20000 in
theorem ggX0_leaveOut_X2_below : GoodIn wsX0_leaveOut wsX2_below := goodIn_r _ [14, 15, 16, 17, 18, 13, 19, 20, 21, 40] (by decide +kernel) (by decide +kernel)
set_option maxRecDepth 20000 in
theorem gX0_leaveOut_X2_below : GoodIn wsX0_leaveOut (wsV RX0 33 RX2 yX2_below wsX2_below) := goodIn_app (goodIn_of _ (by decide +kernel)) ggX0_leaveOut_X2_below
set_option maxRecDepth 20000 in
theorem ggX0_leaveOut_X1_item : GoodIn wsX0_leaveOut wsX1_item := goodIn_r _ [25, 26, 27, 28, 29, 4, 30, 9, 35, 36, 37, 38, 39] (by decide +kernel) (by decide +kernel)
set_option maxRecDepth 20000 in
theorem gX0_leaveOut_X1_item : GoodIn wsX0_leaveOut (wsV RX0 64 RX1 yX1_item wsX1_item) := goodIn_app (goodIn_of _ (by decide +kernel)) ggX0_leaveOut_X1_item
set_option maxRecDepth 20000 in
theorem ggX0_leaveOut_X1_append : GoodIn wsX0_leaveOut wsX1_append := goodIn_r _ [34, 9, 26, 35, 36, 37, 38, 39] (by decide +kernel) (by decide +kernel)
set_option maxRecDepth 20000 in
theorem gX0_leaveOut_X1_append : GoodIn wsX0_leaveOut (wsV RX0 73 RX1 yX1_append wsX1_append) := goodIn_app (goodIn_of _ (by decide +kernel)) ggX0_leaveOut_X1_append
theorem dX0_leaveOut_0 : decode cX0_leaveOut 0 = .ok (.aload_n 3, 1) := by decide +kernel
theorem dX0_leaveOut_1 : decode cX0_leaveOut 1 = .ok (.invokevirtual 70, 3) := by decide +kernel
theorem dX0_leaveOut_4 : decode cX0_leaveOut 4 = .ok (.iconst 0, 1) := by decide +kernel
theorem dX0_leaveOut_5 : decode cX0_leaveOut 5 = .ok (.istore 4, 2) := by decide +kernel
theorem dX0_leaveOut_7 : decode cX0_leaveOut 7 = .ok (.iload 4, 2) := by decide +kernel
theorem dX0_leaveOut_9 : decode cX0_leaveOut 9 = .ok (.aload_n 0, 1) := by decide +kernel
theorem dX0_leaveOut_10 : decode cX0_leaveOut 10 = .ok (.getfield 21, 3) := by decide +kernel
theorem dX0_leaveOut_13 : decode cX0_leaveOut 13 = .ok (.if_icmp .ge 29, 3) := by decide +kernel
theorem dX0_leaveOut_16 : decode cX0_leaveOut 16 = .ok (.aload_n 2, 1) := by decide +kernel
theorem dX0_leaveOut_17 : decode cX0_leaveOut 17 = .ok (.bipush 100, 2) := by decide +kernel
theorem dX0_leaveOut_19 : decode cX0_leaveOut 19 = .ok (.invokevirtual 33, 3) := by decide +kernel
theorem dX0_leaveOut_22 : decode cX0_leaveOut 22 = .ok (.iload_n 1, 1) := by decide +kernel
theorem dX0_leaveOut_23 : decode cX0_leaveOut 23 = .ok (.if_icmp .lt 13, 3) := by decide +kernel
theorem dX0_leaveOut_26 : decode cX0_leaveOut 26 = .ok (.aload_n 3, 1) := by decide +kernel
theorem dX0_leaveOut_27 : decode cX0_leaveOut 27 = .ok (.aload_n 0, 1) := by decide +kernel
theorem dX0_leaveOut_28 : decode cX0_leaveOut 28 = .ok (.iload 4, 2) := by decide +kernel
theorem dX0_leaveOut_30 : decode cX0_leaveOut 30 = .ok (.invokevirtual 64, 3) := by decide +kernel
theorem dX0_leaveOut_33 : decode cX0_leaveOut 33 = .ok (.invokevirtual 73, 3) := by decide +kernel
theorem dX0_leaveOut_36 : decode cX0_leaveOut 36 = .ok (.iinc 4 1, 3) := by decide +kernel
theorem dX0_leaveOut_39 : decode cX0_leaveOut 39 = .ok (.goto (-32), 3) := by decide +kernel
theorem dX0_leaveOut_42 : decode cX0_leaveOut 42 = .ok (.return_, 1) := by decide +kernel
set_option maxRecDepth 20000 in
theorem ggX0_swapSome_X1_becomeNoWords : GoodIn wsX0_swapSome wsX1_becomeNoWords := goodIn_r _ [5, 6, 7, 8, 9, 44, 45, 46, 47, 48] (by decide +kernel) (by decide +kernel)
set_option maxRecDepth 20000 in
theorem gX0_swapSome_X1_becomeNoWords : GoodIn wsX0_swapSome (wsV RX0 70 RX1 yX1_becomeNoWords wsX1_becomeNoWords) := goodIn_app (goodIn_of _ (by decide +kernel)) ggX0_swapSome_X1_becomeNoWords
set_option maxRecDepth 20000 in
theorem ggX0_swapSome_X1_item : GoodIn wsX0_swapSome wsX1_item := goodIn_r _ [13, 14, 15, 16, 17, 4, 18, 9, 44, 45, 46, 47, 48] (by decide +kernel) (by decide +kernel)
set_option maxRecDepth 20000 in
theorem gX0_swapSome_X1_item : GoodIn wsX0_swapSome (wsV RX0 64 RX1 yX1_item wsX1_item) := goodIn_app (goodIn_of _ (by decide +kernel)) ggX0_swapSome_X1_item
set_option maxRecDepth 20000 in
theorem ggX0_swapSome_X1_append : GoodIn wsX0_swapSome wsX1_append := goodIn_r _ [22, 9, 14, 44, 45, 46, 47, 48] (by decide +kernel) (by decide +kernel)
set_option maxRecDepth 20000 in
theorem gX0_swapSome_X1_append : GoodIn wsX0_swapSome (wsV RX0 73 RX1 yX1_append wsX1_append) := goodIn_app (goodIn_of _ (by decide +kernel)) ggX0_swapSome_X1_append
set_option maxRecDepth 20000 in
theorem ggX0_swapSome_X2_below : GoodIn wsX0_swapSome wsX2_below := goodIn_r _ [27, 28, 29, 30, 31, 26, 32, 33, 34, 49] (by decide +kernel) (by decide +kernel)
set_option maxRecDepth 20000 in
theorem gX0_swapSome_X2_below : GoodIn wsX0_swapSome (wsV RX0 33 RX2 yX2_below wsX2_below) := goodIn_app (goodIn_of _ (by decide +kernel)) ggX0_swapSome_X2_below
set_option maxRecDepth 20000 in
theorem ggX0_swapSome_X1_swapWithNext : GoodIn wsX0_swapSome wsX1_swapWithNext := goodIn_r _ [38, 39, 11, 12, 4, 13, 14, 15, 16, 17, 18, 9, 40, 41, 42, 43, 44, 45, 46, 47, 48] (by decide +kernel) (by decide +kernel)
set_option maxRecDepth 20000 in
theorem gX0_swapSome_X1_swapWithNext : GoodIn wsX0_swapSome (wsV RX0 77 RX1 yX1_swapWithNext wsX1_swapWithNext) := goodIn_app (goodIn_of _ (by decide +kernel)) ggX0_swapSome_X1_swapWithNext
theorem dX0_swapSome_0 : decode cX0_swapSome 0 = .ok (.aload_n 3, 1) := by decide +kernel
theorem dX0_swapSome_1 : decode cX0_swapSome 1 = .ok (.invokevirtual 70, 3) := by decide +kernel
theorem dX0_swapSome_4 : decode cX0_swapSome 4 = .ok (.iconst 0, 1) := by decide +kernel
theorem dX0_swapSome_5 : decode cX0_swapSome 5 = .ok (.istore 4, 2) := by decide +kernel
theorem dX0_swapSome_7 : decode cX0_swapSome 7 = .ok (.iload 4, 2) := by decide +kernel
theorem dX0_swapSome_9 : decode cX0_swapSome 9 = .ok (.aload_n 0, 1) := by decide +kernel
theorem dX0_swapSome_10 : decode cX0_swapSome 10 = .ok (.getfield 21, 3) := by decide +kernel
theorem dX0_swapSome_13 : decode cX0_swapSome 13 = .ok (.if_icmp .ge 19, 3) := by decide +kernel
theorem dX0_swapSome_16 : decode cX0_swapSome 16 = .ok (.aload_n 3, 1) := by decide +kernel
theorem dX0_swapSome_17 : decode cX0_swapSome 17 = .ok (.aload_n 0, 1) := by decide +kernel
theorem dX0_swapSome_18 : decode cX0_swapSome 18 = .ok (.iload 4, 2) := by decide +kernel
theorem dX0_swapSome_20 : decode cX0_swapSome 20 = .ok (.invokevirtual 64, 3) := by decide +kernel
theorem dX0_swapSome_23 : decode cX0_swapSome 23 = .ok (.invokevirtual 73, 3) := by decide +kernel
theorem dX0_swapSome_26 : decode cX0_swapSome 26 = .ok (.iinc 4 1, 3) := by decide +kernel
theorem dX0_swapSome_29 : decode cX0_swapSome 29 = .ok (.goto (-22), 3) := by decide +kernel
theorem dX0_swapSome_32 : decode cX0_swapSome 32 = .ok (.iconst 0, 1) := by decide +kernel
theorem dX0_swapSome_33 : decode cX0_swapSome 33 = .ok (.istore 4, 2) := by decide +kernel
theorem dX0_swapSome_35 : decode cX0_swapSome 35 = .ok (.iload 4, 2) := by decide +kernel
theorem dX0_swapSome_37 : decode cX0_swapSome 37 = .ok (.iload_n 1, 1) := by decide +kernel
theorem dX0_swapSome_38 : decode cX0_swapSome 38 = .ok (.if_icmp .ge 23, 3) := by decide +kernel
theorem dX0_swapSome_41 : decode cX0_swapSome 41 = .ok (.aload_n 3, 1) := by decide +kernel
theorem dX0_swapSome_42 : decode cX0_swapSome 42 = .ok (.aload_n 2, 1) := by decide +kernel
theorem dX0_swapSome_43 : decode cX0_swapSome 43 = .ok (.aload_n 0, 1) := by decide +kernel
theorem dX0_swapSome_44 : decode cX0_swapSome 44 = .ok (.getfield 21, 3) := by decide +kernel
theorem dX0_swapSome_47 : decode cX0_swapSome 47 = .ok (.iconst 1, 1) := by decide +kernel
theorem dX0_swapSome_48 : decode cX0_swapSome 48 = .ok (.isub, 1) := by decide +kernel
theorem dX0_swapSome_49 : decode cX0_swapSome 49 = .ok (.invokevirtual 33, 3) := by decide +kernel
theorem dX0_swapSome_52 : decode cX0_swapSome 52 = .ok (.invokevirtual 77, 3) := by decide +kernel
theorem dX0_swapSome_55 : decode cX0_swapSome 55 = .ok (.iinc 4 1, 3) := by decide +kernel
theorem dX0_swapSome_58 : decode cX0_swapSome 58 = .ok (.goto (-23), 3) := by decide +kernel
theorem dX0_swapSome_61 : decode cX0_swapSome 61 = .ok (.return_, 1) := by decide +kernel
theorem dX1_init_0 : decode cX1_init 0 = .ok (.aload_n 0, 1) := by decide +kernel
theorem dX1_init_1 : decode cX1_init 1 = .ok (.invokespecial 3, 3) := by decide +kernel
theorem dX1_init_4 : decode cX1_init 4 = .ok (.aload_n 0, 1) := by decide +kernel
theorem dX1_init_5 : decode cX1_init 5 = .ok (.iconst 0, 1) := by decide +kernel
theorem dX1_init_6 : decode cX1_init 6 = .ok (.iload 4, 2) := by decide +kernel
theorem dX1_init_8 : decode cX1_init 8 = .ok (.invokestatic 9, 3) := by decide +kernel
theorem dX1_init_11 : decode cX1_init 11 = .ok (.newarray .int, 2) := by decide +kernel
theorem dX1_init_13 : decode cX1_init 13 = .ok (.putfield 15, 3) := by decide +kernel
theorem dX1_init_16 : decode cX1_init 16 = .ok (.aload_n 0, 1) := by decide +kernel
theorem dX1_init_17 : decode cX1_init 17 = .ok (.iload_n 1, 1) := by decide +kernel
theorem dX1_init_18 : decode cX1_init 18 = .ok (.putfield 21, 3) := by decide +kernel
theorem dX1_init_21 : decode cX1_init 21 = .ok (.aload_n 0, 1) := by decide +kernel
theorem dX1_init_22 : decode cX1_init 22 = .ok (.iload_n 2, 1) := by decide +kernel
theorem dX1_init_23 : decode cX1_init 23 = .ok (.putfield 25, 3) := by decide +kernel
theorem dX1_init_26 : decode cX1_init 26 = .ok (.aload_n 0, 1) := by decide +kernel
theorem dX1_init_27 : decode cX1_init 27 = .ok (.iload_n 3, 1) := by decide +kernel
theorem dX1_init_28 : decode cX1_init 28 = .ok (.putfield 28, 3) := by decide +kernel
theorem dX1_init_31 : decode cX1_init 31 = .ok (.aload_n 0, 1) := by decide +kernel
theorem dX1_init_32 : decode cX1_init 32 = .ok (.iload_n 2, 1) := by decide +kernel
theorem dX1_init_33 : decode cX1_init 33 = .ok (.iload_n 3, 1) := by decide +kernel
theorem dX1_init_34 : decode cX1_init 34 = .ok (.imul, 1) := by decide +kernel
theorem dX1_init_35 : decode cX1_init 35 = .ok (.putfield 31, 3) := by decide +kernel
theorem dX1_init_38 : decode cX1_init 38 = .ok (.return_, 1) := by decide +kernel
theorem dX1_holds_0 : decode cX1_holds 0 = .ok (.iload_n 1, 1) := by decide +kernel
theorem dX1_holds_1 : decode cX1_holds 1 = .ok (.ifCond .lt 24, 3) := by decide +kernel
theorem dX1_holds_4 : decode cX1_holds 4 = .ok (.iload_n 1, 1) := by decide +kernel
theorem dX1_holds_5 : decode cX1_holds 5 = .ok (.aload_n 0, 1) := by decide +kernel
theorem dX1_holds_6 : decode cX1_holds 6 = .ok (.getfield 31, 3) := by decide +kernel
theorem dX1_holds_9 : decode cX1_holds 9 = .ok (.if_icmp .ge 16, 3) := by decide +kernel
theorem dX1_holds_12 : decode cX1_holds 12 = .ok (.iload_n 1, 1) := by decide +kernel
theorem dX1_holds_13 : decode cX1_holds 13 = .ok (.aload_n 0, 1) := by decide +kernel
theorem dX1_holds_14 : decode cX1_holds 14 = .ok (.getfield 15, 3) := by decide +kernel
theorem dX1_holds_17 : decode cX1_holds 17 = .ok (.arraylength, 1) := by decide +kernel
theorem dX1_holds_18 : decode cX1_holds 18 = .ok (.if_icmp .ge 7, 3) := by decide +kernel
theorem dX1_holds_21 : decode cX1_holds 21 = .ok (.iconst 1, 1) := by decide +kernel
theorem dX1_holds_22 : decode cX1_holds 22 = .ok (.goto 4, 3) := by decide +kernel
theorem dX1_holds_25 : decode cX1_holds 25 = .ok (.iconst 0, 1) := by decide +kernel
theorem dX1_holds_26 : decode cX1_holds 26 = .ok (.ireturn, 1) := by decide +kernel
set_option maxRecDepth 20000 in
theorem ggX1_item_X1_holds : GoodIn wsX1_item wsX1_holds := goodIn_r _ [6, 7, 1, 8, 9, 10, 11, 12] (by decide +kernel) (by decide +kernel)
set_option maxRecDepth 20000 in
theorem gX1_item_X1_holds : GoodIn wsX1_item (wsV RX1 34 RX1 yX1_holds wsX1_holds) := goodIn_app (goodIn_of _ (by decide +kernel)) ggX1_item_X1_holds
theorem dX1_item_0 : decode cX1_item 0 = .ok (.aload_n 0, 1) := by decide +kernel
theorem dX1_item_1 : decode cX1_item 1 = .ok (.iload_n 1, 1) := by decide +kernel
theorem dX1_item_2 : decode cX1_item 2 = .ok (.invokevirtual 34, 3) := by decide +kernel
theorem dX1_item_5 : decode cX1_item 5 = .ok (.ifCond .eq 12, 3) := by decide +kernel
theorem dX1_item_8 : decode cX1_item 8 = .ok (.aload_n 0, 1) := by decide +kernel
theorem dX1_item_9 : decode cX1_item 9 = .ok (.getfield 15, 3) := by decide +kernel
theorem dX1_item_12 : decode cX1_item 12 = .ok (.iload_n 1, 1) := by decide +kernel
theorem dX1_item_13 : decode cX1_item 13 = .ok (.iaload, 1) := by decide +kernel
theorem dX1_item_14 : decode cX1_item 14 = .ok (.goto 4, 3) := by decide +kernel
theorem dX1_item_17 : decode cX1_item 17 = .ok (.iconst 0, 1) := by decide +kernel
theorem dX1_item_18 : decode cX1_item 18 = .ok (.ireturn, 1) := by decide +kernel
set_option maxRecDepth 20000 in
theorem ggX1_put_X1_holds : GoodIn wsX1_put wsX1_holds := goodIn_r _ [6, 7, 1, 8, 9, 10, 11, 12] (by decide +kernel) (by decide +kernel)
set_option maxRecDepth 20000 in
theorem gX1_put_X1_holds : GoodIn wsX1_put (wsV RX1 34 RX1 yX1_holds wsX1_holds) := goodIn_app (goodIn_of _ (by decide +kernel)) ggX1_put_X1_holds
theorem dX1_put_0 : decode cX1_put 0 = .ok (.aload_n 0, 1) := by decide +kernel
theorem dX1_put_1 : decode cX1_put 1 = .ok (.iload_n 1, 1) := by decide +kernel
theorem dX1_put_2 : decode cX1_put 2 = .ok (.invokevirtual 34, 3) := by decide +kernel
theorem dX1_put_5 : decode cX1_put 5 = .ok (.ifCond .eq 10, 3) := by decide +kernel
theorem dX1_put_8 : decode cX1_put 8 = .ok (.aload_n 0, 1) := by decide +kernel
theorem dX1_put_9 : decode cX1_put 9 = .ok (.getfield 15, 3) := by decide +kernel
theorem dX1_put_12 : decode cX1_put 12 = .ok (.iload_n 1, 1) := by decide +kernel
theorem dX1_put_13 : decode cX1_put 13 = .ok (.iload_n 2, 1) := by decide +kernel
theorem dX1_put_14 : decode cX1_put 14 = .ok (.iastore, 1) := by decide +kernel
theorem dX1_put_15 : decode cX1_put 15 = .ok (.return_, 1) := by decide +kernel
theorem dX1_append_0 : decode cX1_append 0 = .ok (.aload_n 0, 1) := by decide +kernel
theorem dX1_append_1 : decode cX1_append 1 = .ok (.getfield 31, 3) := by decide +kernel
theorem dX1_append_4 : decode cX1_append 4 = .ok (.ifCond .lt 35, 3) := by decide +kernel
theorem dX1_append_7 : decode cX1_append 7 = .ok (.aload_n 0, 1) := by decide +kernel
theorem dX1_append_8 : decode cX1_append 8 = .ok (.getfield 31, 3) := by decide +kernel
theorem dX1_append_11 : decode cX1_append 11 = .ok (.aload_n 0, 1) := by decide +kernel
theorem dX1_append_12 : decode cX1_append 12 = .ok (.getfield 15, 3) := by decide +kernel
theorem dX1_append_15 : decode cX1_append 15 = .ok (.arraylength, 1) := by decide +kernel
theorem dX1_append_16 : decode cX1_append 16 = .ok (.if_icmp .ge 23, 3) := by decide +kernel
theorem dX1_append_19 : decode cX1_append 19 = .ok (.aload_n 0, 1) := by decide +kernel
theorem dX1_append_20 : decode cX1_append 20 = .ok (.getfield 15, 3) := by decide +kernel
theorem dX1_append_23 : decode cX1_append 23 = .ok (.aload_n 0, 1) := by decide +kernel
theorem dX1_append_24 : decode cX1_append 24 = .ok (.getfield 31, 3) := by decide +kernel
theorem dX1_append_27 : decode cX1_append 27 = .ok (.iload_n 1, 1) := by decide +kernel
theorem dX1_append_28 : decode cX1_append 28 = .ok (.iastore, 1) := by decide +kernel
theorem dX1_append_29 : decode cX1_append 29 = .ok (.aload_n 0, 1) := by decide +kernel
theorem dX1_append_30 : decode cX1_append 30 = .ok (.dup, 1) := by decide +kernel
theorem dX1_append_31 : decode cX1_append 31 = .ok (.getfield 31, 3) := by decide +kernel
theorem dX1_append_34 : decode cX1_append 34 = .ok (.iconst 1, 1) := by decide +kernel
theorem dX1_append_35 : decode cX1_append 35 = .ok (.iadd, 1) := by decide +kernel
theorem dX1_append_36 : decode cX1_append 36 = .ok (.putfield 31, 3) := by decide +kernel
theorem dX1_append_39 : decode cX1_append 39 = .ok (.return_, 1) := by decide +kernel
theorem dX1_becomePicture_0 : decode cX1_becomePicture 0 = .ok (.aload_n 0, 1) := by decide +kernel
theorem dX1_becomePicture_1 : decode cX1_becomePicture 1 = .ok (.iconst 1, 1) := by decide +kernel
theorem dX1_becomePicture_2 : decode cX1_becomePicture 2 = .ok (.putfield 21, 3) := by decide +kernel
theorem dX1_becomePicture_5 : decode cX1_becomePicture 5 = .ok (.aload_n 0, 1) := by decide +kernel
theorem dX1_becomePicture_6 : decode cX1_becomePicture 6 = .ok (.iload_n 1, 1) := by decide +kernel
theorem dX1_becomePicture_7 : decode cX1_becomePicture 7 = .ok (.putfield 25, 3) := by decide +kernel
theorem dX1_becomePicture_10 : decode cX1_becomePicture 10 = .ok (.aload_n 0, 1) := by decide +kernel
theorem dX1_becomePicture_11 : decode cX1_becomePicture 11 = .ok (.iload_n 2, 1) := by decide +kernel
theorem dX1_becomePicture_12 : decode cX1_becomePicture 12 = .ok (.putfield 28, 3) := by decide +kernel
theorem dX1_becomePicture_15 : decode cX1_becomePicture 15 = .ok (.aload_n 0, 1) := by decide +kernel
theorem dX1_becomePicture_16 : decode cX1_becomePicture 16 = .ok (.iload_n 1, 1) := by decide +kernel
theorem dX1_becomePicture_17 : decode cX1_becomePicture 17 = .ok (.iload_n 2, 1) := by decide +kernel
theorem dX1_becomePicture_18 : decode cX1_becomePicture 18 = .ok (.imul, 1) := by decide +kernel
theorem dX1_becomePicture_19 : decode cX1_becomePicture 19 = .ok (.putfield 31, 3) := by decide +kernel
theorem dX1_becomePicture_22 : decode cX1_becomePicture 22 = .ok (.return_, 1) := by decide +kernel
theorem dX1_becomeNoWords_0 : decode cX1_becomeNoWords 0 = .ok (.aload_n 0, 1) := by decide +kernel
theorem dX1_becomeNoWords_1 : decode cX1_becomeNoWords 1 = .ok (.iconst 0, 1) := by decide +kernel
theorem dX1_becomeNoWords_2 : decode cX1_becomeNoWords 2 = .ok (.putfield 21, 3) := by decide +kernel
theorem dX1_becomeNoWords_5 : decode cX1_becomeNoWords 5 = .ok (.aload_n 0, 1) := by decide +kernel
theorem dX1_becomeNoWords_6 : decode cX1_becomeNoWords 6 = .ok (.iconst 0, 1) := by decide +kernel
theorem dX1_becomeNoWords_7 : decode cX1_becomeNoWords 7 = .ok (.putfield 25, 3) := by decide +kernel
theorem dX1_becomeNoWords_10 : decode cX1_becomeNoWords 10 = .ok (.aload_n 0, 1) := by decide +kernel
theorem dX1_becomeNoWords_11 : decode cX1_becomeNoWords 11 = .ok (.iconst 0, 1) := by decide +kernel
theorem dX1_becomeNoWords_12 : decode cX1_becomeNoWords 12 = .ok (.putfield 28, 3) := by decide +kernel
theorem dX1_becomeNoWords_15 : decode cX1_becomeNoWords 15 = .ok (.aload_n 0, 1) := by decide +kernel
theorem dX1_becomeNoWords_16 : decode cX1_becomeNoWords 16 = .ok (.iconst 0, 1) := by decide +kernel
theorem dX1_becomeNoWords_17 : decode cX1_becomeNoWords 17 = .ok (.putfield 31, 3) := by decide +kernel
theorem dX1_becomeNoWords_20 : decode cX1_becomeNoWords 20 = .ok (.return_, 1) := by decide +kernel
set_option maxRecDepth 20000 in
theorem ggX1_swapWithNext_X1_item : GoodIn wsX1_swapWithNext wsX1_item := goodIn_r _ [5, 6, 7, 8, 9, 4, 10, 11, 16, 17, 18, 19, 20] (by decide +kernel) (by decide +kernel)
set_option maxRecDepth 20000 in
theorem gX1_swapWithNext_X1_item : GoodIn wsX1_swapWithNext (wsV RX1 38 RX1 yX1_item wsX1_item) := goodIn_app (goodIn_of _ (by decide +kernel)) ggX1_swapWithNext_X1_item
set_option maxRecDepth 20000 in
theorem ggX1_swapWithNext_X1_put : GoodIn wsX1_swapWithNext wsX1_put := goodIn_r _ [15, 6, 7, 8, 9, 4, 10, 11, 16, 17, 18, 19, 20] (by decide +kernel) (by decide +kernel)
set_option maxRecDepth 20000 in
theorem gX1_swapWithNext_X1_put : GoodIn wsX1_swapWithNext (wsV RX1 42 RX1 yX1_put wsX1_put) := goodIn_app (goodIn_of _ (by decide +kernel)) ggX1_swapWithNext_X1_put
theorem dX1_swapWithNext_0 : decode cX1_swapWithNext 0 = .ok (.aload_n 0, 1) := by decide +kernel
theorem dX1_swapWithNext_1 : decode cX1_swapWithNext 1 = .ok (.iload_n 1, 1) := by decide +kernel
theorem dX1_swapWithNext_2 : decode cX1_swapWithNext 2 = .ok (.invokevirtual 38, 3) := by decide +kernel
theorem dX1_swapWithNext_5 : decode cX1_swapWithNext 5 = .ok (.istore_n 2, 1) := by decide +kernel
theorem dX1_swapWithNext_6 : decode cX1_swapWithNext 6 = .ok (.aload_n 0, 1) := by decide +kernel
theorem dX1_swapWithNext_7 : decode cX1_swapWithNext 7 = .ok (.iload_n 1, 1) := by decide +kernel
theorem dX1_swapWithNext_8 : decode cX1_swapWithNext 8 = .ok (.aload_n 0, 1) := by decide +kernel
theorem dX1_swapWithNext_9 : decode cX1_swapWithNext 9 = .ok (.iload_n 1, 1) := by decide +kernel
theorem dX1_swapWithNext_10 : decode cX1_swapWithNext 10 = .ok (.iconst 1, 1) := by decide +kernel
theorem dX1_swapWithNext_11 : decode cX1_swapWithNext 11 = .ok (.iadd, 1) := by decide +kernel
theorem dX1_swapWithNext_12 : decode cX1_swapWithNext 12 = .ok (.invokevirtual 38, 3) := by decide +kernel
theorem dX1_swapWithNext_15 : decode cX1_swapWithNext 15 = .ok (.invokevirtual 42, 3) := by decide +kernel
theorem dX1_swapWithNext_18 : decode cX1_swapWithNext 18 = .ok (.aload_n 0, 1) := by decide +kernel
theorem dX1_swapWithNext_19 : decode cX1_swapWithNext 19 = .ok (.iload_n 1, 1) := by decide +kernel
theorem dX1_swapWithNext_20 : decode cX1_swapWithNext 20 = .ok (.iconst 1, 1) := by decide +kernel
theorem dX1_swapWithNext_21 : decode cX1_swapWithNext 21 = .ok (.iadd, 1) := by decide +kernel
theorem dX1_swapWithNext_22 : decode cX1_swapWithNext 22 = .ok (.iload_n 2, 1) := by decide +kernel
theorem dX1_swapWithNext_23 : decode cX1_swapWithNext 23 = .ok (.invokevirtual 42, 3) := by decide +kernel
theorem dX1_swapWithNext_26 : decode cX1_swapWithNext 26 = .ok (.return_, 1) := by decide +kernel
set_option maxRecDepth 20000 in
theorem ggX1_isLike_X1_item : GoodIn wsX1_isLike wsX1_item := goodIn_r _ [9, 10, 11, 12, 13, 8, 14, 4, 15, 16, 17, 18, 19] (by decide +kernel) (by decide +kernel)
set_option maxRecDepth 20000 in
theorem gX1_isLike_X1_item : GoodIn wsX1_isLike (wsV RX1 38 RX1 yX1_item wsX1_item) := goodIn_app (goodIn_of _ (by decide +kernel)) ggX1_isLike_X1_item
theorem dX1_isLike_0 : decode cX1_isLike 0 = .ok (.aload_n 0, 1) := by decide +kernel
theorem dX1_isLike_1 : decode cX1_isLike 1 = .ok (.getfield 21, 3) := by decide +kernel
theorem dX1_isLike_4 : decode cX1_isLike 4 = .ok (.aload_n 1, 1) := by decide +kernel
theorem dX1_isLike_5 : decode cX1_isLike 5 = .ok (.getfield 21, 3) := by decide +kernel
theorem dX1_isLike_8 : decode cX1_isLike 8 = .ok (.if_icmp .ne 36, 3) := by decide +kernel
theorem dX1_isLike_11 : decode cX1_isLike 11 = .ok (.aload_n 0, 1) := by decide +kernel
theorem dX1_isLike_12 : decode cX1_isLike 12 = .ok (.getfield 25, 3) := by decide +kernel
theorem dX1_isLike_15 : decode cX1_isLike 15 = .ok (.aload_n 1, 1) := by decide +kernel
theorem dX1_isLike_16 : decode cX1_isLike 16 = .ok (.getfield 25, 3) := by decide +kernel
theorem dX1_isLike_19 : decode cX1_isLike 19 = .ok (.if_icmp .ne 25, 3) := by decide +kernel
theorem dX1_isLike_22 : decode cX1_isLike 22 = .ok (.aload_n 0, 1) := by decide +kernel
theorem dX1_isLike_23 : decode cX1_isLike 23 = .ok (.getfield 28, 3) := by decide +kernel
theorem dX1_isLike_26 : decode cX1_isLike 26 = .ok (.aload_n 1, 1) := by decide +kernel
theorem dX1_isLike_27 : decode cX1_isLike 27 = .ok (.getfield 28, 3) := by decide +kernel
theorem dX1_isLike_30 : decode cX1_isLike 30 = .ok (.if_icmp .ne 14, 3) := by decide +kernel
theorem dX1_isLike_33 : decode cX1_isLike 33 = .ok (.aload_n 0, 1) := by decide +kernel
theorem dX1_isLike_34 : decode cX1_isLike 34 = .ok (.getfield 31, 3) := by decide +kernel
theorem dX1_isLike_37 : decode cX1_isLike 37 = .ok (.aload_n 1, 1) := by decide +kernel
theorem dX1_isLike_38 : decode cX1_isLike 38 = .ok (.getfield 31, 3) := by decide +kernel
theorem dX1_isLike_41 : decode cX1_isLike 41 = .ok (.if_icmp .eq 5, 3) := by decide +kernel
theorem dX1_isLike_44 : decode cX1_isLike 44 = .ok (.iconst 0, 1) := by decide +kernel
theorem dX1_isLike_45 : decode cX1_isLike 45 = .ok (.ireturn, 1) := by decide +kernel
theorem dX1_isLike_46 : decode cX1_isLike 46 = .ok (.iconst 0, 1) := by decide +kernel
theorem dX1_isLike_47 : decode cX1_isLike 47 = .ok (.istore_n 2, 1) := by decide +kernel
theorem dX1_isLike_48 : decode cX1_isLike 48 = .ok (.iload_n 2, 1) := by decide +kernel
theorem dX1_isLike_49 : decode cX1_isLike 49 = .ok (.aload_n 0, 1) := by decide +kernel
theorem dX1_isLike_50 : decode cX1_isLike 50 = .ok (.getfield 31, 3) := by decide +kernel
theorem dX1_isLike_53 : decode cX1_isLike 53 = .ok (.if_icmp .ge 24, 3) := by decide +kernel
theorem dX1_isLike_56 : decode cX1_isLike 56 = .ok (.aload_n 0, 1) := by decide +kernel
theorem dX1_isLike_57 : decode cX1_isLike 57 = .ok (.iload_n 2, 1) := by decide +kernel
theorem dX1_isLike_58 : decode cX1_isLike 58 = .ok (.invokevirtual 38, 3) := by decide +kernel
theorem dX1_isLike_61 : decode cX1_isLike 61 = .ok (.aload_n 1, 1) := by decide +kernel
theorem dX1_isLike_62 : decode cX1_isLike 62 = .ok (.iload_n 2, 1) := by decide +kernel
theorem dX1_isLike_63 : decode cX1_isLike 63 = .ok (.invokevirtual 38, 3) := by decide +kernel
theorem dX1_isLike_66 : decode cX1_isLike 66 = .ok (.if_icmp .eq 5, 3) := by decide +kernel
theorem dX1_isLike_69 : decode cX1_isLike 69 = .ok (.iconst 0, 1) := by decide +kernel
theorem dX1_isLike_70 : decode cX1_isLike 70 = .ok (.ireturn, 1) := by decide +kernel
theorem dX1_isLike_71 : decode cX1_isLike 71 = .ok (.iinc 2 1, 3) := by decide +kernel
theorem dX1_isLike_74 : decode cX1_isLike 74 = .ok (.goto (-26), 3) := by decide +kernel
theorem dX1_isLike_77 : decode cX1_isLike 77 = .ok (.iconst 1, 1) := by decide +kernel
theorem dX1_isLike_78 : decode cX1_isLike 78 = .ok (.ireturn, 1) := by decide +kernel
theorem dX2_init_0 : decode cX2_init 0 = .ok (.aload_n 0, 1) := by decide +kernel
theorem dX2_init_1 : decode cX2_init 1 = .ok (.invokespecial 1, 3) := by decide +kernel
theorem dX2_init_4 : decode cX2_init 4 = .ok (.aload_n 0, 1) := by decide +kernel
theorem dX2_init_5 : decode cX2_init 5 = .ok (.lconst 0, 1) := by decide +kernel
theorem dX2_init_6 : decode cX2_init 6 = .ok (.putfield 7, 3) := by decide +kernel
theorem dX2_init_9 : decode cX2_init 9 = .ok (.return_, 1) := by decide +kernel
theorem dX2_begin_0 : decode cX2_begin 0 = .ok (.aload_n 0, 1) := by decide +kernel
theorem dX2_begin_1 : decode cX2_begin 1 = .ok (.lload_n 1, 1) := by decide +kernel
theorem dX2_begin_2 : decode cX2_begin 2 = .ok (.putfield 7, 3) := by decide +kernel
theorem dX2_begin_5 : decode cX2_begin 5 = .ok (.return_, 1) := by decide +kernel
set_option maxRecDepth 20000 in
theorem ggX2_key_X2_mixed : GoodIn wsX2_key wsX2_mixed := goodIn_r _ [6, 7, 8] (by decide +kernel) (by decide +kernel)
set_option maxRecDepth 20000 in
theorem gX2_key_X2_mixed : GoodIn wsX2_key (va_wsS RX2 15 yX2_mixed wsX2_mixed) := goodIn_app (goodIn_of _ (by decide +kernel)) ggX2_key_X2_mixed
theorem dX2_key_0 : decode cX2_key 0 = .ok (.aload_n 0, 1) := by decide +kernel
theorem dX2_key_1 : decode cX2_key 1 = .ok (.aload_n 0, 1) := by decide +kernel
theorem dX2_key_2 : decode cX2_key 2 = .ok (.getfield 7, 3) := by decide +kernel
theorem dX2_key_5 : decode cX2_key 5 = .ok (.iload_n 1, 1) := by decide +kernel
theorem dX2_key_6 : decode cX2_key 6 = .ok (.i2l, 1) := by decide +kernel
theorem dX2_key_7 : decode cX2_key 7 = .ok (.ldc2_w 13, 3) := by decide +kernel
theorem dX2_key_10 : decode cX2_key 10 = .ok (.lmul, 1) := by decide +kernel
theorem dX2_key_11 : decode cX2_key 11 = .ok (.lxor, 1) := by decide +kernel
theorem dX2_key_12 : decode cX2_key 12 = .ok (.invokestatic 15, 3) := by decide +kernel
theorem dX2_key_15 : decode cX2_key 15 = .ok (.putfield 7, 3) := by decide +kernel
theorem dX2_key_18 : decode cX2_key 18 = .ok (.return_, 1) := by decide +kernel
set_option maxRecDepth 20000 in
theorem ggX2_below_X2_mixed : GoodIn wsX2_below wsX2_mixed := goodIn_r _ [6, 7, 8] (by decide +kernel) (by decide +kernel)
set_option maxRecDepth 20000 in
theorem gX2_below_X2_mixed : GoodIn wsX2_below (va_wsS RX2 15 yX2_mixed wsX2_mixed) := goodIn_app (goodIn_of _ (by decide +kernel)) ggX2_below_X2_mixed
theorem dX2_below_0 : decode cX2_below 0 = .ok (.iload_n 1, 1) := by decide +kernel
theorem dX2_below_1 : decode cX2_below 1 = .ok (.iconst 1, 1) := by decide +kernel
theorem dX2_below_2 : decode cX2_below 2 = .ok (.if_icmp .ge 5, 3) := by decide +kernel
theorem dX2_below_5 : decode cX2_below 5 = .ok (.iconst 0, 1) := by decide +kernel
theorem dX2_below_6 : decode cX2_below 6 = .ok (.ireturn, 1) := by decide +kernel
theorem dX2_below_7 : decode cX2_below 7 = .ok (.aload_n 0, 1) := by decide +kernel
theorem dX2_below_8 : decode cX2_below 8 = .ok (.dup, 1) := by decide +kernel
theorem dX2_below_9 : decode cX2_below 9 = .ok (.getfield 7, 3) := by decide +kernel
theorem dX2_below_12 : decode cX2_below 12 = .ok (.ldc2_w 13, 3) := by decide +kernel
theorem dX2_below_15 : decode cX2_below 15 = .ok (.ladd, 1) := by decide +kernel
theorem dX2_below_16 : decode cX2_below 16 = .ok (.putfield 7, 3) := by decide +kernel
theorem dX2_below_19 : decode cX2_below 19 = .ok (.aload_n 0, 1) := by decide +kernel
theorem dX2_below_20 : decode cX2_below 20 = .ok (.getfield 7, 3) := by decide +kernel
theorem dX2_below_23 : decode cX2_below 23 = .ok (.invokestatic 15, 3) := by decide +kernel
theorem dX2_below_26 : decode cX2_below 26 = .ok (.iconst 1, 1) := by decide +kernel
theorem dX2_below_27 : decode cX2_below 27 = .ok (.lushr, 1) := by decide +kernel
theorem dX2_below_28 : decode cX2_below 28 = .ok (.iload_n 1, 1) := by decide +kernel
theorem dX2_below_29 : decode cX2_below 29 = .ok (.i2l, 1) := by decide +kernel
theorem dX2_below_30 : decode cX2_below 30 = .ok (.lrem, 1) := by decide +kernel
theorem dX2_below_31 : decode cX2_below 31 = .ok (.l2i, 1) := by decide +kernel
theorem dX2_below_32 : decode cX2_below 32 = .ok (.ireturn, 1) := by decide +kernel
set_option maxRecDepth 20000 in
theorem ggX2_shuffle_X2_below : GoodIn wsX2_shuffle wsX2_below := goodIn_r _ [5, 6, 7, 8, 9, 4, 10, 11, 12, 13] (by decide +kernel) (by decide +kernel)
set_option maxRecDepth 20000 in
theorem gX2_shuffle_X2_below : GoodIn wsX2_shuffle (wsV RX2 19 RX2 yX2_below wsX2_below) := goodIn_app (goodIn_of _ (by decide +kernel)) ggX2_shuffle_X2_below
theorem dX2_shuffle_0 : decode cX2_shuffle 0 = .ok (.iload_n 2, 1) := by decide +kernel
theorem dX2_shuffle_1 : decode cX2_shuffle 1 = .ok (.ifCond .lt 11, 3) := by decide +kernel
theorem dX2_shuffle_4 : decode cX2_shuffle 4 = .ok (.iload_n 3, 1) := by decide +kernel
theorem dX2_shuffle_5 : decode cX2_shuffle 5 = .ok (.aload_n 1, 1) := by decide +kernel
theorem dX2_shuffle_6 : decode cX2_shuffle 6 = .ok (.arraylength, 1) := by decide +kernel
theorem dX2_shuffle_7 : decode cX2_shuffle 7 = .ok (.iload_n 2, 1) := by decide +kernel
theorem dX2_shuffle_8 : decode cX2_shuffle 8 = .ok (.isub, 1) := by decide +kernel
theorem dX2_shuffle_9 : decode cX2_shuffle 9 = .ok (.if_icmp .le 4, 3) := by decide +kernel
theorem dX2_shuffle_12 : decode cX2_shuffle 12 = .ok (.return_, 1) := by decide +kernel
theorem dX2_shuffle_13 : decode cX2_shuffle 13 = .ok (.iload_n 3, 1) := by decide +kernel
theorem dX2_shuffle_14 : decode cX2_shuffle 14 = .ok (.iconst 1, 1) := by decide +kernel
theorem dX2_shuffle_15 : decode cX2_shuffle 15 = .ok (.isub, 1) := by decide +kernel
theorem dX2_shuffle_16 : decode cX2_shuffle 16 = .ok (.istore 4, 2) := by decide +kernel
theorem dX2_shuffle_18 : decode cX2_shuffle 18 = .ok (.iload 4, 2) := by decide +kernel
theorem dX2_shuffle_20 : decode cX2_shuffle 20 = .ok (.iconst 1, 1) := by decide +kernel
theorem dX2_shuffle_21 : decode cX2_shuffle 21 = .ok (.if_icmp .lt 45, 3) := by decide +kernel
theorem dX2_shuffle_24 : decode cX2_shuffle 24 = .ok (.iload_n 2, 1) := by decide +kernel
theorem dX2_shuffle_25 : decode cX2_shuffle 25 = .ok (.aload_n 0, 1) := by decide +kernel
theorem dX2_shuffle_26 : decode cX2_shuffle 26 = .ok (.iload 4, 2) := by decide +kernel
theorem dX2_shuffle_28 : decode cX2_shuffle 28 = .ok (.iconst 1, 1) := by decide +kernel
theorem dX2_shuffle_29 : decode cX2_shuffle 29 = .ok (.iadd, 1) := by decide +kernel
theorem dX2_shuffle_30 : decode cX2_shuffle 30 = .ok (.invokevirtual 19, 3) := by decide +kernel
theorem dX2_shuffle_33 : decode cX2_shuffle 33 = .ok (.iadd, 1) := by decide +kernel
theorem dX2_shuffle_34 : decode cX2_shuffle 34 = .ok (.istore 5, 2) := by decide +kernel
theorem dX2_shuffle_36 : decode cX2_shuffle 36 = .ok (.aload_n 1, 1) := by decide +kernel
theorem dX2_shuffle_37 : decode cX2_shuffle 37 = .ok (.iload_n 2, 1) := by decide +kernel
theorem dX2_shuffle_38 : decode cX2_shuffle 38 = .ok (.iload 4, 2) := by decide +kernel
theorem dX2_shuffle_40 : decode cX2_shuffle 40 = .ok (.iadd, 1) := by decide +kernel
theorem dX2_shuffle_41 : decode cX2_shuffle 41 = .ok (.iaload, 1) := by decide +kernel
theorem dX2_shuffle_42 : decode cX2_shuffle 42 = .ok (.istore 6, 2) := by decide +kernel
theorem dX2_shuffle_44 : decode cX2_shuffle 44 = .ok (.aload_n 1, 1) := by decide +kernel
theorem dX2_shuffle_45 : decode cX2_shuffle 45 = .ok (.iload_n 2, 1) := by decide +kernel
theorem dX2_shuffle_46 : decode cX2_shuffle 46 = .ok (.iload 4, 2) := by decide +kernel
theorem dX2_shuffle_48 : decode cX2_shuffle 48 = .ok (.iadd, 1) := by decide +kernel
theorem dX2_shuffle_49 : decode cX2_shuffle 49 = .ok (.aload_n 1, 1) := by decide +kernel
theorem dX2_shuffle_50 : decode cX2_shuffle 50 = .ok (.iload 5, 2) := by decide +kernel
theorem dX2_shuffle_52 : decode cX2_shuffle 52 = .ok (.iaload, 1) := by decide +kernel
theorem dX2_shuffle_53 : decode cX2_shuffle 53 = .ok (.iastore, 1) := by decide +kernel
theorem dX2_shuffle_54 : decode cX2_shuffle 54 = .ok (.aload_n 1, 1) := by decide +kernel
theorem dX2_shuffle_55 : decode cX2_shuffle 55 = .ok (.iload 5, 2) := by decide +kernel
theorem dX2_shuffle_57 : decode cX2_shuffle 57 = .ok (.iload 6, 2) := by decide +kernel
theorem dX2_shuffle_59 : decode cX2_shuffle 59 = .ok (.iastore, 1) := by decide +kernel
theorem dX2_shuffle_60 : decode cX2_shuffle 60 = .ok (.iinc 4 (-1), 3) := by decide +kernel
theorem dX2_shuffle_63 : decode cX2_shuffle 63 = .ok (.goto (-45), 3) := by decide +kernel
theorem dX2_shuffle_66 : decode cX2_shuffle 66 = .ok (.return_, 1) := by decide +kernel
theorem dX2_mixed_0 : decode cX2_mixed 0 = .ok (.lload_n 0, 1) := by decide +kernel
theorem dX2_mixed_1 : decode cX2_mixed 1 = .ok (.lload_n 0, 1) := by decide +kernel
theorem dX2_mixed_2 : decode cX2_mixed 2 = .ok (.bipush 30, 2) := by decide +kernel
theorem dX2_mixed_4 : decode cX2_mixed 4 = .ok (.lushr, 1) := by decide +kernel
theorem dX2_mixed_5 : decode cX2_mixed 5 = .ok (.lxor, 1) := by decide +kernel
theorem dX2_mixed_6 : decode cX2_mixed 6 = .ok (.ldc2_w 23, 3) := by decide +kernel
theorem dX2_mixed_9 : decode cX2_mixed 9 = .ok (.lmul, 1) := by decide +kernel
theorem dX2_mixed_10 : decode cX2_mixed 10 = .ok (.lstore_n 0, 1) := by decide +kernel
theorem dX2_mixed_11 : decode cX2_mixed 11 = .ok (.lload_n 0, 1) := by decide +kernel
theorem dX2_mixed_12 : decode cX2_mixed 12 = .ok (.lload_n 0, 1) := by decide +kernel
theorem dX2_mixed_13 : decode cX2_mixed 13 = .ok (.bipush 27, 2) := by decide +kernel
theorem dX2_mixed_15 : decode cX2_mixed 15 = .ok (.lushr, 1) := by decide +kernel
theorem dX2_mixed_16 : decode cX2_mixed 16 = .ok (.lxor, 1) := by decide +kernel
theorem dX2_mixed_17 : decode cX2_mixed 17 = .ok (.ldc2_w 25, 3) := by decide +kernel
theorem dX2_mixed_20 : decode cX2_mixed 20 = .ok (.lmul, 1) := by decide +kernel
theorem dX2_mixed_21 : decode cX2_mixed 21 = .ok (.lstore_n 0, 1) := by decide +kernel
theorem dX2_mixed_22 : decode cX2_mixed 22 = .ok (.lload_n 0, 1) := by decide +kernel
theorem dX2_mixed_23 : decode cX2_mixed 23 = .ok (.lload_n 0, 1) := by decide +kernel
theorem dX2_mixed_24 : decode cX2_mixed 24 = .ok (.bipush 31, 2) := by decide +kernel
theorem dX2_mixed_26 : decode cX2_mixed 26 = .ok (.lushr, 1) := by decide +kernel
theorem dX2_mixed_27 : decode cX2_mixed 27 = .ok (.lxor, 1) := by decide +kernel
theorem dX2_mixed_28 : decode cX2_mixed 28 = .ok (.lreturn, 1) := by decide +kernel
theorem dX3_init_0 : decode cX3_init 0 = .ok (.aload_n 0, 1) := by decide +kernel
theorem dX3_init_1 : decode cX3_init 1 = .ok (.invokespecial 3, 3) := by decide +kernel
theorem dX3_init_4 : decode cX3_init 4 = .ok (.aload_n 0, 1) := by decide +kernel
theorem dX3_init_5 : decode cX3_init 5 = .ok (.bipush 60, 2) := by decide +kernel
theorem dX3_init_7 : decode cX3_init 7 = .ok (.newarray .int, 2) := by decide +kernel
theorem dX3_init_9 : decode cX3_init 9 = .ok (.putfield 9, 3) := by decide +kernel
theorem dX3_init_12 : decode cX3_init 12 = .ok (.aload_n 0, 1) := by decide +kernel
theorem dX3_init_13 : decode cX3_init 13 = .ok (.iconst 0, 1) := by decide +kernel
theorem dX3_init_14 : decode cX3_init 14 = .ok (.putfield 15, 3) := by decide +kernel
theorem dX3_init_17 : decode cX3_init 17 = .ok (.aload_n 0, 1) := by decide +kernel
theorem dX3_init_18 : decode cX3_init 18 = .ok (.bipush 60, 2) := by decide +kernel
theorem dX3_init_20 : decode cX3_init 20 = .ok (.newarray .int, 2) := by decide +kernel
theorem dX3_init_22 : decode cX3_init 22 = .ok (.putfield 19, 3) := by decide +kernel
theorem dX3_init_25 : decode cX3_init 25 = .ok (.aload_n 0, 1) := by decide +kernel
theorem dX3_init_26 : decode cX3_init 26 = .ok (.bipush 8, 2) := by decide +kernel
theorem dX3_init_28 : decode cX3_init 28 = .ok (.newarray .int, 2) := by decide +kernel
theorem dX3_init_30 : decode cX3_init 30 = .ok (.putfield 22, 3) := by decide +kernel
theorem dX3_init_33 : decode cX3_init 33 = .ok (.aload_n 0, 1) := by decide +kernel
theorem dX3_init_34 : decode cX3_init 34 = .ok (.bipush 8, 2) := by decide +kernel
theorem dX3_init_36 : decode cX3_init 36 = .ok (.newarray .int, 2) := by decide +kernel
theorem dX3_init_38 : decode cX3_init 38 = .ok (.putfield 25, 3) := by decide +kernel
theorem dX3_init_41 : decode cX3_init 41 = .ok (.aload_n 0, 1) := by decide +kernel
theorem dX3_init_42 : decode cX3_init 42 = .ok (.bipush 8, 2) := by decide +kernel
theorem dX3_init_44 : decode cX3_init 44 = .ok (.newarray .int, 2) := by decide +kernel
theorem dX3_init_46 : decode cX3_init 46 = .ok (.putfield 28, 3) := by decide +kernel
theorem dX3_init_49 : decode cX3_init 49 = .ok (.aload_n 0, 1) := by decide +kernel
theorem dX3_init_50 : decode cX3_init 50 = .ok (.bipush 8, 2) := by decide +kernel
theorem dX3_init_52 : decode cX3_init 52 = .ok (.newarray .int, 2) := by decide +kernel
theorem dX3_init_54 : decode cX3_init 54 = .ok (.putfield 31, 3) := by decide +kernel
theorem dX3_init_57 : decode cX3_init 57 = .ok (.aload_n 0, 1) := by decide +kernel
theorem dX3_init_58 : decode cX3_init 58 = .ok (.aload_n 1, 1) := by decide +kernel
theorem dX3_init_59 : decode cX3_init 59 = .ok (.putfield 34, 3) := by decide +kernel
theorem dX3_init_62 : decode cX3_init 62 = .ok (.aload_n 0, 1) := by decide +kernel
theorem dX3_init_63 : decode cX3_init 63 = .ok (.aload_n 2, 1) := by decide +kernel
theorem dX3_init_64 : decode cX3_init 64 = .ok (.putfield 38, 3) := by decide +kernel
theorem dX3_init_67 : decode cX3_init 67 = .ok (.aload_n 0, 1) := by decide +kernel
theorem dX3_init_68 : decode cX3_init 68 = .ok (.aload_n 3, 1) := by decide +kernel
theorem dX3_init_69 : decode cX3_init 69 = .ok (.putfield 42, 3) := by decide +kernel
theorem dX3_init_72 : decode cX3_init 72 = .ok (.return_, 1) := by decide +kernel
set_option maxRecDepth 20000 in
theorem ggX3_make_X4_sumOfWeights : GoodIn wsX3_make wsX4_sumOfWeights := goodIn_r _ [11, 12, 13, 14, 15, 10, 16, 17, 18, 19, 20, 21, 128, 129, 130, 131] (by decide +kernel) (by decide +kernel)
set_option maxRecDepth 20000 in
theorem gX3_make_X4_sumOfWeights : GoodIn wsX3_make (wsV RX3 55 RX4 yX4_sumOfWeights wsX4_sumOfWeights) := goodIn_app (goodIn_of _ (by decide +kernel)) ggX3_make_X4_sumOfWeights
set_option maxRecDepth 20000 in
theorem ggX3_make_X3_beginStream : GoodIn wsX3_make wsX3_beginStream := goodIn_r _ [26, 27, 28, 29, 30, 31, 32, 33, 34, 35, 36, 37, 38, 39, 40, 41, 42, 43, 44, 118, 119, 120, 121, 122, 123, 124, 125, 126, 127, 132, 133, 134, 135, 136, 137] (by decide +kernel) (by decide +kernel)
set_option maxRecDepth 20000 in
theorem gX3_make_X3_beginStream : GoodIn wsX3_make (wsV RX3 59 RX3 yX3_beginStream wsX3_beginStream) := goodIn_app (goodIn_of _ (by decide +kernel)) ggX3_make_X3_beginStream
set_option maxRecDepth 20000 in
theorem ggX3_make_X3_makePlain : GoodIn wsX3_make wsX3_makePlain := goodIn_r _ [48, 6, 49, 27, 50, 51, 52, 32, 53, 54, 55, 56, 57, 34, 39, 40, 41, 42, 43, 44, 118, 119, 120, 121, 122, 123, 124, 125, 126, 127, 137] (by decide +kernel) (by decide +kernel)
set_option maxRecDepth 20000 in
theorem gX3_make_X3_makePlain : GoodIn wsX3_make (wsV RX3 63 RX3 yX3_makePlain wsX3_makePlain) := goodIn_app (goodIn_of _ (by decide +kernel)) ggX3_make_X3_makePlain
set_option maxRecDepth 20000 in
theorem ggX3_make_X3_sortParts : GoodIn wsX3_make wsX3_sortParts := goodIn_r _ [61, 28, 62, 63, 4, 64, 6, 2, 3, 5, 65, 66, 67, 25, 68, 49, 1, 69, 70, 71, 10, 72, 73, 74, 75, 76, 77, 18, 19, 20, 21, 12, 118, 119, 120, 121, 122, 123, 124, 125, 126, 127, 132, 133, 134, 135, 136, 138, 139, 140, 141, 142, 128, 129, 130, 131] (by decide +kernel) (by decide +kernel)
set_option maxRecDepth 20000 in
theorem gX3_make_X3_sortParts : GoodIn wsX3_make (wsV RX3 66 RX3 yX3_sortParts wsX3_sortParts) := goodIn_app (goodIn_of _ (by decide +kernel)) ggX3_make_X3_sortParts
set_option maxRecDepth 20000 in
theorem ggX3_make_X3_makeWeighted : GoodIn wsX3_make wsX3_makeWeighted := goodIn_r _ [81, 1, 6, 49, 27, 7, 8, 9, 10, 11, 12, 13, 14, 15, 16, 17, 18, 19, 20, 21, 82, 55, 56, 32, 57, 34, 39, 40, 41, 42, 43, 44, 83, 84, 85, 25, 86, 87, 118, 119, 120, 121, 122, 123, 124, 125, 126, 127, 128, 129, 130, 131, 137] (by decide +kernel) (by decide +kernel)
set_option maxRecDepth 20000 in
theorem gX3_make_X3_makeWeighted : GoodIn wsX3_make (wsV RX3 69 RX3 yX3_makeWeighted wsX3_makeWeighted) := goodIn_app (goodIn_of _ (by decide +kernel)) ggX3_make_X3_makeWeighted
set_option maxRecDepth 20000 in
theorem ggX3_make_X3_makeBalanced : GoodIn wsX3_make wsX3_makeBalanced := goodIn_r _ [91, 6, 92, 93, 49, 94, 95, 96, 97, 25, 98, 1, 99, 100, 101, 102, 10, 103, 104, 18, 19, 20, 21, 12, 105, 106, 107, 108, 109, 27, 22, 23, 24, 26, 28, 29, 30, 31, 32, 33, 34, 35, 36, 37, 38, 39, 40, 41, 42, 43, 44, 50, 51, 52, 53, 54, 55, 56, 57, 110, 111, 112, 113, 118, 119, 120, 121, 122, 123, 124, 125, 126, 127, 128, 129, 130, 131, 132, 133, 134, 135, 136, 137] (by decide +kernel) (by decide +kernel)
set_option maxRecDepth 20000 in
theorem gX3_make_X3_makeBalanced : GoodIn wsX3_make (wsV RX3 72 RX3 yX3_makeBalanced wsX3_makeBalanced) := goodIn_app (goodIn_of _ (by decide +kernel)) ggX3_make_X3_makeBalanced
set_option maxRecDepth 20000 in
theorem ggX3_make_X3_makeBuffered : GoodIn wsX3_make wsX3_makeBuffered := goodIn_r _ [117, 6, 28, 2, 3, 4, 5, 109, 27, 49, 82, 55, 56, 32, 57, 34, 39, 40, 41, 42, 43, 44, 118, 119, 120, 121, 122, 123, 124, 125, 126, 127, 132, 133, 134, 135, 136, 137] (by decide +kernel) (by decide +kernel)
set_option maxRecDepth 20000 in
theorem gX3_make_X3_makeBuffered : GoodIn wsX3_make (wsV RX3 76 RX3 yX3_makeBuffered wsX3_makeBuffered) := goodIn_app (goodIn_of _ (by decide +kernel)) ggX3_make_X3_makeBuffered
theorem dX3_make_0 : decode cX3_make 0 = .ok (.aload_n 0, 1) := by decide +kernel
theorem dX3_make_1 : decode cX3_make 1 = .ok (.aload_n 0, 1) := by decide +kernel
theorem dX3_make_2 : decode cX3_make 2 = .ok (.getfield 34, 3) := by decide +kernel
theorem dX3_make_5 : decode cX3_make 5 = .ok (.getfield 46, 3) := by decide +kernel
theorem dX3_make_8 : decode cX3_make 8 = .ok (.bipush 60, 2) := by decide +kernel
theorem dX3_make_10 : decode cX3_make 10 = .ok (.invokestatic 49, 3) := by decide +kernel
theorem dX3_make_13 : decode cX3_make 13 = .ok (.putfield 15, 3) := by decide +kernel
theorem dX3_make_16 : decode cX3_make 16 = .ok (.iload_n 1, 1) := by decide +kernel
theorem dX3_make_17 : decode cX3_make 17 = .ok (.iconst 2, 1) := by decide +kernel
theorem dX3_make_18 : decode cX3_make 18 = .ok (.if_icmp .ne 22, 3) := by decide +kernel
theorem dX3_make_21 : decode cX3_make 21 = .ok (.aload_n 0, 1) := by decide +kernel
theorem dX3_make_22 : decode cX3_make 22 = .ok (.getfield 15, 3) := by decide +kernel
theorem dX3_make_25 : decode cX3_make 25 = .ok (.ifCond .le 15, 3) := by decide +kernel
theorem dX3_make_28 : decode cX3_make 28 = .ok (.aload_n 0, 1) := by decide +kernel
theorem dX3_make_29 : decode cX3_make 29 = .ok (.getfield 34, 3) := by decide +kernel
theorem dX3_make_32 : decode cX3_make 32 = .ok (.invokevirtual 55, 3) := by decide +kernel
theorem dX3_make_35 : decode cX3_make 35 = .ok (.ifCond .ne 5, 3) := by decide +kernel
theorem dX3_make_38 : decode cX3_make 38 = .ok (.iconst 0, 1) := by decide +kernel
theorem dX3_make_39 : decode cX3_make 39 = .ok (.ireturn, 1) := by decide +kernel
theorem dX3_make_40 : decode cX3_make 40 = .ok (.aload_n 0, 1) := by decide +kernel
theorem dX3_make_41 : decode cX3_make 41 = .ok (.iload_n 1, 1) := by decide +kernel
theorem dX3_make_42 : decode cX3_make 42 = .ok (.iload_n 2, 1) := by decide +kernel
theorem dX3_make_43 : decode cX3_make 43 = .ok (.invokevirtual 59, 3) := by decide +kernel
theorem dX3_make_46 : decode cX3_make 46 = .ok (.iload_n 1, 1) := by decide +kernel
theorem dX3_make_47 : decode cX3_make 47 = .ok (.tableswitch 62 1 4 #[29, 40, 47, 55], 29) := by decide +kernel
theorem dX3_make_76 : decode cX3_make 76 = .ok (.aload_n 0, 1) := by decide +kernel
theorem dX3_make_77 : decode cX3_make 77 = .ok (.invokevirtual 63, 3) := by decide +kernel
theorem dX3_make_80 : decode cX3_make 80 = .ok (.aload_n 0, 1) := by decide +kernel
theorem dX3_make_81 : decode cX3_make 81 = .ok (.invokevirtual 66, 3) := by decide +kernel
theorem dX3_make_84 : decode cX3_make 84 = .ok (.goto 29, 3) := by decide +kernel
theorem dX3_make_87 : decode cX3_make 87 = .ok (.aload_n 0, 1) := by decide +kernel
theorem dX3_make_88 : decode cX3_make 88 = .ok (.invokevirtual 69, 3) := by decide +kernel
theorem dX3_make_91 : decode cX3_make 91 = .ok (.goto 22, 3) := by decide +kernel
theorem dX3_make_94 : decode cX3_make 94 = .ok (.aload_n 0, 1) := by decide +kernel
theorem dX3_make_95 : decode cX3_make 95 = .ok (.iload_n 2, 1) := by decide +kernel
theorem dX3_make_96 : decode cX3_make 96 = .ok (.invokevirtual 72, 3) := by decide +kernel
theorem dX3_make_99 : decode cX3_make 99 = .ok (.goto 14, 3) := by decide +kernel
theorem dX3_make_102 : decode cX3_make 102 = .ok (.aload_n 0, 1) := by decide +kernel
theorem dX3_make_103 : decode cX3_make 103 = .ok (.invokevirtual 76, 3) := by decide +kernel
theorem dX3_make_106 : decode cX3_make 106 = .ok (.goto 7, 3) := by decide +kernel
theorem dX3_make_109 : decode cX3_make 109 = .ok (.aload_n 0, 1) := by decide +kernel
theorem dX3_make_110 : decode cX3_make 110 = .ok (.invokevirtual 63, 3) := by decide +kernel
theorem dX3_make_113 : decode cX3_make 113 = .ok (.iconst 1, 1) := by decide +kernel
theorem dX3_make_114 : decode cX3_make 114 = .ok (.ireturn, 1) := by decide +kernel
theorem dX3_rowAt_0 : decode cX3_rowAt 0 = .ok (.iload_n 1, 1) := by decide +kernel
theorem dX3_rowAt_1 : decode cX3_rowAt 1 = .ok (.ifCond .lt 20, 3) := by decide +kernel
theorem dX3_rowAt_4 : decode cX3_rowAt 4 = .ok (.iload_n 1, 1) := by decide +kernel
theorem dX3_rowAt_5 : decode cX3_rowAt 5 = .ok (.aload_n 0, 1) := by decide +kernel
theorem dX3_rowAt_6 : decode cX3_rowAt 6 = .ok (.getfield 15, 3) := by decide +kernel
theorem dX3_rowAt_9 : decode cX3_rowAt 9 = .ok (.if_icmp .ge 12, 3) := by decide +kernel
theorem dX3_rowAt_12 : decode cX3_rowAt 12 = .ok (.aload_n 0, 1) := by decide +kernel
theorem dX3_rowAt_13 : decode cX3_rowAt 13 = .ok (.getfield 9, 3) := by decide +kernel
theorem dX3_rowAt_16 : decode cX3_rowAt 16 = .ok (.iload_n 1, 1) := by decide +kernel
theorem dX3_rowAt_17 : decode cX3_rowAt 17 = .ok (.iaload, 1) := by decide +kernel
theorem dX3_rowAt_18 : decode cX3_rowAt 18 = .ok (.goto 5, 3) := by decide +kernel
theorem dX3_rowAt_21 : decode cX3_rowAt 21 = .ok (.bipush (-3), 2) := by decide +kernel
theorem dX3_rowAt_23 : decode cX3_rowAt 23 = .ok (.ireturn, 1) := by decide +kernel
theorem dX3_hasEachOnce_0 : decode cX3_hasEachOnce 0 = .ok (.iconst 0, 1) := by decide +kernel
theorem dX3_hasEachOnce_1 : decode cX3_hasEachOnce 1 = .ok (.istore_n 1, 1) := by decide +kernel
theorem dX3_hasEachOnce_2 : decode cX3_hasEachOnce 2 = .ok (.iload_n 1, 1) := by decide +kernel
theorem dX3_hasEachOnce_3 : decode cX3_hasEachOnce 3 = .ok (.aload_n 0, 1) := by decide +kernel
theorem dX3_hasEachOnce_4 : decode cX3_hasEachOnce 4 = .ok (.getfield 15, 3) := by decide +kernel
theorem dX3_hasEachOnce_7 : decode cX3_hasEachOnce 7 = .ok (.if_icmp .ge 16, 3) := by decide +kernel
theorem dX3_hasEachOnce_10 : decode cX3_hasEachOnce 10 = .ok (.aload_n 0, 1) := by decide +kernel
theorem dX3_hasEachOnce_11 : decode cX3_hasEachOnce 11 = .ok (.getfield 19, 3) := by decide +kernel
theorem dX3_hasEachOnce_14 : decode cX3_hasEachOnce 14 = .ok (.iload_n 1, 1) := by decide +kernel
theorem dX3_hasEachOnce_15 : decode cX3_hasEachOnce 15 = .ok (.iconst 0, 1) := by decide +kernel
theorem dX3_hasEachOnce_16 : decode cX3_hasEachOnce 16 = .ok (.iastore, 1) := by decide +kernel
theorem dX3_hasEachOnce_17 : decode cX3_hasEachOnce 17 = .ok (.iinc 1 1, 3) := by decide +kernel
theorem dX3_hasEachOnce_20 : decode cX3_hasEachOnce 20 = .ok (.goto (-18), 3) := by decide +kernel
theorem dX3_hasEachOnce_23 : decode cX3_hasEachOnce 23 = .ok (.iconst 0, 1) := by decide +kernel
theorem dX3_hasEachOnce_24 : decode cX3_hasEachOnce 24 = .ok (.istore_n 1, 1) := by decide +kernel
theorem dX3_hasEachOnce_25 : decode cX3_hasEachOnce 25 = .ok (.iload_n 1, 1) := by decide +kernel
theorem dX3_hasEachOnce_26 : decode cX3_hasEachOnce 26 = .ok (.aload_n 0, 1) := by decide +kernel
theorem dX3_hasEachOnce_27 : decode cX3_hasEachOnce 27 = .ok (.getfield 15, 3) := by decide +kernel
theorem dX3_hasEachOnce_30 : decode cX3_hasEachOnce 30 = .ok (.if_icmp .ge 46, 3) := by decide +kernel
theorem dX3_hasEachOnce_33 : decode cX3_hasEachOnce 33 = .ok (.aload_n 0, 1) := by decide +kernel
theorem dX3_hasEachOnce_34 : decode cX3_hasEachOnce 34 = .ok (.getfield 9, 3) := by decide +kernel
theorem dX3_hasEachOnce_37 : decode cX3_hasEachOnce 37 = .ok (.iload_n 1, 1) := by decide +kernel
theorem dX3_hasEachOnce_38 : decode cX3_hasEachOnce 38 = .ok (.iaload, 1) := by decide +kernel
theorem dX3_hasEachOnce_39 : decode cX3_hasEachOnce 39 = .ok (.istore_n 2, 1) := by decide +kernel
theorem dX3_hasEachOnce_40 : decode cX3_hasEachOnce 40 = .ok (.iload_n 2, 1) := by decide +kernel
theorem dX3_hasEachOnce_41 : decode cX3_hasEachOnce 41 = .ok (.ifCond .lt 20, 3) := by decide +kernel
theorem dX3_hasEachOnce_44 : decode cX3_hasEachOnce 44 = .ok (.iload_n 2, 1) := by decide +kernel
theorem dX3_hasEachOnce_45 : decode cX3_hasEachOnce 45 = .ok (.aload_n 0, 1) := by decide +kernel
theorem dX3_hasEachOnce_46 : decode cX3_hasEachOnce 46 = .ok (.getfield 15, 3) := by decide +kernel
theorem dX3_hasEachOnce_49 : decode cX3_hasEachOnce 49 = .ok (.if_icmp .ge 12, 3) := by decide +kernel
theorem dX3_hasEachOnce_52 : decode cX3_hasEachOnce 52 = .ok (.aload_n 0, 1) := by decide +kernel
theorem dX3_hasEachOnce_53 : decode cX3_hasEachOnce 53 = .ok (.getfield 19, 3) := by decide +kernel
theorem dX3_hasEachOnce_56 : decode cX3_hasEachOnce 56 = .ok (.iload_n 2, 1) := by decide +kernel
theorem dX3_hasEachOnce_57 : decode cX3_hasEachOnce 57 = .ok (.iaload, 1) := by decide +kernel
theorem dX3_hasEachOnce_58 : decode cX3_hasEachOnce 58 = .ok (.ifCond .le 5, 3) := by decide +kernel
theorem dX3_hasEachOnce_61 : decode cX3_hasEachOnce 61 = .ok (.iconst 0, 1) := by decide +kernel
theorem dX3_hasEachOnce_62 : decode cX3_hasEachOnce 62 = .ok (.ireturn, 1) := by decide +kernel
theorem dX3_hasEachOnce_63 : decode cX3_hasEachOnce 63 = .ok (.aload_n 0, 1) := by decide +kernel
theorem dX3_hasEachOnce_64 : decode cX3_hasEachOnce 64 = .ok (.getfield 19, 3) := by decide +kernel
theorem dX3_hasEachOnce_67 : decode cX3_hasEachOnce 67 = .ok (.iload_n 2, 1) := by decide +kernel
theorem dX3_hasEachOnce_68 : decode cX3_hasEachOnce 68 = .ok (.iconst 1, 1) := by decide +kernel
theorem dX3_hasEachOnce_69 : decode cX3_hasEachOnce 69 = .ok (.iastore, 1) := by decide +kernel
theorem dX3_hasEachOnce_70 : decode cX3_hasEachOnce 70 = .ok (.iinc 1 1, 3) := by decide +kernel
theorem dX3_hasEachOnce_73 : decode cX3_hasEachOnce 73 = .ok (.goto (-48), 3) := by decide +kernel
theorem dX3_hasEachOnce_76 : decode cX3_hasEachOnce 76 = .ok (.iconst 1, 1) := by decide +kernel
theorem dX3_hasEachOnce_77 : decode cX3_hasEachOnce 77 = .ok (.ireturn, 1) := by decide +kernel
set_option maxRecDepth 20000 in
theorem ggX3_beginStream_X2_begin : GoodIn wsX3_beginStream wsX2_begin := goodIn_r _ [7, 8, 34] (by decide +kernel) (by decide +kernel)
set_option maxRecDepth 20000 in
theorem gX3_beginStream_X2_begin : GoodIn wsX3_beginStream (wsV RX3 85 RX2 yX2_begin wsX2_begin) := goodIn_app (goodIn_of _ (by decide +kernel)) ggX3_beginStream_X2_begin
set_option maxRecDepth 20000 in
theorem ggX3_beginStream_X2_key : GoodIn wsX3_beginStream wsX2_key := goodIn_r _ [12, 8, 13, 14, 15, 6, 16, 17, 18, 34] (by decide +kernel) (by decide +kernel)
set_option maxRecDepth 20000 in
theorem gX3_beginStream_X2_key : GoodIn wsX3_beginStream (wsV RX3 91 RX2 yX2_key wsX2_key) := goodIn_app (goodIn_of _ (by decide +kernel)) ggX3_beginStream_X2_key
theorem dX3_beginStream_0 : decode cX3_beginStream 0 = .ok (.aload_n 0, 1) := by decide +kernel
theorem dX3_beginStream_1 : decode cX3_beginStream 1 = .ok (.getfield 42, 3) := by decide +kernel
theorem dX3_beginStream_4 : decode cX3_beginStream 4 = .ok (.aload_n 0, 1) := by decide +kernel
theorem dX3_beginStream_5 : decode cX3_beginStream 5 = .ok (.getfield 38, 3) := by decide +kernel
theorem dX3_beginStream_8 : decode cX3_beginStream 8 = .ok (.getfield 79, 3) := by decide +kernel
theorem dX3_beginStream_11 : decode cX3_beginStream 11 = .ok (.invokevirtual 85, 3) := by decide +kernel
theorem dX3_beginStream_14 : decode cX3_beginStream 14 = .ok (.aload_n 0, 1) := by decide +kernel
theorem dX3_beginStream_15 : decode cX3_beginStream 15 = .ok (.getfield 42, 3) := by decide +kernel
theorem dX3_beginStream_18 : decode cX3_beginStream 18 = .ok (.iload_n 1, 1) := by decide +kernel
theorem dX3_beginStream_19 : decode cX3_beginStream 19 = .ok (.invokevirtual 91, 3) := by decide +kernel
theorem dX3_beginStream_22 : decode cX3_beginStream 22 = .ok (.aload_n 0, 1) := by decide +kernel
theorem dX3_beginStream_23 : decode cX3_beginStream 23 = .ok (.getfield 42, 3) := by decide +kernel
theorem dX3_beginStream_26 : decode cX3_beginStream 26 = .ok (.iload_n 2, 1) := by decide +kernel
theorem dX3_beginStream_27 : decode cX3_beginStream 27 = .ok (.invokevirtual 91, 3) := by decide +kernel
theorem dX3_beginStream_30 : decode cX3_beginStream 30 = .ok (.return_, 1) := by decide +kernel
set_option maxRecDepth 20000 in
theorem ggX3_makePlain_X2_shuffle : GoodIn wsX3_makePlain wsX2_shuffle := goodIn_r _ [8, 9, 10, 11, 7, 12, 13, 14, 15, 16, 17, 18, 19, 30] (by decide +kernel) (by decide +kernel)
set_option maxRecDepth 20000 in
theorem gX3_makePlain_X2_shuffle : GoodIn wsX3_makePlain (wsV RX3 94 RX2 yX2_shuffle wsX2_shuffle) := goodIn_app (goodIn_of _ (by decide +kernel)) ggX3_makePlain_X2_shuffle
theorem dX3_makePlain_0 : decode cX3_makePlain 0 = .ok (.iconst 0, 1) := by decide +kernel
theorem dX3_makePlain_1 : decode cX3_makePlain 1 = .ok (.istore_n 1, 1) := by decide +kernel
theorem dX3_makePlain_2 : decode cX3_makePlain 2 = .ok (.iload_n 1, 1) := by decide +kernel
theorem dX3_makePlain_3 : decode cX3_makePlain 3 = .ok (.aload_n 0, 1) := by decide +kernel
theorem dX3_makePlain_4 : decode cX3_makePlain 4 = .ok (.getfield 15, 3) := by decide +kernel
theorem dX3_makePlain_7 : decode cX3_makePlain 7 = .ok (.if_icmp .ge 16, 3) := by decide +kernel
theorem dX3_makePlain_10 : decode cX3_makePlain 10 = .ok (.aload_n 0, 1) := by decide +kernel
theorem dX3_makePlain_11 : decode cX3_makePlain 11 = .ok (.getfield 9, 3) := by decide +kernel
theorem dX3_makePlain_14 : decode cX3_makePlain 14 = .ok (.iload_n 1, 1) := by decide +kernel
theorem dX3_makePlain_15 : decode cX3_makePlain 15 = .ok (.iload_n 1, 1) := by decide +kernel
theorem dX3_makePlain_16 : decode cX3_makePlain 16 = .ok (.iastore, 1) := by decide +kernel
theorem dX3_makePlain_17 : decode cX3_makePlain 17 = .ok (.iinc 1 1, 3) := by decide +kernel
theorem dX3_makePlain_20 : decode cX3_makePlain 20 = .ok (.goto (-18), 3) := by decide +kernel
theorem dX3_makePlain_23 : decode cX3_makePlain 23 = .ok (.aload_n 0, 1) := by decide +kernel
theorem dX3_makePlain_24 : decode cX3_makePlain 24 = .ok (.getfield 42, 3) := by decide +kernel
theorem dX3_makePlain_27 : decode cX3_makePlain 27 = .ok (.aload_n 0, 1) := by decide +kernel
theorem dX3_makePlain_28 : decode cX3_makePlain 28 = .ok (.getfield 9, 3) := by decide +kernel
theorem dX3_makePlain_31 : decode cX3_makePlain 31 = .ok (.iconst 0, 1) := by decide +kernel
theorem dX3_makePlain_32 : decode cX3_makePlain 32 = .ok (.aload_n 0, 1) := by decide +kernel
theorem dX3_makePlain_33 : decode cX3_makePlain 33 = .ok (.getfield 15, 3) := by decide +kernel
theorem dX3_makePlain_36 : decode cX3_makePlain 36 = .ok (.invokevirtual 94, 3) := by decide +kernel
theorem dX3_makePlain_39 : decode cX3_makePlain 39 = .ok (.return_, 1) := by decide +kernel
set_option maxRecDepth 20000 in
theorem ggX3_sortParts_X3_sortByLength : GoodIn wsX3_sortParts wsX3_sortByLength := goodIn_r _ [14, 15, 16, 17, 18, 19, 20, 21, 22, 23, 24, 25, 26, 27, 28, 29, 30, 31, 32, 33, 34, 35, 36, 37, 38, 39, 40, 41, 47, 48, 49, 50, 51, 52, 53, 54, 55] (by decide +kernel) (by decide +kernel)
set_option maxRecDepth 20000 in
theorem gX3_sortParts_X3_sortByLength : GoodIn wsX3_sortParts (wsV RX3 104 RX3 yX3_sortByLength wsX3_sortByLength) := goodIn_app (goodIn_of _ (by decide +kernel)) ggX3_sortParts_X3_sortByLength
theorem dX3_sortParts_0 : decode cX3_sortParts 0 = .ok (.iconst 1, 1) := by decide +kernel
theorem dX3_sortParts_1 : decode cX3_sortParts 1 = .ok (.aload_n 0, 1) := by decide +kernel
theorem dX3_sortParts_2 : decode cX3_sortParts 2 = .ok (.getfield 38, 3) := by decide +kernel
theorem dX3_sortParts_5 : decode cX3_sortParts 5 = .ok (.getfield 98, 3) := by decide +kernel
theorem dX3_sortParts_8 : decode cX3_sortParts 8 = .ok (.invokestatic 101, 3) := by decide +kernel
theorem dX3_sortParts_11 : decode cX3_sortParts 11 = .ok (.istore_n 1, 1) := by decide +kernel
theorem dX3_sortParts_12 : decode cX3_sortParts 12 = .ok (.iconst 0, 1) := by decide +kernel
theorem dX3_sortParts_13 : decode cX3_sortParts 13 = .ok (.istore_n 2, 1) := by decide +kernel
theorem dX3_sortParts_14 : decode cX3_sortParts 14 = .ok (.iload_n 2, 1) := by decide +kernel
theorem dX3_sortParts_15 : decode cX3_sortParts 15 = .ok (.aload_n 0, 1) := by decide +kernel
theorem dX3_sortParts_16 : decode cX3_sortParts 16 = .ok (.getfield 15, 3) := by decide +kernel
theorem dX3_sortParts_19 : decode cX3_sortParts 19 = .ok (.if_icmp .ge 25, 3) := by decide +kernel
theorem dX3_sortParts_22 : decode cX3_sortParts 22 = .ok (.aload_n 0, 1) := by decide +kernel
theorem dX3_sortParts_23 : decode cX3_sortParts 23 = .ok (.iload_n 2, 1) := by decide +kernel
theorem dX3_sortParts_24 : decode cX3_sortParts 24 = .ok (.aload_n 0, 1) := by decide +kernel
theorem dX3_sortParts_25 : decode cX3_sortParts 25 = .ok (.getfield 15, 3) := by decide +kernel
theorem dX3_sortParts_28 : decode cX3_sortParts 28 = .ok (.iload_n 2, 1) := by decide +kernel
theorem dX3_sortParts_29 : decode cX3_sortParts 29 = .ok (.iload_n 1, 1) := by decide +kernel
theorem dX3_sortParts_30 : decode cX3_sortParts 30 = .ok (.iadd, 1) := by decide +kernel
theorem dX3_sortParts_31 : decode cX3_sortParts 31 = .ok (.invokestatic 49, 3) := by decide +kernel
theorem dX3_sortParts_34 : decode cX3_sortParts 34 = .ok (.invokevirtual 104, 3) := by decide +kernel
theorem dX3_sortParts_37 : decode cX3_sortParts 37 = .ok (.iload_n 2, 1) := by decide +kernel
theorem dX3_sortParts_38 : decode cX3_sortParts 38 = .ok (.iload_n 1, 1) := by decide +kernel
theorem dX3_sortParts_39 : decode cX3_sortParts 39 = .ok (.iadd, 1) := by decide +kernel
theorem dX3_sortParts_40 : decode cX3_sortParts 40 = .ok (.istore_n 2, 1) := by decide +kernel
theorem dX3_sortParts_41 : decode cX3_sortParts 41 = .ok (.goto (-27), 3) := by decide +kernel
theorem dX3_sortParts_44 : decode cX3_sortParts 44 = .ok (.return_, 1) := by decide +kernel
set_option maxRecDepth 20000 in
theorem ggX3_sortByLength_X4_length : GoodIn wsX3_sortByLength wsX4_length := goodIn_r _ [7, 8, 9, 10, 6, 11, 12, 13, 14, 15, 16, 17, 28, 29, 30, 31, 32, 33, 34, 35, 36] (by decide +kernel) (by decide +kernel)
set_option maxRecDepth 20000 in
theorem gX3_sortByLength_X4_length : GoodIn wsX3_sortByLength (wsV RX3 107 RX4 yX4_length wsX4_length) := goodIn_app (goodIn_of _ (by decide +kernel)) ggX3_sortByLength_X4_length
theorem dX3_sortByLength_0 : decode cX3_sortByLength 0 = .ok (.iload_n 1, 1) := by decide +kernel
theorem dX3_sortByLength_1 : decode cX3_sortByLength 1 = .ok (.iconst 1, 1) := by decide +kernel
theorem dX3_sortByLength_2 : decode cX3_sortByLength 2 = .ok (.iadd, 1) := by decide +kernel
theorem dX3_sortByLength_3 : decode cX3_sortByLength 3 = .ok (.istore_n 3, 1) := by decide +kernel
theorem dX3_sortByLength_4 : decode cX3_sortByLength 4 = .ok (.iload_n 3, 1) := by decide +kernel
theorem dX3_sortByLength_5 : decode cX3_sortByLength 5 = .ok (.iload_n 2, 1) := by decide +kernel
theorem dX3_sortByLength_6 : decode cX3_sortByLength 6 = .ok (.if_icmp .ge 89, 3) := by decide +kernel
theorem dX3_sortByLength_9 : decode cX3_sortByLength 9 = .ok (.aload_n 0, 1) := by decide +kernel
theorem dX3_sortByLength_10 : decode cX3_sortByLength 10 = .ok (.getfield 9, 3) := by decide +kernel
theorem dX3_sortByLength_13 : decode cX3_sortByLength 13 = .ok (.iload_n 3, 1) := by decide +kernel
theorem dX3_sortByLength_14 : decode cX3_sortByLength 14 = .ok (.iaload, 1) := by decide +kernel
theorem dX3_sortByLength_15 : decode cX3_sortByLength 15 = .ok (.istore 4, 2) := by decide +kernel
theorem dX3_sortByLength_17 : decode cX3_sortByLength 17 = .ok (.aload_n 0, 1) := by decide +kernel
theorem dX3_sortByLength_18 : decode cX3_sortByLength 18 = .ok (.getfield 34, 3) := by decide +kernel
theorem dX3_sortByLength_21 : decode cX3_sortByLength 21 = .ok (.iload 4, 2) := by decide +kernel
theorem dX3_sortByLength_23 : decode cX3_sortByLength 23 = .ok (.invokevirtual 107, 3) := by decide +kernel
theorem dX3_sortByLength_26 : decode cX3_sortByLength 26 = .ok (.istore 5, 2) := by decide +kernel
theorem dX3_sortByLength_28 : decode cX3_sortByLength 28 = .ok (.iload_n 3, 1) := by decide +kernel
theorem dX3_sortByLength_29 : decode cX3_sortByLength 29 = .ok (.istore 6, 2) := by decide +kernel
theorem dX3_sortByLength_31 : decode cX3_sortByLength 31 = .ok (.iload 6, 2) := by decide +kernel
theorem dX3_sortByLength_33 : decode cX3_sortByLength 33 = .ok (.iload_n 1, 1) := by decide +kernel
theorem dX3_sortByLength_34 : decode cX3_sortByLength 34 = .ok (.if_icmp .le 46, 3) := by decide +kernel
theorem dX3_sortByLength_37 : decode cX3_sortByLength 37 = .ok (.aload_n 0, 1) := by decide +kernel
theorem dX3_sortByLength_38 : decode cX3_sortByLength 38 = .ok (.getfield 34, 3) := by decide +kernel
theorem dX3_sortByLength_41 : decode cX3_sortByLength 41 = .ok (.aload_n 0, 1) := by decide +kernel
theorem dX3_sortByLength_42 : decode cX3_sortByLength 42 = .ok (.getfield 9, 3) := by decide +kernel
theorem dX3_sortByLength_45 : decode cX3_sortByLength 45 = .ok (.iload 6, 2) := by decide +kernel
theorem dX3_sortByLength_47 : decode cX3_sortByLength 47 = .ok (.iconst 1, 1) := by decide +kernel
theorem dX3_sortByLength_48 : decode cX3_sortByLength 48 = .ok (.isub, 1) := by decide +kernel
theorem dX3_sortByLength_49 : decode cX3_sortByLength 49 = .ok (.iaload, 1) := by decide +kernel
theorem dX3_sortByLength_50 : decode cX3_sortByLength 50 = .ok (.invokevirtual 107, 3) := by decide +kernel
theorem dX3_sortByLength_53 : decode cX3_sortByLength 53 = .ok (.iload 5, 2) := by decide +kernel
theorem dX3_sortByLength_55 : decode cX3_sortByLength 55 = .ok (.if_icmp .le 25, 3) := by decide +kernel
theorem dX3_sortByLength_58 : decode cX3_sortByLength 58 = .ok (.aload_n 0, 1) := by decide +kernel
theorem dX3_sortByLength_59 : decode cX3_sortByLength 59 = .ok (.getfield 9, 3) := by decide +kernel
theorem dX3_sortByLength_62 : decode cX3_sortByLength 62 = .ok (.iload 6, 2) := by decide +kernel
theorem dX3_sortByLength_64 : decode cX3_sortByLength 64 = .ok (.aload_n 0, 1) := by decide +kernel
theorem dX3_sortByLength_65 : decode cX3_sortByLength 65 = .ok (.getfield 9, 3) := by decide +kernel
theorem dX3_sortByLength_68 : decode cX3_sortByLength 68 = .ok (.iload 6, 2) := by decide +kernel
theorem dX3_sortByLength_70 : decode cX3_sortByLength 70 = .ok (.iconst 1, 1) := by decide +kernel
theorem dX3_sortByLength_71 : decode cX3_sortByLength 71 = .ok (.isub, 1) := by decide +kernel
theorem dX3_sortByLength_72 : decode cX3_sortByLength 72 = .ok (.iaload, 1) := by decide +kernel
theorem dX3_sortByLength_73 : decode cX3_sortByLength 73 = .ok (.iastore, 1) := by decide +kernel
theorem dX3_sortByLength_74 : decode cX3_sortByLength 74 = .ok (.iinc 6 (-1), 3) := by decide +kernel
theorem dX3_sortByLength_77 : decode cX3_sortByLength 77 = .ok (.goto (-46), 3) := by decide +kernel
theorem dX3_sortByLength_80 : decode cX3_sortByLength 80 = .ok (.aload_n 0, 1) := by decide +kernel
theorem dX3_sortByLength_81 : decode cX3_sortByLength 81 = .ok (.getfield 9, 3) := by decide +kernel
theorem dX3_sortByLength_84 : decode cX3_sortByLength 84 = .ok (.iload 6, 2) := by decide +kernel
theorem dX3_sortByLength_86 : decode cX3_sortByLength 86 = .ok (.iload 4, 2) := by decide +kernel
theorem dX3_sortByLength_88 : decode cX3_sortByLength 88 = .ok (.iastore, 1) := by decide +kernel
theorem dX3_sortByLength_89 : decode cX3_sortByLength 89 = .ok (.iinc 3 1, 3) := by decide +kernel
theorem dX3_sortByLength_92 : decode cX3_sortByLength 92 = .ok (.goto (-88), 3) := by decide +kernel
theorem dX3_sortByLength_95 : decode cX3_sortByLength 95 = .ok (.return_, 1) := by decide +kernel
set_option maxRecDepth 20000 in
theorem ggX3_makeWeighted_X4_sumOfWeights : GoodIn wsX3_makeWeighted wsX4_sumOfWeights := goodIn_r _ [9, 10, 11, 12, 13, 8, 14, 15, 16, 17, 18, 19, 48, 49, 50, 51] (by decide +kernel) (by decide +kernel)
set_option maxRecDepth 20000 in
theorem gX3_makeWeighted_X4_sumOfWeights : GoodIn wsX3_makeWeighted (wsV RX3 55 RX4 yX4_sumOfWeights wsX4_sumOfWeights) := goodIn_app (goodIn_of _ (by decide +kernel)) ggX3_makeWeighted_X4_sumOfWeights
set_option maxRecDepth 20000 in
theorem ggX3_makeWeighted_X2_below : GoodIn wsX3_makeWeighted wsX2_below := goodIn_r _ [24, 25, 26, 27, 28, 23, 29, 30, 31, 52] (by decide +kernel) (by decide +kernel)
set_option maxRecDepth 20000 in
theorem gX3_makeWeighted_X2_below : GoodIn wsX3_makeWeighted (wsV RX3 111 RX2 yX2_below wsX2_below) := goodIn_app (goodIn_of _ (by decide +kernel)) ggX3_makeWeighted_X2_below
set_option maxRecDepth 20000 in
theorem ggX3_makeWeighted_X3_rowAbove : GoodIn wsX3_makeWeighted wsX3_rowAbove := goodIn_r _ [36, 2, 1, 37, 12, 13, 8, 14, 15, 16, 17, 18, 19, 10, 38, 39, 40, 41, 42, 43, 44, 45, 46, 47, 48, 49, 50, 51] (by decide +kernel) (by decide +kernel)
set_option maxRecDepth 20000 in
theorem gX3_makeWeighted_X3_rowAbove : GoodIn wsX3_makeWeighted (wsV RX3 114 RX3 yX3_rowAbove wsX3_rowAbove) := goodIn_app (goodIn_of _ (by decide +kernel)) ggX3_makeWeighted_X3_rowAbove
theorem dX3_makeWeighted_0 : decode cX3_makeWeighted 0 = .ok (.aload_n 0, 1) := by decide +kernel
theorem dX3_makeWeighted_1 : decode cX3_makeWeighted 1 = .ok (.getfield 34, 3) := by decide +kernel
theorem dX3_makeWeighted_4 : decode cX3_makeWeighted 4 = .ok (.invokevirtual 55, 3) := by decide +kernel
theorem dX3_makeWeighted_7 : decode cX3_makeWeighted 7 = .ok (.istore_n 1, 1) := by decide +kernel
theorem dX3_makeWeighted_8 : decode cX3_makeWeighted 8 = .ok (.iconst 0, 1) := by decide +kernel
theorem dX3_makeWeighted_9 : decode cX3_makeWeighted 9 = .ok (.istore_n 2, 1) := by decide +kernel
theorem dX3_makeWeighted_10 : decode cX3_makeWeighted 10 = .ok (.iload_n 2, 1) := by decide +kernel
theorem dX3_makeWeighted_11 : decode cX3_makeWeighted 11 = .ok (.aload_n 0, 1) := by decide +kernel
theorem dX3_makeWeighted_12 : decode cX3_makeWeighted 12 = .ok (.getfield 15, 3) := by decide +kernel
theorem dX3_makeWeighted_15 : decode cX3_makeWeighted 15 = .ok (.if_icmp .ge 27, 3) := by decide +kernel
theorem dX3_makeWeighted_18 : decode cX3_makeWeighted 18 = .ok (.aload_n 0, 1) := by decide +kernel
theorem dX3_makeWeighted_19 : decode cX3_makeWeighted 19 = .ok (.getfield 9, 3) := by decide +kernel
theorem dX3_makeWeighted_22 : decode cX3_makeWeighted 22 = .ok (.iload_n 2, 1) := by decide +kernel
theorem dX3_makeWeighted_23 : decode cX3_makeWeighted 23 = .ok (.aload_n 0, 1) := by decide +kernel
theorem dX3_makeWeighted_24 : decode cX3_makeWeighted 24 = .ok (.aload_n 0, 1) := by decide +kernel
theorem dX3_makeWeighted_25 : decode cX3_makeWeighted 25 = .ok (.getfield 42, 3) := by decide +kernel
theorem dX3_makeWeighted_28 : decode cX3_makeWeighted 28 = .ok (.iload_n 1, 1) := by decide +kernel
theorem dX3_makeWeighted_29 : decode cX3_makeWeighted 29 = .ok (.invokevirtual 111, 3) := by decide +kernel
theorem dX3_makeWeighted_32 : decode cX3_makeWeighted 32 = .ok (.invokevirtual 114, 3) := by decide +kernel
theorem dX3_makeWeighted_35 : decode cX3_makeWeighted 35 = .ok (.iastore, 1) := by decide +kernel
theorem dX3_makeWeighted_36 : decode cX3_makeWeighted 36 = .ok (.iinc 2 1, 3) := by decide +kernel
theorem dX3_makeWeighted_39 : decode cX3_makeWeighted 39 = .ok (.goto (-29), 3) := by decide +kernel
theorem dX3_makeWeighted_42 : decode cX3_makeWeighted 42 = .ok (.return_, 1) := by decide +kernel
set_option maxRecDepth 20000 in
theorem ggX3_rowAbove_X4_weight : GoodIn wsX3_rowAbove wsX4_weight := goodIn_r _ [7, 8, 9, 10, 11, 6, 12, 13, 24, 25, 26, 27] (by decide +kernel) (by decide +kernel)
set_option maxRecDepth 20000 in
theorem gX3_rowAbove_X4_weight : GoodIn wsX3_rowAbove (wsV RX3 117 RX4 yX4_weight wsX4_weight) := goodIn_app (goodIn_of _ (by decide +kernel)) ggX3_rowAbove_X4_weight
theorem dX3_rowAbove_0 : decode cX3_rowAbove 0 = .ok (.iconst 0, 1) := by decide +kernel
theorem dX3_rowAbove_1 : decode cX3_rowAbove 1 = .ok (.istore_n 2, 1) := by decide +kernel
theorem dX3_rowAbove_2 : decode cX3_rowAbove 2 = .ok (.iconst 0, 1) := by decide +kernel
theorem dX3_rowAbove_3 : decode cX3_rowAbove 3 = .ok (.istore_n 3, 1) := by decide +kernel
theorem dX3_rowAbove_4 : decode cX3_rowAbove 4 = .ok (.iload_n 3, 1) := by decide +kernel
theorem dX3_rowAbove_5 : decode cX3_rowAbove 5 = .ok (.aload_n 0, 1) := by decide +kernel
theorem dX3_rowAbove_6 : decode cX3_rowAbove 6 = .ok (.getfield 15, 3) := by decide +kernel
theorem dX3_rowAbove_9 : decode cX3_rowAbove 9 = .ok (.if_icmp .ge 27, 3) := by decide +kernel
theorem dX3_rowAbove_12 : decode cX3_rowAbove 12 = .ok (.iload_n 2, 1) := by decide +kernel
theorem dX3_rowAbove_13 : decode cX3_rowAbove 13 = .ok (.aload_n 0, 1) := by decide +kernel
theorem dX3_rowAbove_14 : decode cX3_rowAbove 14 = .ok (.getfield 34, 3) := by decide +kernel
theorem dX3_rowAbove_17 : decode cX3_rowAbove 17 = .ok (.iload_n 3, 1) := by decide +kernel
theorem dX3_rowAbove_18 : decode cX3_rowAbove 18 = .ok (.invokevirtual 117, 3) := by decide +kernel
theorem dX3_rowAbove_21 : decode cX3_rowAbove 21 = .ok (.iadd, 1) := by decide +kernel
theorem dX3_rowAbove_22 : decode cX3_rowAbove 22 = .ok (.istore_n 2, 1) := by decide +kernel
theorem dX3_rowAbove_23 : decode cX3_rowAbove 23 = .ok (.iload_n 2, 1) := by decide +kernel
theorem dX3_rowAbove_24 : decode cX3_rowAbove 24 = .ok (.iload_n 1, 1) := by decide +kernel
theorem dX3_rowAbove_25 : decode cX3_rowAbove 25 = .ok (.if_icmp .le 5, 3) := by decide +kernel
theorem dX3_rowAbove_28 : decode cX3_rowAbove 28 = .ok (.iload_n 3, 1) := by decide +kernel
theorem dX3_rowAbove_29 : decode cX3_rowAbove 29 = .ok (.ireturn, 1) := by decide +kernel
theorem dX3_rowAbove_30 : decode cX3_rowAbove 30 = .ok (.iinc 3 1, 3) := by decide +kernel
theorem dX3_rowAbove_33 : decode cX3_rowAbove 33 = .ok (.goto (-29), 3) := by decide +kernel
theorem dX3_rowAbove_36 : decode cX3_rowAbove 36 = .ok (.bipush (-3), 2) := by decide +kernel
theorem dX3_rowAbove_38 : decode cX3_rowAbove 38 = .ok (.ireturn, 1) := by decide +kernel
set_option maxRecDepth 20000 in
theorem ggX3_makeBalanced_X3_layOutLabels : GoodIn wsX3_makeBalanced wsX3_layOutLabels := goodIn_r _ [10, 1, 11, 5, 2, 3, 12, 13, 14, 15, 16, 17, 18, 19, 20, 21, 22, 23, 63, 64, 65, 66, 67, 68, 69, 70, 71, 72, 73, 74, 75, 76] (by decide +kernel) (by decide +kernel)
set_option maxRecDepth 20000 in
theorem gX3_makeBalanced_X3_layOutLabels : GoodIn wsX3_makeBalanced (wsV RX3 120 RX3 yX3_layOutLabels wsX3_layOutLabels) := goodIn_app (goodIn_of _ (by decide +kernel)) ggX3_makeBalanced_X3_layOutLabels
set_option maxRecDepth 20000 in
theorem ggX3_makeBalanced_X3_mixLabel : GoodIn wsX3_makeBalanced wsX3_mixLabel := goodIn_r _ [27, 5, 1, 11, 28, 29, 12, 2, 3, 13, 14, 15, 16, 17, 18, 19, 20, 21, 22, 23, 30, 31, 32, 9, 33, 34, 35, 36, 37, 38, 39, 40, 41, 42, 43, 44, 45, 46, 47, 48, 49, 50, 51, 52, 53, 54, 55, 56, 57, 58, 63, 64, 65, 66, 67, 68, 69, 70, 71, 72, 73, 74, 75, 76, 77, 78, 79, 80, 81, 82] (by decide +kernel) (by decide +kernel)
set_option maxRecDepth 20000 in
theorem gX3_makeBalanced_X3_mixLabel : GoodIn wsX3_makeBalanced (wsV RX3 123 RX3 yX3_mixLabel wsX3_mixLabel) := goodIn_app (goodIn_of _ (by decide +kernel)) ggX3_makeBalanced_X3_mixLabel
set_option maxRecDepth 20000 in
theorem ggX3_makeBalanced_X3_rowHeld : GoodIn wsX3_makeBalanced wsX3_rowHeld := goodIn_r _ [62, 28, 63, 64, 65, 66, 67, 68, 69, 70, 71, 72] (by decide +kernel) (by decide +kernel)
set_option maxRecDepth 20000 in
theorem gX3_makeBalanced_X3_rowHeld : GoodIn wsX3_makeBalanced (wsV RX3 126 RX3 yX3_rowHeld wsX3_rowHeld) := goodIn_app (goodIn_of _ (by decide +kernel)) ggX3_makeBalanced_X3_rowHeld
theorem dX3_makeBalanced_0 : decode cX3_makeBalanced 0 = .ok (.aload_n 0, 1) := by decide +kernel
theorem dX3_makeBalanced_1 : decode cX3_makeBalanced 1 = .ok (.invokevirtual 120, 3) := by decide +kernel
theorem dX3_makeBalanced_4 : decode cX3_makeBalanced 4 = .ok (.iconst 0, 1) := by decide +kernel
theorem dX3_makeBalanced_5 : decode cX3_makeBalanced 5 = .ok (.istore_n 2, 1) := by decide +kernel
theorem dX3_makeBalanced_6 : decode cX3_makeBalanced 6 = .ok (.iconst 0, 1) := by decide +kernel
theorem dX3_makeBalanced_7 : decode cX3_makeBalanced 7 = .ok (.istore_n 3, 1) := by decide +kernel
theorem dX3_makeBalanced_8 : decode cX3_makeBalanced 8 = .ok (.iload_n 3, 1) := by decide +kernel
theorem dX3_makeBalanced_9 : decode cX3_makeBalanced 9 = .ok (.sipush 480, 3) := by decide +kernel
theorem dX3_makeBalanced_12 : decode cX3_makeBalanced 12 = .ok (.if_icmp .ge 100, 3) := by decide +kernel
theorem dX3_makeBalanced_15 : decode cX3_makeBalanced 15 = .ok (.iload_n 2, 1) := by decide +kernel
theorem dX3_makeBalanced_16 : decode cX3_makeBalanced 16 = .ok (.aload_n 0, 1) := by decide +kernel
theorem dX3_makeBalanced_17 : decode cX3_makeBalanced 17 = .ok (.getfield 15, 3) := by decide +kernel
theorem dX3_makeBalanced_20 : decode cX3_makeBalanced 20 = .ok (.if_icmp .ge 92, 3) := by decide +kernel
theorem dX3_makeBalanced_23 : decode cX3_makeBalanced 23 = .ok (.iload_n 3, 1) := by decide +kernel
theorem dX3_makeBalanced_24 : decode cX3_makeBalanced 24 = .ok (.bipush 8, 2) := by decide +kernel
theorem dX3_makeBalanced_26 : decode cX3_makeBalanced 26 = .ok (.irem, 1) := by decide +kernel
theorem dX3_makeBalanced_27 : decode cX3_makeBalanced 27 = .ok (.istore 4, 2) := by decide +kernel
theorem dX3_makeBalanced_29 : decode cX3_makeBalanced 29 = .ok (.aload_n 0, 1) := by decide +kernel
theorem dX3_makeBalanced_30 : decode cX3_makeBalanced 30 = .ok (.getfield 25, 3) := by decide +kernel
theorem dX3_makeBalanced_33 : decode cX3_makeBalanced 33 = .ok (.iload 4, 2) := by decide +kernel
theorem dX3_makeBalanced_35 : decode cX3_makeBalanced 35 = .ok (.iaload, 1) := by decide +kernel
theorem dX3_makeBalanced_36 : decode cX3_makeBalanced 36 = .ok (.iconst 1, 1) := by decide +kernel
theorem dX3_makeBalanced_37 : decode cX3_makeBalanced 37 = .ok (.if_icmp .ge 6, 3) := by decide +kernel
theorem dX3_makeBalanced_40 : decode cX3_makeBalanced 40 = .ok (.goto 66, 3) := by decide +kernel
theorem dX3_makeBalanced_43 : decode cX3_makeBalanced 43 = .ok (.aload_n 0, 1) := by decide +kernel
theorem dX3_makeBalanced_44 : decode cX3_makeBalanced 44 = .ok (.getfield 28, 3) := by decide +kernel
theorem dX3_makeBalanced_47 : decode cX3_makeBalanced 47 = .ok (.iload 4, 2) := by decide +kernel
theorem dX3_makeBalanced_49 : decode cX3_makeBalanced 49 = .ok (.iaload, 1) := by decide +kernel
theorem dX3_makeBalanced_50 : decode cX3_makeBalanced 50 = .ok (.aload_n 0, 1) := by decide +kernel
theorem dX3_makeBalanced_51 : decode cX3_makeBalanced 51 = .ok (.getfield 25, 3) := by decide +kernel
theorem dX3_makeBalanced_54 : decode cX3_makeBalanced 54 = .ok (.iload 4, 2) := by decide +kernel
theorem dX3_makeBalanced_56 : decode cX3_makeBalanced 56 = .ok (.iaload, 1) := by decide +kernel
theorem dX3_makeBalanced_57 : decode cX3_makeBalanced 57 = .ok (.if_icmp .lt 10, 3) := by decide +kernel
theorem dX3_makeBalanced_60 : decode cX3_makeBalanced 60 = .ok (.aload_n 0, 1) := by decide +kernel
theorem dX3_makeBalanced_61 : decode cX3_makeBalanced 61 = .ok (.iload 4, 2) := by decide +kernel
theorem dX3_makeBalanced_63 : decode cX3_makeBalanced 63 = .ok (.iload_n 1, 1) := by decide +kernel
theorem dX3_makeBalanced_64 : decode cX3_makeBalanced 64 = .ok (.invokevirtual 123, 3) := by decide +kernel
theorem dX3_makeBalanced_67 : decode cX3_makeBalanced 67 = .ok (.aload_n 0, 1) := by decide +kernel
theorem dX3_makeBalanced_68 : decode cX3_makeBalanced 68 = .ok (.getfield 9, 3) := by decide +kernel
theorem dX3_makeBalanced_71 : decode cX3_makeBalanced 71 = .ok (.iload_n 2, 1) := by decide +kernel
theorem dX3_makeBalanced_72 : decode cX3_makeBalanced 72 = .ok (.aload_n 0, 1) := by decide +kernel
theorem dX3_makeBalanced_73 : decode cX3_makeBalanced 73 = .ok (.aload_n 0, 1) := by decide +kernel
theorem dX3_makeBalanced_74 : decode cX3_makeBalanced 74 = .ok (.getfield 22, 3) := by decide +kernel
theorem dX3_makeBalanced_77 : decode cX3_makeBalanced 77 = .ok (.iload 4, 2) := by decide +kernel
theorem dX3_makeBalanced_79 : decode cX3_makeBalanced 79 = .ok (.iaload, 1) := by decide +kernel
theorem dX3_makeBalanced_80 : decode cX3_makeBalanced 80 = .ok (.aload_n 0, 1) := by decide +kernel
theorem dX3_makeBalanced_81 : decode cX3_makeBalanced 81 = .ok (.getfield 28, 3) := by decide +kernel
theorem dX3_makeBalanced_84 : decode cX3_makeBalanced 84 = .ok (.iload 4, 2) := by decide +kernel
theorem dX3_makeBalanced_86 : decode cX3_makeBalanced 86 = .ok (.iaload, 1) := by decide +kernel
theorem dX3_makeBalanced_87 : decode cX3_makeBalanced 87 = .ok (.iadd, 1) := by decide +kernel
theorem dX3_makeBalanced_88 : decode cX3_makeBalanced 88 = .ok (.invokevirtual 126, 3) := by decide +kernel
theorem dX3_makeBalanced_91 : decode cX3_makeBalanced 91 = .ok (.iastore, 1) := by decide +kernel
theorem dX3_makeBalanced_92 : decode cX3_makeBalanced 92 = .ok (.aload_n 0, 1) := by decide +kernel
theorem dX3_makeBalanced_93 : decode cX3_makeBalanced 93 = .ok (.getfield 28, 3) := by decide +kernel
theorem dX3_makeBalanced_96 : decode cX3_makeBalanced 96 = .ok (.iload 4, 2) := by decide +kernel
theorem dX3_makeBalanced_98 : decode cX3_makeBalanced 98 = .ok (.dup2, 1) := by decide +kernel
theorem dX3_makeBalanced_99 : decode cX3_makeBalanced 99 = .ok (.iaload, 1) := by decide +kernel
theorem dX3_makeBalanced_100 : decode cX3_makeBalanced 100 = .ok (.iconst 1, 1) := by decide +kernel
theorem dX3_makeBalanced_101 : decode cX3_makeBalanced 101 = .ok (.iadd, 1) := by decide +kernel
theorem dX3_makeBalanced_102 : decode cX3_makeBalanced 102 = .ok (.iastore, 1) := by decide +kernel
theorem dX3_makeBalanced_103 : decode cX3_makeBalanced 103 = .ok (.iinc 2 1, 3) := by decide +kernel
theorem dX3_makeBalanced_106 : decode cX3_makeBalanced 106 = .ok (.iinc 3 1, 3) := by decide +kernel
theorem dX3_makeBalanced_109 : decode cX3_makeBalanced 109 = .ok (.goto (-101), 3) := by decide +kernel
theorem dX3_makeBalanced_112 : decode cX3_makeBalanced 112 = .ok (.return_, 1) := by decide +kernel
set_option maxRecDepth 20000 in
theorem ggX3_layOutLabels_X4_label : GoodIn wsX3_layOutLabels wsX4_label := goodIn_r _ [11, 12, 13, 14, 15, 10, 16, 17, 28, 29, 30, 31] (by decide +kernel) (by decide +kernel)
set_option maxRecDepth 20000 in
theorem gX3_layOutLabels_X4_label : GoodIn wsX3_layOutLabels (wsV RX3 129 RX4 yX4_label wsX4_label) := goodIn_app (goodIn_of _ (by decide +kernel)) ggX3_layOutLabels_X4_label
theorem dX3_layOutLabels_0 : decode cX3_layOutLabels 0 = .ok (.iconst 0, 1) := by decide +kernel
theorem dX3_layOutLabels_1 : decode cX3_layOutLabels 1 = .ok (.istore_n 1, 1) := by decide +kernel
theorem dX3_layOutLabels_2 : decode cX3_layOutLabels 2 = .ok (.iconst 0, 1) := by decide +kernel
theorem dX3_layOutLabels_3 : decode cX3_layOutLabels 3 = .ok (.istore_n 2, 1) := by decide +kernel
theorem dX3_layOutLabels_4 : decode cX3_layOutLabels 4 = .ok (.iload_n 2, 1) := by decide +kernel
theorem dX3_layOutLabels_5 : decode cX3_layOutLabels 5 = .ok (.bipush 8, 2) := by decide +kernel
theorem dX3_layOutLabels_7 : decode cX3_layOutLabels 7 = .ok (.if_icmp .ge 77, 3) := by decide +kernel
theorem dX3_layOutLabels_10 : decode cX3_layOutLabels 10 = .ok (.iconst 0, 1) := by decide +kernel
theorem dX3_layOutLabels_11 : decode cX3_layOutLabels 11 = .ok (.istore_n 3, 1) := by decide +kernel
theorem dX3_layOutLabels_12 : decode cX3_layOutLabels 12 = .ok (.iconst 0, 1) := by decide +kernel
theorem dX3_layOutLabels_13 : decode cX3_layOutLabels 13 = .ok (.istore 4, 2) := by decide +kernel
theorem dX3_layOutLabels_15 : decode cX3_layOutLabels 15 = .ok (.iload 4, 2) := by decide +kernel
theorem dX3_layOutLabels_17 : decode cX3_layOutLabels 17 = .ok (.aload_n 0, 1) := by decide +kernel
theorem dX3_layOutLabels_18 : decode cX3_layOutLabels 18 = .ok (.getfield 15, 3) := by decide +kernel
theorem dX3_layOutLabels_21 : decode cX3_layOutLabels 21 = .ok (.if_icmp .ge 25, 3) := by decide +kernel
theorem dX3_layOutLabels_24 : decode cX3_layOutLabels 24 = .ok (.aload_n 0, 1) := by decide +kernel
theorem dX3_layOutLabels_25 : decode cX3_layOutLabels 25 = .ok (.getfield 34, 3) := by decide +kernel
theorem dX3_layOutLabels_28 : decode cX3_layOutLabels 28 = .ok (.iload 4, 2) := by decide +kernel
theorem dX3_layOutLabels_30 : decode cX3_layOutLabels 30 = .ok (.invokevirtual 129, 3) := by decide +kernel
theorem dX3_layOutLabels_33 : decode cX3_layOutLabels 33 = .ok (.iload_n 2, 1) := by decide +kernel
theorem dX3_layOutLabels_34 : decode cX3_layOutLabels 34 = .ok (.if_icmp .ne 6, 3) := by decide +kernel
theorem dX3_layOutLabels_37 : decode cX3_layOutLabels 37 = .ok (.iinc 3 1, 3) := by decide +kernel
theorem dX3_layOutLabels_40 : decode cX3_layOutLabels 40 = .ok (.iinc 4 1, 3) := by decide +kernel
theorem dX3_layOutLabels_43 : decode cX3_layOutLabels 43 = .ok (.goto (-28), 3) := by decide +kernel
theorem dX3_layOutLabels_46 : decode cX3_layOutLabels 46 = .ok (.aload_n 0, 1) := by decide +kernel
theorem dX3_layOutLabels_47 : decode cX3_layOutLabels 47 = .ok (.getfield 22, 3) := by decide +kernel
theorem dX3_layOutLabels_50 : decode cX3_layOutLabels 50 = .ok (.iload_n 2, 1) := by decide +kernel
theorem dX3_layOutLabels_51 : decode cX3_layOutLabels 51 = .ok (.iload_n 1, 1) := by decide +kernel
theorem dX3_layOutLabels_52 : decode cX3_layOutLabels 52 = .ok (.iastore, 1) := by decide +kernel
theorem dX3_layOutLabels_53 : decode cX3_layOutLabels 53 = .ok (.aload_n 0, 1) := by decide +kernel
theorem dX3_layOutLabels_54 : decode cX3_layOutLabels 54 = .ok (.getfield 25, 3) := by decide +kernel
theorem dX3_layOutLabels_57 : decode cX3_layOutLabels 57 = .ok (.iload_n 2, 1) := by decide +kernel
theorem dX3_layOutLabels_58 : decode cX3_layOutLabels 58 = .ok (.iload_n 3, 1) := by decide +kernel
theorem dX3_layOutLabels_59 : decode cX3_layOutLabels 59 = .ok (.iastore, 1) := by decide +kernel
theorem dX3_layOutLabels_60 : decode cX3_layOutLabels 60 = .ok (.aload_n 0, 1) := by decide +kernel
theorem dX3_layOutLabels_61 : decode cX3_layOutLabels 61 = .ok (.getfield 28, 3) := by decide +kernel
theorem dX3_layOutLabels_64 : decode cX3_layOutLabels 64 = .ok (.iload_n 2, 1) := by decide +kernel
theorem dX3_layOutLabels_65 : decode cX3_layOutLabels 65 = .ok (.iload_n 3, 1) := by decide +kernel
theorem dX3_layOutLabels_66 : decode cX3_layOutLabels 66 = .ok (.iastore, 1) := by decide +kernel
theorem dX3_layOutLabels_67 : decode cX3_layOutLabels 67 = .ok (.aload_n 0, 1) := by decide +kernel
theorem dX3_layOutLabels_68 : decode cX3_layOutLabels 68 = .ok (.getfield 31, 3) := by decide +kernel
theorem dX3_layOutLabels_71 : decode cX3_layOutLabels 71 = .ok (.iload_n 2, 1) := by decide +kernel
theorem dX3_layOutLabels_72 : decode cX3_layOutLabels 72 = .ok (.iconst 0, 1) := by decide +kernel
theorem dX3_layOutLabels_73 : decode cX3_layOutLabels 73 = .ok (.iastore, 1) := by decide +kernel
theorem dX3_layOutLabels_74 : decode cX3_layOutLabels 74 = .ok (.iload_n 1, 1) := by decide +kernel
theorem dX3_layOutLabels_75 : decode cX3_layOutLabels 75 = .ok (.iload_n 3, 1) := by decide +kernel
theorem dX3_layOutLabels_76 : decode cX3_layOutLabels 76 = .ok (.iadd, 1) := by decide +kernel
theorem dX3_layOutLabels_77 : decode cX3_layOutLabels 77 = .ok (.istore_n 1, 1) := by decide +kernel
theorem dX3_layOutLabels_78 : decode cX3_layOutLabels 78 = .ok (.iinc 2 1, 3) := by decide +kernel
theorem dX3_layOutLabels_81 : decode cX3_layOutLabels 81 = .ok (.goto (-77), 3) := by decide +kernel
theorem dX3_layOutLabels_84 : decode cX3_layOutLabels 84 = .ok (.return_, 1) := by decide +kernel
theorem dX3_rowHeld_0 : decode cX3_rowHeld 0 = .ok (.iload_n 1, 1) := by decide +kernel
theorem dX3_rowHeld_1 : decode cX3_rowHeld 1 = .ok (.ifCond .lt 21, 3) := by decide +kernel
theorem dX3_rowHeld_4 : decode cX3_rowHeld 4 = .ok (.iload_n 1, 1) := by decide +kernel
theorem dX3_rowHeld_5 : decode cX3_rowHeld 5 = .ok (.aload_n 0, 1) := by decide +kernel
theorem dX3_rowHeld_6 : decode cX3_rowHeld 6 = .ok (.getfield 19, 3) := by decide +kernel
theorem dX3_rowHeld_9 : decode cX3_rowHeld 9 = .ok (.arraylength, 1) := by decide +kernel
theorem dX3_rowHeld_10 : decode cX3_rowHeld 10 = .ok (.if_icmp .ge 12, 3) := by decide +kernel
theorem dX3_rowHeld_13 : decode cX3_rowHeld 13 = .ok (.aload_n 0, 1) := by decide +kernel
theorem dX3_rowHeld_14 : decode cX3_rowHeld 14 = .ok (.getfield 19, 3) := by decide +kernel
theorem dX3_rowHeld_17 : decode cX3_rowHeld 17 = .ok (.iload_n 1, 1) := by decide +kernel
theorem dX3_rowHeld_18 : decode cX3_rowHeld 18 = .ok (.iaload, 1) := by decide +kernel
theorem dX3_rowHeld_19 : decode cX3_rowHeld 19 = .ok (.goto 5, 3) := by decide +kernel
theorem dX3_rowHeld_22 : decode cX3_rowHeld 22 = .ok (.bipush (-3), 2) := by decide +kernel
theorem dX3_rowHeld_24 : decode cX3_rowHeld 24 = .ok (.ireturn, 1) := by decide +kernel
set_option maxRecDepth 20000 in
theorem ggX3_mixLabel_X4_label : GoodIn wsX3_mixLabel wsX4_label := goodIn_r _ [13, 14, 15, 16, 17, 12, 18, 19, 60, 61, 62, 63] (by decide +kernel) (by decide +kernel)
set_option maxRecDepth 20000 in
theorem gX3_mixLabel_X4_label : GoodIn wsX3_mixLabel (wsV RX3 129 RX4 yX4_label wsX4_label) := goodIn_app (goodIn_of _ (by decide +kernel)) ggX3_mixLabel_X4_label
set_option maxRecDepth 20000 in
theorem ggX3_mixLabel_X3_beginStream : GoodIn wsX3_mixLabel wsX3_beginStream := goodIn_r _ [24, 5, 25, 26, 27, 28, 29, 30, 31, 32, 33, 34, 35, 36, 37, 38, 39, 40, 41, 50, 51, 52, 53, 54, 55, 56, 57, 58, 59, 64, 65, 66, 67, 68, 69] (by decide +kernel) (by decide +kernel)
set_option maxRecDepth 20000 in
theorem gX3_mixLabel_X3_beginStream : GoodIn wsX3_mixLabel (wsV RX3 59 RX3 yX3_beginStream wsX3_beginStream) := goodIn_app (goodIn_of _ (by decide +kernel)) ggX3_mixLabel_X3_beginStream
set_option maxRecDepth 20000 in
theorem ggX3_mixLabel_X2_key : GoodIn wsX3_mixLabel wsX2_key := goodIn_r _ [35, 31, 36, 37, 38, 29, 39, 40, 41, 69] (by decide +kernel) (by decide +kernel)
set_option maxRecDepth 20000 in
theorem gX3_mixLabel_X2_key : GoodIn wsX3_mixLabel (wsV RX3 91 RX2 yX2_key wsX2_key) := goodIn_app (goodIn_of _ (by decide +kernel)) ggX3_mixLabel_X2_key
set_option maxRecDepth 20000 in
theorem ggX3_mixLabel_X2_shuffle : GoodIn wsX3_mixLabel wsX2_shuffle := goodIn_r _ [45, 46, 47, 48, 29, 49, 31, 36, 37, 38, 39, 40, 41, 69] (by decide +kernel) (by decide +kernel)
set_option maxRecDepth 20000 in
theorem gX3_mixLabel_X2_shuffle : GoodIn wsX3_mixLabel (wsV RX3 94 RX2 yX2_shuffle wsX2_shuffle) := goodIn_app (goodIn_of _ (by decide +kernel)) ggX3_mixLabel_X2_shuffle
theorem dX3_mixLabel_0 : decode cX3_mixLabel 0 = .ok (.aload_n 0, 1) := by decide +kernel
theorem dX3_mixLabel_1 : decode cX3_mixLabel 1 = .ok (.getfield 22, 3) := by decide +kernel
theorem dX3_mixLabel_4 : decode cX3_mixLabel 4 = .ok (.iload_n 1, 1) := by decide +kernel
theorem dX3_mixLabel_5 : decode cX3_mixLabel 5 = .ok (.iaload, 1) := by decide +kernel
theorem dX3_mixLabel_6 : decode cX3_mixLabel 6 = .ok (.istore_n 3, 1) := by decide +kernel
theorem dX3_mixLabel_7 : decode cX3_mixLabel 7 = .ok (.iconst 0, 1) := by decide +kernel
theorem dX3_mixLabel_8 : decode cX3_mixLabel 8 = .ok (.istore 4, 2) := by decide +kernel
theorem dX3_mixLabel_10 : decode cX3_mixLabel 10 = .ok (.iload 4, 2) := by decide +kernel
theorem dX3_mixLabel_12 : decode cX3_mixLabel 12 = .ok (.aload_n 0, 1) := by decide +kernel
theorem dX3_mixLabel_13 : decode cX3_mixLabel 13 = .ok (.getfield 15, 3) := by decide +kernel
theorem dX3_mixLabel_16 : decode cX3_mixLabel 16 = .ok (.if_icmp .ge 42, 3) := by decide +kernel
theorem dX3_mixLabel_19 : decode cX3_mixLabel 19 = .ok (.aload_n 0, 1) := by decide +kernel
theorem dX3_mixLabel_20 : decode cX3_mixLabel 20 = .ok (.getfield 34, 3) := by decide +kernel
theorem dX3_mixLabel_23 : decode cX3_mixLabel 23 = .ok (.iload 4, 2) := by decide +kernel
theorem dX3_mixLabel_25 : decode cX3_mixLabel 25 = .ok (.invokevirtual 129, 3) := by decide +kernel
theorem dX3_mixLabel_28 : decode cX3_mixLabel 28 = .ok (.iload_n 1, 1) := by decide +kernel
theorem dX3_mixLabel_29 : decode cX3_mixLabel 29 = .ok (.if_icmp .ne 23, 3) := by decide +kernel
theorem dX3_mixLabel_32 : decode cX3_mixLabel 32 = .ok (.iload_n 3, 1) := by decide +kernel
theorem dX3_mixLabel_33 : decode cX3_mixLabel 33 = .ok (.aload_n 0, 1) := by decide +kernel
theorem dX3_mixLabel_34 : decode cX3_mixLabel 34 = .ok (.getfield 19, 3) := by decide +kernel
theorem dX3_mixLabel_37 : decode cX3_mixLabel 37 = .ok (.arraylength, 1) := by decide +kernel
theorem dX3_mixLabel_38 : decode cX3_mixLabel 38 = .ok (.if_icmp .ge 14, 3) := by decide +kernel
theorem dX3_mixLabel_41 : decode cX3_mixLabel 41 = .ok (.aload_n 0, 1) := by decide +kernel
theorem dX3_mixLabel_42 : decode cX3_mixLabel 42 = .ok (.getfield 19, 3) := by decide +kernel
theorem dX3_mixLabel_45 : decode cX3_mixLabel 45 = .ok (.iload_n 3, 1) := by decide +kernel
theorem dX3_mixLabel_46 : decode cX3_mixLabel 46 = .ok (.iload 4, 2) := by decide +kernel
theorem dX3_mixLabel_48 : decode cX3_mixLabel 48 = .ok (.iastore, 1) := by decide +kernel
theorem dX3_mixLabel_49 : decode cX3_mixLabel 49 = .ok (.iinc 3 1, 3) := by decide +kernel
theorem dX3_mixLabel_52 : decode cX3_mixLabel 52 = .ok (.iinc 4 1, 3) := by decide +kernel
theorem dX3_mixLabel_55 : decode cX3_mixLabel 55 = .ok (.goto (-45), 3) := by decide +kernel
theorem dX3_mixLabel_58 : decode cX3_mixLabel 58 = .ok (.aload_n 0, 1) := by decide +kernel
theorem dX3_mixLabel_59 : decode cX3_mixLabel 59 = .ok (.iconst 3, 1) := by decide +kernel
theorem dX3_mixLabel_60 : decode cX3_mixLabel 60 = .ok (.iload_n 2, 1) := by decide +kernel
theorem dX3_mixLabel_61 : decode cX3_mixLabel 61 = .ok (.invokevirtual 59, 3) := by decide +kernel
theorem dX3_mixLabel_64 : decode cX3_mixLabel 64 = .ok (.aload_n 0, 1) := by decide +kernel
theorem dX3_mixLabel_65 : decode cX3_mixLabel 65 = .ok (.getfield 42, 3) := by decide +kernel
theorem dX3_mixLabel_68 : decode cX3_mixLabel 68 = .ok (.iload_n 1, 1) := by decide +kernel
theorem dX3_mixLabel_69 : decode cX3_mixLabel 69 = .ok (.invokevirtual 91, 3) := by decide +kernel
theorem dX3_mixLabel_72 : decode cX3_mixLabel 72 = .ok (.aload_n 0, 1) := by decide +kernel
theorem dX3_mixLabel_73 : decode cX3_mixLabel 73 = .ok (.getfield 42, 3) := by decide +kernel
theorem dX3_mixLabel_76 : decode cX3_mixLabel 76 = .ok (.aload_n 0, 1) := by decide +kernel
theorem dX3_mixLabel_77 : decode cX3_mixLabel 77 = .ok (.getfield 31, 3) := by decide +kernel
theorem dX3_mixLabel_80 : decode cX3_mixLabel 80 = .ok (.iload_n 1, 1) := by decide +kernel
theorem dX3_mixLabel_81 : decode cX3_mixLabel 81 = .ok (.iaload, 1) := by decide +kernel
theorem dX3_mixLabel_82 : decode cX3_mixLabel 82 = .ok (.invokevirtual 91, 3) := by decide +kernel
theorem dX3_mixLabel_85 : decode cX3_mixLabel 85 = .ok (.aload_n 0, 1) := by decide +kernel
theorem dX3_mixLabel_86 : decode cX3_mixLabel 86 = .ok (.getfield 42, 3) := by decide +kernel
theorem dX3_mixLabel_89 : decode cX3_mixLabel 89 = .ok (.aload_n 0, 1) := by decide +kernel
theorem dX3_mixLabel_90 : decode cX3_mixLabel 90 = .ok (.getfield 19, 3) := by decide +kernel
theorem dX3_mixLabel_93 : decode cX3_mixLabel 93 = .ok (.aload_n 0, 1) := by decide +kernel
theorem dX3_mixLabel_94 : decode cX3_mixLabel 94 = .ok (.getfield 22, 3) := by decide +kernel
theorem dX3_mixLabel_97 : decode cX3_mixLabel 97 = .ok (.iload_n 1, 1) := by decide +kernel
theorem dX3_mixLabel_98 : decode cX3_mixLabel 98 = .ok (.iaload, 1) := by decide +kernel
theorem dX3_mixLabel_99 : decode cX3_mixLabel 99 = .ok (.aload_n 0, 1) := by decide +kernel
theorem dX3_mixLabel_100 : decode cX3_mixLabel 100 = .ok (.getfield 25, 3) := by decide +kernel
theorem dX3_mixLabel_103 : decode cX3_mixLabel 103 = .ok (.iload_n 1, 1) := by decide +kernel
theorem dX3_mixLabel_104 : decode cX3_mixLabel 104 = .ok (.iaload, 1) := by decide +kernel
theorem dX3_mixLabel_105 : decode cX3_mixLabel 105 = .ok (.invokevirtual 94, 3) := by decide +kernel
theorem dX3_mixLabel_108 : decode cX3_mixLabel 108 = .ok (.aload_n 0, 1) := by decide +kernel
theorem dX3_mixLabel_109 : decode cX3_mixLabel 109 = .ok (.getfield 31, 3) := by decide +kernel
theorem dX3_mixLabel_112 : decode cX3_mixLabel 112 = .ok (.iload_n 1, 1) := by decide +kernel
theorem dX3_mixLabel_113 : decode cX3_mixLabel 113 = .ok (.dup2, 1) := by decide +kernel
theorem dX3_mixLabel_114 : decode cX3_mixLabel 114 = .ok (.iaload, 1) := by decide +kernel
theorem dX3_mixLabel_115 : decode cX3_mixLabel 115 = .ok (.iconst 1, 1) := by decide +kernel
theorem dX3_mixLabel_116 : decode cX3_mixLabel 116 = .ok (.iadd, 1) := by decide +kernel
theorem dX3_mixLabel_117 : decode cX3_mixLabel 117 = .ok (.iastore, 1) := by decide +kernel
theorem dX3_mixLabel_118 : decode cX3_mixLabel 118 = .ok (.aload_n 0, 1) := by decide +kernel
theorem dX3_mixLabel_119 : decode cX3_mixLabel 119 = .ok (.getfield 28, 3) := by decide +kernel
theorem dX3_mixLabel_122 : decode cX3_mixLabel 122 = .ok (.iload_n 1, 1) := by decide +kernel
theorem dX3_mixLabel_123 : decode cX3_mixLabel 123 = .ok (.iconst 0, 1) := by decide +kernel
theorem dX3_mixLabel_124 : decode cX3_mixLabel 124 = .ok (.iastore, 1) := by decide +kernel
theorem dX3_mixLabel_125 : decode cX3_mixLabel 125 = .ok (.return_, 1) := by decide +kernel
set_option maxRecDepth 20000 in
theorem ggX3_makeBuffered_X2_below : GoodIn wsX3_makeBuffered wsX2_below := goodIn_r _ [14, 15, 16, 17, 18, 13, 19, 20, 21, 37] (by decide +kernel) (by decide +kernel)
set_option maxRecDepth 20000 in
theorem gX3_makeBuffered_X2_below : GoodIn wsX3_makeBuffered (wsV RX3 111 RX2 yX2_below wsX2_below) := goodIn_app (goodIn_of _ (by decide +kernel)) ggX3_makeBuffered_X2_below
theorem dX3_makeBuffered_0 : decode cX3_makeBuffered 0 = .ok (.aload_n 0, 1) := by decide +kernel
theorem dX3_makeBuffered_1 : decode cX3_makeBuffered 1 = .ok (.getfield 15, 3) := by decide +kernel
theorem dX3_makeBuffered_4 : decode cX3_makeBuffered 4 = .ok (.aload_n 0, 1) := by decide +kernel
theorem dX3_makeBuffered_5 : decode cX3_makeBuffered 5 = .ok (.getfield 38, 3) := by decide +kernel
theorem dX3_makeBuffered_8 : decode cX3_makeBuffered 8 = .ok (.getfield 132, 3) := by decide +kernel
theorem dX3_makeBuffered_11 : decode cX3_makeBuffered 11 = .ok (.invokestatic 49, 3) := by decide +kernel
theorem dX3_makeBuffered_14 : decode cX3_makeBuffered 14 = .ok (.istore_n 1, 1) := by decide +kernel
theorem dX3_makeBuffered_15 : decode cX3_makeBuffered 15 = .ok (.iconst 0, 1) := by decide +kernel
theorem dX3_makeBuffered_16 : decode cX3_makeBuffered 16 = .ok (.istore_n 2, 1) := by decide +kernel
theorem dX3_makeBuffered_17 : decode cX3_makeBuffered 17 = .ok (.iload_n 2, 1) := by decide +kernel
theorem dX3_makeBuffered_18 : decode cX3_makeBuffered 18 = .ok (.iload_n 1, 1) := by decide +kernel
theorem dX3_makeBuffered_19 : decode cX3_makeBuffered 19 = .ok (.if_icmp .ge 16, 3) := by decide +kernel
theorem dX3_makeBuffered_22 : decode cX3_makeBuffered 22 = .ok (.aload_n 0, 1) := by decide +kernel
theorem dX3_makeBuffered_23 : decode cX3_makeBuffered 23 = .ok (.getfield 19, 3) := by decide +kernel
theorem dX3_makeBuffered_26 : decode cX3_makeBuffered 26 = .ok (.iload_n 2, 1) := by decide +kernel
theorem dX3_makeBuffered_27 : decode cX3_makeBuffered 27 = .ok (.iload_n 2, 1) := by decide +kernel
theorem dX3_makeBuffered_28 : decode cX3_makeBuffered 28 = .ok (.iastore, 1) := by decide +kernel
theorem dX3_makeBuffered_29 : decode cX3_makeBuffered 29 = .ok (.iinc 2 1, 3) := by decide +kernel
theorem dX3_makeBuffered_32 : decode cX3_makeBuffered 32 = .ok (.goto (-15), 3) := by decide +kernel
theorem dX3_makeBuffered_35 : decode cX3_makeBuffered 35 = .ok (.iload_n 1, 1) := by decide +kernel
theorem dX3_makeBuffered_36 : decode cX3_makeBuffered 36 = .ok (.istore_n 2, 1) := by decide +kernel
theorem dX3_makeBuffered_37 : decode cX3_makeBuffered 37 = .ok (.iconst 0, 1) := by decide +kernel
theorem dX3_makeBuffered_38 : decode cX3_makeBuffered 38 = .ok (.istore_n 3, 1) := by decide +kernel
theorem dX3_makeBuffered_39 : decode cX3_makeBuffered 39 = .ok (.iload_n 3, 1) := by decide +kernel
theorem dX3_makeBuffered_40 : decode cX3_makeBuffered 40 = .ok (.aload_n 0, 1) := by decide +kernel
theorem dX3_makeBuffered_41 : decode cX3_makeBuffered 41 = .ok (.getfield 15, 3) := by decide +kernel
theorem dX3_makeBuffered_44 : decode cX3_makeBuffered 44 = .ok (.if_icmp .ge 74, 3) := by decide +kernel
theorem dX3_makeBuffered_47 : decode cX3_makeBuffered 47 = .ok (.iload_n 1, 1) := by decide +kernel
theorem dX3_makeBuffered_48 : decode cX3_makeBuffered 48 = .ok (.ifCond .le 70, 3) := by decide +kernel
theorem dX3_makeBuffered_51 : decode cX3_makeBuffered 51 = .ok (.aload_n 0, 1) := by decide +kernel
theorem dX3_makeBuffered_52 : decode cX3_makeBuffered 52 = .ok (.getfield 42, 3) := by decide +kernel
theorem dX3_makeBuffered_55 : decode cX3_makeBuffered 55 = .ok (.iload_n 1, 1) := by decide +kernel
theorem dX3_makeBuffered_56 : decode cX3_makeBuffered 56 = .ok (.invokevirtual 111, 3) := by decide +kernel
theorem dX3_makeBuffered_59 : decode cX3_makeBuffered 59 = .ok (.istore 4, 2) := by decide +kernel
theorem dX3_makeBuffered_61 : decode cX3_makeBuffered 61 = .ok (.aload_n 0, 1) := by decide +kernel
theorem dX3_makeBuffered_62 : decode cX3_makeBuffered 62 = .ok (.getfield 9, 3) := by decide +kernel
theorem dX3_makeBuffered_65 : decode cX3_makeBuffered 65 = .ok (.iload_n 3, 1) := by decide +kernel
theorem dX3_makeBuffered_66 : decode cX3_makeBuffered 66 = .ok (.aload_n 0, 1) := by decide +kernel
theorem dX3_makeBuffered_67 : decode cX3_makeBuffered 67 = .ok (.getfield 19, 3) := by decide +kernel
theorem dX3_makeBuffered_70 : decode cX3_makeBuffered 70 = .ok (.iload 4, 2) := by decide +kernel
theorem dX3_makeBuffered_72 : decode cX3_makeBuffered 72 = .ok (.iaload, 1) := by decide +kernel
theorem dX3_makeBuffered_73 : decode cX3_makeBuffered 73 = .ok (.iastore, 1) := by decide +kernel
theorem dX3_makeBuffered_74 : decode cX3_makeBuffered 74 = .ok (.iload_n 2, 1) := by decide +kernel
theorem dX3_makeBuffered_75 : decode cX3_makeBuffered 75 = .ok (.aload_n 0, 1) := by decide +kernel
theorem dX3_makeBuffered_76 : decode cX3_makeBuffered 76 = .ok (.getfield 15, 3) := by decide +kernel
theorem dX3_makeBuffered_79 : decode cX3_makeBuffered 79 = .ok (.if_icmp .ge 17, 3) := by decide +kernel
theorem dX3_makeBuffered_82 : decode cX3_makeBuffered 82 = .ok (.aload_n 0, 1) := by decide +kernel
theorem dX3_makeBuffered_83 : decode cX3_makeBuffered 83 = .ok (.getfield 19, 3) := by decide +kernel
theorem dX3_makeBuffered_86 : decode cX3_makeBuffered 86 = .ok (.iload 4, 2) := by decide +kernel
theorem dX3_makeBuffered_88 : decode cX3_makeBuffered 88 = .ok (.iload_n 2, 1) := by decide +kernel
theorem dX3_makeBuffered_89 : decode cX3_makeBuffered 89 = .ok (.iastore, 1) := by decide +kernel
theorem dX3_makeBuffered_90 : decode cX3_makeBuffered 90 = .ok (.iinc 2 1, 3) := by decide +kernel
theorem dX3_makeBuffered_93 : decode cX3_makeBuffered 93 = .ok (.goto 19, 3) := by decide +kernel
theorem dX3_makeBuffered_96 : decode cX3_makeBuffered 96 = .ok (.iinc 1 (-1), 3) := by decide +kernel
theorem dX3_makeBuffered_99 : decode cX3_makeBuffered 99 = .ok (.aload_n 0, 1) := by decide +kernel
theorem dX3_makeBuffered_100 : decode cX3_makeBuffered 100 = .ok (.getfield 19, 3) := by decide +kernel
theorem dX3_makeBuffered_103 : decode cX3_makeBuffered 103 = .ok (.iload 4, 2) := by decide +kernel
theorem dX3_makeBuffered_105 : decode cX3_makeBuffered 105 = .ok (.aload_n 0, 1) := by decide +kernel
theorem dX3_makeBuffered_106 : decode cX3_makeBuffered 106 = .ok (.getfield 19, 3) := by decide +kernel
theorem dX3_makeBuffered_109 : decode cX3_makeBuffered 109 = .ok (.iload_n 1, 1) := by decide +kernel
theorem dX3_makeBuffered_110 : decode cX3_makeBuffered 110 = .ok (.iaload, 1) := by decide +kernel
theorem dX3_makeBuffered_111 : decode cX3_makeBuffered 111 = .ok (.iastore, 1) := by decide +kernel
theorem dX3_makeBuffered_112 : decode cX3_makeBuffered 112 = .ok (.iinc 3 1, 3) := by decide +kernel
theorem dX3_makeBuffered_115 : decode cX3_makeBuffered 115 = .ok (.goto (-76), 3) := by decide +kernel
theorem dX3_makeBuffered_118 : decode cX3_makeBuffered 118 = .ok (.return_, 1) := by decide +kernel
end
section
theorem dX4_init_0 : decode cX4_init 0 = .ok (.aload_n 0, 1) := by decide +kernel
theorem dX4_init_1 : decode cX4_init 1 = .ok (.invokespecial 3, 3) := by decide +kernel
theorem dX4_init_4 : decode cX4_init 4 = .ok (.aload_n 0, 1) := by decide +kernel
theorem dX4_init_5 : decode cX4_init 5 = .ok (.bipush 60, 2) := by decide +kernel
theorem dX4_init_7 : decode cX4_init 7 = .ok (.anewarray 9, 3) := by decide +kernel
theorem dX4_init_10 : decode cX4_init 10 = .ok (.putfield 11, 3) := by decide +kernel
theorem dX4_init_13 : decode cX4_init 13 = .ok (.aload_n 0, 1) := by decide +kernel
theorem dX4_init_14 : decode cX4_init 14 = .ok (.bipush 60, 2) := by decide +kernel
theorem dX4_init_16 : decode cX4_init 16 = .ok (.newarray .int, 2) := by decide +kernel
theorem dX4_init_18 : decode cX4_init 18 = .ok (.putfield 17, 3) := by decide +kernel
theorem dX4_init_21 : decode cX4_init 21 = .ok (.aload_n 0, 1) := by decide +kernel
theorem dX4_init_22 : decode cX4_init 22 = .ok (.bipush 60, 2) := by decide +kernel
theorem dX4_init_24 : decode cX4_init 24 = .ok (.newarray .int, 2) := by decide +kernel
theorem dX4_init_26 : decode cX4_init 26 = .ok (.putfield 21, 3) := by decide +kernel
theorem dX4_init_29 : decode cX4_init 29 = .ok (.aload_n 0, 1) := by decide +kernel
theorem dX4_init_30 : decode cX4_init 30 = .ok (.iconst 0, 1) := by decide +kernel
theorem dX4_init_31 : decode cX4_init 31 = .ok (.putfield 24, 3) := by decide +kernel
theorem dX4_init_34 : decode cX4_init 34 = .ok (.return_, 1) := by decide +kernel
theorem dX4_isFull_0 : decode cX4_isFull 0 = .ok (.aload_n 0, 1) := by decide +kernel
theorem dX4_isFull_1 : decode cX4_isFull 1 = .ok (.getfield 24, 3) := by decide +kernel
theorem dX4_isFull_4 : decode cX4_isFull 4 = .ok (.bipush 60, 2) := by decide +kernel
theorem dX4_isFull_6 : decode cX4_isFull 6 = .ok (.if_icmp .lt 7, 3) := by decide +kernel
theorem dX4_isFull_9 : decode cX4_isFull 9 = .ok (.iconst 1, 1) := by decide +kernel
theorem dX4_isFull_10 : decode cX4_isFull 10 = .ok (.goto 4, 3) := by decide +kernel
theorem dX4_isFull_13 : decode cX4_isFull 13 = .ok (.iconst 0, 1) := by decide +kernel
theorem dX4_isFull_14 : decode cX4_isFull 14 = .ok (.ireturn, 1) := by decide +kernel
theorem dX4_has_0 : decode cX4_has 0 = .ok (.iload_n 1, 1) := by decide +kernel
theorem dX4_has_1 : decode cX4_has 1 = .ok (.ifCond .lt 21, 3) := by decide +kernel
theorem dX4_has_4 : decode cX4_has 4 = .ok (.iload_n 1, 1) := by decide +kernel
theorem dX4_has_5 : decode cX4_has 5 = .ok (.aload_n 0, 1) := by decide +kernel
theorem dX4_has_6 : decode cX4_has 6 = .ok (.getfield 24, 3) := by decide +kernel
theorem dX4_has_9 : decode cX4_has 9 = .ok (.if_icmp .ge 13, 3) := by decide +kernel
theorem dX4_has_12 : decode cX4_has 12 = .ok (.iload_n 1, 1) := by decide +kernel
theorem dX4_has_13 : decode cX4_has 13 = .ok (.bipush 60, 2) := by decide +kernel
theorem dX4_has_15 : decode cX4_has 15 = .ok (.if_icmp .ge 7, 3) := by decide +kernel
theorem dX4_has_18 : decode cX4_has 18 = .ok (.iconst 1, 1) := by decide +kernel
theorem dX4_has_19 : decode cX4_has 19 = .ok (.goto 4, 3) := by decide +kernel
theorem dX4_has_22 : decode cX4_has 22 = .ok (.iconst 0, 1) := by decide +kernel
theorem dX4_has_23 : decode cX4_has 23 = .ok (.ireturn, 1) := by decide +kernel
set_option maxRecDepth 20000 in
theorem ggX4_find_X4_has : GoodIn wsX4_find wsX4_has := goodIn_r _ [6, 7, 8, 9, 10, 11] (by decide +kernel) (by decide +kernel)
set_option maxRecDepth 20000 in
theorem gX4_find_X4_has : GoodIn wsX4_find (wsV RX4 28 RX4 yX4_has wsX4_has) := goodIn_app (goodIn_of _ (by decide +kernel)) ggX4_find_X4_has
theorem dX4_find_0 : decode cX4_find 0 = .ok (.aload_n 0, 1) := by decide +kernel
theorem dX4_find_1 : decode cX4_find 1 = .ok (.iload_n 1, 1) := by decide +kernel
theorem dX4_find_2 : decode cX4_find 2 = .ok (.invokevirtual 28, 3) := by decide +kernel
theorem dX4_find_5 : decode cX4_find 5 = .ok (.ifCond .eq 12, 3) := by decide +kernel
theorem dX4_find_8 : decode cX4_find 8 = .ok (.aload_n 0, 1) := by decide +kernel
theorem dX4_find_9 : decode cX4_find 9 = .ok (.getfield 11, 3) := by decide +kernel
theorem dX4_find_12 : decode cX4_find 12 = .ok (.iload_n 1, 1) := by decide +kernel
theorem dX4_find_13 : decode cX4_find 13 = .ok (.aaload, 1) := by decide +kernel
theorem dX4_find_14 : decode cX4_find 14 = .ok (.goto 4, 3) := by decide +kernel
theorem dX4_find_17 : decode cX4_find 17 = .ok (.aconst_null, 1) := by decide +kernel
theorem dX4_find_18 : decode cX4_find 18 = .ok (.areturn, 1) := by decide +kernel
set_option maxRecDepth 20000 in
theorem ggX4_append_X4_isFull : GoodIn wsX4_append wsX4_isFull := goodIn_r _ [7, 1, 18, 19, 20, 21] (by decide +kernel) (by decide +kernel)
set_option maxRecDepth 20000 in
theorem gX4_append_X4_isFull : GoodIn wsX4_append (wsV RX4 32 RX4 yX4_isFull wsX4_isFull) := goodIn_app (goodIn_of _ (by decide +kernel)) ggX4_append_X4_isFull
set_option maxRecDepth 20000 in
theorem ggX4_append_X4_relabel : GoodIn wsX4_append wsX4_relabel := goodIn_r _ [11, 12, 13, 14, 15, 16, 6, 17, 1, 18, 19, 20, 21] (by decide +kernel) (by decide +kernel)
set_option maxRecDepth 20000 in
theorem gX4_append_X4_relabel : GoodIn wsX4_append (wsV RX4 36 RX4 yX4_relabel wsX4_relabel) := goodIn_app (goodIn_of _ (by decide +kernel)) ggX4_append_X4_relabel
theorem dX4_append_0 : decode cX4_append 0 = .ok (.aload_n 0, 1) := by decide +kernel
theorem dX4_append_1 : decode cX4_append 1 = .ok (.invokevirtual 32, 3) := by decide +kernel
theorem dX4_append_4 : decode cX4_append 4 = .ok (.ifCond .eq 6, 3) := by decide +kernel
theorem dX4_append_7 : decode cX4_append 7 = .ok (.bipush (-2), 2) := by decide +kernel
theorem dX4_append_9 : decode cX4_append 9 = .ok (.ireturn, 1) := by decide +kernel
theorem dX4_append_10 : decode cX4_append 10 = .ok (.aload_n 0, 1) := by decide +kernel
theorem dX4_append_11 : decode cX4_append 11 = .ok (.getfield 24, 3) := by decide +kernel
theorem dX4_append_14 : decode cX4_append 14 = .ok (.istore 4, 2) := by decide +kernel
theorem dX4_append_16 : decode cX4_append 16 = .ok (.aload_n 0, 1) := by decide +kernel
theorem dX4_append_17 : decode cX4_append 17 = .ok (.getfield 11, 3) := by decide +kernel
theorem dX4_append_20 : decode cX4_append 20 = .ok (.iload 4, 2) := by decide +kernel
theorem dX4_append_22 : decode cX4_append 22 = .ok (.aload_n 1, 1) := by decide +kernel
theorem dX4_append_23 : decode cX4_append 23 = .ok (.aastore, 1) := by decide +kernel
theorem dX4_append_24 : decode cX4_append 24 = .ok (.aload_n 0, 1) := by decide +kernel
theorem dX4_append_25 : decode cX4_append 25 = .ok (.dup, 1) := by decide +kernel
theorem dX4_append_26 : decode cX4_append 26 = .ok (.getfield 24, 3) := by decide +kernel
theorem dX4_append_29 : decode cX4_append 29 = .ok (.iconst 1, 1) := by decide +kernel
theorem dX4_append_30 : decode cX4_append 30 = .ok (.iadd, 1) := by decide +kernel
theorem dX4_append_31 : decode cX4_append 31 = .ok (.putfield 24, 3) := by decide +kernel
theorem dX4_append_34 : decode cX4_append 34 = .ok (.aload_n 0, 1) := by decide +kernel
theorem dX4_append_35 : decode cX4_append 35 = .ok (.iload 4, 2) := by decide +kernel
theorem dX4_append_37 : decode cX4_append 37 = .ok (.iload_n 2, 1) := by decide +kernel
theorem dX4_append_38 : decode cX4_append 38 = .ok (.iload_n 3, 1) := by decide +kernel
theorem dX4_append_39 : decode cX4_append 39 = .ok (.invokevirtual 36, 3) := by decide +kernel
theorem dX4_append_42 : decode cX4_append 42 = .ok (.iload 4, 2) := by decide +kernel
theorem dX4_append_44 : decode cX4_append 44 = .ok (.ireturn, 1) := by decide +kernel
set_option maxRecDepth 20000 in
theorem ggX4_relabel_X4_has : GoodIn wsX4_relabel wsX4_has := goodIn_r _ [7, 8, 9, 10, 11, 12] (by decide +kernel) (by decide +kernel)
set_option maxRecDepth 20000 in
theorem gX4_relabel_X4_has : GoodIn wsX4_relabel (wsV RX4 28 RX4 yX4_has wsX4_has) := goodIn_app (goodIn_of _ (by decide +kernel)) ggX4_relabel_X4_has
theorem dX4_relabel_0 : decode cX4_relabel 0 = .ok (.aload_n 0, 1) := by decide +kernel
theorem dX4_relabel_1 : decode cX4_relabel 1 = .ok (.iload_n 1, 1) := by decide +kernel
theorem dX4_relabel_2 : decode cX4_relabel 2 = .ok (.invokevirtual 28, 3) := by decide +kernel
theorem dX4_relabel_5 : decode cX4_relabel 5 = .ok (.ifCond .eq 17, 3) := by decide +kernel
theorem dX4_relabel_8 : decode cX4_relabel 8 = .ok (.aload_n 0, 1) := by decide +kernel
theorem dX4_relabel_9 : decode cX4_relabel 9 = .ok (.getfield 17, 3) := by decide +kernel
theorem dX4_relabel_12 : decode cX4_relabel 12 = .ok (.iload_n 1, 1) := by decide +kernel
theorem dX4_relabel_13 : decode cX4_relabel 13 = .ok (.iload_n 2, 1) := by decide +kernel
theorem dX4_relabel_14 : decode cX4_relabel 14 = .ok (.iastore, 1) := by decide +kernel
theorem dX4_relabel_15 : decode cX4_relabel 15 = .ok (.aload_n 0, 1) := by decide +kernel
theorem dX4_relabel_16 : decode cX4_relabel 16 = .ok (.getfield 21, 3) := by decide +kernel
theorem dX4_relabel_19 : decode cX4_relabel 19 = .ok (.iload_n 1, 1) := by decide +kernel
theorem dX4_relabel_20 : decode cX4_relabel 20 = .ok (.iload_n 3, 1) := by decide +kernel
theorem dX4_relabel_21 : decode cX4_relabel 21 = .ok (.iastore, 1) := by decide +kernel
theorem dX4_relabel_22 : decode cX4_relabel 22 = .ok (.return_, 1) := by decide +kernel
set_option maxRecDepth 20000 in
theorem ggX4_label_X4_has : GoodIn wsX4_label wsX4_has := goodIn_r _ [6, 7, 8, 9, 10, 11] (by decide +kernel) (by decide +kernel)
set_option maxRecDepth 20000 in
theorem gX4_label_X4_has : GoodIn wsX4_label (wsV RX4 28 RX4 yX4_has wsX4_has) := goodIn_app (goodIn_of _ (by decide +kernel)) ggX4_label_X4_has
theorem dX4_label_0 : decode cX4_label 0 = .ok (.aload_n 0, 1) := by decide +kernel
theorem dX4_label_1 : decode cX4_label 1 = .ok (.iload_n 1, 1) := by decide +kernel
theorem dX4_label_2 : decode cX4_label 2 = .ok (.invokevirtual 28, 3) := by decide +kernel
theorem dX4_label_5 : decode cX4_label 5 = .ok (.ifCond .eq 12, 3) := by decide +kernel
theorem dX4_label_8 : decode cX4_label 8 = .ok (.aload_n 0, 1) := by decide +kernel
theorem dX4_label_9 : decode cX4_label 9 = .ok (.getfield 17, 3) := by decide +kernel
theorem dX4_label_12 : decode cX4_label 12 = .ok (.iload_n 1, 1) := by decide +kernel
theorem dX4_label_13 : decode cX4_label 13 = .ok (.iaload, 1) := by decide +kernel
theorem dX4_label_14 : decode cX4_label 14 = .ok (.goto 4, 3) := by decide +kernel
theorem dX4_label_17 : decode cX4_label 17 = .ok (.iconst 0, 1) := by decide +kernel
theorem dX4_label_18 : decode cX4_label 18 = .ok (.ireturn, 1) := by decide +kernel
set_option maxRecDepth 20000 in
theorem ggX4_weight_X4_has : GoodIn wsX4_weight wsX4_has := goodIn_r _ [6, 7, 8, 9, 10, 11] (by decide +kernel) (by decide +kernel)
set_option maxRecDepth 20000 in
theorem gX4_weight_X4_has : GoodIn wsX4_weight (wsV RX4 28 RX4 yX4_has wsX4_has) := goodIn_app (goodIn_of _ (by decide +kernel)) ggX4_weight_X4_has
theorem dX4_weight_0 : decode cX4_weight 0 = .ok (.aload_n 0, 1) := by decide +kernel
theorem dX4_weight_1 : decode cX4_weight 1 = .ok (.iload_n 1, 1) := by decide +kernel
theorem dX4_weight_2 : decode cX4_weight 2 = .ok (.invokevirtual 28, 3) := by decide +kernel
theorem dX4_weight_5 : decode cX4_weight 5 = .ok (.ifCond .eq 12, 3) := by decide +kernel
theorem dX4_weight_8 : decode cX4_weight 8 = .ok (.aload_n 0, 1) := by decide +kernel
theorem dX4_weight_9 : decode cX4_weight 9 = .ok (.getfield 21, 3) := by decide +kernel
theorem dX4_weight_12 : decode cX4_weight 12 = .ok (.iload_n 1, 1) := by decide +kernel
theorem dX4_weight_13 : decode cX4_weight 13 = .ok (.iaload, 1) := by decide +kernel
theorem dX4_weight_14 : decode cX4_weight 14 = .ok (.goto 4, 3) := by decide +kernel
theorem dX4_weight_17 : decode cX4_weight 17 = .ok (.iconst 0, 1) := by decide +kernel
theorem dX4_weight_18 : decode cX4_weight 18 = .ok (.ireturn, 1) := by decide +kernel
set_option maxRecDepth 20000 in
theorem ggX4_length_X4_find : GoodIn wsX4_length wsX4_find := goodIn_r _ [5, 6, 7, 8, 9, 4, 10, 11, 17, 18, 19, 20] (by decide +kernel) (by decide +kernel)
set_option maxRecDepth 20000 in
theorem gX4_length_X4_find : GoodIn wsX4_length (wsV RX4 40 RX4 yX4_find wsX4_find) := goodIn_app (goodIn_of _ (by decide +kernel)) ggX4_length_X4_find
theorem dX4_length_0 : decode cX4_length 0 = .ok (.aload_n 0, 1) := by decide +kernel
theorem dX4_length_1 : decode cX4_length 1 = .ok (.iload_n 1, 1) := by decide +kernel
theorem dX4_length_2 : decode cX4_length 2 = .ok (.invokevirtual 40, 3) := by decide +kernel
theorem dX4_length_5 : decode cX4_length 5 = .ok (.astore_n 2, 1) := by decide +kernel
theorem dX4_length_6 : decode cX4_length 6 = .ok (.aload_n 2, 1) := by decide +kernel
theorem dX4_length_7 : decode cX4_length 7 = .ok (.ifnonnull 7, 3) := by decide +kernel
theorem dX4_length_10 : decode cX4_length 10 = .ok (.iconst 0, 1) := by decide +kernel
theorem dX4_length_11 : decode cX4_length 11 = .ok (.goto 7, 3) := by decide +kernel
theorem dX4_length_14 : decode cX4_length 14 = .ok (.aload_n 2, 1) := by decide +kernel
theorem dX4_length_15 : decode cX4_length 15 = .ok (.getfield 44, 3) := by decide +kernel
theorem dX4_length_18 : decode cX4_length 18 = .ok (.ireturn, 1) := by decide +kernel
set_option maxRecDepth 20000 in
theorem ggX4_sumOfWeights_X4_weight : GoodIn wsX4_sumOfWeights wsX4_weight := goodIn_r _ [6, 7, 8, 9, 10, 5, 11, 1, 12, 13, 14, 15] (by decide +kernel) (by decide +kernel)
set_option maxRecDepth 20000 in
theorem gX4_sumOfWeights_X4_weight : GoodIn wsX4_sumOfWeights (wsV RX4 47 RX4 yX4_weight wsX4_weight) := goodIn_app (goodIn_of _ (by decide +kernel)) ggX4_sumOfWeights_X4_weight
theorem dX4_sumOfWeights_0 : decode cX4_sumOfWeights 0 = .ok (.iconst 0, 1) := by decide +kernel
theorem dX4_sumOfWeights_1 : decode cX4_sumOfWeights 1 = .ok (.istore_n 1, 1) := by decide +kernel
theorem dX4_sumOfWeights_2 : decode cX4_sumOfWeights 2 = .ok (.iconst 0, 1) := by decide +kernel
theorem dX4_sumOfWeights_3 : decode cX4_sumOfWeights 3 = .ok (.istore_n 2, 1) := by decide +kernel
theorem dX4_sumOfWeights_4 : decode cX4_sumOfWeights 4 = .ok (.iload_n 2, 1) := by decide +kernel
theorem dX4_sumOfWeights_5 : decode cX4_sumOfWeights 5 = .ok (.aload_n 0, 1) := by decide +kernel
theorem dX4_sumOfWeights_6 : decode cX4_sumOfWeights 6 = .ok (.getfield 24, 3) := by decide +kernel
theorem dX4_sumOfWeights_9 : decode cX4_sumOfWeights 9 = .ok (.if_icmp .ge 17, 3) := by decide +kernel
theorem dX4_sumOfWeights_12 : decode cX4_sumOfWeights 12 = .ok (.iload_n 1, 1) := by decide +kernel
theorem dX4_sumOfWeights_13 : decode cX4_sumOfWeights 13 = .ok (.aload_n 0, 1) := by decide +kernel
theorem dX4_sumOfWeights_14 : decode cX4_sumOfWeights 14 = .ok (.iload_n 2, 1) := by decide +kernel
theorem dX4_sumOfWeights_15 : decode cX4_sumOfWeights 15 = .ok (.invokevirtual 47, 3) := by decide +kernel
theorem dX4_sumOfWeights_18 : decode cX4_sumOfWeights 18 = .ok (.iadd, 1) := by decide +kernel
theorem dX4_sumOfWeights_19 : decode cX4_sumOfWeights 19 = .ok (.istore_n 1, 1) := by decide +kernel
theorem dX4_sumOfWeights_20 : decode cX4_sumOfWeights 20 = .ok (.iinc 2 1, 3) := by decide +kernel
theorem dX4_sumOfWeights_23 : decode cX4_sumOfWeights 23 = .ok (.goto (-19), 3) := by decide +kernel
theorem dX4_sumOfWeights_26 : decode cX4_sumOfWeights 26 = .ok (.iload_n 1, 1) := by decide +kernel
theorem dX4_sumOfWeights_27 : decode cX4_sumOfWeights 27 = .ok (.ireturn, 1) := by decide +kernel
theorem dX5_init_0 : decode cX5_init 0 = .ok (.aload_n 0, 1) := by decide +kernel
theorem dX5_init_1 : decode cX5_init 1 = .ok (.invokespecial 3, 3) := by decide +kernel
theorem dX5_init_4 : decode cX5_init 4 = .ok (.aload_n 0, 1) := by decide +kernel
theorem dX5_init_5 : decode cX5_init 5 = .ok (.lconst 0, 1) := by decide +kernel
theorem dX5_init_6 : decode cX5_init 6 = .ok (.putfield 9, 3) := by decide +kernel
theorem dX5_init_9 : decode cX5_init 9 = .ok (.aload_n 0, 1) := by decide +kernel
theorem dX5_init_10 : decode cX5_init 10 = .ok (.iconst 4, 1) := by decide +kernel
theorem dX5_init_11 : decode cX5_init 11 = .ok (.putfield 15, 3) := by decide +kernel
theorem dX5_init_14 : decode cX5_init 14 = .ok (.aload_n 0, 1) := by decide +kernel
theorem dX5_init_15 : decode cX5_init 15 = .ok (.bipush 8, 2) := by decide +kernel
theorem dX5_init_17 : decode cX5_init 17 = .ok (.putfield 19, 3) := by decide +kernel
theorem dX5_init_20 : decode cX5_init 20 = .ok (.aload_n 0, 1) := by decide +kernel
theorem dX5_init_21 : decode cX5_init 21 = .ok (.iconst 5, 1) := by decide +kernel
theorem dX5_init_22 : decode cX5_init 22 = .ok (.putfield 22, 3) := by decide +kernel
theorem dX5_init_25 : decode cX5_init 25 = .ok (.aload_n 0, 1) := by decide +kernel
theorem dX5_init_26 : decode cX5_init 26 = .ok (.iconst 0, 1) := by decide +kernel
theorem dX5_init_27 : decode cX5_init 27 = .ok (.putfield 25, 3) := by decide +kernel
theorem dX5_init_30 : decode cX5_init 30 = .ok (.return_, 1) := by decide +kernel
theorem dX5_allows_0 : decode cX5_allows 0 = .ok (.iload_n 1, 1) := by decide +kernel
theorem dX5_allows_1 : decode cX5_allows 1 = .ok (.tableswitch 79 0 3 #[31, 47, 47, 64], 31) := by decide +kernel
theorem dX5_allows_32 : decode cX5_allows 32 = .ok (.iload_n 2, 1) := by decide +kernel
theorem dX5_allows_33 : decode cX5_allows 33 = .ok (.ifCond .lt 13, 3) := by decide +kernel
theorem dX5_allows_36 : decode cX5_allows 36 = .ok (.iload_n 2, 1) := by decide +kernel
theorem dX5_allows_37 : decode cX5_allows 37 = .ok (.bipush 20, 2) := by decide +kernel
theorem dX5_allows_39 : decode cX5_allows 39 = .ok (.if_icmp .gt 7, 3) := by decide +kernel
theorem dX5_allows_42 : decode cX5_allows 42 = .ok (.iconst 1, 1) := by decide +kernel
theorem dX5_allows_43 : decode cX5_allows 43 = .ok (.goto 4, 3) := by decide +kernel
theorem dX5_allows_46 : decode cX5_allows 46 = .ok (.iconst 0, 1) := by decide +kernel
theorem dX5_allows_47 : decode cX5_allows 47 = .ok (.ireturn, 1) := by decide +kernel
theorem dX5_allows_48 : decode cX5_allows 48 = .ok (.iload_n 2, 1) := by decide +kernel
theorem dX5_allows_49 : decode cX5_allows 49 = .ok (.iconst 1, 1) := by decide +kernel
theorem dX5_allows_50 : decode cX5_allows 50 = .ok (.if_icmp .lt 13, 3) := by decide +kernel
theorem dX5_allows_53 : decode cX5_allows 53 = .ok (.iload_n 2, 1) := by decide +kernel
theorem dX5_allows_54 : decode cX5_allows 54 = .ok (.bipush 60, 2) := by decide +kernel
theorem dX5_allows_56 : decode cX5_allows 56 = .ok (.if_icmp .gt 7, 3) := by decide +kernel
theorem dX5_allows_59 : decode cX5_allows 59 = .ok (.iconst 1, 1) := by decide +kernel
theorem dX5_allows_60 : decode cX5_allows 60 = .ok (.goto 4, 3) := by decide +kernel
theorem dX5_allows_63 : decode cX5_allows 63 = .ok (.iconst 0, 1) := by decide +kernel
theorem dX5_allows_64 : decode cX5_allows 64 = .ok (.ireturn, 1) := by decide +kernel
theorem dX5_allows_65 : decode cX5_allows 65 = .ok (.iload_n 2, 1) := by decide +kernel
theorem dX5_allows_66 : decode cX5_allows 66 = .ok (.ifCond .eq 8, 3) := by decide +kernel
theorem dX5_allows_69 : decode cX5_allows 69 = .ok (.iload_n 2, 1) := by decide +kernel
theorem dX5_allows_70 : decode cX5_allows 70 = .ok (.iconst 1, 1) := by decide +kernel
theorem dX5_allows_71 : decode cX5_allows 71 = .ok (.if_icmp .ne 7, 3) := by decide +kernel
theorem dX5_allows_74 : decode cX5_allows 74 = .ok (.iconst 1, 1) := by decide +kernel
theorem dX5_allows_75 : decode cX5_allows 75 = .ok (.goto 4, 3) := by decide +kernel
theorem dX5_allows_78 : decode cX5_allows 78 = .ok (.iconst 0, 1) := by decide +kernel
theorem dX5_allows_79 : decode cX5_allows 79 = .ok (.ireturn, 1) := by decide +kernel
theorem dX5_allows_80 : decode cX5_allows 80 = .ok (.iconst 0, 1) := by decide +kernel
theorem dX5_allows_81 : decode cX5_allows 81 = .ok (.ireturn, 1) := by decide +kernel
theorem dX5_exchange_0 : decode cX5_exchange 0 = .ok (.iload_n 1, 1) := by decide +kernel
theorem dX5_exchange_1 : decode cX5_exchange 1 = .ok (.tableswitch 79 0 3 #[31, 43, 55, 67], 31) := by decide +kernel
theorem dX5_exchange_32 : decode cX5_exchange 32 = .ok (.aload_n 0, 1) := by decide +kernel
theorem dX5_exchange_33 : decode cX5_exchange 33 = .ok (.getfield 15, 3) := by decide +kernel
theorem dX5_exchange_36 : decode cX5_exchange 36 = .ok (.istore_n 3, 1) := by decide +kernel
theorem dX5_exchange_37 : decode cX5_exchange 37 = .ok (.aload_n 0, 1) := by decide +kernel
theorem dX5_exchange_38 : decode cX5_exchange 38 = .ok (.iload_n 2, 1) := by decide +kernel
theorem dX5_exchange_39 : decode cX5_exchange 39 = .ok (.putfield 15, 3) := by decide +kernel
theorem dX5_exchange_42 : decode cX5_exchange 42 = .ok (.iload_n 3, 1) := by decide +kernel
theorem dX5_exchange_43 : decode cX5_exchange 43 = .ok (.ireturn, 1) := by decide +kernel
theorem dX5_exchange_44 : decode cX5_exchange 44 = .ok (.aload_n 0, 1) := by decide +kernel
theorem dX5_exchange_45 : decode cX5_exchange 45 = .ok (.getfield 19, 3) := by decide +kernel
theorem dX5_exchange_48 : decode cX5_exchange 48 = .ok (.istore_n 3, 1) := by decide +kernel
theorem dX5_exchange_49 : decode cX5_exchange 49 = .ok (.aload_n 0, 1) := by decide +kernel
theorem dX5_exchange_50 : decode cX5_exchange 50 = .ok (.iload_n 2, 1) := by decide +kernel
theorem dX5_exchange_51 : decode cX5_exchange 51 = .ok (.putfield 19, 3) := by decide +kernel
theorem dX5_exchange_54 : decode cX5_exchange 54 = .ok (.iload_n 3, 1) := by decide +kernel
theorem dX5_exchange_55 : decode cX5_exchange 55 = .ok (.ireturn, 1) := by decide +kernel
theorem dX5_exchange_56 : decode cX5_exchange 56 = .ok (.aload_n 0, 1) := by decide +kernel
theorem dX5_exchange_57 : decode cX5_exchange 57 = .ok (.getfield 22, 3) := by decide +kernel
theorem dX5_exchange_60 : decode cX5_exchange 60 = .ok (.istore_n 3, 1) := by decide +kernel
theorem dX5_exchange_61 : decode cX5_exchange 61 = .ok (.aload_n 0, 1) := by decide +kernel
theorem dX5_exchange_62 : decode cX5_exchange 62 = .ok (.iload_n 2, 1) := by decide +kernel
theorem dX5_exchange_63 : decode cX5_exchange 63 = .ok (.putfield 22, 3) := by decide +kernel
theorem dX5_exchange_66 : decode cX5_exchange 66 = .ok (.iload_n 3, 1) := by decide +kernel
theorem dX5_exchange_67 : decode cX5_exchange 67 = .ok (.ireturn, 1) := by decide +kernel
theorem dX5_exchange_68 : decode cX5_exchange 68 = .ok (.aload_n 0, 1) := by decide +kernel
theorem dX5_exchange_69 : decode cX5_exchange 69 = .ok (.getfield 25, 3) := by decide +kernel
theorem dX5_exchange_72 : decode cX5_exchange 72 = .ok (.istore_n 3, 1) := by decide +kernel
theorem dX5_exchange_73 : decode cX5_exchange 73 = .ok (.aload_n 0, 1) := by decide +kernel
theorem dX5_exchange_74 : decode cX5_exchange 74 = .ok (.iload_n 2, 1) := by decide +kernel
theorem dX5_exchange_75 : decode cX5_exchange 75 = .ok (.putfield 25, 3) := by decide +kernel
theorem dX5_exchange_78 : decode cX5_exchange 78 = .ok (.iload_n 3, 1) := by decide +kernel
theorem dX5_exchange_79 : decode cX5_exchange 79 = .ok (.ireturn, 1) := by decide +kernel
theorem dX5_exchange_80 : decode cX5_exchange 80 = .ok (.iconst (-1), 1) := by decide +kernel
theorem dX5_exchange_81 : decode cX5_exchange 81 = .ok (.ireturn, 1) := by decide +kernel
theorem dX5_batchesOf_0 : decode cX5_batchesOf 0 = .ok (.aload_n 0, 1) := by decide +kernel
theorem dX5_batchesOf_1 : decode cX5_batchesOf 1 = .ok (.getfield 15, 3) := by decide +kernel
theorem dX5_batchesOf_4 : decode cX5_batchesOf 4 = .ok (.iconst 1, 1) := by decide +kernel
theorem dX5_batchesOf_5 : decode cX5_batchesOf 5 = .ok (.if_icmp .ge 5, 3) := by decide +kernel
theorem dX5_batchesOf_8 : decode cX5_batchesOf 8 = .ok (.iconst 0, 1) := by decide +kernel
theorem dX5_batchesOf_9 : decode cX5_batchesOf 9 = .ok (.ireturn, 1) := by decide +kernel
theorem dX5_batchesOf_10 : decode cX5_batchesOf 10 = .ok (.aload_n 0, 1) := by decide +kernel
theorem dX5_batchesOf_11 : decode cX5_batchesOf 11 = .ok (.getfield 25, 3) := by decide +kernel
theorem dX5_batchesOf_14 : decode cX5_batchesOf 14 = .ok (.iconst 1, 1) := by decide +kernel
theorem dX5_batchesOf_15 : decode cX5_batchesOf 15 = .ok (.if_icmp .ne 12, 3) := by decide +kernel
theorem dX5_batchesOf_18 : decode cX5_batchesOf 18 = .ok (.iload_n 1, 1) := by decide +kernel
theorem dX5_batchesOf_19 : decode cX5_batchesOf 19 = .ok (.aload_n 0, 1) := by decide +kernel
theorem dX5_batchesOf_20 : decode cX5_batchesOf 20 = .ok (.getfield 15, 3) := by decide +kernel
theorem dX5_batchesOf_23 : decode cX5_batchesOf 23 = .ok (.idiv, 1) := by decide +kernel
theorem dX5_batchesOf_24 : decode cX5_batchesOf 24 = .ok (.goto 16, 3) := by decide +kernel
theorem dX5_batchesOf_27 : decode cX5_batchesOf 27 = .ok (.iload_n 1, 1) := by decide +kernel
theorem dX5_batchesOf_28 : decode cX5_batchesOf 28 = .ok (.aload_n 0, 1) := by decide +kernel
theorem dX5_batchesOf_29 : decode cX5_batchesOf 29 = .ok (.getfield 15, 3) := by decide +kernel
theorem dX5_batchesOf_32 : decode cX5_batchesOf 32 = .ok (.iadd, 1) := by decide +kernel
theorem dX5_batchesOf_33 : decode cX5_batchesOf 33 = .ok (.iconst 1, 1) := by decide +kernel
theorem dX5_batchesOf_34 : decode cX5_batchesOf 34 = .ok (.isub, 1) := by decide +kernel
theorem dX5_batchesOf_35 : decode cX5_batchesOf 35 = .ok (.aload_n 0, 1) := by decide +kernel
theorem dX5_batchesOf_36 : decode cX5_batchesOf 36 = .ok (.getfield 15, 3) := by decide +kernel
theorem dX5_batchesOf_39 : decode cX5_batchesOf 39 = .ok (.idiv, 1) := by decide +kernel
theorem dX5_batchesOf_40 : decode cX5_batchesOf 40 = .ok (.ireturn, 1) := by decide +kernel
set_option maxRecDepth 20000 in
theorem ggX6_init_X4_init : GoodIn wsX6_init wsX4_init := goodIn_r _ [28, 29, 2, 3, 30, 31, 32, 33, 34, 35, 75, 76, 77, 78] (by decide +kernel) (by decide +kernel)
set_option maxRecDepth 20000 in
theorem gX6_init_X4_init_n9 : GoodIn wsX6_init (wsX4_init) := ggX6_init_X4_init
set_option maxRecDepth 20000 in
theorem ggX6_init_X5_init : GoodIn wsX6_init wsX5_init := goodIn_r _ [37, 38, 2, 3, 39, 40, 41, 42, 43, 87, 88, 89, 90, 91] (by decide +kernel) (by decide +kernel)
set_option maxRecDepth 20000 in
theorem gX6_init_X5_init_n18 : GoodIn wsX6_init (wsX5_init) := ggX6_init_X5_init
set_option maxRecDepth 20000 in
theorem ggX6_init_X2_init : GoodIn wsX6_init wsX2_init := goodIn_r _ [45, 46, 2, 3, 47, 92] (by decide +kernel) (by decide +kernel)
set_option maxRecDepth 20000 in
theorem gX6_init_X2_init_n25 : GoodIn wsX6_init (wsX2_init) := ggX6_init_X2_init
set_option maxRecDepth 20000 in
theorem ggX6_init_X3_init : GoodIn wsX6_init wsX3_init := goodIn_r _ [50, 51, 2, 3, 32, 52, 53, 54, 55, 56, 57, 58, 59, 60, 61, 93, 94, 95, 96, 97, 98, 99, 100, 101, 102] (by decide +kernel) (by decide +kernel)
set_option maxRecDepth 20000 in
theorem gX6_init_X3_init : GoodIn wsX6_init (wsX3_init) := ggX6_init_X3_init
set_option maxRecDepth 20000 in
theorem ggX6_init_X1_init : GoodIn wsX6_init wsX1_init := goodIn_r _ [64, 65, 2, 3, 66, 67, 68, 69, 32, 70, 71, 72, 73, 74, 103, 104, 105, 106, 107] (by decide +kernel) (by decide +kernel)
set_option maxRecDepth 20000 in
theorem gX6_init_X1_init : GoodIn wsX6_init (wsX1_init) := ggX6_init_X1_init
theorem dX6_init_0 : decode cX6_init 0 = .ok (.aload_n 0, 1) := by decide +kernel
theorem dX6_init_1 : decode cX6_init 1 = .ok (.invokespecial 1, 3) := by decide +kernel
theorem dX6_init_4 : decode cX6_init 4 = .ok (.aload_n 0, 1) := by decide +kernel
theorem dX6_init_5 : decode cX6_init 5 = .ok (.new 7, 3) := by decide +kernel
theorem dX6_init_8 : decode cX6_init 8 = .ok (.dup, 1) := by decide +kernel
theorem dX6_init_9 : decode cX6_init 9 = .ok (.invokespecial 9, 3) := by decide +kernel
theorem dX6_init_12 : decode cX6_init 12 = .ok (.putfield 10, 3) := by decide +kernel
theorem dX6_init_15 : decode cX6_init 15 = .ok (.aload_n 0, 1) := by decide +kernel
theorem dX6_init_16 : decode cX6_init 16 = .ok (.new 16, 3) := by decide +kernel
theorem dX6_init_19 : decode cX6_init 19 = .ok (.dup, 1) := by decide +kernel
theorem dX6_init_20 : decode cX6_init 20 = .ok (.invokespecial 18, 3) := by decide +kernel
theorem dX6_init_23 : decode cX6_init 23 = .ok (.putfield 19, 3) := by decide +kernel
theorem dX6_init_26 : decode cX6_init 26 = .ok (.aload_n 0, 1) := by decide +kernel
theorem dX6_init_27 : decode cX6_init 27 = .ok (.new 23, 3) := by decide +kernel
theorem dX6_init_30 : decode cX6_init 30 = .ok (.dup, 1) := by decide +kernel
theorem dX6_init_31 : decode cX6_init 31 = .ok (.invokespecial 25, 3) := by decide +kernel
theorem dX6_init_34 : decode cX6_init 34 = .ok (.putfield 26, 3) := by decide +kernel
theorem dX6_init_37 : decode cX6_init 37 = .ok (.aload_n 0, 1) := by decide +kernel
theorem dX6_init_38 : decode cX6_init 38 = .ok (.new 30, 3) := by decide +kernel
theorem dX6_init_41 : decode cX6_init 41 = .ok (.dup, 1) := by decide +kernel
theorem dX6_init_42 : decode cX6_init 42 = .ok (.aload_n 0, 1) := by decide +kernel
theorem dX6_init_43 : decode cX6_init 43 = .ok (.getfield 10, 3) := by decide +kernel
theorem dX6_init_46 : decode cX6_init 46 = .ok (.aload_n 0, 1) := by decide +kernel
theorem dX6_init_47 : decode cX6_init 47 = .ok (.getfield 19, 3) := by decide +kernel
theorem dX6_init_50 : decode cX6_init 50 = .ok (.aload_n 0, 1) := by decide +kernel
theorem dX6_init_51 : decode cX6_init 51 = .ok (.getfield 26, 3) := by decide +kernel
theorem dX6_init_54 : decode cX6_init 54 = .ok (.invokespecial 32, 3) := by decide +kernel
theorem dX6_init_57 : decode cX6_init 57 = .ok (.putfield 35, 3) := by decide +kernel
theorem dX6_init_60 : decode cX6_init 60 = .ok (.aload_n 0, 1) := by decide +kernel
theorem dX6_init_61 : decode cX6_init 61 = .ok (.new 39, 3) := by decide +kernel
theorem dX6_init_64 : decode cX6_init 64 = .ok (.dup, 1) := by decide +kernel
theorem dX6_init_65 : decode cX6_init 65 = .ok (.iconst 2, 1) := by decide +kernel
theorem dX6_init_66 : decode cX6_init 66 = .ok (.iconst 0, 1) := by decide +kernel
theorem dX6_init_67 : decode cX6_init 67 = .ok (.iconst 0, 1) := by decide +kernel
theorem dX6_init_68 : decode cX6_init 68 = .ok (.sipush 1600, 3) := by decide +kernel
theorem dX6_init_71 : decode cX6_init 71 = .ok (.invokespecial 41, 3) := by decide +kernel
theorem dX6_init_74 : decode cX6_init 74 = .ok (.putfield 44, 3) := by decide +kernel
theorem dX6_init_77 : decode cX6_init 77 = .ok (.aload_n 0, 1) := by decide +kernel
theorem dX6_init_78 : decode cX6_init 78 = .ok (.iconst 0, 1) := by decide +kernel
theorem dX6_init_79 : decode cX6_init 79 = .ok (.putfield 48, 3) := by decide +kernel
theorem dX6_init_82 : decode cX6_init 82 = .ok (.aload_n 0, 1) := by decide +kernel
theorem dX6_init_83 : decode cX6_init 83 = .ok (.iconst 0, 1) := by decide +kernel
theorem dX6_init_84 : decode cX6_init 84 = .ok (.putfield 52, 3) := by decide +kernel
theorem dX6_init_87 : decode cX6_init 87 = .ok (.aload_n 0, 1) := by decide +kernel
theorem dX6_init_88 : decode cX6_init 88 = .ok (.iconst 0, 1) := by decide +kernel
theorem dX6_init_89 : decode cX6_init 89 = .ok (.putfield 55, 3) := by decide +kernel
theorem dX6_init_92 : decode cX6_init 92 = .ok (.return_, 1) := by decide +kernel
set_option maxRecDepth 20000 in
theorem ggX6_row_X6_isLabel : GoodIn wsX6_row wsX6_isLabel := goodIn_r _ [8] (by decide +kernel) (by decide +kernel)
set_option maxRecDepth 20000 in
theorem gX6_row_X6_isLabel : GoodIn wsX6_row (va_wsS RX6 58 yX6_isLabel wsX6_isLabel) := goodIn_app (goodIn_of _ (by decide +kernel)) ggX6_row_X6_isLabel
set_option maxRecDepth 20000 in
theorem ggX6_row_X6_isWeight : GoodIn wsX6_row wsX6_isWeight := goodIn_r _ [11] (by decide +kernel) (by decide +kernel)
set_option maxRecDepth 20000 in
theorem gX6_row_X6_isWeight : GoodIn wsX6_row (va_wsS RX6 62 yX6_isWeight wsX6_isWeight) := goodIn_app (goodIn_of _ (by decide +kernel)) ggX6_row_X6_isWeight
set_option maxRecDepth 20000 in
theorem ggX6_row_X4_isFull : GoodIn wsX6_row wsX4_isFull := goodIn_r _ [16, 17, 63, 64, 65, 66] (by decide +kernel) (by decide +kernel)
set_option maxRecDepth 20000 in
theorem gX6_row_X4_isFull : GoodIn wsX6_row (wsV RX6 65 RX4 yX4_isFull wsX4_isFull) := goodIn_app (goodIn_of _ (by decide +kernel)) ggX6_row_X4_isFull
set_option maxRecDepth 20000 in
theorem ggX6_row_X1_init : GoodIn wsX6_row wsX1_init := goodIn_r _ [20, 21, 22, 23, 24, 25, 26, 27, 28, 29, 30, 31, 32, 33, 58, 59, 60, 61, 62] (by decide +kernel) (by decide +kernel)
set_option maxRecDepth 20000 in
theorem gX6_row_X1_init : GoodIn wsX6_row (wsX1_init) := ggX6_row_X1_init
set_option maxRecDepth 20000 in
theorem ggX6_row_X4_append : GoodIn wsX6_row wsX4_append := goodIn_r _ [37, 17, 38, 39, 13, 14, 15, 16, 40, 41, 42, 43, 44, 45, 46, 47, 48, 49, 63, 64, 65, 66] (by decide +kernel) (by decide +kernel)
set_option maxRecDepth 20000 in
theorem gX6_row_X4_append : GoodIn wsX6_row (wsV RX6 69 RX4 yX4_append wsX4_append) := goodIn_app (goodIn_of _ (by decide +kernel)) ggX6_row_X4_append
theorem dX6_row_0 : decode cX6_row 0 = .ok (.iload_n 1, 1) := by decide +kernel
theorem dX6_row_1 : decode cX6_row 1 = .ok (.ifCond .eq 8, 3) := by decide +kernel
theorem dX6_row_4 : decode cX6_row 4 = .ok (.iload_n 1, 1) := by decide +kernel
theorem dX6_row_5 : decode cX6_row 5 = .ok (.iconst 2, 1) := by decide +kernel
theorem dX6_row_6 : decode cX6_row 6 = .ok (.if_icmp .ne 17, 3) := by decide +kernel
theorem dX6_row_9 : decode cX6_row 9 = .ok (.iload_n 2, 1) := by decide +kernel
theorem dX6_row_10 : decode cX6_row 10 = .ok (.invokestatic 58, 3) := by decide +kernel
theorem dX6_row_13 : decode cX6_row 13 = .ok (.ifCond .eq 10, 3) := by decide +kernel
theorem dX6_row_16 : decode cX6_row 16 = .ok (.iload_n 3, 1) := by decide +kernel
theorem dX6_row_17 : decode cX6_row 17 = .ok (.invokestatic 62, 3) := by decide +kernel
theorem dX6_row_20 : decode cX6_row 20 = .ok (.ifCond .ne 5, 3) := by decide +kernel
theorem dX6_row_23 : decode cX6_row 23 = .ok (.iconst (-1), 1) := by decide +kernel
theorem dX6_row_24 : decode cX6_row 24 = .ok (.ireturn, 1) := by decide +kernel
theorem dX6_row_25 : decode cX6_row 25 = .ok (.aload_n 0, 1) := by decide +kernel
theorem dX6_row_26 : decode cX6_row 26 = .ok (.getfield 10, 3) := by decide +kernel
theorem dX6_row_29 : decode cX6_row 29 = .ok (.invokevirtual 65, 3) := by decide +kernel
theorem dX6_row_32 : decode cX6_row 32 = .ok (.ifCond .eq 6, 3) := by decide +kernel
theorem dX6_row_35 : decode cX6_row 35 = .ok (.bipush (-2), 2) := by decide +kernel
theorem dX6_row_37 : decode cX6_row 37 = .ok (.ireturn, 1) := by decide +kernel
theorem dX6_row_38 : decode cX6_row 38 = .ok (.iload_n 1, 1) := by decide +kernel
theorem dX6_row_39 : decode cX6_row 39 = .ok (.ifCond .ne 8, 3) := by decide +kernel
theorem dX6_row_42 : decode cX6_row 42 = .ok (.bipush 40, 2) := by decide +kernel
theorem dX6_row_44 : decode cX6_row 44 = .ok (.goto 4, 3) := by decide +kernel
theorem dX6_row_47 : decode cX6_row 47 = .ok (.iconst 0, 1) := by decide +kernel
theorem dX6_row_48 : decode cX6_row 48 = .ok (.istore 4, 2) := by decide +kernel
theorem dX6_row_50 : decode cX6_row 50 = .ok (.aload_n 0, 1) := by decide +kernel
theorem dX6_row_51 : decode cX6_row 51 = .ok (.getfield 10, 3) := by decide +kernel
theorem dX6_row_54 : decode cX6_row 54 = .ok (.new 39, 3) := by decide +kernel
theorem dX6_row_57 : decode cX6_row 57 = .ok (.dup, 1) := by decide +kernel
theorem dX6_row_58 : decode cX6_row 58 = .ok (.iload_n 1, 1) := by decide +kernel
theorem dX6_row_59 : decode cX6_row 59 = .ok (.iconst 0, 1) := by decide +kernel
theorem dX6_row_60 : decode cX6_row 60 = .ok (.iconst 0, 1) := by decide +kernel
theorem dX6_row_61 : decode cX6_row 61 = .ok (.iload 4, 2) := by decide +kernel
theorem dX6_row_63 : decode cX6_row 63 = .ok (.invokespecial 41, 3) := by decide +kernel
theorem dX6_row_66 : decode cX6_row 66 = .ok (.iload_n 2, 1) := by decide +kernel
theorem dX6_row_67 : decode cX6_row 67 = .ok (.iload_n 3, 1) := by decide +kernel
theorem dX6_row_68 : decode cX6_row 68 = .ok (.invokevirtual 69, 3) := by decide +kernel
theorem dX6_row_71 : decode cX6_row 71 = .ok (.ireturn, 1) := by decide +kernel
set_option maxRecDepth 20000 in
theorem ggX6_picture_X6_isSide : GoodIn wsX6_picture wsX6_isSide := goodIn_r _ [8] (by decide +kernel) (by decide +kernel)
set_option maxRecDepth 20000 in
theorem gX6_picture_X6_isSide : GoodIn wsX6_picture (va_wsS RX6 73 yX6_isSide wsX6_isSide) := goodIn_app (goodIn_of _ (by decide +kernel)) ggX6_picture_X6_isSide
set_option maxRecDepth 20000 in
theorem ggX6_picture_X6_isLabel : GoodIn wsX6_picture wsX6_isLabel := goodIn_r _ [11] (by decide +kernel) (by decide +kernel)
set_option maxRecDepth 20000 in
theorem gX6_picture_X6_isLabel : GoodIn wsX6_picture (va_wsS RX6 58 yX6_isLabel wsX6_isLabel) := goodIn_app (goodIn_of _ (by decide +kernel)) ggX6_picture_X6_isLabel
set_option maxRecDepth 20000 in
theorem ggX6_picture_X6_isWeight : GoodIn wsX6_picture wsX6_isWeight := goodIn_r _ [14] (by decide +kernel) (by decide +kernel)
set_option maxRecDepth 20000 in
theorem gX6_picture_X6_isWeight : GoodIn wsX6_picture (va_wsS RX6 62 yX6_isWeight wsX6_isWeight) := goodIn_app (goodIn_of _ (by decide +kernel)) ggX6_picture_X6_isWeight
set_option maxRecDepth 20000 in
theorem ggX6_picture_X4_isFull : GoodIn wsX6_picture wsX4_isFull := goodIn_r _ [19, 20, 66, 67, 68, 69] (by decide +kernel) (by decide +kernel)
set_option maxRecDepth 20000 in
theorem gX6_picture_X4_isFull : GoodIn wsX6_picture (wsV RX6 65 RX4 yX4_isFull wsX4_isFull) := goodIn_app (goodIn_of _ (by decide +kernel)) ggX6_picture_X4_isFull
set_option maxRecDepth 20000 in
theorem ggX6_picture_X1_init : GoodIn wsX6_picture wsX1_init := goodIn_r _ [23, 24, 25, 26, 27, 28, 29, 30, 31, 32, 33, 34, 35, 36, 61, 62, 63, 64, 65] (by decide +kernel) (by decide +kernel)
set_option maxRecDepth 20000 in
theorem gX6_picture_X1_init : GoodIn wsX6_picture (wsX1_init) := ggX6_picture_X1_init
set_option maxRecDepth 20000 in
theorem ggX6_picture_X4_append : GoodIn wsX6_picture wsX4_append := goodIn_r _ [40, 20, 41, 42, 16, 17, 18, 19, 43, 44, 45, 46, 47, 48, 49, 50, 51, 52, 66, 67, 68, 69] (by decide +kernel) (by decide +kernel)
set_option maxRecDepth 20000 in
theorem gX6_picture_X4_append : GoodIn wsX6_picture (wsV RX6 69 RX4 yX4_append wsX4_append) := goodIn_app (goodIn_of _ (by decide +kernel)) ggX6_picture_X4_append
theorem dX6_picture_0 : decode cX6_picture 0 = .ok (.iload_n 1, 1) := by decide +kernel
theorem dX6_picture_1 : decode cX6_picture 1 = .ok (.invokestatic 73, 3) := by decide +kernel
theorem dX6_picture_4 : decode cX6_picture 4 = .ok (.ifCond .eq 25, 3) := by decide +kernel
theorem dX6_picture_7 : decode cX6_picture 7 = .ok (.iload_n 2, 1) := by decide +kernel
theorem dX6_picture_8 : decode cX6_picture 8 = .ok (.invokestatic 73, 3) := by decide +kernel
theorem dX6_picture_11 : decode cX6_picture 11 = .ok (.ifCond .eq 18, 3) := by decide +kernel
theorem dX6_picture_14 : decode cX6_picture 14 = .ok (.iload_n 3, 1) := by decide +kernel
theorem dX6_picture_15 : decode cX6_picture 15 = .ok (.invokestatic 58, 3) := by decide +kernel
theorem dX6_picture_18 : decode cX6_picture 18 = .ok (.ifCond .eq 11, 3) := by decide +kernel
theorem dX6_picture_21 : decode cX6_picture 21 = .ok (.iload 4, 2) := by decide +kernel
theorem dX6_picture_23 : decode cX6_picture 23 = .ok (.invokestatic 62, 3) := by decide +kernel
theorem dX6_picture_26 : decode cX6_picture 26 = .ok (.ifCond .ne 5, 3) := by decide +kernel
theorem dX6_picture_29 : decode cX6_picture 29 = .ok (.iconst (-1), 1) := by decide +kernel
theorem dX6_picture_30 : decode cX6_picture 30 = .ok (.ireturn, 1) := by decide +kernel
theorem dX6_picture_31 : decode cX6_picture 31 = .ok (.aload_n 0, 1) := by decide +kernel
theorem dX6_picture_32 : decode cX6_picture 32 = .ok (.getfield 10, 3) := by decide +kernel
theorem dX6_picture_35 : decode cX6_picture 35 = .ok (.invokevirtual 65, 3) := by decide +kernel
theorem dX6_picture_38 : decode cX6_picture 38 = .ok (.ifCond .eq 6, 3) := by decide +kernel
theorem dX6_picture_41 : decode cX6_picture 41 = .ok (.bipush (-2), 2) := by decide +kernel
theorem dX6_picture_43 : decode cX6_picture 43 = .ok (.ireturn, 1) := by decide +kernel
theorem dX6_picture_44 : decode cX6_picture 44 = .ok (.aload_n 0, 1) := by decide +kernel
theorem dX6_picture_45 : decode cX6_picture 45 = .ok (.getfield 10, 3) := by decide +kernel
theorem dX6_picture_48 : decode cX6_picture 48 = .ok (.new 39, 3) := by decide +kernel
theorem dX6_picture_51 : decode cX6_picture 51 = .ok (.dup, 1) := by decide +kernel
theorem dX6_picture_52 : decode cX6_picture 52 = .ok (.iconst 1, 1) := by decide +kernel
theorem dX6_picture_53 : decode cX6_picture 53 = .ok (.iload_n 1, 1) := by decide +kernel
theorem dX6_picture_54 : decode cX6_picture 54 = .ok (.iload_n 2, 1) := by decide +kernel
theorem dX6_picture_55 : decode cX6_picture 55 = .ok (.iload_n 1, 1) := by decide +kernel
theorem dX6_picture_56 : decode cX6_picture 56 = .ok (.iload_n 2, 1) := by decide +kernel
theorem dX6_picture_57 : decode cX6_picture 57 = .ok (.imul, 1) := by decide +kernel
theorem dX6_picture_58 : decode cX6_picture 58 = .ok (.invokespecial 41, 3) := by decide +kernel
theorem dX6_picture_61 : decode cX6_picture 61 = .ok (.iload_n 3, 1) := by decide +kernel
theorem dX6_picture_62 : decode cX6_picture 62 = .ok (.iload 4, 2) := by decide +kernel
theorem dX6_picture_64 : decode cX6_picture 64 = .ok (.invokevirtual 69, 3) := by decide +kernel
theorem dX6_picture_67 : decode cX6_picture 67 = .ok (.ireturn, 1) := by decide +kernel
set_option maxRecDepth 20000 in
theorem ggX6_word_X4_find : GoodIn wsX6_word wsX4_find := goodIn_r _ [6, 7, 8, 9, 10, 5, 11, 12, 33, 34, 35, 36] (by decide +kernel) (by decide +kernel)
set_option maxRecDepth 20000 in
theorem gX6_word_X4_find : GoodIn wsX6_word (wsV RX6 76 RX4 yX4_find wsX4_find) := goodIn_app (goodIn_of _ (by decide +kernel)) ggX6_word_X4_find
set_option maxRecDepth 20000 in
theorem ggX6_word_X1_append : GoodIn wsX6_word wsX1_append := goodIn_r _ [17, 18, 19, 28, 29, 30, 31, 32] (by decide +kernel) (by decide +kernel)
set_option maxRecDepth 20000 in
theorem gX6_word_X1_append : GoodIn wsX6_word (wsV RX6 86 RX1 yX1_append wsX1_append) := goodIn_app (goodIn_of _ (by decide +kernel)) ggX6_word_X1_append
theorem dX6_word_0 : decode cX6_word 0 = .ok (.aload_n 0, 1) := by decide +kernel
theorem dX6_word_1 : decode cX6_word 1 = .ok (.getfield 10, 3) := by decide +kernel
theorem dX6_word_4 : decode cX6_word 4 = .ok (.iload_n 1, 1) := by decide +kernel
theorem dX6_word_5 : decode cX6_word 5 = .ok (.invokevirtual 76, 3) := by decide +kernel
theorem dX6_word_8 : decode cX6_word 8 = .ok (.astore_n 3, 1) := by decide +kernel
theorem dX6_word_9 : decode cX6_word 9 = .ok (.aload_n 3, 1) := by decide +kernel
theorem dX6_word_10 : decode cX6_word 10 = .ok (.ifnull 10, 3) := by decide +kernel
theorem dX6_word_13 : decode cX6_word 13 = .ok (.aload_n 3, 1) := by decide +kernel
theorem dX6_word_14 : decode cX6_word 14 = .ok (.getfield 80, 3) := by decide +kernel
theorem dX6_word_17 : decode cX6_word 17 = .ok (.ifCond .eq 5, 3) := by decide +kernel
theorem dX6_word_20 : decode cX6_word 20 = .ok (.iconst (-1), 1) := by decide +kernel
theorem dX6_word_21 : decode cX6_word 21 = .ok (.ireturn, 1) := by decide +kernel
theorem dX6_word_22 : decode cX6_word 22 = .ok (.aload_n 3, 1) := by decide +kernel
theorem dX6_word_23 : decode cX6_word 23 = .ok (.getfield 83, 3) := by decide +kernel
theorem dX6_word_26 : decode cX6_word 26 = .ok (.bipush 40, 2) := by decide +kernel
theorem dX6_word_28 : decode cX6_word 28 = .ok (.if_icmp .lt 6, 3) := by decide +kernel
theorem dX6_word_31 : decode cX6_word 31 = .ok (.bipush (-2), 2) := by decide +kernel
theorem dX6_word_33 : decode cX6_word 33 = .ok (.ireturn, 1) := by decide +kernel
theorem dX6_word_34 : decode cX6_word 34 = .ok (.aload_n 3, 1) := by decide +kernel
theorem dX6_word_35 : decode cX6_word 35 = .ok (.iload_n 2, 1) := by decide +kernel
theorem dX6_word_36 : decode cX6_word 36 = .ok (.invokevirtual 86, 3) := by decide +kernel
theorem dX6_word_39 : decode cX6_word 39 = .ok (.aload_n 3, 1) := by decide +kernel
theorem dX6_word_40 : decode cX6_word 40 = .ok (.getfield 83, 3) := by decide +kernel
theorem dX6_word_43 : decode cX6_word 43 = .ok (.ireturn, 1) := by decide +kernel
set_option maxRecDepth 20000 in
theorem ggX6_paint_X4_find : GoodIn wsX6_paint wsX4_find := goodIn_r _ [10, 11, 12, 13, 14, 9, 15, 16, 42, 43, 44, 45] (by decide +kernel) (by decide +kernel)
set_option maxRecDepth 20000 in
theorem gX6_paint_X4_find : GoodIn wsX6_paint (wsV RX6 76 RX4 yX4_find wsX4_find) := goodIn_app (goodIn_of _ (by decide +kernel)) ggX6_paint_X4_find
set_option maxRecDepth 20000 in
theorem ggX6_paint_X1_holds : GoodIn wsX6_paint wsX1_holds := goodIn_r _ [21, 22, 23, 37, 38, 39, 40, 41] (by decide +kernel) (by decide +kernel)
set_option maxRecDepth 20000 in
theorem gX6_paint_X1_holds : GoodIn wsX6_paint (wsV RX6 89 RX1 yX1_holds wsX1_holds) := goodIn_app (goodIn_of _ (by decide +kernel)) ggX6_paint_X1_holds
set_option maxRecDepth 20000 in
theorem ggX6_paint_X1_put : GoodIn wsX6_paint wsX1_put := goodIn_r _ [27, 23, 28, 18, 19, 20, 21, 22, 37, 38, 39, 40, 41] (by decide +kernel) (by decide +kernel)
set_option maxRecDepth 20000 in
theorem gX6_paint_X1_put : GoodIn wsX6_paint (wsV RX6 98 RX1 yX1_put wsX1_put) := goodIn_app (goodIn_of _ (by decide +kernel)) ggX6_paint_X1_put
theorem dX6_paint_0 : decode cX6_paint 0 = .ok (.aload_n 0, 1) := by decide +kernel
theorem dX6_paint_1 : decode cX6_paint 1 = .ok (.getfield 10, 3) := by decide +kernel
theorem dX6_paint_4 : decode cX6_paint 4 = .ok (.iload_n 1, 1) := by decide +kernel
theorem dX6_paint_5 : decode cX6_paint 5 = .ok (.invokevirtual 76, 3) := by decide +kernel
theorem dX6_paint_8 : decode cX6_paint 8 = .ok (.astore 5, 2) := by decide +kernel
theorem dX6_paint_10 : decode cX6_paint 10 = .ok (.aload 5, 2) := by decide +kernel
theorem dX6_paint_12 : decode cX6_paint 12 = .ok (.ifnull 21, 3) := by decide +kernel
theorem dX6_paint_15 : decode cX6_paint 15 = .ok (.aload 5, 2) := by decide +kernel
theorem dX6_paint_17 : decode cX6_paint 17 = .ok (.getfield 80, 3) := by decide +kernel
theorem dX6_paint_20 : decode cX6_paint 20 = .ok (.iconst 1, 1) := by decide +kernel
theorem dX6_paint_21 : decode cX6_paint 21 = .ok (.if_icmp .ne 12, 3) := by decide +kernel
theorem dX6_paint_24 : decode cX6_paint 24 = .ok (.aload 5, 2) := by decide +kernel
theorem dX6_paint_26 : decode cX6_paint 26 = .ok (.iload_n 2, 1) := by decide +kernel
theorem dX6_paint_27 : decode cX6_paint 27 = .ok (.invokevirtual 89, 3) := by decide +kernel
theorem dX6_paint_30 : decode cX6_paint 30 = .ok (.ifCond .ne 5, 3) := by decide +kernel
theorem dX6_paint_33 : decode cX6_paint 33 = .ok (.iconst (-1), 1) := by decide +kernel
theorem dX6_paint_34 : decode cX6_paint 34 = .ok (.ireturn, 1) := by decide +kernel
theorem dX6_paint_35 : decode cX6_paint 35 = .ok (.bipush 8, 2) := by decide +kernel
theorem dX6_paint_37 : decode cX6_paint 37 = .ok (.aload 5, 2) := by decide +kernel
theorem dX6_paint_39 : decode cX6_paint 39 = .ok (.getfield 83, 3) := by decide +kernel
theorem dX6_paint_42 : decode cX6_paint 42 = .ok (.iload_n 2, 1) := by decide +kernel
theorem dX6_paint_43 : decode cX6_paint 43 = .ok (.isub, 1) := by decide +kernel
theorem dX6_paint_44 : decode cX6_paint 44 = .ok (.invokestatic 92, 3) := by decide +kernel
theorem dX6_paint_47 : decode cX6_paint 47 = .ok (.istore 6, 2) := by decide +kernel
theorem dX6_paint_49 : decode cX6_paint 49 = .ok (.iconst 0, 1) := by decide +kernel
theorem dX6_paint_50 : decode cX6_paint 50 = .ok (.istore 7, 2) := by decide +kernel
theorem dX6_paint_52 : decode cX6_paint 52 = .ok (.iload 7, 2) := by decide +kernel
theorem dX6_paint_54 : decode cX6_paint 54 = .ok (.iload 6, 2) := by decide +kernel
theorem dX6_paint_56 : decode cX6_paint 56 = .ok (.if_icmp .ge 33, 3) := by decide +kernel
theorem dX6_paint_59 : decode cX6_paint 59 = .ok (.aload 5, 2) := by decide +kernel
theorem dX6_paint_61 : decode cX6_paint 61 = .ok (.iload_n 2, 1) := by decide +kernel
theorem dX6_paint_62 : decode cX6_paint 62 = .ok (.iload 7, 2) := by decide +kernel
theorem dX6_paint_64 : decode cX6_paint 64 = .ok (.iadd, 1) := by decide +kernel
theorem dX6_paint_65 : decode cX6_paint 65 = .ok (.lload_n 3, 1) := by decide +kernel
theorem dX6_paint_66 : decode cX6_paint 66 = .ok (.bipush 56, 2) := by decide +kernel
theorem dX6_paint_68 : decode cX6_paint 68 = .ok (.bipush 8, 2) := by decide +kernel
theorem dX6_paint_70 : decode cX6_paint 70 = .ok (.iload 7, 2) := by decide +kernel
theorem dX6_paint_72 : decode cX6_paint 72 = .ok (.imul, 1) := by decide +kernel
theorem dX6_paint_73 : decode cX6_paint 73 = .ok (.isub, 1) := by decide +kernel
theorem dX6_paint_74 : decode cX6_paint 74 = .ok (.lushr, 1) := by decide +kernel
theorem dX6_paint_75 : decode cX6_paint 75 = .ok (.l2i, 1) := by decide +kernel
theorem dX6_paint_76 : decode cX6_paint 76 = .ok (.sipush 255, 3) := by decide +kernel
theorem dX6_paint_79 : decode cX6_paint 79 = .ok (.iand, 1) := by decide +kernel
theorem dX6_paint_80 : decode cX6_paint 80 = .ok (.invokevirtual 98, 3) := by decide +kernel
theorem dX6_paint_83 : decode cX6_paint 83 = .ok (.iinc 7 1, 3) := by decide +kernel
theorem dX6_paint_86 : decode cX6_paint 86 = .ok (.goto (-34), 3) := by decide +kernel
theorem dX6_paint_89 : decode cX6_paint 89 = .ok (.iconst 1, 1) := by decide +kernel
theorem dX6_paint_90 : decode cX6_paint 90 = .ok (.ireturn, 1) := by decide +kernel
set_option maxRecDepth 20000 in
theorem ggX6_mark_X4_has : GoodIn wsX6_mark wsX4_has := goodIn_r _ [6, 7, 30, 31, 32, 33] (by decide +kernel) (by decide +kernel)
set_option maxRecDepth 20000 in
theorem gX6_mark_X4_has : GoodIn wsX6_mark (wsV RX6 102 RX4 yX4_has wsX4_has) := goodIn_app (goodIn_of _ (by decide +kernel)) ggX6_mark_X4_has
set_option maxRecDepth 20000 in
theorem ggX6_mark_X6_isLabel : GoodIn wsX6_mark wsX6_isLabel := goodIn_r _ [11] (by decide +kernel) (by decide +kernel)
set_option maxRecDepth 20000 in
theorem gX6_mark_X6_isLabel : GoodIn wsX6_mark (va_wsS RX6 58 yX6_isLabel wsX6_isLabel) := goodIn_app (goodIn_of _ (by decide +kernel)) ggX6_mark_X6_isLabel
set_option maxRecDepth 20000 in
theorem ggX6_mark_X6_isWeight : GoodIn wsX6_mark wsX6_isWeight := goodIn_r _ [14] (by decide +kernel) (by decide +kernel)
set_option maxRecDepth 20000 in
theorem gX6_mark_X6_isWeight : GoodIn wsX6_mark (va_wsS RX6 62 yX6_isWeight wsX6_isWeight) := goodIn_app (goodIn_of _ (by decide +kernel)) ggX6_mark_X6_isWeight
set_option maxRecDepth 20000 in
theorem ggX6_mark_X4_relabel : GoodIn wsX6_mark wsX4_relabel := goodIn_r _ [18, 19, 20, 21, 3, 4, 5, 6, 7, 30, 31, 32, 33] (by decide +kernel) (by decide +kernel)
set_option maxRecDepth 20000 in
theorem gX6_mark_X4_relabel : GoodIn wsX6_mark (wsV RX6 105 RX4 yX4_relabel wsX4_relabel) := goodIn_app (goodIn_of _ (by decide +kernel)) ggX6_mark_X4_relabel
theorem dX6_mark_0 : decode cX6_mark 0 = .ok (.aload_n 0, 1) := by decide +kernel
theorem dX6_mark_1 : decode cX6_mark 1 = .ok (.getfield 10, 3) := by decide +kernel
theorem dX6_mark_4 : decode cX6_mark 4 = .ok (.iload_n 1, 1) := by decide +kernel
theorem dX6_mark_5 : decode cX6_mark 5 = .ok (.invokevirtual 102, 3) := by decide +kernel
theorem dX6_mark_8 : decode cX6_mark 8 = .ok (.ifCond .eq 17, 3) := by decide +kernel
theorem dX6_mark_11 : decode cX6_mark 11 = .ok (.iload_n 2, 1) := by decide +kernel
theorem dX6_mark_12 : decode cX6_mark 12 = .ok (.invokestatic 58, 3) := by decide +kernel
theorem dX6_mark_15 : decode cX6_mark 15 = .ok (.ifCond .eq 10, 3) := by decide +kernel
theorem dX6_mark_18 : decode cX6_mark 18 = .ok (.iload_n 3, 1) := by decide +kernel
theorem dX6_mark_19 : decode cX6_mark 19 = .ok (.invokestatic 62, 3) := by decide +kernel
theorem dX6_mark_22 : decode cX6_mark 22 = .ok (.ifCond .ne 5, 3) := by decide +kernel
theorem dX6_mark_25 : decode cX6_mark 25 = .ok (.iconst (-1), 1) := by decide +kernel
theorem dX6_mark_26 : decode cX6_mark 26 = .ok (.ireturn, 1) := by decide +kernel
theorem dX6_mark_27 : decode cX6_mark 27 = .ok (.aload_n 0, 1) := by decide +kernel
theorem dX6_mark_28 : decode cX6_mark 28 = .ok (.getfield 10, 3) := by decide +kernel
theorem dX6_mark_31 : decode cX6_mark 31 = .ok (.iload_n 1, 1) := by decide +kernel
theorem dX6_mark_32 : decode cX6_mark 32 = .ok (.iload_n 2, 1) := by decide +kernel
theorem dX6_mark_33 : decode cX6_mark 33 = .ok (.iload_n 3, 1) := by decide +kernel
theorem dX6_mark_34 : decode cX6_mark 34 = .ok (.invokevirtual 105, 3) := by decide +kernel
theorem dX6_mark_37 : decode cX6_mark 37 = .ok (.iconst 1, 1) := by decide +kernel
theorem dX6_mark_38 : decode cX6_mark 38 = .ok (.ireturn, 1) := by decide +kernel
set_option maxRecDepth 20000 in
theorem ggX6_of_X4_find : GoodIn wsX6_of wsX4_find := goodIn_r _ [6, 7, 8, 9, 10, 5, 11, 12, 36, 37, 38, 39] (by decide +kernel) (by decide +kernel)
set_option maxRecDepth 20000 in
theorem gX6_of_X4_find : GoodIn wsX6_of (wsV RX6 76 RX4 yX4_find wsX4_find) := goodIn_app (goodIn_of _ (by decide +kernel)) ggX6_of_X4_find
set_option maxRecDepth 20000 in
theorem ggX6_of_X4_label : GoodIn wsX6_of wsX4_label := goodIn_r _ [16, 17, 8, 9, 10, 5, 11, 12, 36, 37, 38, 39] (by decide +kernel) (by decide +kernel)
set_option maxRecDepth 20000 in
theorem gX6_of_X4_label : GoodIn wsX6_of (wsV RX6 109 RX4 yX4_label wsX4_label) := goodIn_app (goodIn_of _ (by decide +kernel)) ggX6_of_X4_label
set_option maxRecDepth 20000 in
theorem ggX6_of_X4_weight : GoodIn wsX6_of wsX4_weight := goodIn_r _ [21, 22, 8, 9, 10, 5, 11, 12, 36, 37, 38, 39] (by decide +kernel) (by decide +kernel)
set_option maxRecDepth 20000 in
theorem gX6_of_X4_weight : GoodIn wsX6_of (wsV RX6 113 RX4 yX4_weight wsX4_weight) := goodIn_app (goodIn_of _ (by decide +kernel)) ggX6_of_X4_weight
theorem dX6_of_0 : decode cX6_of 0 = .ok (.aload_n 0, 1) := by decide +kernel
theorem dX6_of_1 : decode cX6_of 1 = .ok (.getfield 10, 3) := by decide +kernel
theorem dX6_of_4 : decode cX6_of 4 = .ok (.iload_n 1, 1) := by decide +kernel
theorem dX6_of_5 : decode cX6_of 5 = .ok (.invokevirtual 76, 3) := by decide +kernel
theorem dX6_of_8 : decode cX6_of 8 = .ok (.astore_n 3, 1) := by decide +kernel
theorem dX6_of_9 : decode cX6_of 9 = .ok (.aload_n 3, 1) := by decide +kernel
theorem dX6_of_10 : decode cX6_of 10 = .ok (.ifnonnull 5, 3) := by decide +kernel
theorem dX6_of_13 : decode cX6_of 13 = .ok (.iconst (-1), 1) := by decide +kernel
theorem dX6_of_14 : decode cX6_of 14 = .ok (.ireturn, 1) := by decide +kernel
theorem dX6_of_15 : decode cX6_of 15 = .ok (.iload_n 2, 1) := by decide +kernel
theorem dX6_of_16 : decode cX6_of 16 = .ok (.tableswitch 78 0 5 #[40, 45, 54, 63, 68, 73], 40) := by decide +kernel
theorem dX6_of_56 : decode cX6_of 56 = .ok (.aload_n 3, 1) := by decide +kernel
theorem dX6_of_57 : decode cX6_of 57 = .ok (.getfield 80, 3) := by decide +kernel
theorem dX6_of_60 : decode cX6_of 60 = .ok (.ireturn, 1) := by decide +kernel
theorem dX6_of_61 : decode cX6_of 61 = .ok (.aload_n 0, 1) := by decide +kernel
theorem dX6_of_62 : decode cX6_of 62 = .ok (.getfield 10, 3) := by decide +kernel
theorem dX6_of_65 : decode cX6_of 65 = .ok (.iload_n 1, 1) := by decide +kernel
theorem dX6_of_66 : decode cX6_of 66 = .ok (.invokevirtual 109, 3) := by decide +kernel
theorem dX6_of_69 : decode cX6_of 69 = .ok (.ireturn, 1) := by decide +kernel
theorem dX6_of_70 : decode cX6_of 70 = .ok (.aload_n 0, 1) := by decide +kernel
theorem dX6_of_71 : decode cX6_of 71 = .ok (.getfield 10, 3) := by decide +kernel
theorem dX6_of_74 : decode cX6_of 74 = .ok (.iload_n 1, 1) := by decide +kernel
theorem dX6_of_75 : decode cX6_of 75 = .ok (.invokevirtual 113, 3) := by decide +kernel
theorem dX6_of_78 : decode cX6_of 78 = .ok (.ireturn, 1) := by decide +kernel
theorem dX6_of_79 : decode cX6_of 79 = .ok (.aload_n 3, 1) := by decide +kernel
theorem dX6_of_80 : decode cX6_of 80 = .ok (.getfield 83, 3) := by decide +kernel
theorem dX6_of_83 : decode cX6_of 83 = .ok (.ireturn, 1) := by decide +kernel
theorem dX6_of_84 : decode cX6_of 84 = .ok (.aload_n 3, 1) := by decide +kernel
theorem dX6_of_85 : decode cX6_of 85 = .ok (.getfield 116, 3) := by decide +kernel
theorem dX6_of_88 : decode cX6_of 88 = .ok (.ireturn, 1) := by decide +kernel
theorem dX6_of_89 : decode cX6_of 89 = .ok (.aload_n 3, 1) := by decide +kernel
theorem dX6_of_90 : decode cX6_of 90 = .ok (.getfield 119, 3) := by decide +kernel
theorem dX6_of_93 : decode cX6_of 93 = .ok (.ireturn, 1) := by decide +kernel
theorem dX6_of_94 : decode cX6_of 94 = .ok (.iconst (-1), 1) := by decide +kernel
theorem dX6_of_95 : decode cX6_of 95 = .ok (.ireturn, 1) := by decide +kernel
theorem dX6_seed_0 : decode cX6_seed 0 = .ok (.aload_n 0, 1) := by decide +kernel
theorem dX6_seed_1 : decode cX6_seed 1 = .ok (.getfield 19, 3) := by decide +kernel
theorem dX6_seed_4 : decode cX6_seed 4 = .ok (.getfield 122, 3) := by decide +kernel
theorem dX6_seed_7 : decode cX6_seed 7 = .ok (.lstore_n 3, 1) := by decide +kernel
theorem dX6_seed_8 : decode cX6_seed 8 = .ok (.aload_n 0, 1) := by decide +kernel
theorem dX6_seed_9 : decode cX6_seed 9 = .ok (.getfield 19, 3) := by decide +kernel
theorem dX6_seed_12 : decode cX6_seed 12 = .ok (.lload_n 1, 1) := by decide +kernel
theorem dX6_seed_13 : decode cX6_seed 13 = .ok (.putfield 122, 3) := by decide +kernel
theorem dX6_seed_16 : decode cX6_seed 16 = .ok (.lload_n 3, 1) := by decide +kernel
theorem dX6_seed_17 : decode cX6_seed 17 = .ok (.lreturn, 1) := by decide +kernel
set_option maxRecDepth 20000 in
theorem ggX6_set_X5_allows : GoodIn wsX6_set wsX5_allows := goodIn_r _ [6] (by decide +kernel) (by decide +kernel)
set_option maxRecDepth 20000 in
theorem gX6_set_X5_allows : GoodIn wsX6_set (wsV RX6 126 RX5 yX5_allows wsX5_allows) := goodIn_app (goodIn_of _ (by decide +kernel)) ggX6_set_X5_allows
set_option maxRecDepth 20000 in
theorem ggX6_set_X5_exchange : GoodIn wsX6_set wsX5_exchange := goodIn_r _ [10, 11, 12, 13, 14, 23, 24, 25, 26, 27] (by decide +kernel) (by decide +kernel)
set_option maxRecDepth 20000 in
theorem gX6_set_X5_exchange : GoodIn wsX6_set (wsV RX6 130 RX5 yX5_exchange wsX5_exchange) := goodIn_app (goodIn_of _ (by decide +kernel)) ggX6_set_X5_exchange
theorem dX6_set_0 : decode cX6_set 0 = .ok (.aload_n 0, 1) := by decide +kernel
theorem dX6_set_1 : decode cX6_set 1 = .ok (.getfield 19, 3) := by decide +kernel
theorem dX6_set_4 : decode cX6_set 4 = .ok (.iload_n 1, 1) := by decide +kernel
theorem dX6_set_5 : decode cX6_set 5 = .ok (.iload_n 2, 1) := by decide +kernel
theorem dX6_set_6 : decode cX6_set 6 = .ok (.invokevirtual 126, 3) := by decide +kernel
theorem dX6_set_9 : decode cX6_set 9 = .ok (.ifCond .ne 5, 3) := by decide +kernel
theorem dX6_set_12 : decode cX6_set 12 = .ok (.iconst (-1), 1) := by decide +kernel
theorem dX6_set_13 : decode cX6_set 13 = .ok (.ireturn, 1) := by decide +kernel
theorem dX6_set_14 : decode cX6_set 14 = .ok (.aload_n 0, 1) := by decide +kernel
theorem dX6_set_15 : decode cX6_set 15 = .ok (.getfield 19, 3) := by decide +kernel
theorem dX6_set_18 : decode cX6_set 18 = .ok (.iload_n 1, 1) := by decide +kernel
theorem dX6_set_19 : decode cX6_set 19 = .ok (.iload_n 2, 1) := by decide +kernel
theorem dX6_set_20 : decode cX6_set 20 = .ok (.invokevirtual 130, 3) := by decide +kernel
theorem dX6_set_23 : decode cX6_set 23 = .ok (.ireturn, 1) := by decide +kernel
set_option maxRecDepth 20000 in
theorem ggX6_count_X5_batchesOf : GoodIn wsX6_count wsX5_batchesOf := goodIn_r _ [9, 10, 11, 20, 21, 22, 23, 24] (by decide +kernel) (by decide +kernel)
set_option maxRecDepth 20000 in
theorem gX6_count_X5_batchesOf : GoodIn wsX6_count (wsV RX6 146 RX5 yX5_batchesOf wsX5_batchesOf) := goodIn_app (goodIn_of _ (by decide +kernel)) ggX6_count_X5_batchesOf
theorem dX6_count_0 : decode cX6_count 0 = .ok (.aload_n 0, 1) := by decide +kernel
theorem dX6_count_1 : decode cX6_count 1 = .ok (.getfield 19, 3) := by decide +kernel
theorem dX6_count_4 : decode cX6_count 4 = .ok (.getfield 133, 3) := by decide +kernel
theorem dX6_count_7 : decode cX6_count 7 = .ok (.ifCond .ne 13, 3) := by decide +kernel
theorem dX6_count_10 : decode cX6_count 10 = .ok (.new 136, 3) := by decide +kernel
theorem dX6_count_13 : decode cX6_count 13 = .ok (.dup, 1) := by decide +kernel
theorem dX6_count_14 : decode cX6_count 14 = .ok (.ldc 138, 2) := by decide +kernel
theorem dX6_count_16 : decode cX6_count 16 = .ok (.invokespecial 140, 3) := by decide +kernel
theorem dX6_count_19 : decode cX6_count 19 = .ok (.athrow, 1) := by decide +kernel
theorem dX6_count_20 : decode cX6_count 20 = .ok (.aload_n 0, 1) := by decide +kernel
theorem dX6_count_21 : decode cX6_count 21 = .ok (.getfield 19, 3) := by decide +kernel
theorem dX6_count_24 : decode cX6_count 24 = .ok (.aload_n 0, 1) := by decide +kernel
theorem dX6_count_25 : decode cX6_count 25 = .ok (.getfield 10, 3) := by decide +kernel
theorem dX6_count_28 : decode cX6_count 28 = .ok (.getfield 143, 3) := by decide +kernel
theorem dX6_count_31 : decode cX6_count 31 = .ok (.invokevirtual 146, 3) := by decide +kernel
theorem dX6_count_34 : decode cX6_count 34 = .ok (.ireturn, 1) := by decide +kernel
set_option maxRecDepth 20000 in
theorem ggX6_batch_X6_isWay : GoodIn wsX6_batch wsX6_isWay := goodIn_r _ [6] (by decide +kernel) (by decide +kernel)
set_option maxRecDepth 20000 in
theorem gX6_batch_X6_isWay : GoodIn wsX6_batch (va_wsS RX6 149 yX6_isWay wsX6_isWay) := goodIn_app (goodIn_of _ (by decide +kernel)) ggX6_batch_X6_isWay
set_option maxRecDepth 20000 in
theorem ggX6_batch_X6_isRound : GoodIn wsX6_batch wsX6_isRound := goodIn_r _ [9] (by decide +kernel) (by decide +kernel)
set_option maxRecDepth 20000 in
theorem gX6_batch_X6_isRound : GoodIn wsX6_batch (va_wsS RX6 152 yX6_isRound wsX6_isRound) := goodIn_app (goodIn_of _ (by decide +kernel)) ggX6_batch_X6_isRound
set_option maxRecDepth 20000 in
theorem ggX6_batch_X3_make : GoodIn wsX6_batch wsX3_make := goodIn_r _ [14, 15, 16, 17, 18, 19, 20, 21, 22, 23, 24, 25, 26, 27, 28, 29, 30, 31, 32, 33, 34, 35, 36, 37, 38, 13, 39, 40, 41, 42, 43, 44, 45, 46, 47, 48, 49, 50, 51, 52, 53, 54, 55, 56, 57, 58, 59, 60, 61, 62, 63, 64, 65, 66, 67, 68, 69, 70, 71, 72, 73, 74, 75, 76, 77, 78, 79, 80, 81, 82, 83, 84, 85, 86, 87, 88, 89, 90, 91, 92, 93, 94, 95, 96, 97, 98, 99, 100, 101, 102, 103, 104, 105, 106, 107, 108, 109, 110, 111, 112, 113, 114, 115, 116, 117, 118, 119, 120, 121, 122, 123, 124, 125, 126, 127, 128, 129, 130, 160, 161, 162, 163, 164, 165, 166, 167, 168, 169, 170, 171, 172, 173, 155, 156, 157, 158, 159, 174, 175, 176, 177, 178, 179] (by decide +kernel) (by decide +kernel)
set_option maxRecDepth 20000 in
theorem gX6_batch_X3_make : GoodIn wsX6_batch (wsV RX6 155 RX3 yX3_make wsX3_make) := goodIn_app (goodIn_of _ (by decide +kernel)) ggX6_batch_X3_make
set_option maxRecDepth 20000 in
theorem ggX6_batch_X6_rowInBatch : GoodIn wsX6_batch wsX6_rowInBatch := goodIn_r _ [134, 1, 135, 2, 136, 137, 138, 139, 140, 141, 142, 143, 144, 145, 13, 146, 20, 62, 147, 148, 149, 150, 151, 152, 153, 154, 170, 171, 172, 173, 155, 156, 157, 158, 159, 160, 161, 162, 163, 164, 165, 166, 167, 168, 169] (by decide +kernel) (by decide +kernel)
set_option maxRecDepth 20000 in
theorem gX6_batch_X6_rowInBatch : GoodIn wsX6_batch (wsV RX6 158 RX6 yX6_rowInBatch wsX6_rowInBatch) := goodIn_app (goodIn_of _ (by decide +kernel)) ggX6_batch_X6_rowInBatch
theorem dX6_batch_0 : decode cX6_batch 0 = .ok (.iload_n 1, 1) := by decide +kernel
theorem dX6_batch_1 : decode cX6_batch 1 = .ok (.invokestatic 149, 3) := by decide +kernel
theorem dX6_batch_4 : decode cX6_batch 4 = .ok (.ifCond .eq 19, 3) := by decide +kernel
theorem dX6_batch_7 : decode cX6_batch 7 = .ok (.iload_n 2, 1) := by decide +kernel
theorem dX6_batch_8 : decode cX6_batch 8 = .ok (.invokestatic 152, 3) := by decide +kernel
theorem dX6_batch_11 : decode cX6_batch 11 = .ok (.ifCond .eq 12, 3) := by decide +kernel
theorem dX6_batch_14 : decode cX6_batch 14 = .ok (.iload_n 3, 1) := by decide +kernel
theorem dX6_batch_15 : decode cX6_batch 15 = .ok (.ifCond .lt 8, 3) := by decide +kernel
theorem dX6_batch_18 : decode cX6_batch 18 = .ok (.iload 4, 2) := by decide +kernel
theorem dX6_batch_20 : decode cX6_batch 20 = .ok (.ifCond .ge 5, 3) := by decide +kernel
theorem dX6_batch_23 : decode cX6_batch 23 = .ok (.iconst (-1), 1) := by decide +kernel
theorem dX6_batch_24 : decode cX6_batch 24 = .ok (.ireturn, 1) := by decide +kernel
theorem dX6_batch_25 : decode cX6_batch 25 = .ok (.aload_n 0, 1) := by decide +kernel
theorem dX6_batch_26 : decode cX6_batch 26 = .ok (.getfield 19, 3) := by decide +kernel
theorem dX6_batch_29 : decode cX6_batch 29 = .ok (.getfield 133, 3) := by decide +kernel
theorem dX6_batch_32 : decode cX6_batch 32 = .ok (.ifCond .eq 15, 3) := by decide +kernel
theorem dX6_batch_35 : decode cX6_batch 35 = .ok (.aload_n 0, 1) := by decide +kernel
theorem dX6_batch_36 : decode cX6_batch 36 = .ok (.getfield 35, 3) := by decide +kernel
theorem dX6_batch_39 : decode cX6_batch 39 = .ok (.iload_n 1, 1) := by decide +kernel
theorem dX6_batch_40 : decode cX6_batch 40 = .ok (.iload_n 2, 1) := by decide +kernel
theorem dX6_batch_41 : decode cX6_batch 41 = .ok (.invokevirtual 155, 3) := by decide +kernel
theorem dX6_batch_44 : decode cX6_batch 44 = .ok (.ifCond .ne 6, 3) := by decide +kernel
theorem dX6_batch_47 : decode cX6_batch 47 = .ok (.bipush (-16), 2) := by decide +kernel
theorem dX6_batch_49 : decode cX6_batch 49 = .ok (.ireturn, 1) := by decide +kernel
theorem dX6_batch_50 : decode cX6_batch 50 = .ok (.aload_n 0, 1) := by decide +kernel
theorem dX6_batch_51 : decode cX6_batch 51 = .ok (.iload_n 3, 1) := by decide +kernel
theorem dX6_batch_52 : decode cX6_batch 52 = .ok (.iload 4, 2) := by decide +kernel
theorem dX6_batch_54 : decode cX6_batch 54 = .ok (.i2l, 1) := by decide +kernel
theorem dX6_batch_55 : decode cX6_batch 55 = .ok (.invokevirtual 158, 3) := by decide +kernel
theorem dX6_batch_58 : decode cX6_batch 58 = .ok (.ireturn, 1) := by decide +kernel
set_option maxRecDepth 20000 in
theorem ggX6_share_X6_isWay : GoodIn wsX6_share wsX6_isWay := goodIn_r _ [6] (by decide +kernel) (by decide +kernel)
set_option maxRecDepth 20000 in
theorem gX6_share_X6_isWay : GoodIn wsX6_share (va_wsS RX6 149 yX6_isWay wsX6_isWay) := goodIn_app (goodIn_of _ (by decide +kernel)) ggX6_share_X6_isWay
set_option maxRecDepth 20000 in
theorem ggX6_share_X6_isRound : GoodIn wsX6_share wsX6_isRound := goodIn_r _ [9] (by decide +kernel) (by decide +kernel)
set_option maxRecDepth 20000 in
theorem gX6_share_X6_isRound : GoodIn wsX6_share (va_wsS RX6 152 yX6_isRound wsX6_isRound) := goodIn_app (goodIn_of _ (by decide +kernel)) ggX6_share_X6_isRound
set_option maxRecDepth 20000 in
theorem ggX6_share_X3_make : GoodIn wsX6_share wsX3_make := goodIn_r _ [14, 15, 16, 17, 18, 19, 20, 21, 22, 23, 24, 25, 26, 27, 28, 29, 30, 31, 32, 33, 34, 35, 36, 37, 38, 13, 39, 40, 41, 42, 43, 44, 45, 46, 47, 48, 49, 50, 51, 52, 53, 54, 55, 56, 57, 58, 59, 60, 61, 62, 63, 64, 65, 66, 67, 68, 69, 70, 71, 72, 73, 74, 75, 76, 77, 78, 79, 80, 81, 82, 83, 84, 85, 86, 87, 88, 89, 90, 91, 92, 93, 94, 95, 96, 97, 98, 99, 100, 101, 102, 103, 104, 105, 106, 107, 108, 109, 110, 111, 112, 113, 114, 115, 116, 117, 118, 119, 120, 121, 122, 123, 124, 125, 126, 127, 128, 129, 130, 160, 161, 162, 163, 164, 165, 166, 167, 168, 169, 170, 171, 172, 173, 155, 156, 157, 158, 159, 174, 175, 176, 177, 178, 179] (by decide +kernel) (by decide +kernel)
set_option maxRecDepth 20000 in
theorem gX6_share_X3_make : GoodIn wsX6_share (wsV RX6 155 RX3 yX3_make wsX3_make) := goodIn_app (goodIn_of _ (by decide +kernel)) ggX6_share_X3_make
set_option maxRecDepth 20000 in
theorem ggX6_share_X6_rowInBatch : GoodIn wsX6_share wsX6_rowInBatch := goodIn_r _ [134, 1, 135, 2, 136, 137, 138, 139, 140, 141, 142, 143, 144, 145, 13, 146, 20, 62, 147, 148, 149, 150, 151, 152, 153, 154, 170, 171, 172, 173, 155, 156, 157, 158, 159, 160, 161, 162, 163, 164, 165, 166, 167, 168, 169] (by decide +kernel) (by decide +kernel)
set_option maxRecDepth 20000 in
theorem gX6_share_X6_rowInBatch : GoodIn wsX6_share (wsV RX6 158 RX6 yX6_rowInBatch wsX6_rowInBatch) := goodIn_app (goodIn_of _ (by decide +kernel)) ggX6_share_X6_rowInBatch
theorem dX6_share_0 : decode cX6_share 0 = .ok (.iload_n 1, 1) := by decide +kernel
theorem dX6_share_1 : decode cX6_share 1 = .ok (.invokestatic 149, 3) := by decide +kernel
theorem dX6_share_4 : decode cX6_share 4 = .ok (.ifCond .eq 19, 3) := by decide +kernel
theorem dX6_share_7 : decode cX6_share 7 = .ok (.iload_n 2, 1) := by decide +kernel
theorem dX6_share_8 : decode cX6_share 8 = .ok (.invokestatic 152, 3) := by decide +kernel
theorem dX6_share_11 : decode cX6_share 11 = .ok (.ifCond .eq 12, 3) := by decide +kernel
theorem dX6_share_14 : decode cX6_share 14 = .ok (.iload_n 3, 1) := by decide +kernel
theorem dX6_share_15 : decode cX6_share 15 = .ok (.ifCond .lt 8, 3) := by decide +kernel
theorem dX6_share_18 : decode cX6_share 18 = .ok (.iload 6, 2) := by decide +kernel
theorem dX6_share_20 : decode cX6_share 20 = .ok (.ifCond .ge 5, 3) := by decide +kernel
theorem dX6_share_23 : decode cX6_share 23 = .ok (.iconst (-1), 1) := by decide +kernel
theorem dX6_share_24 : decode cX6_share 24 = .ok (.ireturn, 1) := by decide +kernel
theorem dX6_share_25 : decode cX6_share 25 = .ok (.iload 4, 2) := by decide +kernel
theorem dX6_share_27 : decode cX6_share 27 = .ok (.iconst 1, 1) := by decide +kernel
theorem dX6_share_28 : decode cX6_share 28 = .ok (.if_icmp .lt 22, 3) := by decide +kernel
theorem dX6_share_31 : decode cX6_share 31 = .ok (.iload 4, 2) := by decide +kernel
theorem dX6_share_33 : decode cX6_share 33 = .ok (.bipush 8, 2) := by decide +kernel
theorem dX6_share_35 : decode cX6_share 35 = .ok (.if_icmp .gt 15, 3) := by decide +kernel
theorem dX6_share_38 : decode cX6_share 38 = .ok (.iload 5, 2) := by decide +kernel
theorem dX6_share_40 : decode cX6_share 40 = .ok (.ifCond .lt 10, 3) := by decide +kernel
theorem dX6_share_43 : decode cX6_share 43 = .ok (.iload 5, 2) := by decide +kernel
theorem dX6_share_45 : decode cX6_share 45 = .ok (.iload 4, 2) := by decide +kernel
theorem dX6_share_47 : decode cX6_share 47 = .ok (.if_icmp .lt 5, 3) := by decide +kernel
theorem dX6_share_50 : decode cX6_share 50 = .ok (.iconst (-1), 1) := by decide +kernel
theorem dX6_share_51 : decode cX6_share 51 = .ok (.ireturn, 1) := by decide +kernel
theorem dX6_share_52 : decode cX6_share 52 = .ok (.aload_n 0, 1) := by decide +kernel
theorem dX6_share_53 : decode cX6_share 53 = .ok (.getfield 19, 3) := by decide +kernel
theorem dX6_share_56 : decode cX6_share 56 = .ok (.getfield 133, 3) := by decide +kernel
theorem dX6_share_59 : decode cX6_share 59 = .ok (.ifCond .eq 15, 3) := by decide +kernel
theorem dX6_share_62 : decode cX6_share 62 = .ok (.aload_n 0, 1) := by decide +kernel
theorem dX6_share_63 : decode cX6_share 63 = .ok (.getfield 35, 3) := by decide +kernel
theorem dX6_share_66 : decode cX6_share 66 = .ok (.iload_n 1, 1) := by decide +kernel
theorem dX6_share_67 : decode cX6_share 67 = .ok (.iload_n 2, 1) := by decide +kernel
theorem dX6_share_68 : decode cX6_share 68 = .ok (.invokevirtual 155, 3) := by decide +kernel
theorem dX6_share_71 : decode cX6_share 71 = .ok (.ifCond .ne 6, 3) := by decide +kernel
theorem dX6_share_74 : decode cX6_share 74 = .ok (.bipush (-16), 2) := by decide +kernel
theorem dX6_share_76 : decode cX6_share 76 = .ok (.ireturn, 1) := by decide +kernel
theorem dX6_share_77 : decode cX6_share 77 = .ok (.aload_n 0, 1) := by decide +kernel
theorem dX6_share_78 : decode cX6_share 78 = .ok (.iload_n 3, 1) := by decide +kernel
theorem dX6_share_79 : decode cX6_share 79 = .ok (.iload 6, 2) := by decide +kernel
theorem dX6_share_81 : decode cX6_share 81 = .ok (.i2l, 1) := by decide +kernel
theorem dX6_share_82 : decode cX6_share 82 = .ok (.iload 4, 2) := by decide +kernel
theorem dX6_share_84 : decode cX6_share 84 = .ok (.i2l, 1) := by decide +kernel
theorem dX6_share_85 : decode cX6_share 85 = .ok (.lmul, 1) := by decide +kernel
theorem dX6_share_86 : decode cX6_share 86 = .ok (.iload 5, 2) := by decide +kernel
theorem dX6_share_88 : decode cX6_share 88 = .ok (.i2l, 1) := by decide +kernel
theorem dX6_share_89 : decode cX6_share 89 = .ok (.ladd, 1) := by decide +kernel
theorem dX6_share_90 : decode cX6_share 90 = .ok (.invokevirtual 158, 3) := by decide +kernel
theorem dX6_share_93 : decode cX6_share 93 = .ok (.ireturn, 1) := by decide +kernel
set_option maxRecDepth 20000 in
theorem ggX6_once_X6_isWay : GoodIn wsX6_once wsX6_isWay := goodIn_r _ [5] (by decide +kernel) (by decide +kernel)
set_option maxRecDepth 20000 in
theorem gX6_once_X6_isWay : GoodIn wsX6_once (va_wsS RX6 149 yX6_isWay wsX6_isWay) := goodIn_app (goodIn_of _ (by decide +kernel)) ggX6_once_X6_isWay
set_option maxRecDepth 20000 in
theorem ggX6_once_X6_isRound : GoodIn wsX6_once wsX6_isRound := goodIn_r _ [8] (by decide +kernel) (by decide +kernel)
set_option maxRecDepth 20000 in
theorem gX6_once_X6_isRound : GoodIn wsX6_once (va_wsS RX6 152 yX6_isRound wsX6_isRound) := goodIn_app (goodIn_of _ (by decide +kernel)) ggX6_once_X6_isRound
set_option maxRecDepth 20000 in
theorem ggX6_once_X3_make : GoodIn wsX6_once wsX3_make := goodIn_r _ [13, 14, 15, 16, 17, 18, 19, 20, 21, 22, 23, 24, 25, 26, 27, 28, 29, 30, 31, 32, 33, 34, 35, 36, 37, 12, 38, 39, 40, 41, 42, 43, 44, 45, 46, 47, 48, 49, 50, 51, 52, 53, 54, 55, 56, 57, 58, 59, 60, 61, 62, 63, 64, 65, 66, 67, 68, 69, 70, 71, 72, 73, 74, 75, 76, 77, 78, 79, 80, 81, 82, 83, 84, 85, 86, 87, 88, 89, 90, 91, 92, 93, 94, 95, 96, 97, 98, 99, 100, 101, 102, 103, 104, 105, 106, 107, 108, 109, 110, 111, 112, 113, 114, 115, 116, 117, 118, 119, 120, 121, 122, 123, 124, 125, 126, 127, 128, 129, 142, 143, 144, 145, 146, 147, 148, 149, 150, 151, 152, 153, 154, 155, 156, 157, 158, 159, 160, 161, 162, 163, 164, 165, 166] (by decide +kernel) (by decide +kernel)
set_option maxRecDepth 20000 in
theorem gX6_once_X3_make : GoodIn wsX6_once (wsV RX6 155 RX3 yX3_make wsX3_make) := goodIn_app (goodIn_of _ (by decide +kernel)) ggX6_once_X3_make
set_option maxRecDepth 20000 in
theorem ggX6_once_X3_hasEachOnce : GoodIn wsX6_once wsX3_hasEachOnce := goodIn_r _ [133, 19, 121, 61, 142, 143, 144, 145, 146, 147, 148, 149, 150, 151] (by decide +kernel) (by decide +kernel)
set_option maxRecDepth 20000 in
theorem gX6_once_X3_hasEachOnce : GoodIn wsX6_once (wsV RX6 162 RX3 yX3_hasEachOnce wsX3_hasEachOnce) := goodIn_app (goodIn_of _ (by decide +kernel)) ggX6_once_X3_hasEachOnce
theorem dX6_once_0 : decode cX6_once 0 = .ok (.iload_n 1, 1) := by decide +kernel
theorem dX6_once_1 : decode cX6_once 1 = .ok (.invokestatic 149, 3) := by decide +kernel
theorem dX6_once_4 : decode cX6_once 4 = .ok (.ifCond .eq 10, 3) := by decide +kernel
theorem dX6_once_7 : decode cX6_once 7 = .ok (.iload_n 2, 1) := by decide +kernel
theorem dX6_once_8 : decode cX6_once 8 = .ok (.invokestatic 152, 3) := by decide +kernel
theorem dX6_once_11 : decode cX6_once 11 = .ok (.ifCond .ne 5, 3) := by decide +kernel
theorem dX6_once_14 : decode cX6_once 14 = .ok (.iconst (-1), 1) := by decide +kernel
theorem dX6_once_15 : decode cX6_once 15 = .ok (.ireturn, 1) := by decide +kernel
theorem dX6_once_16 : decode cX6_once 16 = .ok (.aload_n 0, 1) := by decide +kernel
theorem dX6_once_17 : decode cX6_once 17 = .ok (.getfield 35, 3) := by decide +kernel
theorem dX6_once_20 : decode cX6_once 20 = .ok (.iload_n 1, 1) := by decide +kernel
theorem dX6_once_21 : decode cX6_once 21 = .ok (.iload_n 2, 1) := by decide +kernel
theorem dX6_once_22 : decode cX6_once 22 = .ok (.invokevirtual 155, 3) := by decide +kernel
theorem dX6_once_25 : decode cX6_once 25 = .ok (.ifCond .ne 6, 3) := by decide +kernel
theorem dX6_once_28 : decode cX6_once 28 = .ok (.bipush (-16), 2) := by decide +kernel
theorem dX6_once_30 : decode cX6_once 30 = .ok (.ireturn, 1) := by decide +kernel
theorem dX6_once_31 : decode cX6_once 31 = .ok (.aload_n 0, 1) := by decide +kernel
theorem dX6_once_32 : decode cX6_once 32 = .ok (.getfield 35, 3) := by decide +kernel
theorem dX6_once_35 : decode cX6_once 35 = .ok (.invokevirtual 162, 3) := by decide +kernel
theorem dX6_once_38 : decode cX6_once 38 = .ok (.ifCond .eq 7, 3) := by decide +kernel
theorem dX6_once_41 : decode cX6_once 41 = .ok (.iconst 1, 1) := by decide +kernel
theorem dX6_once_42 : decode cX6_once 42 = .ok (.goto 4, 3) := by decide +kernel
theorem dX6_once_45 : decode cX6_once 45 = .ok (.iconst 0, 1) := by decide +kernel
theorem dX6_once_46 : decode cX6_once 46 = .ok (.ireturn, 1) := by decide +kernel
set_option maxRecDepth 20000 in
theorem ggX6_resume_X6_isWay : GoodIn wsX6_resume wsX6_isWay := goodIn_r _ [8] (by decide +kernel) (by decide +kernel)
set_option maxRecDepth 20000 in
theorem gX6_resume_X6_isWay : GoodIn wsX6_resume (va_wsS RX6 149 yX6_isWay wsX6_isWay) := goodIn_app (goodIn_of _ (by decide +kernel)) ggX6_resume_X6_isWay
set_option maxRecDepth 20000 in
theorem ggX6_resume_X6_isRound : GoodIn wsX6_resume wsX6_isRound := goodIn_r _ [11] (by decide +kernel) (by decide +kernel)
set_option maxRecDepth 20000 in
theorem gX6_resume_X6_isRound : GoodIn wsX6_resume (va_wsS RX6 152 yX6_isRound wsX6_isRound) := goodIn_app (goodIn_of _ (by decide +kernel)) ggX6_resume_X6_isRound
theorem dX6_resume_0 : decode cX6_resume 0 = .ok (.iload_n 1, 1) := by decide +kernel
theorem dX6_resume_1 : decode cX6_resume 1 = .ok (.invokestatic 149, 3) := by decide +kernel
theorem dX6_resume_4 : decode cX6_resume 4 = .ok (.ifCond .eq 25, 3) := by decide +kernel
theorem dX6_resume_7 : decode cX6_resume 7 = .ok (.iload_n 2, 1) := by decide +kernel
theorem dX6_resume_8 : decode cX6_resume 8 = .ok (.invokestatic 152, 3) := by decide +kernel
theorem dX6_resume_11 : decode cX6_resume 11 = .ok (.ifCond .eq 18, 3) := by decide +kernel
theorem dX6_resume_14 : decode cX6_resume 14 = .ok (.iload_n 3, 1) := by decide +kernel
theorem dX6_resume_15 : decode cX6_resume 15 = .ok (.ifCond .lt 14, 3) := by decide +kernel
theorem dX6_resume_18 : decode cX6_resume 18 = .ok (.iload_n 3, 1) := by decide +kernel
theorem dX6_resume_19 : decode cX6_resume 19 = .ok (.aload_n 0, 1) := by decide +kernel
theorem dX6_resume_20 : decode cX6_resume 20 = .ok (.getfield 10, 3) := by decide +kernel
theorem dX6_resume_23 : decode cX6_resume 23 = .ok (.getfield 143, 3) := by decide +kernel
theorem dX6_resume_26 : decode cX6_resume 26 = .ok (.if_icmp .le 5, 3) := by decide +kernel
theorem dX6_resume_29 : decode cX6_resume 29 = .ok (.iconst (-1), 1) := by decide +kernel
theorem dX6_resume_30 : decode cX6_resume 30 = .ok (.ireturn, 1) := by decide +kernel
theorem dX6_resume_31 : decode cX6_resume 31 = .ok (.aload_n 0, 1) := by decide +kernel
theorem dX6_resume_32 : decode cX6_resume 32 = .ok (.iload_n 1, 1) := by decide +kernel
theorem dX6_resume_33 : decode cX6_resume 33 = .ok (.putfield 48, 3) := by decide +kernel
theorem dX6_resume_36 : decode cX6_resume 36 = .ok (.aload_n 0, 1) := by decide +kernel
theorem dX6_resume_37 : decode cX6_resume 37 = .ok (.iload_n 2, 1) := by decide +kernel
theorem dX6_resume_38 : decode cX6_resume 38 = .ok (.putfield 52, 3) := by decide +kernel
theorem dX6_resume_41 : decode cX6_resume 41 = .ok (.aload_n 0, 1) := by decide +kernel
theorem dX6_resume_42 : decode cX6_resume 42 = .ok (.iload_n 3, 1) := by decide +kernel
theorem dX6_resume_43 : decode cX6_resume 43 = .ok (.putfield 55, 3) := by decide +kernel
theorem dX6_resume_46 : decode cX6_resume 46 = .ok (.iconst 1, 1) := by decide +kernel
theorem dX6_resume_47 : decode cX6_resume 47 = .ok (.ireturn, 1) := by decide +kernel
set_option maxRecDepth 20000 in
theorem ggX6_next_X3_make : GoodIn wsX6_next wsX3_make := goodIn_r _ [10, 11, 12, 13, 14, 15, 16, 17, 18, 19, 20, 21, 22, 23, 24, 25, 26, 27, 28, 29, 30, 31, 32, 33, 34, 9, 35, 36, 37, 38, 39, 40, 41, 42, 43, 44, 45, 46, 47, 48, 49, 50, 51, 52, 53, 54, 55, 56, 57, 58, 59, 60, 61, 62, 63, 64, 65, 66, 67, 68, 69, 70, 71, 72, 73, 74, 75, 76, 77, 78, 79, 80, 81, 82, 83, 84, 85, 86, 87, 88, 89, 90, 91, 92, 93, 94, 95, 96, 97, 98, 99, 100, 101, 102, 103, 104, 105, 106, 107, 108, 109, 110, 111, 112, 113, 114, 115, 116, 117, 118, 119, 120, 121, 122, 123, 124, 125, 126, 143, 144, 145, 146, 147, 148, 149, 150, 151, 152, 139, 140, 141, 142, 153, 154, 155, 156, 157, 158, 159, 160, 161, 162, 163] (by decide +kernel) (by decide +kernel)
set_option maxRecDepth 20000 in
theorem gX6_next_X3_make : GoodIn wsX6_next (wsV RX6 155 RX3 yX3_make wsX3_make) := goodIn_app (goodIn_of _ (by decide +kernel)) ggX6_next_X3_make
set_option maxRecDepth 20000 in
theorem ggX6_next_X3_rowAt : GoodIn wsX6_next wsX3_rowAt := goodIn_r _ [130, 16, 58, 143, 144, 145, 146, 147, 148, 149, 150, 151, 152] (by decide +kernel) (by decide +kernel)
set_option maxRecDepth 20000 in
theorem gX6_next_X3_rowAt : GoodIn wsX6_next (wsV RX6 165 RX3 yX3_rowAt wsX3_rowAt) := goodIn_app (goodIn_of _ (by decide +kernel)) ggX6_next_X3_rowAt
theorem dX6_next_0 : decode cX6_next 0 = .ok (.aload_n 0, 1) := by decide +kernel
theorem dX6_next_1 : decode cX6_next 1 = .ok (.getfield 10, 3) := by decide +kernel
theorem dX6_next_4 : decode cX6_next 4 = .ok (.getfield 143, 3) := by decide +kernel
theorem dX6_next_7 : decode cX6_next 7 = .ok (.ifCond .ne 6, 3) := by decide +kernel
theorem dX6_next_10 : decode cX6_next 10 = .ok (.bipush (-3), 2) := by decide +kernel
theorem dX6_next_12 : decode cX6_next 12 = .ok (.ireturn, 1) := by decide +kernel
theorem dX6_next_13 : decode cX6_next 13 = .ok (.aload_n 0, 1) := by decide +kernel
theorem dX6_next_14 : decode cX6_next 14 = .ok (.getfield 52, 3) := by decide +kernel
theorem dX6_next_17 : decode cX6_next 17 = .ok (.istore_n 1, 1) := by decide +kernel
theorem dX6_next_18 : decode cX6_next 18 = .ok (.aload_n 0, 1) := by decide +kernel
theorem dX6_next_19 : decode cX6_next 19 = .ok (.getfield 55, 3) := by decide +kernel
theorem dX6_next_22 : decode cX6_next 22 = .ok (.istore_n 2, 1) := by decide +kernel
theorem dX6_next_23 : decode cX6_next 23 = .ok (.iload_n 2, 1) := by decide +kernel
theorem dX6_next_24 : decode cX6_next 24 = .ok (.aload_n 0, 1) := by decide +kernel
theorem dX6_next_25 : decode cX6_next 25 = .ok (.getfield 10, 3) := by decide +kernel
theorem dX6_next_28 : decode cX6_next 28 = .ok (.getfield 143, 3) := by decide +kernel
theorem dX6_next_31 : decode cX6_next 31 = .ok (.if_icmp .lt 20, 3) := by decide +kernel
theorem dX6_next_34 : decode cX6_next 34 = .ok (.iload_n 1, 1) := by decide +kernel
theorem dX6_next_35 : decode cX6_next 35 = .ok (.sipush 1000, 3) := by decide +kernel
theorem dX6_next_38 : decode cX6_next 38 = .ok (.if_icmp .lt 7, 3) := by decide +kernel
theorem dX6_next_41 : decode cX6_next 41 = .ok (.iconst 0, 1) := by decide +kernel
theorem dX6_next_42 : decode cX6_next 42 = .ok (.goto 6, 3) := by decide +kernel
theorem dX6_next_45 : decode cX6_next 45 = .ok (.iload_n 1, 1) := by decide +kernel
theorem dX6_next_46 : decode cX6_next 46 = .ok (.iconst 1, 1) := by decide +kernel
theorem dX6_next_47 : decode cX6_next 47 = .ok (.iadd, 1) := by decide +kernel
theorem dX6_next_48 : decode cX6_next 48 = .ok (.istore_n 1, 1) := by decide +kernel
theorem dX6_next_49 : decode cX6_next 49 = .ok (.iconst 0, 1) := by decide +kernel
theorem dX6_next_50 : decode cX6_next 50 = .ok (.istore_n 2, 1) := by decide +kernel
theorem dX6_next_51 : decode cX6_next 51 = .ok (.aload_n 0, 1) := by decide +kernel
theorem dX6_next_52 : decode cX6_next 52 = .ok (.getfield 35, 3) := by decide +kernel
theorem dX6_next_55 : decode cX6_next 55 = .ok (.aload_n 0, 1) := by decide +kernel
theorem dX6_next_56 : decode cX6_next 56 = .ok (.getfield 48, 3) := by decide +kernel
theorem dX6_next_59 : decode cX6_next 59 = .ok (.iload_n 1, 1) := by decide +kernel
theorem dX6_next_60 : decode cX6_next 60 = .ok (.invokevirtual 155, 3) := by decide +kernel
theorem dX6_next_63 : decode cX6_next 63 = .ok (.ifCond .ne 6, 3) := by decide +kernel
theorem dX6_next_66 : decode cX6_next 66 = .ok (.bipush (-16), 2) := by decide +kernel
theorem dX6_next_68 : decode cX6_next 68 = .ok (.ireturn, 1) := by decide +kernel
theorem dX6_next_69 : decode cX6_next 69 = .ok (.aload_n 0, 1) := by decide +kernel
theorem dX6_next_70 : decode cX6_next 70 = .ok (.iload_n 1, 1) := by decide +kernel
theorem dX6_next_71 : decode cX6_next 71 = .ok (.putfield 52, 3) := by decide +kernel
theorem dX6_next_74 : decode cX6_next 74 = .ok (.aload_n 0, 1) := by decide +kernel
theorem dX6_next_75 : decode cX6_next 75 = .ok (.iload_n 2, 1) := by decide +kernel
theorem dX6_next_76 : decode cX6_next 76 = .ok (.iconst 1, 1) := by decide +kernel
theorem dX6_next_77 : decode cX6_next 77 = .ok (.iadd, 1) := by decide +kernel
theorem dX6_next_78 : decode cX6_next 78 = .ok (.putfield 55, 3) := by decide +kernel
theorem dX6_next_81 : decode cX6_next 81 = .ok (.aload_n 0, 1) := by decide +kernel
theorem dX6_next_82 : decode cX6_next 82 = .ok (.getfield 35, 3) := by decide +kernel
theorem dX6_next_85 : decode cX6_next 85 = .ok (.iload_n 2, 1) := by decide +kernel
theorem dX6_next_86 : decode cX6_next 86 = .ok (.invokevirtual 165, 3) := by decide +kernel
theorem dX6_next_89 : decode cX6_next 89 = .ok (.ireturn, 1) := by decide +kernel
theorem dX6_at_0 : decode cX6_at 0 = .ok (.iload_n 1, 1) := by decide +kernel
theorem dX6_at_1 : decode cX6_at 1 = .ok (.tableswitch 42 0 2 #[27, 32, 37], 27) := by decide +kernel
theorem dX6_at_28 : decode cX6_at 28 = .ok (.aload_n 0, 1) := by decide +kernel
theorem dX6_at_29 : decode cX6_at 29 = .ok (.getfield 48, 3) := by decide +kernel
theorem dX6_at_32 : decode cX6_at 32 = .ok (.ireturn, 1) := by decide +kernel
theorem dX6_at_33 : decode cX6_at 33 = .ok (.aload_n 0, 1) := by decide +kernel
theorem dX6_at_34 : decode cX6_at 34 = .ok (.getfield 52, 3) := by decide +kernel
theorem dX6_at_37 : decode cX6_at 37 = .ok (.ireturn, 1) := by decide +kernel
theorem dX6_at_38 : decode cX6_at 38 = .ok (.aload_n 0, 1) := by decide +kernel
theorem dX6_at_39 : decode cX6_at 39 = .ok (.getfield 55, 3) := by decide +kernel
theorem dX6_at_42 : decode cX6_at 42 = .ok (.ireturn, 1) := by decide +kernel
theorem dX6_at_43 : decode cX6_at 43 = .ok (.iconst (-1), 1) := by decide +kernel
theorem dX6_at_44 : decode cX6_at 44 = .ok (.ireturn, 1) := by decide +kernel
set_option maxRecDepth 20000 in
theorem ggX6_act_X4_find : GoodIn wsX6_act wsX4_find := goodIn_r _ [9, 10, 11, 12, 13, 8, 14, 15, 128, 129, 130, 131] (by decide +kernel) (by decide +kernel)
set_option maxRecDepth 20000 in
theorem gX6_act_X4_find : GoodIn wsX6_act (wsV RX6 76 RX4 yX4_find wsX4_find) := goodIn_app (goodIn_of _ (by decide +kernel)) ggX6_act_X4_find
set_option maxRecDepth 20000 in
theorem ggX6_act_X6_isRound : GoodIn wsX6_act wsX6_isRound := goodIn_r _ [19] (by decide +kernel) (by decide +kernel)
set_option maxRecDepth 20000 in
theorem gX6_act_X6_isRound : GoodIn wsX6_act (va_wsS RX6 152 yX6_isRound wsX6_isRound) := goodIn_app (goodIn_of _ (by decide +kernel)) ggX6_act_X6_isRound
set_option maxRecDepth 20000 in
theorem ggX6_act_X0_allows : GoodIn wsX6_act wsX0_allows := goodIn_r _ [23] (by decide +kernel) (by decide +kernel)
set_option maxRecDepth 20000 in
theorem gX6_act_X0_allows : GoodIn wsX6_act (va_wsS RX6 168 yX0_allows wsX0_allows) := goodIn_app (goodIn_of _ (by decide +kernel)) ggX6_act_X0_allows
set_option maxRecDepth 20000 in
theorem ggX6_act_X0_failure : GoodIn wsX6_act wsX0_failure := goodIn_r _ [26, 27, 28, 22, 29, 30, 31, 32, 123, 124, 125, 126, 127] (by decide +kernel) (by decide +kernel)
set_option maxRecDepth 20000 in
theorem gX6_act_X0_failure : GoodIn wsX6_act (va_wsS RX6 171 yX0_failure wsX0_failure) := goodIn_app (goodIn_of _ (by decide +kernel)) ggX6_act_X0_failure
set_option maxRecDepth 20000 in
theorem ggX6_act_X2_begin : GoodIn wsX6_act wsX2_begin := goodIn_r _ [37, 38, 132] (by decide +kernel) (by decide +kernel)
set_option maxRecDepth 20000 in
theorem gX6_act_X2_begin : GoodIn wsX6_act (wsV RX6 175 RX2 yX2_begin wsX2_begin) := goodIn_app (goodIn_of _ (by decide +kernel)) ggX6_act_X2_begin
set_option maxRecDepth 20000 in
theorem ggX6_act_X2_key : GoodIn wsX6_act wsX2_key := goodIn_r _ [42, 38, 43, 44, 45, 36, 46, 47, 48, 132] (by decide +kernel) (by decide +kernel)
set_option maxRecDepth 20000 in
theorem gX6_act_X2_key : GoodIn wsX6_act (wsV RX6 179 RX2 yX2_key wsX2_key) := goodIn_app (goodIn_of _ (by decide +kernel)) ggX6_act_X2_key
set_option maxRecDepth 20000 in
theorem ggX6_act_X0_alter : GoodIn wsX6_act wsX0_alter := goodIn_r _ [51, 52, 53, 54, 36, 55, 38, 43, 44, 45, 46, 47, 48, 56, 57, 22, 58, 59, 60, 61, 62, 63, 64, 65, 66, 67, 68, 69, 70, 71, 72, 73, 74, 75, 76, 77, 78, 79, 80, 81, 82, 83, 84, 85, 86, 87, 88, 89, 90, 91, 92, 93, 94, 95, 96, 97, 98, 99, 100, 101, 102, 103, 104, 105, 106, 107, 108, 109, 132, 123, 124, 125, 126, 127] (by decide +kernel) (by decide +kernel)
set_option maxRecDepth 20000 in
theorem gX6_act_X0_alter : GoodIn wsX6_act (va_wsS RX6 182 yX0_alter wsX0_alter) := goodIn_app (goodIn_of _ (by decide +kernel)) ggX6_act_X0_alter
theorem dX6_act_0 : decode cX6_act 0 = .ok (.aload_n 0, 1) := by decide +kernel
theorem dX6_act_1 : decode cX6_act 1 = .ok (.getfield 10, 3) := by decide +kernel
theorem dX6_act_4 : decode cX6_act 4 = .ok (.iload_n 2, 1) := by decide +kernel
theorem dX6_act_5 : decode cX6_act 5 = .ok (.invokevirtual 76, 3) := by decide +kernel
theorem dX6_act_8 : decode cX6_act 8 = .ok (.astore 5, 2) := by decide +kernel
theorem dX6_act_10 : decode cX6_act 10 = .ok (.aload 5, 2) := by decide +kernel
theorem dX6_act_12 : decode cX6_act 12 = .ok (.ifnull 19, 3) := by decide +kernel
theorem dX6_act_15 : decode cX6_act 15 = .ok (.iload_n 3, 1) := by decide +kernel
theorem dX6_act_16 : decode cX6_act 16 = .ok (.invokestatic 152, 3) := by decide +kernel
theorem dX6_act_19 : decode cX6_act 19 = .ok (.ifCond .eq 12, 3) := by decide +kernel
theorem dX6_act_22 : decode cX6_act 22 = .ok (.iload_n 1, 1) := by decide +kernel
theorem dX6_act_23 : decode cX6_act 23 = .ok (.iload 4, 2) := by decide +kernel
theorem dX6_act_25 : decode cX6_act 25 = .ok (.invokestatic 168, 3) := by decide +kernel
theorem dX6_act_28 : decode cX6_act 28 = .ok (.ifCond .ne 5, 3) := by decide +kernel
theorem dX6_act_31 : decode cX6_act 31 = .ok (.iconst (-1), 1) := by decide +kernel
theorem dX6_act_32 : decode cX6_act 32 = .ok (.ireturn, 1) := by decide +kernel
theorem dX6_act_33 : decode cX6_act 33 = .ok (.iload_n 1, 1) := by decide +kernel
theorem dX6_act_34 : decode cX6_act 34 = .ok (.aload 5, 2) := by decide +kernel
theorem dX6_act_36 : decode cX6_act 36 = .ok (.iload 4, 2) := by decide +kernel
theorem dX6_act_38 : decode cX6_act 38 = .ok (.invokestatic 171, 3) := by decide +kernel
theorem dX6_act_41 : decode cX6_act 41 = .ok (.istore 6, 2) := by decide +kernel
theorem dX6_act_43 : decode cX6_act 43 = .ok (.iload 6, 2) := by decide +kernel
theorem dX6_act_45 : decode cX6_act 45 = .ok (.ifCond .eq 6, 3) := by decide +kernel
theorem dX6_act_48 : decode cX6_act 48 = .ok (.iload 6, 2) := by decide +kernel
theorem dX6_act_50 : decode cX6_act 50 = .ok (.ireturn, 1) := by decide +kernel
theorem dX6_act_51 : decode cX6_act 51 = .ok (.aload_n 0, 1) := by decide +kernel
theorem dX6_act_52 : decode cX6_act 52 = .ok (.getfield 26, 3) := by decide +kernel
theorem dX6_act_55 : decode cX6_act 55 = .ok (.aload_n 0, 1) := by decide +kernel
theorem dX6_act_56 : decode cX6_act 56 = .ok (.getfield 19, 3) := by decide +kernel
theorem dX6_act_59 : decode cX6_act 59 = .ok (.getfield 122, 3) := by decide +kernel
theorem dX6_act_62 : decode cX6_act 62 = .ok (.invokevirtual 175, 3) := by decide +kernel
theorem dX6_act_65 : decode cX6_act 65 = .ok (.aload_n 0, 1) := by decide +kernel
theorem dX6_act_66 : decode cX6_act 66 = .ok (.getfield 26, 3) := by decide +kernel
theorem dX6_act_69 : decode cX6_act 69 = .ok (.iconst 5, 1) := by decide +kernel
theorem dX6_act_70 : decode cX6_act 70 = .ok (.invokevirtual 179, 3) := by decide +kernel
theorem dX6_act_73 : decode cX6_act 73 = .ok (.aload_n 0, 1) := by decide +kernel
theorem dX6_act_74 : decode cX6_act 74 = .ok (.getfield 26, 3) := by decide +kernel
theorem dX6_act_77 : decode cX6_act 77 = .ok (.iload_n 2, 1) := by decide +kernel
theorem dX6_act_78 : decode cX6_act 78 = .ok (.invokevirtual 179, 3) := by decide +kernel
theorem dX6_act_81 : decode cX6_act 81 = .ok (.aload_n 0, 1) := by decide +kernel
theorem dX6_act_82 : decode cX6_act 82 = .ok (.getfield 26, 3) := by decide +kernel
theorem dX6_act_85 : decode cX6_act 85 = .ok (.iload_n 3, 1) := by decide +kernel
theorem dX6_act_86 : decode cX6_act 86 = .ok (.invokevirtual 179, 3) := by decide +kernel
theorem dX6_act_89 : decode cX6_act 89 = .ok (.aload_n 0, 1) := by decide +kernel
theorem dX6_act_90 : decode cX6_act 90 = .ok (.getfield 26, 3) := by decide +kernel
theorem dX6_act_93 : decode cX6_act 93 = .ok (.iload_n 1, 1) := by decide +kernel
theorem dX6_act_94 : decode cX6_act 94 = .ok (.invokevirtual 179, 3) := by decide +kernel
theorem dX6_act_97 : decode cX6_act 97 = .ok (.iload_n 1, 1) := by decide +kernel
theorem dX6_act_98 : decode cX6_act 98 = .ok (.aload 5, 2) := by decide +kernel
theorem dX6_act_100 : decode cX6_act 100 = .ok (.iload 4, 2) := by decide +kernel
theorem dX6_act_102 : decode cX6_act 102 = .ok (.aload_n 0, 1) := by decide +kernel
theorem dX6_act_103 : decode cX6_act 103 = .ok (.getfield 26, 3) := by decide +kernel
theorem dX6_act_106 : decode cX6_act 106 = .ok (.aload_n 0, 1) := by decide +kernel
theorem dX6_act_107 : decode cX6_act 107 = .ok (.getfield 44, 3) := by decide +kernel
theorem dX6_act_110 : decode cX6_act 110 = .ok (.invokestatic 182, 3) := by decide +kernel
theorem dX6_act_113 : decode cX6_act 113 = .ok (.aload_n 0, 1) := by decide +kernel
theorem dX6_act_114 : decode cX6_act 114 = .ok (.getfield 44, 3) := by decide +kernel
theorem dX6_act_117 : decode cX6_act 117 = .ok (.getfield 83, 3) := by decide +kernel
theorem dX6_act_120 : decode cX6_act 120 = .ok (.ireturn, 1) := by decide +kernel
set_option maxRecDepth 20000 in
theorem ggX6_out_X1_holds : GoodIn wsX6_out wsX1_holds := goodIn_r _ [6, 7, 8, 22, 23, 24, 25, 26] (by decide +kernel) (by decide +kernel)
set_option maxRecDepth 20000 in
theorem gX6_out_X1_holds : GoodIn wsX6_out (wsV RX6 89 RX1 yX1_holds wsX1_holds) := goodIn_app (goodIn_of _ (by decide +kernel)) ggX6_out_X1_holds
set_option maxRecDepth 20000 in
theorem ggX6_out_X1_item : GoodIn wsX6_out wsX1_item := goodIn_r _ [12, 8, 13, 3, 4, 5, 6, 7, 22, 23, 24, 25, 26] (by decide +kernel) (by decide +kernel)
set_option maxRecDepth 20000 in
theorem gX6_out_X1_item : GoodIn wsX6_out (wsV RX6 186 RX1 yX1_item wsX1_item) := goodIn_app (goodIn_of _ (by decide +kernel)) ggX6_out_X1_item
theorem dX6_out_0 : decode cX6_out 0 = .ok (.aload_n 0, 1) := by decide +kernel
theorem dX6_out_1 : decode cX6_out 1 = .ok (.getfield 44, 3) := by decide +kernel
theorem dX6_out_4 : decode cX6_out 4 = .ok (.getfield 80, 3) := by decide +kernel
theorem dX6_out_7 : decode cX6_out 7 = .ok (.iconst 2, 1) := by decide +kernel
theorem dX6_out_8 : decode cX6_out 8 = .ok (.if_icmp .ne 6, 3) := by decide +kernel
theorem dX6_out_11 : decode cX6_out 11 = .ok (.bipush (-11), 2) := by decide +kernel
theorem dX6_out_13 : decode cX6_out 13 = .ok (.ireturn, 1) := by decide +kernel
theorem dX6_out_14 : decode cX6_out 14 = .ok (.iload_n 1, 1) := by decide +kernel
theorem dX6_out_15 : decode cX6_out 15 = .ok (.tableswitch 49 (-3) (-1) #[41, 33, 25], 25) := by decide +kernel
theorem dX6_out_40 : decode cX6_out 40 = .ok (.aload_n 0, 1) := by decide +kernel
theorem dX6_out_41 : decode cX6_out 41 = .ok (.getfield 44, 3) := by decide +kernel
theorem dX6_out_44 : decode cX6_out 44 = .ok (.getfield 83, 3) := by decide +kernel
theorem dX6_out_47 : decode cX6_out 47 = .ok (.ireturn, 1) := by decide +kernel
theorem dX6_out_48 : decode cX6_out 48 = .ok (.aload_n 0, 1) := by decide +kernel
theorem dX6_out_49 : decode cX6_out 49 = .ok (.getfield 44, 3) := by decide +kernel
theorem dX6_out_52 : decode cX6_out 52 = .ok (.getfield 116, 3) := by decide +kernel
theorem dX6_out_55 : decode cX6_out 55 = .ok (.ireturn, 1) := by decide +kernel
theorem dX6_out_56 : decode cX6_out 56 = .ok (.aload_n 0, 1) := by decide +kernel
theorem dX6_out_57 : decode cX6_out 57 = .ok (.getfield 44, 3) := by decide +kernel
theorem dX6_out_60 : decode cX6_out 60 = .ok (.getfield 119, 3) := by decide +kernel
theorem dX6_out_63 : decode cX6_out 63 = .ok (.ireturn, 1) := by decide +kernel
theorem dX6_out_64 : decode cX6_out 64 = .ok (.aload_n 0, 1) := by decide +kernel
theorem dX6_out_65 : decode cX6_out 65 = .ok (.getfield 44, 3) := by decide +kernel
theorem dX6_out_68 : decode cX6_out 68 = .ok (.iload_n 1, 1) := by decide +kernel
theorem dX6_out_69 : decode cX6_out 69 = .ok (.invokevirtual 89, 3) := by decide +kernel
theorem dX6_out_72 : decode cX6_out 72 = .ok (.ifCond .eq 14, 3) := by decide +kernel
theorem dX6_out_75 : decode cX6_out 75 = .ok (.aload_n 0, 1) := by decide +kernel
theorem dX6_out_76 : decode cX6_out 76 = .ok (.getfield 44, 3) := by decide +kernel
theorem dX6_out_79 : decode cX6_out 79 = .ok (.iload_n 1, 1) := by decide +kernel
theorem dX6_out_80 : decode cX6_out 80 = .ok (.invokevirtual 186, 3) := by decide +kernel
theorem dX6_out_83 : decode cX6_out 83 = .ok (.goto 5, 3) := by decide +kernel
theorem dX6_out_86 : decode cX6_out 86 = .ok (.bipush (-13), 2) := by decide +kernel
theorem dX6_out_88 : decode cX6_out 88 = .ok (.ireturn, 1) := by decide +kernel
set_option maxRecDepth 20000 in
theorem ggX6_like_X4_find : GoodIn wsX6_like wsX4_find := goodIn_r _ [7, 8, 9, 10, 11, 6, 12, 13, 40, 41, 42, 43] (by decide +kernel) (by decide +kernel)
set_option maxRecDepth 20000 in
theorem gX6_like_X4_find : GoodIn wsX6_like (wsV RX6 76 RX4 yX4_find wsX4_find) := goodIn_app (goodIn_of _ (by decide +kernel)) ggX6_like_X4_find
set_option maxRecDepth 20000 in
theorem ggX6_like_X1_isLike : GoodIn wsX6_like wsX1_isLike := goodIn_r _ [18, 19, 20, 21, 22, 23, 24, 25, 17, 26, 27, 28, 29, 30, 31, 44, 45, 46, 47, 48] (by decide +kernel) (by decide +kernel)
set_option maxRecDepth 20000 in
theorem gX6_like_X1_isLike : GoodIn wsX6_like (wsV RX6 189 RX1 yX1_isLike wsX1_isLike) := goodIn_app (goodIn_of _ (by decide +kernel)) ggX6_like_X1_isLike
theorem dX6_like_0 : decode cX6_like 0 = .ok (.aload_n 0, 1) := by decide +kernel
theorem dX6_like_1 : decode cX6_like 1 = .ok (.getfield 10, 3) := by decide +kernel
theorem dX6_like_4 : decode cX6_like 4 = .ok (.iload_n 1, 1) := by decide +kernel
theorem dX6_like_5 : decode cX6_like 5 = .ok (.invokevirtual 76, 3) := by decide +kernel
theorem dX6_like_8 : decode cX6_like 8 = .ok (.astore_n 2, 1) := by decide +kernel
theorem dX6_like_9 : decode cX6_like 9 = .ok (.aload_n 2, 1) := by decide +kernel
theorem dX6_like_10 : decode cX6_like 10 = .ok (.ifnonnull 5, 3) := by decide +kernel
theorem dX6_like_13 : decode cX6_like 13 = .ok (.iconst (-1), 1) := by decide +kernel
theorem dX6_like_14 : decode cX6_like 14 = .ok (.ireturn, 1) := by decide +kernel
theorem dX6_like_15 : decode cX6_like 15 = .ok (.aload_n 2, 1) := by decide +kernel
theorem dX6_like_16 : decode cX6_like 16 = .ok (.aload_n 0, 1) := by decide +kernel
theorem dX6_like_17 : decode cX6_like 17 = .ok (.getfield 44, 3) := by decide +kernel
theorem dX6_like_20 : decode cX6_like 20 = .ok (.invokevirtual 189, 3) := by decide +kernel
theorem dX6_like_23 : decode cX6_like 23 = .ok (.ifCond .eq 7, 3) := by decide +kernel
theorem dX6_like_26 : decode cX6_like 26 = .ok (.iconst 1, 1) := by decide +kernel
theorem dX6_like_27 : decode cX6_like 27 = .ok (.goto 4, 3) := by decide +kernel
theorem dX6_like_30 : decode cX6_like 30 = .ok (.iconst 0, 1) := by decide +kernel
theorem dX6_like_31 : decode cX6_like 31 = .ok (.ireturn, 1) := by decide +kernel
set_option maxRecDepth 20000 in
theorem ggX6_rowInBatch_X5_batchesOf : GoodIn wsX6_rowInBatch wsX5_batchesOf := goodIn_r _ [8, 9, 10, 30, 31, 32, 33, 34] (by decide +kernel) (by decide +kernel)
set_option maxRecDepth 20000 in
theorem gX6_rowInBatch_X5_batchesOf : GoodIn wsX6_rowInBatch (wsV RX6 146 RX5 yX5_batchesOf wsX5_batchesOf) := goodIn_app (goodIn_of _ (by decide +kernel)) ggX6_rowInBatch_X5_batchesOf
set_option maxRecDepth 20000 in
theorem ggX6_rowInBatch_X3_rowAt : GoodIn wsX6_rowInBatch wsX3_rowAt := goodIn_r _ [15, 16, 17, 35, 36, 37, 38, 39, 40, 41, 42, 43, 44] (by decide +kernel) (by decide +kernel)
set_option maxRecDepth 20000 in
theorem gX6_rowInBatch_X3_rowAt : GoodIn wsX6_rowInBatch (wsV RX6 165 RX3 yX3_rowAt wsX3_rowAt) := goodIn_app (goodIn_of _ (by decide +kernel)) ggX6_rowInBatch_X3_rowAt
theorem dX6_rowInBatch_0 : decode cX6_rowInBatch 0 = .ok (.iload_n 1, 1) := by decide +kernel
theorem dX6_rowInBatch_1 : decode cX6_rowInBatch 1 = .ok (.aload_n 0, 1) := by decide +kernel
theorem dX6_rowInBatch_2 : decode cX6_rowInBatch 2 = .ok (.getfield 19, 3) := by decide +kernel
theorem dX6_rowInBatch_5 : decode cX6_rowInBatch 5 = .ok (.aload_n 0, 1) := by decide +kernel
theorem dX6_rowInBatch_6 : decode cX6_rowInBatch 6 = .ok (.getfield 10, 3) := by decide +kernel
theorem dX6_rowInBatch_9 : decode cX6_rowInBatch 9 = .ok (.getfield 143, 3) := by decide +kernel
theorem dX6_rowInBatch_12 : decode cX6_rowInBatch 12 = .ok (.invokevirtual 146, 3) := by decide +kernel
theorem dX6_rowInBatch_15 : decode cX6_rowInBatch 15 = .ok (.if_icmp .ge 16, 3) := by decide +kernel
theorem dX6_rowInBatch_18 : decode cX6_rowInBatch 18 = .ok (.lload_n 2, 1) := by decide +kernel
theorem dX6_rowInBatch_19 : decode cX6_rowInBatch 19 = .ok (.aload_n 0, 1) := by decide +kernel
theorem dX6_rowInBatch_20 : decode cX6_rowInBatch 20 = .ok (.getfield 19, 3) := by decide +kernel
theorem dX6_rowInBatch_23 : decode cX6_rowInBatch 23 = .ok (.getfield 133, 3) := by decide +kernel
theorem dX6_rowInBatch_26 : decode cX6_rowInBatch 26 = .ok (.i2l, 1) := by decide +kernel
theorem dX6_rowInBatch_27 : decode cX6_rowInBatch 27 = .ok (.lcmp, 1) := by decide +kernel
theorem dX6_rowInBatch_28 : decode cX6_rowInBatch 28 = .ok (.ifCond .lt 6, 3) := by decide +kernel
theorem dX6_rowInBatch_31 : decode cX6_rowInBatch 31 = .ok (.bipush (-3), 2) := by decide +kernel
theorem dX6_rowInBatch_33 : decode cX6_rowInBatch 33 = .ok (.ireturn, 1) := by decide +kernel
theorem dX6_rowInBatch_34 : decode cX6_rowInBatch 34 = .ok (.aload_n 0, 1) := by decide +kernel
theorem dX6_rowInBatch_35 : decode cX6_rowInBatch 35 = .ok (.getfield 35, 3) := by decide +kernel
theorem dX6_rowInBatch_38 : decode cX6_rowInBatch 38 = .ok (.iload_n 1, 1) := by decide +kernel
theorem dX6_rowInBatch_39 : decode cX6_rowInBatch 39 = .ok (.aload_n 0, 1) := by decide +kernel
theorem dX6_rowInBatch_40 : decode cX6_rowInBatch 40 = .ok (.getfield 19, 3) := by decide +kernel
theorem dX6_rowInBatch_43 : decode cX6_rowInBatch 43 = .ok (.getfield 133, 3) := by decide +kernel
theorem dX6_rowInBatch_46 : decode cX6_rowInBatch 46 = .ok (.imul, 1) := by decide +kernel
theorem dX6_rowInBatch_47 : decode cX6_rowInBatch 47 = .ok (.lload_n 2, 1) := by decide +kernel
theorem dX6_rowInBatch_48 : decode cX6_rowInBatch 48 = .ok (.l2i, 1) := by decide +kernel
theorem dX6_rowInBatch_49 : decode cX6_rowInBatch 49 = .ok (.iadd, 1) := by decide +kernel
theorem dX6_rowInBatch_50 : decode cX6_rowInBatch 50 = .ok (.invokevirtual 165, 3) := by decide +kernel
theorem dX6_rowInBatch_53 : decode cX6_rowInBatch 53 = .ok (.ireturn, 1) := by decide +kernel
theorem dX6_isLabel_0 : decode cX6_isLabel 0 = .ok (.iload_n 0, 1) := by decide +kernel
theorem dX6_isLabel_1 : decode cX6_isLabel 1 = .ok (.ifCond .lt 13, 3) := by decide +kernel
theorem dX6_isLabel_4 : decode cX6_isLabel 4 = .ok (.iload_n 0, 1) := by decide +kernel
theorem dX6_isLabel_5 : decode cX6_isLabel 5 = .ok (.bipush 8, 2) := by decide +kernel
theorem dX6_isLabel_7 : decode cX6_isLabel 7 = .ok (.if_icmp .ge 7, 3) := by decide +kernel
theorem dX6_isLabel_10 : decode cX6_isLabel 10 = .ok (.iconst 1, 1) := by decide +kernel
theorem dX6_isLabel_11 : decode cX6_isLabel 11 = .ok (.goto 4, 3) := by decide +kernel
theorem dX6_isLabel_14 : decode cX6_isLabel 14 = .ok (.iconst 0, 1) := by decide +kernel
theorem dX6_isLabel_15 : decode cX6_isLabel 15 = .ok (.ireturn, 1) := by decide +kernel
theorem dX6_isWeight_0 : decode cX6_isWeight 0 = .ok (.iload_n 0, 1) := by decide +kernel
theorem dX6_isWeight_1 : decode cX6_isWeight 1 = .ok (.ifCond .lt 14, 3) := by decide +kernel
theorem dX6_isWeight_4 : decode cX6_isWeight 4 = .ok (.iload_n 0, 1) := by decide +kernel
theorem dX6_isWeight_5 : decode cX6_isWeight 5 = .ok (.sipush 1000, 3) := by decide +kernel
theorem dX6_isWeight_8 : decode cX6_isWeight 8 = .ok (.if_icmp .gt 7, 3) := by decide +kernel
theorem dX6_isWeight_11 : decode cX6_isWeight 11 = .ok (.iconst 1, 1) := by decide +kernel
theorem dX6_isWeight_12 : decode cX6_isWeight 12 = .ok (.goto 4, 3) := by decide +kernel
theorem dX6_isWeight_15 : decode cX6_isWeight 15 = .ok (.iconst 0, 1) := by decide +kernel
theorem dX6_isWeight_16 : decode cX6_isWeight 16 = .ok (.ireturn, 1) := by decide +kernel
theorem dX6_isSide_0 : decode cX6_isSide 0 = .ok (.iload_n 0, 1) := by decide +kernel
theorem dX6_isSide_1 : decode cX6_isSide 1 = .ok (.iconst 1, 1) := by decide +kernel
theorem dX6_isSide_2 : decode cX6_isSide 2 = .ok (.if_icmp .lt 13, 3) := by decide +kernel
theorem dX6_isSide_5 : decode cX6_isSide 5 = .ok (.iload_n 0, 1) := by decide +kernel
theorem dX6_isSide_6 : decode cX6_isSide 6 = .ok (.bipush 40, 2) := by decide +kernel
theorem dX6_isSide_8 : decode cX6_isSide 8 = .ok (.if_icmp .gt 7, 3) := by decide +kernel
theorem dX6_isSide_11 : decode cX6_isSide 11 = .ok (.iconst 1, 1) := by decide +kernel
theorem dX6_isSide_12 : decode cX6_isSide 12 = .ok (.goto 4, 3) := by decide +kernel
theorem dX6_isSide_15 : decode cX6_isSide 15 = .ok (.iconst 0, 1) := by decide +kernel
theorem dX6_isSide_16 : decode cX6_isSide 16 = .ok (.ireturn, 1) := by decide +kernel
theorem dX6_isWay_0 : decode cX6_isWay 0 = .ok (.iload_n 0, 1) := by decide +kernel
theorem dX6_isWay_1 : decode cX6_isWay 1 = .ok (.ifCond .lt 12, 3) := by decide +kernel
theorem dX6_isWay_4 : decode cX6_isWay 4 = .ok (.iload_n 0, 1) := by decide +kernel
theorem dX6_isWay_5 : decode cX6_isWay 5 = .ok (.iconst 4, 1) := by decide +kernel
theorem dX6_isWay_6 : decode cX6_isWay 6 = .ok (.if_icmp .gt 7, 3) := by decide +kernel
theorem dX6_isWay_9 : decode cX6_isWay 9 = .ok (.iconst 1, 1) := by decide +kernel
theorem dX6_isWay_10 : decode cX6_isWay 10 = .ok (.goto 4, 3) := by decide +kernel
theorem dX6_isWay_13 : decode cX6_isWay 13 = .ok (.iconst 0, 1) := by decide +kernel
theorem dX6_isWay_14 : decode cX6_isWay 14 = .ok (.ireturn, 1) := by decide +kernel
theorem dX6_isRound_0 : decode cX6_isRound 0 = .ok (.iload_n 0, 1) := by decide +kernel
theorem dX6_isRound_1 : decode cX6_isRound 1 = .ok (.ifCond .lt 14, 3) := by decide +kernel
theorem dX6_isRound_4 : decode cX6_isRound 4 = .ok (.iload_n 0, 1) := by decide +kernel
theorem dX6_isRound_5 : decode cX6_isRound 5 = .ok (.sipush 1000, 3) := by decide +kernel
theorem dX6_isRound_8 : decode cX6_isRound 8 = .ok (.if_icmp .gt 7, 3) := by decide +kernel
theorem dX6_isRound_11 : decode cX6_isRound 11 = .ok (.iconst 1, 1) := by decide +kernel
theorem dX6_isRound_12 : decode cX6_isRound 12 = .ok (.goto 4, 3) := by decide +kernel
theorem dX6_isRound_15 : decode cX6_isRound 15 = .ok (.iconst 0, 1) := by decide +kernel
theorem dX6_isRound_16 : decode cX6_isRound 16 = .ok (.ireturn, 1) := by decide +kernel
end
section
theorem dX7_init_0 : decode cX7_init 0 = .ok (.aload_n 0, 1) := by decide +kernel
theorem dX7_init_1 : decode cX7_init 1 = .ok (.invokespecial 1, 3) := by decide +kernel
theorem dX7_init_4 : decode cX7_init 4 = .ok (.aload_n 0, 1) := by decide +kernel
theorem dX7_init_5 : decode cX7_init 5 = .ok (.bipush 60, 2) := by decide +kernel
theorem dX7_init_7 : decode cX7_init 7 = .ok (.newarray .int, 2) := by decide +kernel
theorem dX7_init_9 : decode cX7_init 9 = .ok (.putfield 7, 3) := by decide +kernel
theorem dX7_init_12 : decode cX7_init 12 = .ok (.aload_n 0, 1) := by decide +kernel
theorem dX7_init_13 : decode cX7_init 13 = .ok (.bipush 60, 2) := by decide +kernel
theorem dX7_init_15 : decode cX7_init 15 = .ok (.newarray .int, 2) := by decide +kernel
theorem dX7_init_17 : decode cX7_init 17 = .ok (.putfield 13, 3) := by decide +kernel
theorem dX7_init_20 : decode cX7_init 20 = .ok (.aload_n 0, 1) := by decide +kernel
theorem dX7_init_21 : decode cX7_init 21 = .ok (.bipush 60, 2) := by decide +kernel
theorem dX7_init_23 : decode cX7_init 23 = .ok (.newarray .int, 2) := by decide +kernel
theorem dX7_init_25 : decode cX7_init 25 = .ok (.putfield 16, 3) := by decide +kernel
theorem dX7_init_28 : decode cX7_init 28 = .ok (.aload_n 0, 1) := by decide +kernel
theorem dX7_init_29 : decode cX7_init 29 = .ok (.bipush 60, 2) := by decide +kernel
theorem dX7_init_31 : decode cX7_init 31 = .ok (.newarray .int, 2) := by decide +kernel
theorem dX7_init_33 : decode cX7_init 33 = .ok (.putfield 19, 3) := by decide +kernel
theorem dX7_init_36 : decode cX7_init 36 = .ok (.aload_n 0, 1) := by decide +kernel
theorem dX7_init_37 : decode cX7_init 37 = .ok (.bipush 60, 2) := by decide +kernel
theorem dX7_init_39 : decode cX7_init 39 = .ok (.newarray .int, 2) := by decide +kernel
theorem dX7_init_41 : decode cX7_init 41 = .ok (.putfield 22, 3) := by decide +kernel
theorem dX7_init_44 : decode cX7_init 44 = .ok (.aload_n 0, 1) := by decide +kernel
theorem dX7_init_45 : decode cX7_init 45 = .ok (.bipush 60, 2) := by decide +kernel
theorem dX7_init_47 : decode cX7_init 47 = .ok (.newarray .int, 2) := by decide +kernel
theorem dX7_init_49 : decode cX7_init 49 = .ok (.putfield 25, 3) := by decide +kernel
theorem dX7_init_52 : decode cX7_init 52 = .ok (.aload_n 0, 1) := by decide +kernel
theorem dX7_init_53 : decode cX7_init 53 = .ok (.ldc 28, 2) := by decide +kernel
theorem dX7_init_55 : decode cX7_init 55 = .ok (.newarray .int, 2) := by decide +kernel
theorem dX7_init_57 : decode cX7_init 57 = .ok (.putfield 29, 3) := by decide +kernel
theorem dX7_init_60 : decode cX7_init 60 = .ok (.aload_n 0, 1) := by decide +kernel
theorem dX7_init_61 : decode cX7_init 61 = .ok (.iconst 4, 1) := by decide +kernel
theorem dX7_init_62 : decode cX7_init 62 = .ok (.putfield 32, 3) := by decide +kernel
theorem dX7_init_65 : decode cX7_init 65 = .ok (.aload_n 0, 1) := by decide +kernel
theorem dX7_init_66 : decode cX7_init 66 = .ok (.bipush 8, 2) := by decide +kernel
theorem dX7_init_68 : decode cX7_init 68 = .ok (.putfield 36, 3) := by decide +kernel
theorem dX7_init_71 : decode cX7_init 71 = .ok (.aload_n 0, 1) := by decide +kernel
theorem dX7_init_72 : decode cX7_init 72 = .ok (.iconst 5, 1) := by decide +kernel
theorem dX7_init_73 : decode cX7_init 73 = .ok (.putfield 39, 3) := by decide +kernel
theorem dX7_init_76 : decode cX7_init 76 = .ok (.aload_n 0, 1) := by decide +kernel
theorem dX7_init_77 : decode cX7_init 77 = .ok (.bipush 60, 2) := by decide +kernel
theorem dX7_init_79 : decode cX7_init 79 = .ok (.newarray .int, 2) := by decide +kernel
theorem dX7_init_81 : decode cX7_init 81 = .ok (.putfield 42, 3) := by decide +kernel
theorem dX7_init_84 : decode cX7_init 84 = .ok (.aload_n 0, 1) := by decide +kernel
theorem dX7_init_85 : decode cX7_init 85 = .ok (.bipush 60, 2) := by decide +kernel
theorem dX7_init_87 : decode cX7_init 87 = .ok (.newarray .int, 2) := by decide +kernel
theorem dX7_init_89 : decode cX7_init 89 = .ok (.putfield 45, 3) := by decide +kernel
theorem dX7_init_92 : decode cX7_init 92 = .ok (.aload_n 0, 1) := by decide +kernel
theorem dX7_init_93 : decode cX7_init 93 = .ok (.bipush 8, 2) := by decide +kernel
theorem dX7_init_95 : decode cX7_init 95 = .ok (.newarray .int, 2) := by decide +kernel
theorem dX7_init_97 : decode cX7_init 97 = .ok (.putfield 48, 3) := by decide +kernel
theorem dX7_init_100 : decode cX7_init 100 = .ok (.aload_n 0, 1) := by decide +kernel
theorem dX7_init_101 : decode cX7_init 101 = .ok (.bipush 8, 2) := by decide +kernel
theorem dX7_init_103 : decode cX7_init 103 = .ok (.newarray .int, 2) := by decide +kernel
theorem dX7_init_105 : decode cX7_init 105 = .ok (.putfield 51, 3) := by decide +kernel
theorem dX7_init_108 : decode cX7_init 108 = .ok (.aload_n 0, 1) := by decide +kernel
theorem dX7_init_109 : decode cX7_init 109 = .ok (.bipush 8, 2) := by decide +kernel
theorem dX7_init_111 : decode cX7_init 111 = .ok (.newarray .int, 2) := by decide +kernel
theorem dX7_init_113 : decode cX7_init 113 = .ok (.putfield 54, 3) := by decide +kernel
theorem dX7_init_116 : decode cX7_init 116 = .ok (.aload_n 0, 1) := by decide +kernel
theorem dX7_init_117 : decode cX7_init 117 = .ok (.bipush 8, 2) := by decide +kernel
theorem dX7_init_119 : decode cX7_init 119 = .ok (.newarray .int, 2) := by decide +kernel
theorem dX7_init_121 : decode cX7_init 121 = .ok (.putfield 57, 3) := by decide +kernel
theorem dX7_init_124 : decode cX7_init 124 = .ok (.aload_n 0, 1) := by decide +kernel
theorem dX7_init_125 : decode cX7_init 125 = .ok (.iconst 2, 1) := by decide +kernel
theorem dX7_init_126 : decode cX7_init 126 = .ok (.putfield 60, 3) := by decide +kernel
theorem dX7_init_129 : decode cX7_init 129 = .ok (.aload_n 0, 1) := by decide +kernel
theorem dX7_init_130 : decode cX7_init 130 = .ok (.sipush 1600, 3) := by decide +kernel
theorem dX7_init_133 : decode cX7_init 133 = .ok (.newarray .int, 2) := by decide +kernel
theorem dX7_init_135 : decode cX7_init 135 = .ok (.putfield 63, 3) := by decide +kernel
theorem dX7_init_138 : decode cX7_init 138 = .ok (.aload_n 0, 1) := by decide +kernel
theorem dX7_init_139 : decode cX7_init 139 = .ok (.sipush 1600, 3) := by decide +kernel
theorem dX7_init_142 : decode cX7_init 142 = .ok (.newarray .int, 2) := by decide +kernel
theorem dX7_init_144 : decode cX7_init 144 = .ok (.putfield 66, 3) := by decide +kernel
theorem dX7_init_147 : decode cX7_init 147 = .ok (.return_, 1) := by decide +kernel
theorem dX7_thrown_0 : decode cX7_thrown 0 = .ok (.aload_n 0, 1) := by decide +kernel
theorem dX7_thrown_1 : decode cX7_thrown 1 = .ok (.getfield 69, 3) := by decide +kernel
theorem dX7_thrown_4 : decode cX7_thrown 4 = .ok (.ireturn, 1) := by decide +kernel
theorem dX7_in_0 : decode cX7_in 0 = .ok (.lload_n 0, 1) := by decide +kernel
theorem dX7_in_1 : decode cX7_in 1 = .ok (.lload_n 2, 1) := by decide +kernel
theorem dX7_in_2 : decode cX7_in 2 = .ok (.lcmp, 1) := by decide +kernel
theorem dX7_in_3 : decode cX7_in 3 = .ok (.ifCond .lt 14, 3) := by decide +kernel
theorem dX7_in_6 : decode cX7_in 6 = .ok (.lload_n 0, 1) := by decide +kernel
theorem dX7_in_7 : decode cX7_in 7 = .ok (.lload 4, 2) := by decide +kernel
theorem dX7_in_9 : decode cX7_in 9 = .ok (.lcmp, 1) := by decide +kernel
theorem dX7_in_10 : decode cX7_in 10 = .ok (.ifCond .gt 7, 3) := by decide +kernel
theorem dX7_in_13 : decode cX7_in 13 = .ok (.iconst 1, 1) := by decide +kernel
theorem dX7_in_14 : decode cX7_in 14 = .ok (.goto 4, 3) := by decide +kernel
theorem dX7_in_17 : decode cX7_in 17 = .ok (.iconst 0, 1) := by decide +kernel
theorem dX7_in_18 : decode cX7_in 18 = .ok (.ireturn, 1) := by decide +kernel
theorem dX7_mix_0 : decode cX7_mix 0 = .ok (.lload_n 0, 1) := by decide +kernel
theorem dX7_mix_1 : decode cX7_mix 1 = .ok (.lload_n 0, 1) := by decide +kernel
theorem dX7_mix_2 : decode cX7_mix 2 = .ok (.bipush 30, 2) := by decide +kernel
theorem dX7_mix_4 : decode cX7_mix 4 = .ok (.lushr, 1) := by decide +kernel
theorem dX7_mix_5 : decode cX7_mix 5 = .ok (.lxor, 1) := by decide +kernel
theorem dX7_mix_6 : decode cX7_mix 6 = .ok (.ldc2_w 72, 3) := by decide +kernel
theorem dX7_mix_9 : decode cX7_mix 9 = .ok (.lmul, 1) := by decide +kernel
theorem dX7_mix_10 : decode cX7_mix 10 = .ok (.lstore_n 2, 1) := by decide +kernel
theorem dX7_mix_11 : decode cX7_mix 11 = .ok (.lload_n 2, 1) := by decide +kernel
theorem dX7_mix_12 : decode cX7_mix 12 = .ok (.lload_n 2, 1) := by decide +kernel
theorem dX7_mix_13 : decode cX7_mix 13 = .ok (.bipush 27, 2) := by decide +kernel
theorem dX7_mix_15 : decode cX7_mix 15 = .ok (.lushr, 1) := by decide +kernel
theorem dX7_mix_16 : decode cX7_mix 16 = .ok (.lxor, 1) := by decide +kernel
theorem dX7_mix_17 : decode cX7_mix 17 = .ok (.ldc2_w 74, 3) := by decide +kernel
theorem dX7_mix_20 : decode cX7_mix 20 = .ok (.lmul, 1) := by decide +kernel
theorem dX7_mix_21 : decode cX7_mix 21 = .ok (.lstore_n 2, 1) := by decide +kernel
theorem dX7_mix_22 : decode cX7_mix 22 = .ok (.lload_n 2, 1) := by decide +kernel
theorem dX7_mix_23 : decode cX7_mix 23 = .ok (.lload_n 2, 1) := by decide +kernel
theorem dX7_mix_24 : decode cX7_mix 24 = .ok (.bipush 31, 2) := by decide +kernel
theorem dX7_mix_26 : decode cX7_mix 26 = .ok (.lushr, 1) := by decide +kernel
theorem dX7_mix_27 : decode cX7_mix 27 = .ok (.lxor, 1) := by decide +kernel
theorem dX7_mix_28 : decode cX7_mix 28 = .ok (.lreturn, 1) := by decide +kernel
theorem dX7_begin_0 : decode cX7_begin 0 = .ok (.aload_n 0, 1) := by decide +kernel
theorem dX7_begin_1 : decode cX7_begin 1 = .ok (.aload_n 0, 1) := by decide +kernel
theorem dX7_begin_2 : decode cX7_begin 2 = .ok (.getfield 76, 3) := by decide +kernel
theorem dX7_begin_5 : decode cX7_begin 5 = .ok (.putfield 80, 3) := by decide +kernel
theorem dX7_begin_8 : decode cX7_begin 8 = .ok (.return_, 1) := by decide +kernel
set_option maxRecDepth 20000 in
theorem ggX7_with_X7_mix : GoodIn wsX7_with wsX7_mix := goodIn_r _ [6, 7, 8] (by decide +kernel) (by decide +kernel)
set_option maxRecDepth 20000 in
theorem gX7_with_X7_mix : GoodIn wsX7_with (va_wsS RX7 85 yX7_mix wsX7_mix) := goodIn_app (goodIn_of _ (by decide +kernel)) ggX7_with_X7_mix
theorem dX7_with_0 : decode cX7_with 0 = .ok (.aload_n 0, 1) := by decide +kernel
theorem dX7_with_1 : decode cX7_with 1 = .ok (.aload_n 0, 1) := by decide +kernel
theorem dX7_with_2 : decode cX7_with 2 = .ok (.getfield 80, 3) := by decide +kernel
theorem dX7_with_5 : decode cX7_with 5 = .ok (.lload_n 1, 1) := by decide +kernel
theorem dX7_with_6 : decode cX7_with 6 = .ok (.ldc2_w 83, 3) := by decide +kernel
theorem dX7_with_9 : decode cX7_with 9 = .ok (.lmul, 1) := by decide +kernel
theorem dX7_with_10 : decode cX7_with 10 = .ok (.lxor, 1) := by decide +kernel
theorem dX7_with_11 : decode cX7_with 11 = .ok (.invokestatic 85, 3) := by decide +kernel
theorem dX7_with_14 : decode cX7_with 14 = .ok (.putfield 80, 3) := by decide +kernel
theorem dX7_with_17 : decode cX7_with 17 = .ok (.return_, 1) := by decide +kernel
set_option maxRecDepth 20000 in
theorem ggX7_draw_X7_mix : GoodIn wsX7_draw wsX7_mix := goodIn_r _ [6, 7, 8] (by decide +kernel) (by decide +kernel)
set_option maxRecDepth 20000 in
theorem gX7_draw_X7_mix : GoodIn wsX7_draw (va_wsS RX7 85 yX7_mix wsX7_mix) := goodIn_app (goodIn_of _ (by decide +kernel)) ggX7_draw_X7_mix
theorem dX7_draw_0 : decode cX7_draw 0 = .ok (.aload_n 0, 1) := by decide +kernel
theorem dX7_draw_1 : decode cX7_draw 1 = .ok (.dup, 1) := by decide +kernel
theorem dX7_draw_2 : decode cX7_draw 2 = .ok (.getfield 80, 3) := by decide +kernel
theorem dX7_draw_5 : decode cX7_draw 5 = .ok (.ldc2_w 83, 3) := by decide +kernel
theorem dX7_draw_8 : decode cX7_draw 8 = .ok (.ladd, 1) := by decide +kernel
theorem dX7_draw_9 : decode cX7_draw 9 = .ok (.putfield 80, 3) := by decide +kernel
theorem dX7_draw_12 : decode cX7_draw 12 = .ok (.aload_n 0, 1) := by decide +kernel
theorem dX7_draw_13 : decode cX7_draw 13 = .ok (.getfield 80, 3) := by decide +kernel
theorem dX7_draw_16 : decode cX7_draw 16 = .ok (.invokestatic 85, 3) := by decide +kernel
theorem dX7_draw_19 : decode cX7_draw 19 = .ok (.iconst 1, 1) := by decide +kernel
theorem dX7_draw_20 : decode cX7_draw 20 = .ok (.lushr, 1) := by decide +kernel
theorem dX7_draw_21 : decode cX7_draw 21 = .ok (.lload_n 1, 1) := by decide +kernel
theorem dX7_draw_22 : decode cX7_draw 22 = .ok (.lrem, 1) := by decide +kernel
theorem dX7_draw_23 : decode cX7_draw 23 = .ok (.l2i, 1) := by decide +kernel
theorem dX7_draw_24 : decode cX7_draw 24 = .ok (.ireturn, 1) := by decide +kernel
set_option maxRecDepth 20000 in
theorem ggX7_mixes_X7_draw : GoodIn wsX7_mixes wsX7_draw := goodIn_r _ [5, 6, 7, 8, 9, 4, 10, 11, 12, 13, 14, 15, 16, 17, 18, 19, 20, 21, 22, 23, 24, 25, 26, 27, 28, 29, 30, 31, 32, 33, 34, 35, 36, 37, 38, 39, 40, 41, 42] (by decide +kernel) (by decide +kernel)
set_option maxRecDepth 20000 in
theorem gX7_mixes_X7_draw : GoodIn wsX7_mixes (wsV RX7 89 RX7 yX7_draw wsX7_draw) := goodIn_app (goodIn_of _ (by decide +kernel)) ggX7_mixes_X7_draw
theorem dX7_mixes_0 : decode cX7_mixes 0 = .ok (.iload_n 3, 1) := by decide +kernel
theorem dX7_mixes_1 : decode cX7_mixes 1 = .ok (.iconst 1, 1) := by decide +kernel
theorem dX7_mixes_2 : decode cX7_mixes 2 = .ok (.isub, 1) := by decide +kernel
theorem dX7_mixes_3 : decode cX7_mixes 3 = .ok (.istore 4, 2) := by decide +kernel
theorem dX7_mixes_5 : decode cX7_mixes 5 = .ok (.iload 4, 2) := by decide +kernel
theorem dX7_mixes_7 : decode cX7_mixes 7 = .ok (.ifCond .le 48, 3) := by decide +kernel
theorem dX7_mixes_10 : decode cX7_mixes 10 = .ok (.aload_n 0, 1) := by decide +kernel
theorem dX7_mixes_11 : decode cX7_mixes 11 = .ok (.iload 4, 2) := by decide +kernel
theorem dX7_mixes_13 : decode cX7_mixes 13 = .ok (.iconst 1, 1) := by decide +kernel
theorem dX7_mixes_14 : decode cX7_mixes 14 = .ok (.iadd, 1) := by decide +kernel
theorem dX7_mixes_15 : decode cX7_mixes 15 = .ok (.i2l, 1) := by decide +kernel
theorem dX7_mixes_16 : decode cX7_mixes 16 = .ok (.invokevirtual 89, 3) := by decide +kernel
theorem dX7_mixes_19 : decode cX7_mixes 19 = .ok (.istore 5, 2) := by decide +kernel
theorem dX7_mixes_21 : decode cX7_mixes 21 = .ok (.aload_n 1, 1) := by decide +kernel
theorem dX7_mixes_22 : decode cX7_mixes 22 = .ok (.iload_n 2, 1) := by decide +kernel
theorem dX7_mixes_23 : decode cX7_mixes 23 = .ok (.iload 4, 2) := by decide +kernel
theorem dX7_mixes_25 : decode cX7_mixes 25 = .ok (.iadd, 1) := by decide +kernel
theorem dX7_mixes_26 : decode cX7_mixes 26 = .ok (.iaload, 1) := by decide +kernel
theorem dX7_mixes_27 : decode cX7_mixes 27 = .ok (.istore 6, 2) := by decide +kernel
theorem dX7_mixes_29 : decode cX7_mixes 29 = .ok (.aload_n 1, 1) := by decide +kernel
theorem dX7_mixes_30 : decode cX7_mixes 30 = .ok (.iload_n 2, 1) := by decide +kernel
theorem dX7_mixes_31 : decode cX7_mixes 31 = .ok (.iload 4, 2) := by decide +kernel
theorem dX7_mixes_33 : decode cX7_mixes 33 = .ok (.iadd, 1) := by decide +kernel
theorem dX7_mixes_34 : decode cX7_mixes 34 = .ok (.aload_n 1, 1) := by decide +kernel
theorem dX7_mixes_35 : decode cX7_mixes 35 = .ok (.iload_n 2, 1) := by decide +kernel
theorem dX7_mixes_36 : decode cX7_mixes 36 = .ok (.iload 5, 2) := by decide +kernel
theorem dX7_mixes_38 : decode cX7_mixes 38 = .ok (.iadd, 1) := by decide +kernel
theorem dX7_mixes_39 : decode cX7_mixes 39 = .ok (.iaload, 1) := by decide +kernel
theorem dX7_mixes_40 : decode cX7_mixes 40 = .ok (.iastore, 1) := by decide +kernel
theorem dX7_mixes_41 : decode cX7_mixes 41 = .ok (.aload_n 1, 1) := by decide +kernel
theorem dX7_mixes_42 : decode cX7_mixes 42 = .ok (.iload_n 2, 1) := by decide +kernel
theorem dX7_mixes_43 : decode cX7_mixes 43 = .ok (.iload 5, 2) := by decide +kernel
theorem dX7_mixes_45 : decode cX7_mixes 45 = .ok (.iadd, 1) := by decide +kernel
theorem dX7_mixes_46 : decode cX7_mixes 46 = .ok (.iload 6, 2) := by decide +kernel
theorem dX7_mixes_48 : decode cX7_mixes 48 = .ok (.iastore, 1) := by decide +kernel
theorem dX7_mixes_49 : decode cX7_mixes 49 = .ok (.iinc 4 (-1), 3) := by decide +kernel
theorem dX7_mixes_52 : decode cX7_mixes 52 = .ok (.goto (-47), 3) := by decide +kernel
theorem dX7_mixes_55 : decode cX7_mixes 55 = .ok (.return_, 1) := by decide +kernel
set_option maxRecDepth 20000 in
theorem ggX7_isRow_X7_in : GoodIn wsX7_isRow wsX7_in := goodIn_r _ [5] (by decide +kernel) (by decide +kernel)
set_option maxRecDepth 20000 in
theorem gX7_isRow_X7_in : GoodIn wsX7_isRow (va_wsS RX7 96 yX7_in wsX7_in) := goodIn_app (goodIn_of _ (by decide +kernel)) ggX7_isRow_X7_in
theorem dX7_isRow_0 : decode cX7_isRow 0 = .ok (.iload_n 1, 1) := by decide +kernel
theorem dX7_isRow_1 : decode cX7_isRow 1 = .ok (.i2l, 1) := by decide +kernel
theorem dX7_isRow_2 : decode cX7_isRow 2 = .ok (.lconst 0, 1) := by decide +kernel
theorem dX7_isRow_3 : decode cX7_isRow 3 = .ok (.aload_n 0, 1) := by decide +kernel
theorem dX7_isRow_4 : decode cX7_isRow 4 = .ok (.getfield 93, 3) := by decide +kernel
theorem dX7_isRow_7 : decode cX7_isRow 7 = .ok (.iconst 1, 1) := by decide +kernel
theorem dX7_isRow_8 : decode cX7_isRow 8 = .ok (.isub, 1) := by decide +kernel
theorem dX7_isRow_9 : decode cX7_isRow 9 = .ok (.i2l, 1) := by decide +kernel
theorem dX7_isRow_10 : decode cX7_isRow 10 = .ok (.invokestatic 96, 3) := by decide +kernel
theorem dX7_isRow_13 : decode cX7_isRow 13 = .ok (.ireturn, 1) := by decide +kernel
set_option maxRecDepth 20000 in
theorem ggX7_comes_X7_in : GoodIn wsX7_comes wsX7_in := goodIn_r _ [14] (by decide +kernel) (by decide +kernel)
set_option maxRecDepth 20000 in
theorem gX7_comes_X7_in : GoodIn wsX7_comes (va_wsS RX7 96 yX7_in wsX7_in) := goodIn_app (goodIn_of _ (by decide +kernel)) ggX7_comes_X7_in
theorem dX7_comes_0 : decode cX7_comes 0 = .ok (.iload_n 2, 1) := by decide +kernel
theorem dX7_comes_1 : decode cX7_comes 1 = .ok (.i2l, 1) := by decide +kernel
theorem dX7_comes_2 : decode cX7_comes 2 = .ok (.lconst 0, 1) := by decide +kernel
theorem dX7_comes_3 : decode cX7_comes 3 = .ok (.ldc2_w 100, 3) := by decide +kernel
theorem dX7_comes_6 : decode cX7_comes 6 = .ok (.invokestatic 96, 3) := by decide +kernel
theorem dX7_comes_9 : decode cX7_comes 9 = .ok (.ifCond .eq 15, 3) := by decide +kernel
theorem dX7_comes_12 : decode cX7_comes 12 = .ok (.iload_n 3, 1) := by decide +kernel
theorem dX7_comes_13 : decode cX7_comes 13 = .ok (.i2l, 1) := by decide +kernel
theorem dX7_comes_14 : decode cX7_comes 14 = .ok (.lconst 0, 1) := by decide +kernel
theorem dX7_comes_15 : decode cX7_comes 15 = .ok (.ldc2_w 102, 3) := by decide +kernel
theorem dX7_comes_18 : decode cX7_comes 18 = .ok (.invokestatic 96, 3) := by decide +kernel
theorem dX7_comes_21 : decode cX7_comes 21 = .ok (.ifCond .ne 5, 3) := by decide +kernel
theorem dX7_comes_24 : decode cX7_comes 24 = .ok (.iconst (-1), 1) := by decide +kernel
theorem dX7_comes_25 : decode cX7_comes 25 = .ok (.ireturn, 1) := by decide +kernel
theorem dX7_comes_26 : decode cX7_comes 26 = .ok (.aload_n 0, 1) := by decide +kernel
theorem dX7_comes_27 : decode cX7_comes 27 = .ok (.getfield 93, 3) := by decide +kernel
theorem dX7_comes_30 : decode cX7_comes 30 = .ok (.bipush 60, 2) := by decide +kernel
theorem dX7_comes_32 : decode cX7_comes 32 = .ok (.if_icmp .ne 6, 3) := by decide +kernel
theorem dX7_comes_35 : decode cX7_comes 35 = .ok (.bipush (-2), 2) := by decide +kernel
theorem dX7_comes_37 : decode cX7_comes 37 = .ok (.ireturn, 1) := by decide +kernel
theorem dX7_comes_38 : decode cX7_comes 38 = .ok (.aload_n 0, 1) := by decide +kernel
theorem dX7_comes_39 : decode cX7_comes 39 = .ok (.getfield 7, 3) := by decide +kernel
theorem dX7_comes_42 : decode cX7_comes 42 = .ok (.aload_n 0, 1) := by decide +kernel
theorem dX7_comes_43 : decode cX7_comes 43 = .ok (.getfield 93, 3) := by decide +kernel
theorem dX7_comes_46 : decode cX7_comes 46 = .ok (.iload_n 1, 1) := by decide +kernel
theorem dX7_comes_47 : decode cX7_comes 47 = .ok (.iastore, 1) := by decide +kernel
theorem dX7_comes_48 : decode cX7_comes 48 = .ok (.aload_n 0, 1) := by decide +kernel
theorem dX7_comes_49 : decode cX7_comes 49 = .ok (.getfield 13, 3) := by decide +kernel
theorem dX7_comes_52 : decode cX7_comes 52 = .ok (.aload_n 0, 1) := by decide +kernel
theorem dX7_comes_53 : decode cX7_comes 53 = .ok (.getfield 93, 3) := by decide +kernel
theorem dX7_comes_56 : decode cX7_comes 56 = .ok (.iload_n 2, 1) := by decide +kernel
theorem dX7_comes_57 : decode cX7_comes 57 = .ok (.iastore, 1) := by decide +kernel
theorem dX7_comes_58 : decode cX7_comes 58 = .ok (.aload_n 0, 1) := by decide +kernel
theorem dX7_comes_59 : decode cX7_comes 59 = .ok (.getfield 16, 3) := by decide +kernel
theorem dX7_comes_62 : decode cX7_comes 62 = .ok (.aload_n 0, 1) := by decide +kernel
theorem dX7_comes_63 : decode cX7_comes 63 = .ok (.getfield 93, 3) := by decide +kernel
theorem dX7_comes_66 : decode cX7_comes 66 = .ok (.iload_n 3, 1) := by decide +kernel
theorem dX7_comes_67 : decode cX7_comes 67 = .ok (.iastore, 1) := by decide +kernel
theorem dX7_comes_68 : decode cX7_comes 68 = .ok (.aload_n 0, 1) := by decide +kernel
theorem dX7_comes_69 : decode cX7_comes 69 = .ok (.getfield 22, 3) := by decide +kernel
theorem dX7_comes_72 : decode cX7_comes 72 = .ok (.aload_n 0, 1) := by decide +kernel
theorem dX7_comes_73 : decode cX7_comes 73 = .ok (.getfield 93, 3) := by decide +kernel
theorem dX7_comes_76 : decode cX7_comes 76 = .ok (.iload 4, 2) := by decide +kernel
theorem dX7_comes_78 : decode cX7_comes 78 = .ok (.iastore, 1) := by decide +kernel
theorem dX7_comes_79 : decode cX7_comes 79 = .ok (.aload_n 0, 1) := by decide +kernel
theorem dX7_comes_80 : decode cX7_comes 80 = .ok (.getfield 25, 3) := by decide +kernel
theorem dX7_comes_83 : decode cX7_comes 83 = .ok (.aload_n 0, 1) := by decide +kernel
theorem dX7_comes_84 : decode cX7_comes 84 = .ok (.getfield 93, 3) := by decide +kernel
theorem dX7_comes_87 : decode cX7_comes 87 = .ok (.iload 5, 2) := by decide +kernel
theorem dX7_comes_89 : decode cX7_comes 89 = .ok (.iastore, 1) := by decide +kernel
theorem dX7_comes_90 : decode cX7_comes 90 = .ok (.aload_n 0, 1) := by decide +kernel
theorem dX7_comes_91 : decode cX7_comes 91 = .ok (.getfield 19, 3) := by decide +kernel
theorem dX7_comes_94 : decode cX7_comes 94 = .ok (.aload_n 0, 1) := by decide +kernel
theorem dX7_comes_95 : decode cX7_comes 95 = .ok (.getfield 93, 3) := by decide +kernel
theorem dX7_comes_98 : decode cX7_comes 98 = .ok (.iload 4, 2) := by decide +kernel
theorem dX7_comes_100 : decode cX7_comes 100 = .ok (.iload 5, 2) := by decide +kernel
theorem dX7_comes_102 : decode cX7_comes 102 = .ok (.imul, 1) := by decide +kernel
theorem dX7_comes_103 : decode cX7_comes 103 = .ok (.iastore, 1) := by decide +kernel
theorem dX7_comes_104 : decode cX7_comes 104 = .ok (.iconst 0, 1) := by decide +kernel
theorem dX7_comes_105 : decode cX7_comes 105 = .ok (.istore 6, 2) := by decide +kernel
theorem dX7_comes_107 : decode cX7_comes 107 = .ok (.iload 6, 2) := by decide +kernel
theorem dX7_comes_109 : decode cX7_comes 109 = .ok (.sipush 1600, 3) := by decide +kernel
theorem dX7_comes_112 : decode cX7_comes 112 = .ok (.if_icmp .ge 26, 3) := by decide +kernel
theorem dX7_comes_115 : decode cX7_comes 115 = .ok (.aload_n 0, 1) := by decide +kernel
theorem dX7_comes_116 : decode cX7_comes 116 = .ok (.getfield 29, 3) := by decide +kernel
theorem dX7_comes_119 : decode cX7_comes 119 = .ok (.sipush 1600, 3) := by decide +kernel
theorem dX7_comes_122 : decode cX7_comes 122 = .ok (.aload_n 0, 1) := by decide +kernel
theorem dX7_comes_123 : decode cX7_comes 123 = .ok (.getfield 93, 3) := by decide +kernel
theorem dX7_comes_126 : decode cX7_comes 126 = .ok (.imul, 1) := by decide +kernel
theorem dX7_comes_127 : decode cX7_comes 127 = .ok (.iload 6, 2) := by decide +kernel
theorem dX7_comes_129 : decode cX7_comes 129 = .ok (.iadd, 1) := by decide +kernel
theorem dX7_comes_130 : decode cX7_comes 130 = .ok (.iconst 0, 1) := by decide +kernel
theorem dX7_comes_131 : decode cX7_comes 131 = .ok (.iastore, 1) := by decide +kernel
theorem dX7_comes_132 : decode cX7_comes 132 = .ok (.iinc 6 1, 3) := by decide +kernel
theorem dX7_comes_135 : decode cX7_comes 135 = .ok (.goto (-28), 3) := by decide +kernel
theorem dX7_comes_138 : decode cX7_comes 138 = .ok (.aload_n 0, 1) := by decide +kernel
theorem dX7_comes_139 : decode cX7_comes 139 = .ok (.dup, 1) := by decide +kernel
theorem dX7_comes_140 : decode cX7_comes 140 = .ok (.getfield 93, 3) := by decide +kernel
theorem dX7_comes_143 : decode cX7_comes 143 = .ok (.iconst 1, 1) := by decide +kernel
theorem dX7_comes_144 : decode cX7_comes 144 = .ok (.iadd, 1) := by decide +kernel
theorem dX7_comes_145 : decode cX7_comes 145 = .ok (.putfield 93, 3) := by decide +kernel
theorem dX7_comes_148 : decode cX7_comes 148 = .ok (.aload_n 0, 1) := by decide +kernel
theorem dX7_comes_149 : decode cX7_comes 149 = .ok (.getfield 93, 3) := by decide +kernel
theorem dX7_comes_152 : decode cX7_comes 152 = .ok (.iconst 1, 1) := by decide +kernel
theorem dX7_comes_153 : decode cX7_comes 153 = .ok (.isub, 1) := by decide +kernel
theorem dX7_comes_154 : decode cX7_comes 154 = .ok (.ireturn, 1) := by decide +kernel
set_option maxRecDepth 20000 in
theorem ggX7_row_X7_comes : GoodIn wsX7_row wsX7_comes := goodIn_r _ [6, 7, 8, 9, 10, 11, 12, 13, 14, 15, 16, 17, 18, 5, 19, 20, 21, 22, 23, 24, 25, 26, 27, 28, 29, 30, 31, 32, 33, 34, 35, 36, 37, 38, 39, 40, 41, 42, 43, 44, 45, 46, 47, 48, 49] (by decide +kernel) (by decide +kernel)
set_option maxRecDepth 20000 in
theorem gX7_row_X7_comes : GoodIn wsX7_row (wsV RX7 104 RX7 yX7_comes wsX7_comes) := goodIn_app (goodIn_of _ (by decide +kernel)) ggX7_row_X7_comes
theorem dX7_row_0 : decode cX7_row 0 = .ok (.aload_n 0, 1) := by decide +kernel
theorem dX7_row_1 : decode cX7_row 1 = .ok (.iconst 0, 1) := by decide +kernel
theorem dX7_row_2 : decode cX7_row 2 = .ok (.putfield 69, 3) := by decide +kernel
theorem dX7_row_5 : decode cX7_row 5 = .ok (.iload_n 1, 1) := by decide +kernel
theorem dX7_row_6 : decode cX7_row 6 = .ok (.ifCond .eq 12, 3) := by decide +kernel
theorem dX7_row_9 : decode cX7_row 9 = .ok (.iload_n 1, 1) := by decide +kernel
theorem dX7_row_10 : decode cX7_row 10 = .ok (.iconst 2, 1) := by decide +kernel
theorem dX7_row_11 : decode cX7_row 11 = .ok (.if_icmp .eq 7, 3) := by decide +kernel
theorem dX7_row_14 : decode cX7_row 14 = .ok (.iconst (-1), 1) := by decide +kernel
theorem dX7_row_15 : decode cX7_row 15 = .ok (.goto 12, 3) := by decide +kernel
theorem dX7_row_18 : decode cX7_row 18 = .ok (.aload_n 0, 1) := by decide +kernel
theorem dX7_row_19 : decode cX7_row 19 = .ok (.iload_n 1, 1) := by decide +kernel
theorem dX7_row_20 : decode cX7_row 20 = .ok (.iload_n 2, 1) := by decide +kernel
theorem dX7_row_21 : decode cX7_row 21 = .ok (.iload_n 3, 1) := by decide +kernel
theorem dX7_row_22 : decode cX7_row 22 = .ok (.iconst 0, 1) := by decide +kernel
theorem dX7_row_23 : decode cX7_row 23 = .ok (.iconst 0, 1) := by decide +kernel
theorem dX7_row_24 : decode cX7_row 24 = .ok (.invokevirtual 104, 3) := by decide +kernel
theorem dX7_row_27 : decode cX7_row 27 = .ok (.ireturn, 1) := by decide +kernel
set_option maxRecDepth 20000 in
theorem ggX7_picture_X7_in : GoodIn wsX7_picture wsX7_in := goodIn_r _ [6] (by decide +kernel) (by decide +kernel)
set_option maxRecDepth 20000 in
theorem gX7_picture_X7_in : GoodIn wsX7_picture (va_wsS RX7 96 yX7_in wsX7_in) := goodIn_app (goodIn_of _ (by decide +kernel)) ggX7_picture_X7_in
set_option maxRecDepth 20000 in
theorem ggX7_picture_X7_comes : GoodIn wsX7_picture wsX7_comes := goodIn_r _ [10, 11, 12, 13, 14, 15, 16, 17, 18, 19, 20, 3, 4, 5, 6, 21, 22, 23, 24, 25, 26, 27, 28, 29, 30, 31, 32, 33, 34, 35, 36, 37, 38, 39, 40, 41, 42, 43, 44, 45, 46, 47, 48, 49, 50] (by decide +kernel) (by decide +kernel)
set_option maxRecDepth 20000 in
theorem gX7_picture_X7_comes : GoodIn wsX7_picture (wsV RX7 104 RX7 yX7_comes wsX7_comes) := goodIn_app (goodIn_of _ (by decide +kernel)) ggX7_picture_X7_comes
theorem dX7_picture_0 : decode cX7_picture 0 = .ok (.aload_n 0, 1) := by decide +kernel
theorem dX7_picture_1 : decode cX7_picture 1 = .ok (.iconst 0, 1) := by decide +kernel
theorem dX7_picture_2 : decode cX7_picture 2 = .ok (.putfield 69, 3) := by decide +kernel
theorem dX7_picture_5 : decode cX7_picture 5 = .ok (.iload_n 1, 1) := by decide +kernel
theorem dX7_picture_6 : decode cX7_picture 6 = .ok (.i2l, 1) := by decide +kernel
theorem dX7_picture_7 : decode cX7_picture 7 = .ok (.lconst 1, 1) := by decide +kernel
theorem dX7_picture_8 : decode cX7_picture 8 = .ok (.ldc2_w 108, 3) := by decide +kernel
theorem dX7_picture_11 : decode cX7_picture 11 = .ok (.invokestatic 96, 3) := by decide +kernel
theorem dX7_picture_14 : decode cX7_picture 14 = .ok (.ifCond .eq 15, 3) := by decide +kernel
theorem dX7_picture_17 : decode cX7_picture 17 = .ok (.iload_n 2, 1) := by decide +kernel
theorem dX7_picture_18 : decode cX7_picture 18 = .ok (.i2l, 1) := by decide +kernel
theorem dX7_picture_19 : decode cX7_picture 19 = .ok (.lconst 1, 1) := by decide +kernel
theorem dX7_picture_20 : decode cX7_picture 20 = .ok (.ldc2_w 108, 3) := by decide +kernel
theorem dX7_picture_23 : decode cX7_picture 23 = .ok (.invokestatic 96, 3) := by decide +kernel
theorem dX7_picture_26 : decode cX7_picture 26 = .ok (.ifCond .ne 7, 3) := by decide +kernel
theorem dX7_picture_29 : decode cX7_picture 29 = .ok (.iconst (-1), 1) := by decide +kernel
theorem dX7_picture_30 : decode cX7_picture 30 = .ok (.goto 13, 3) := by decide +kernel
theorem dX7_picture_33 : decode cX7_picture 33 = .ok (.aload_n 0, 1) := by decide +kernel
theorem dX7_picture_34 : decode cX7_picture 34 = .ok (.iconst 1, 1) := by decide +kernel
theorem dX7_picture_35 : decode cX7_picture 35 = .ok (.iload_n 3, 1) := by decide +kernel
theorem dX7_picture_36 : decode cX7_picture 36 = .ok (.iload 4, 2) := by decide +kernel
theorem dX7_picture_38 : decode cX7_picture 38 = .ok (.iload_n 1, 1) := by decide +kernel
theorem dX7_picture_39 : decode cX7_picture 39 = .ok (.iload_n 2, 1) := by decide +kernel
theorem dX7_picture_40 : decode cX7_picture 40 = .ok (.invokevirtual 104, 3) := by decide +kernel
theorem dX7_picture_43 : decode cX7_picture 43 = .ok (.ireturn, 1) := by decide +kernel
set_option maxRecDepth 20000 in
theorem ggX7_word_X7_isRow : GoodIn wsX7_word wsX7_isRow := goodIn_r _ [9, 10, 11, 12, 8, 13, 14, 15, 16, 17, 18, 19, 20, 21, 22, 23, 24, 25, 26, 27, 28, 29, 30, 31, 32, 33, 34, 35, 36, 37, 38, 39, 40, 41, 42, 43] (by decide +kernel) (by decide +kernel)
set_option maxRecDepth 20000 in
theorem gX7_word_X7_isRow : GoodIn wsX7_word (wsV RX7 110 RX7 yX7_isRow wsX7_isRow) := goodIn_app (goodIn_of _ (by decide +kernel)) ggX7_word_X7_isRow
theorem dX7_word_0 : decode cX7_word 0 = .ok (.aload_n 0, 1) := by decide +kernel
theorem dX7_word_1 : decode cX7_word 1 = .ok (.iconst 0, 1) := by decide +kernel
theorem dX7_word_2 : decode cX7_word 2 = .ok (.putfield 69, 3) := by decide +kernel
theorem dX7_word_5 : decode cX7_word 5 = .ok (.aload_n 0, 1) := by decide +kernel
theorem dX7_word_6 : decode cX7_word 6 = .ok (.iload_n 1, 1) := by decide +kernel
theorem dX7_word_7 : decode cX7_word 7 = .ok (.invokevirtual 110, 3) := by decide +kernel
theorem dX7_word_10 : decode cX7_word 10 = .ok (.ifCond .eq 12, 3) := by decide +kernel
theorem dX7_word_13 : decode cX7_word 13 = .ok (.aload_n 0, 1) := by decide +kernel
theorem dX7_word_14 : decode cX7_word 14 = .ok (.getfield 7, 3) := by decide +kernel
theorem dX7_word_17 : decode cX7_word 17 = .ok (.iload_n 1, 1) := by decide +kernel
theorem dX7_word_18 : decode cX7_word 18 = .ok (.iaload, 1) := by decide +kernel
theorem dX7_word_19 : decode cX7_word 19 = .ok (.ifCond .eq 5, 3) := by decide +kernel
theorem dX7_word_22 : decode cX7_word 22 = .ok (.iconst (-1), 1) := by decide +kernel
theorem dX7_word_23 : decode cX7_word 23 = .ok (.ireturn, 1) := by decide +kernel
theorem dX7_word_24 : decode cX7_word 24 = .ok (.aload_n 0, 1) := by decide +kernel
theorem dX7_word_25 : decode cX7_word 25 = .ok (.getfield 19, 3) := by decide +kernel
theorem dX7_word_28 : decode cX7_word 28 = .ok (.iload_n 1, 1) := by decide +kernel
theorem dX7_word_29 : decode cX7_word 29 = .ok (.iaload, 1) := by decide +kernel
theorem dX7_word_30 : decode cX7_word 30 = .ok (.bipush 40, 2) := by decide +kernel
theorem dX7_word_32 : decode cX7_word 32 = .ok (.if_icmp .ne 6, 3) := by decide +kernel
theorem dX7_word_35 : decode cX7_word 35 = .ok (.bipush (-2), 2) := by decide +kernel
theorem dX7_word_37 : decode cX7_word 37 = .ok (.ireturn, 1) := by decide +kernel
theorem dX7_word_38 : decode cX7_word 38 = .ok (.aload_n 0, 1) := by decide +kernel
theorem dX7_word_39 : decode cX7_word 39 = .ok (.getfield 29, 3) := by decide +kernel
theorem dX7_word_42 : decode cX7_word 42 = .ok (.sipush 1600, 3) := by decide +kernel
theorem dX7_word_45 : decode cX7_word 45 = .ok (.iload_n 1, 1) := by decide +kernel
theorem dX7_word_46 : decode cX7_word 46 = .ok (.imul, 1) := by decide +kernel
theorem dX7_word_47 : decode cX7_word 47 = .ok (.aload_n 0, 1) := by decide +kernel
theorem dX7_word_48 : decode cX7_word 48 = .ok (.getfield 19, 3) := by decide +kernel
theorem dX7_word_51 : decode cX7_word 51 = .ok (.iload_n 1, 1) := by decide +kernel
theorem dX7_word_52 : decode cX7_word 52 = .ok (.iaload, 1) := by decide +kernel
theorem dX7_word_53 : decode cX7_word 53 = .ok (.iadd, 1) := by decide +kernel
theorem dX7_word_54 : decode cX7_word 54 = .ok (.iload_n 2, 1) := by decide +kernel
theorem dX7_word_55 : decode cX7_word 55 = .ok (.iastore, 1) := by decide +kernel
theorem dX7_word_56 : decode cX7_word 56 = .ok (.aload_n 0, 1) := by decide +kernel
theorem dX7_word_57 : decode cX7_word 57 = .ok (.getfield 19, 3) := by decide +kernel
theorem dX7_word_60 : decode cX7_word 60 = .ok (.iload_n 1, 1) := by decide +kernel
theorem dX7_word_61 : decode cX7_word 61 = .ok (.dup2, 1) := by decide +kernel
theorem dX7_word_62 : decode cX7_word 62 = .ok (.iaload, 1) := by decide +kernel
theorem dX7_word_63 : decode cX7_word 63 = .ok (.iconst 1, 1) := by decide +kernel
theorem dX7_word_64 : decode cX7_word 64 = .ok (.iadd, 1) := by decide +kernel
theorem dX7_word_65 : decode cX7_word 65 = .ok (.iastore, 1) := by decide +kernel
theorem dX7_word_66 : decode cX7_word 66 = .ok (.aload_n 0, 1) := by decide +kernel
theorem dX7_word_67 : decode cX7_word 67 = .ok (.getfield 19, 3) := by decide +kernel
theorem dX7_word_70 : decode cX7_word 70 = .ok (.iload_n 1, 1) := by decide +kernel
theorem dX7_word_71 : decode cX7_word 71 = .ok (.iaload, 1) := by decide +kernel
theorem dX7_word_72 : decode cX7_word 72 = .ok (.ireturn, 1) := by decide +kernel
set_option maxRecDepth 20000 in
theorem ggX7_paint_X7_isRow : GoodIn wsX7_paint wsX7_isRow := goodIn_r _ [10, 11, 12, 13, 9, 14, 15, 16, 17, 18, 19, 20, 21, 22, 23, 24, 25, 26, 27, 28, 29, 30, 31, 32, 33, 34, 35, 36, 37, 38, 39, 40, 41, 42, 43, 44] (by decide +kernel) (by decide +kernel)
set_option maxRecDepth 20000 in
theorem gX7_paint_X7_isRow : GoodIn wsX7_paint (wsV RX7 110 RX7 yX7_isRow wsX7_isRow) := goodIn_app (goodIn_of _ (by decide +kernel)) ggX7_paint_X7_isRow
set_option maxRecDepth 20000 in
theorem ggX7_paint_X7_in : GoodIn wsX7_paint wsX7_in := goodIn_r _ [14] (by decide +kernel) (by decide +kernel)
set_option maxRecDepth 20000 in
theorem gX7_paint_X7_in : GoodIn wsX7_paint (va_wsS RX7 96 yX7_in wsX7_in) := goodIn_app (goodIn_of _ (by decide +kernel)) ggX7_paint_X7_in
theorem dX7_paint_0 : decode cX7_paint 0 = .ok (.aload_n 0, 1) := by decide +kernel
theorem dX7_paint_1 : decode cX7_paint 1 = .ok (.iconst 0, 1) := by decide +kernel
theorem dX7_paint_2 : decode cX7_paint 2 = .ok (.putfield 69, 3) := by decide +kernel
theorem dX7_paint_5 : decode cX7_paint 5 = .ok (.aload_n 0, 1) := by decide +kernel
theorem dX7_paint_6 : decode cX7_paint 6 = .ok (.iload_n 1, 1) := by decide +kernel
theorem dX7_paint_7 : decode cX7_paint 7 = .ok (.invokevirtual 110, 3) := by decide +kernel
theorem dX7_paint_10 : decode cX7_paint 10 = .ok (.ifCond .eq 31, 3) := by decide +kernel
theorem dX7_paint_13 : decode cX7_paint 13 = .ok (.aload_n 0, 1) := by decide +kernel
theorem dX7_paint_14 : decode cX7_paint 14 = .ok (.getfield 7, 3) := by decide +kernel
theorem dX7_paint_17 : decode cX7_paint 17 = .ok (.iload_n 1, 1) := by decide +kernel
theorem dX7_paint_18 : decode cX7_paint 18 = .ok (.iaload, 1) := by decide +kernel
theorem dX7_paint_19 : decode cX7_paint 19 = .ok (.iconst 1, 1) := by decide +kernel
theorem dX7_paint_20 : decode cX7_paint 20 = .ok (.if_icmp .ne 21, 3) := by decide +kernel
theorem dX7_paint_23 : decode cX7_paint 23 = .ok (.iload_n 2, 1) := by decide +kernel
theorem dX7_paint_24 : decode cX7_paint 24 = .ok (.i2l, 1) := by decide +kernel
theorem dX7_paint_25 : decode cX7_paint 25 = .ok (.lconst 0, 1) := by decide +kernel
theorem dX7_paint_26 : decode cX7_paint 26 = .ok (.aload_n 0, 1) := by decide +kernel
theorem dX7_paint_27 : decode cX7_paint 27 = .ok (.getfield 19, 3) := by decide +kernel
theorem dX7_paint_30 : decode cX7_paint 30 = .ok (.iload_n 1, 1) := by decide +kernel
theorem dX7_paint_31 : decode cX7_paint 31 = .ok (.iaload, 1) := by decide +kernel
theorem dX7_paint_32 : decode cX7_paint 32 = .ok (.iconst 1, 1) := by decide +kernel
theorem dX7_paint_33 : decode cX7_paint 33 = .ok (.isub, 1) := by decide +kernel
theorem dX7_paint_34 : decode cX7_paint 34 = .ok (.i2l, 1) := by decide +kernel
theorem dX7_paint_35 : decode cX7_paint 35 = .ok (.invokestatic 96, 3) := by decide +kernel
theorem dX7_paint_38 : decode cX7_paint 38 = .ok (.ifCond .ne 5, 3) := by decide +kernel
theorem dX7_paint_41 : decode cX7_paint 41 = .ok (.iconst (-1), 1) := by decide +kernel
theorem dX7_paint_42 : decode cX7_paint 42 = .ok (.ireturn, 1) := by decide +kernel
theorem dX7_paint_43 : decode cX7_paint 43 = .ok (.iconst 0, 1) := by decide +kernel
theorem dX7_paint_44 : decode cX7_paint 44 = .ok (.istore 5, 2) := by decide +kernel
theorem dX7_paint_46 : decode cX7_paint 46 = .ok (.iload 5, 2) := by decide +kernel
theorem dX7_paint_48 : decode cX7_paint 48 = .ok (.bipush 8, 2) := by decide +kernel
theorem dX7_paint_50 : decode cX7_paint 50 = .ok (.if_icmp .ge 52, 3) := by decide +kernel
theorem dX7_paint_53 : decode cX7_paint 53 = .ok (.iload_n 2, 1) := by decide +kernel
theorem dX7_paint_54 : decode cX7_paint 54 = .ok (.iload 5, 2) := by decide +kernel
theorem dX7_paint_56 : decode cX7_paint 56 = .ok (.iadd, 1) := by decide +kernel
theorem dX7_paint_57 : decode cX7_paint 57 = .ok (.aload_n 0, 1) := by decide +kernel
theorem dX7_paint_58 : decode cX7_paint 58 = .ok (.getfield 19, 3) := by decide +kernel
theorem dX7_paint_61 : decode cX7_paint 61 = .ok (.iload_n 1, 1) := by decide +kernel
theorem dX7_paint_62 : decode cX7_paint 62 = .ok (.iaload, 1) := by decide +kernel
theorem dX7_paint_63 : decode cX7_paint 63 = .ok (.if_icmp .ge 39, 3) := by decide +kernel
theorem dX7_paint_66 : decode cX7_paint 66 = .ok (.aload_n 0, 1) := by decide +kernel
theorem dX7_paint_67 : decode cX7_paint 67 = .ok (.getfield 29, 3) := by decide +kernel
theorem dX7_paint_70 : decode cX7_paint 70 = .ok (.sipush 1600, 3) := by decide +kernel
theorem dX7_paint_73 : decode cX7_paint 73 = .ok (.iload_n 1, 1) := by decide +kernel
theorem dX7_paint_74 : decode cX7_paint 74 = .ok (.imul, 1) := by decide +kernel
theorem dX7_paint_75 : decode cX7_paint 75 = .ok (.iload_n 2, 1) := by decide +kernel
theorem dX7_paint_76 : decode cX7_paint 76 = .ok (.iadd, 1) := by decide +kernel
theorem dX7_paint_77 : decode cX7_paint 77 = .ok (.iload 5, 2) := by decide +kernel
theorem dX7_paint_79 : decode cX7_paint 79 = .ok (.iadd, 1) := by decide +kernel
theorem dX7_paint_80 : decode cX7_paint 80 = .ok (.lload_n 3, 1) := by decide +kernel
theorem dX7_paint_81 : decode cX7_paint 81 = .ok (.bipush 56, 2) := by decide +kernel
theorem dX7_paint_83 : decode cX7_paint 83 = .ok (.bipush 8, 2) := by decide +kernel
theorem dX7_paint_85 : decode cX7_paint 85 = .ok (.iload 5, 2) := by decide +kernel
theorem dX7_paint_87 : decode cX7_paint 87 = .ok (.imul, 1) := by decide +kernel
theorem dX7_paint_88 : decode cX7_paint 88 = .ok (.isub, 1) := by decide +kernel
theorem dX7_paint_89 : decode cX7_paint 89 = .ok (.lushr, 1) := by decide +kernel
theorem dX7_paint_90 : decode cX7_paint 90 = .ok (.ldc2_w 114, 3) := by decide +kernel
theorem dX7_paint_93 : decode cX7_paint 93 = .ok (.land, 1) := by decide +kernel
theorem dX7_paint_94 : decode cX7_paint 94 = .ok (.l2i, 1) := by decide +kernel
theorem dX7_paint_95 : decode cX7_paint 95 = .ok (.iastore, 1) := by decide +kernel
theorem dX7_paint_96 : decode cX7_paint 96 = .ok (.iinc 5 1, 3) := by decide +kernel
theorem dX7_paint_99 : decode cX7_paint 99 = .ok (.goto (-53), 3) := by decide +kernel
theorem dX7_paint_102 : decode cX7_paint 102 = .ok (.iconst 1, 1) := by decide +kernel
theorem dX7_paint_103 : decode cX7_paint 103 = .ok (.ireturn, 1) := by decide +kernel
set_option maxRecDepth 20000 in
theorem ggX7_mark_X7_isRow : GoodIn wsX7_mark wsX7_isRow := goodIn_r _ [10, 11, 12, 13, 9, 14, 15, 16, 17, 18, 19, 20, 21, 22, 23, 24, 25, 26, 27, 28, 29, 30, 31, 32, 33, 34, 35, 36, 37, 38, 39, 40, 41, 42, 43, 44] (by decide +kernel) (by decide +kernel)
set_option maxRecDepth 20000 in
theorem gX7_mark_X7_isRow : GoodIn wsX7_mark (wsV RX7 110 RX7 yX7_isRow wsX7_isRow) := goodIn_app (goodIn_of _ (by decide +kernel)) ggX7_mark_X7_isRow
set_option maxRecDepth 20000 in
theorem ggX7_mark_X7_in : GoodIn wsX7_mark wsX7_in := goodIn_r _ [14] (by decide +kernel) (by decide +kernel)
set_option maxRecDepth 20000 in
theorem gX7_mark_X7_in : GoodIn wsX7_mark (va_wsS RX7 96 yX7_in wsX7_in) := goodIn_app (goodIn_of _ (by decide +kernel)) ggX7_mark_X7_in
theorem dX7_mark_0 : decode cX7_mark 0 = .ok (.aload_n 0, 1) := by decide +kernel
theorem dX7_mark_1 : decode cX7_mark 1 = .ok (.iconst 0, 1) := by decide +kernel
theorem dX7_mark_2 : decode cX7_mark 2 = .ok (.putfield 69, 3) := by decide +kernel
theorem dX7_mark_5 : decode cX7_mark 5 = .ok (.aload_n 0, 1) := by decide +kernel
theorem dX7_mark_6 : decode cX7_mark 6 = .ok (.iload_n 1, 1) := by decide +kernel
theorem dX7_mark_7 : decode cX7_mark 7 = .ok (.invokevirtual 110, 3) := by decide +kernel
theorem dX7_mark_10 : decode cX7_mark 10 = .ok (.ifCond .eq 27, 3) := by decide +kernel
theorem dX7_mark_13 : decode cX7_mark 13 = .ok (.iload_n 2, 1) := by decide +kernel
theorem dX7_mark_14 : decode cX7_mark 14 = .ok (.i2l, 1) := by decide +kernel
theorem dX7_mark_15 : decode cX7_mark 15 = .ok (.lconst 0, 1) := by decide +kernel
theorem dX7_mark_16 : decode cX7_mark 16 = .ok (.ldc2_w 100, 3) := by decide +kernel
theorem dX7_mark_19 : decode cX7_mark 19 = .ok (.invokestatic 96, 3) := by decide +kernel
theorem dX7_mark_22 : decode cX7_mark 22 = .ok (.ifCond .eq 15, 3) := by decide +kernel
theorem dX7_mark_25 : decode cX7_mark 25 = .ok (.iload_n 3, 1) := by decide +kernel
theorem dX7_mark_26 : decode cX7_mark 26 = .ok (.i2l, 1) := by decide +kernel
theorem dX7_mark_27 : decode cX7_mark 27 = .ok (.lconst 0, 1) := by decide +kernel
theorem dX7_mark_28 : decode cX7_mark 28 = .ok (.ldc2_w 102, 3) := by decide +kernel
theorem dX7_mark_31 : decode cX7_mark 31 = .ok (.invokestatic 96, 3) := by decide +kernel
theorem dX7_mark_34 : decode cX7_mark 34 = .ok (.ifCond .ne 5, 3) := by decide +kernel
theorem dX7_mark_37 : decode cX7_mark 37 = .ok (.iconst (-1), 1) := by decide +kernel
theorem dX7_mark_38 : decode cX7_mark 38 = .ok (.ireturn, 1) := by decide +kernel
theorem dX7_mark_39 : decode cX7_mark 39 = .ok (.aload_n 0, 1) := by decide +kernel
theorem dX7_mark_40 : decode cX7_mark 40 = .ok (.getfield 13, 3) := by decide +kernel
theorem dX7_mark_43 : decode cX7_mark 43 = .ok (.iload_n 1, 1) := by decide +kernel
theorem dX7_mark_44 : decode cX7_mark 44 = .ok (.iload_n 2, 1) := by decide +kernel
theorem dX7_mark_45 : decode cX7_mark 45 = .ok (.iastore, 1) := by decide +kernel
theorem dX7_mark_46 : decode cX7_mark 46 = .ok (.aload_n 0, 1) := by decide +kernel
theorem dX7_mark_47 : decode cX7_mark 47 = .ok (.getfield 16, 3) := by decide +kernel
theorem dX7_mark_50 : decode cX7_mark 50 = .ok (.iload_n 1, 1) := by decide +kernel
theorem dX7_mark_51 : decode cX7_mark 51 = .ok (.iload_n 3, 1) := by decide +kernel
theorem dX7_mark_52 : decode cX7_mark 52 = .ok (.iastore, 1) := by decide +kernel
theorem dX7_mark_53 : decode cX7_mark 53 = .ok (.iconst 1, 1) := by decide +kernel
theorem dX7_mark_54 : decode cX7_mark 54 = .ok (.ireturn, 1) := by decide +kernel
set_option maxRecDepth 20000 in
theorem ggX7_of_X7_isRow : GoodIn wsX7_of wsX7_isRow := goodIn_r _ [12, 13, 14, 15, 11, 16, 17, 18, 19, 20, 21, 22, 23, 24, 25, 26, 27, 28, 29, 30, 31, 32, 33, 34, 35, 36, 37, 38, 39, 40, 41, 42, 43, 44, 45, 46] (by decide +kernel) (by decide +kernel)
set_option maxRecDepth 20000 in
theorem gX7_of_X7_isRow : GoodIn wsX7_of (wsV RX7 110 RX7 yX7_isRow wsX7_isRow) := goodIn_app (goodIn_of _ (by decide +kernel)) ggX7_of_X7_isRow
theorem dX7_of_0 : decode cX7_of 0 = .ok (.aload_n 0, 1) := by decide +kernel
theorem dX7_of_1 : decode cX7_of 1 = .ok (.iconst 0, 1) := by decide +kernel
theorem dX7_of_2 : decode cX7_of 2 = .ok (.putfield 69, 3) := by decide +kernel
theorem dX7_of_5 : decode cX7_of 5 = .ok (.aload_n 0, 1) := by decide +kernel
theorem dX7_of_6 : decode cX7_of 6 = .ok (.iload_n 1, 1) := by decide +kernel
theorem dX7_of_7 : decode cX7_of 7 = .ok (.invokevirtual 110, 3) := by decide +kernel
theorem dX7_of_10 : decode cX7_of 10 = .ok (.ifCond .ne 5, 3) := by decide +kernel
theorem dX7_of_13 : decode cX7_of 13 = .ok (.iconst (-1), 1) := by decide +kernel
theorem dX7_of_14 : decode cX7_of 14 = .ok (.ireturn, 1) := by decide +kernel
theorem dX7_of_15 : decode cX7_of 15 = .ok (.iload_n 2, 1) := by decide +kernel
theorem dX7_of_16 : decode cX7_of 16 = .ok (.tableswitch 82 0 5 #[40, 47, 54, 61, 68, 75], 40) := by decide +kernel
theorem dX7_of_56 : decode cX7_of 56 = .ok (.aload_n 0, 1) := by decide +kernel
theorem dX7_of_57 : decode cX7_of 57 = .ok (.getfield 7, 3) := by decide +kernel
theorem dX7_of_60 : decode cX7_of 60 = .ok (.iload_n 1, 1) := by decide +kernel
theorem dX7_of_61 : decode cX7_of 61 = .ok (.iaload, 1) := by decide +kernel
theorem dX7_of_62 : decode cX7_of 62 = .ok (.ireturn, 1) := by decide +kernel
theorem dX7_of_63 : decode cX7_of 63 = .ok (.aload_n 0, 1) := by decide +kernel
theorem dX7_of_64 : decode cX7_of 64 = .ok (.getfield 13, 3) := by decide +kernel
theorem dX7_of_67 : decode cX7_of 67 = .ok (.iload_n 1, 1) := by decide +kernel
theorem dX7_of_68 : decode cX7_of 68 = .ok (.iaload, 1) := by decide +kernel
theorem dX7_of_69 : decode cX7_of 69 = .ok (.ireturn, 1) := by decide +kernel
theorem dX7_of_70 : decode cX7_of 70 = .ok (.aload_n 0, 1) := by decide +kernel
theorem dX7_of_71 : decode cX7_of 71 = .ok (.getfield 16, 3) := by decide +kernel
theorem dX7_of_74 : decode cX7_of 74 = .ok (.iload_n 1, 1) := by decide +kernel
theorem dX7_of_75 : decode cX7_of 75 = .ok (.iaload, 1) := by decide +kernel
theorem dX7_of_76 : decode cX7_of 76 = .ok (.ireturn, 1) := by decide +kernel
theorem dX7_of_77 : decode cX7_of 77 = .ok (.aload_n 0, 1) := by decide +kernel
theorem dX7_of_78 : decode cX7_of 78 = .ok (.getfield 19, 3) := by decide +kernel
theorem dX7_of_81 : decode cX7_of 81 = .ok (.iload_n 1, 1) := by decide +kernel
theorem dX7_of_82 : decode cX7_of 82 = .ok (.iaload, 1) := by decide +kernel
theorem dX7_of_83 : decode cX7_of 83 = .ok (.ireturn, 1) := by decide +kernel
theorem dX7_of_84 : decode cX7_of 84 = .ok (.aload_n 0, 1) := by decide +kernel
theorem dX7_of_85 : decode cX7_of 85 = .ok (.getfield 22, 3) := by decide +kernel
theorem dX7_of_88 : decode cX7_of 88 = .ok (.iload_n 1, 1) := by decide +kernel
theorem dX7_of_89 : decode cX7_of 89 = .ok (.iaload, 1) := by decide +kernel
theorem dX7_of_90 : decode cX7_of 90 = .ok (.ireturn, 1) := by decide +kernel
theorem dX7_of_91 : decode cX7_of 91 = .ok (.aload_n 0, 1) := by decide +kernel
theorem dX7_of_92 : decode cX7_of 92 = .ok (.getfield 25, 3) := by decide +kernel
theorem dX7_of_95 : decode cX7_of 95 = .ok (.iload_n 1, 1) := by decide +kernel
theorem dX7_of_96 : decode cX7_of 96 = .ok (.iaload, 1) := by decide +kernel
theorem dX7_of_97 : decode cX7_of 97 = .ok (.ireturn, 1) := by decide +kernel
theorem dX7_of_98 : decode cX7_of 98 = .ok (.iconst (-1), 1) := by decide +kernel
theorem dX7_of_99 : decode cX7_of 99 = .ok (.ireturn, 1) := by decide +kernel
theorem dX7_seed_0 : decode cX7_seed 0 = .ok (.aload_n 0, 1) := by decide +kernel
theorem dX7_seed_1 : decode cX7_seed 1 = .ok (.iconst 0, 1) := by decide +kernel
theorem dX7_seed_2 : decode cX7_seed 2 = .ok (.putfield 69, 3) := by decide +kernel
theorem dX7_seed_5 : decode cX7_seed 5 = .ok (.aload_n 0, 1) := by decide +kernel
theorem dX7_seed_6 : decode cX7_seed 6 = .ok (.getfield 76, 3) := by decide +kernel
theorem dX7_seed_9 : decode cX7_seed 9 = .ok (.lstore_n 3, 1) := by decide +kernel
theorem dX7_seed_10 : decode cX7_seed 10 = .ok (.aload_n 0, 1) := by decide +kernel
theorem dX7_seed_11 : decode cX7_seed 11 = .ok (.lload_n 1, 1) := by decide +kernel
theorem dX7_seed_12 : decode cX7_seed 12 = .ok (.putfield 76, 3) := by decide +kernel
theorem dX7_seed_15 : decode cX7_seed 15 = .ok (.lload_n 3, 1) := by decide +kernel
theorem dX7_seed_16 : decode cX7_seed 16 = .ok (.lreturn, 1) := by decide +kernel
set_option maxRecDepth 20000 in
theorem ggX7_set_X7_in : GoodIn wsX7_set wsX7_in := goodIn_r _ [11] (by decide +kernel) (by decide +kernel)
set_option maxRecDepth 20000 in
theorem gX7_set_X7_in : GoodIn wsX7_set (va_wsS RX7 96 yX7_in wsX7_in) := goodIn_app (goodIn_of _ (by decide +kernel)) ggX7_set_X7_in
theorem dX7_set_0 : decode cX7_set 0 = .ok (.aload_n 0, 1) := by decide +kernel
theorem dX7_set_1 : decode cX7_set 1 = .ok (.iconst 0, 1) := by decide +kernel
theorem dX7_set_2 : decode cX7_set 2 = .ok (.putfield 69, 3) := by decide +kernel
theorem dX7_set_5 : decode cX7_set 5 = .ok (.iload_n 1, 1) := by decide +kernel
theorem dX7_set_6 : decode cX7_set 6 = .ok (.tableswitch 132 0 3 #[30, 56, 82, 108], 30) := by decide +kernel
theorem dX7_set_36 : decode cX7_set 36 = .ok (.iload_n 2, 1) := by decide +kernel
theorem dX7_set_37 : decode cX7_set 37 = .ok (.i2l, 1) := by decide +kernel
theorem dX7_set_38 : decode cX7_set 38 = .ok (.lconst 0, 1) := by decide +kernel
theorem dX7_set_39 : decode cX7_set 39 = .ok (.ldc2_w 116, 3) := by decide +kernel
theorem dX7_set_42 : decode cX7_set 42 = .ok (.invokestatic 96, 3) := by decide +kernel
theorem dX7_set_45 : decode cX7_set 45 = .ok (.ifCond .ne 5, 3) := by decide +kernel
theorem dX7_set_48 : decode cX7_set 48 = .ok (.iconst (-1), 1) := by decide +kernel
theorem dX7_set_49 : decode cX7_set 49 = .ok (.ireturn, 1) := by decide +kernel
theorem dX7_set_50 : decode cX7_set 50 = .ok (.aload_n 0, 1) := by decide +kernel
theorem dX7_set_51 : decode cX7_set 51 = .ok (.getfield 32, 3) := by decide +kernel
theorem dX7_set_54 : decode cX7_set 54 = .ok (.istore_n 3, 1) := by decide +kernel
theorem dX7_set_55 : decode cX7_set 55 = .ok (.aload_n 0, 1) := by decide +kernel
theorem dX7_set_56 : decode cX7_set 56 = .ok (.iload_n 2, 1) := by decide +kernel
theorem dX7_set_57 : decode cX7_set 57 = .ok (.putfield 32, 3) := by decide +kernel
theorem dX7_set_60 : decode cX7_set 60 = .ok (.iload_n 3, 1) := by decide +kernel
theorem dX7_set_61 : decode cX7_set 61 = .ok (.ireturn, 1) := by decide +kernel
theorem dX7_set_62 : decode cX7_set 62 = .ok (.iload_n 2, 1) := by decide +kernel
theorem dX7_set_63 : decode cX7_set 63 = .ok (.i2l, 1) := by decide +kernel
theorem dX7_set_64 : decode cX7_set 64 = .ok (.lconst 1, 1) := by decide +kernel
theorem dX7_set_65 : decode cX7_set 65 = .ok (.ldc2_w 118, 3) := by decide +kernel
theorem dX7_set_68 : decode cX7_set 68 = .ok (.invokestatic 96, 3) := by decide +kernel
theorem dX7_set_71 : decode cX7_set 71 = .ok (.ifCond .ne 5, 3) := by decide +kernel
theorem dX7_set_74 : decode cX7_set 74 = .ok (.iconst (-1), 1) := by decide +kernel
theorem dX7_set_75 : decode cX7_set 75 = .ok (.ireturn, 1) := by decide +kernel
theorem dX7_set_76 : decode cX7_set 76 = .ok (.aload_n 0, 1) := by decide +kernel
theorem dX7_set_77 : decode cX7_set 77 = .ok (.getfield 36, 3) := by decide +kernel
theorem dX7_set_80 : decode cX7_set 80 = .ok (.istore_n 3, 1) := by decide +kernel
theorem dX7_set_81 : decode cX7_set 81 = .ok (.aload_n 0, 1) := by decide +kernel
theorem dX7_set_82 : decode cX7_set 82 = .ok (.iload_n 2, 1) := by decide +kernel
theorem dX7_set_83 : decode cX7_set 83 = .ok (.putfield 36, 3) := by decide +kernel
theorem dX7_set_86 : decode cX7_set 86 = .ok (.iload_n 3, 1) := by decide +kernel
theorem dX7_set_87 : decode cX7_set 87 = .ok (.ireturn, 1) := by decide +kernel
theorem dX7_set_88 : decode cX7_set 88 = .ok (.iload_n 2, 1) := by decide +kernel
theorem dX7_set_89 : decode cX7_set 89 = .ok (.i2l, 1) := by decide +kernel
theorem dX7_set_90 : decode cX7_set 90 = .ok (.lconst 1, 1) := by decide +kernel
theorem dX7_set_91 : decode cX7_set 91 = .ok (.ldc2_w 118, 3) := by decide +kernel
theorem dX7_set_94 : decode cX7_set 94 = .ok (.invokestatic 96, 3) := by decide +kernel
theorem dX7_set_97 : decode cX7_set 97 = .ok (.ifCond .ne 5, 3) := by decide +kernel
theorem dX7_set_100 : decode cX7_set 100 = .ok (.iconst (-1), 1) := by decide +kernel
theorem dX7_set_101 : decode cX7_set 101 = .ok (.ireturn, 1) := by decide +kernel
theorem dX7_set_102 : decode cX7_set 102 = .ok (.aload_n 0, 1) := by decide +kernel
theorem dX7_set_103 : decode cX7_set 103 = .ok (.getfield 39, 3) := by decide +kernel
theorem dX7_set_106 : decode cX7_set 106 = .ok (.istore_n 3, 1) := by decide +kernel
theorem dX7_set_107 : decode cX7_set 107 = .ok (.aload_n 0, 1) := by decide +kernel
theorem dX7_set_108 : decode cX7_set 108 = .ok (.iload_n 2, 1) := by decide +kernel
theorem dX7_set_109 : decode cX7_set 109 = .ok (.putfield 39, 3) := by decide +kernel
theorem dX7_set_112 : decode cX7_set 112 = .ok (.iload_n 3, 1) := by decide +kernel
theorem dX7_set_113 : decode cX7_set 113 = .ok (.ireturn, 1) := by decide +kernel
theorem dX7_set_114 : decode cX7_set 114 = .ok (.iload_n 2, 1) := by decide +kernel
theorem dX7_set_115 : decode cX7_set 115 = .ok (.i2l, 1) := by decide +kernel
theorem dX7_set_116 : decode cX7_set 116 = .ok (.lconst 0, 1) := by decide +kernel
theorem dX7_set_117 : decode cX7_set 117 = .ok (.lconst 1, 1) := by decide +kernel
theorem dX7_set_118 : decode cX7_set 118 = .ok (.invokestatic 96, 3) := by decide +kernel
theorem dX7_set_121 : decode cX7_set 121 = .ok (.ifCond .ne 5, 3) := by decide +kernel
theorem dX7_set_124 : decode cX7_set 124 = .ok (.iconst (-1), 1) := by decide +kernel
theorem dX7_set_125 : decode cX7_set 125 = .ok (.ireturn, 1) := by decide +kernel
theorem dX7_set_126 : decode cX7_set 126 = .ok (.aload_n 0, 1) := by decide +kernel
theorem dX7_set_127 : decode cX7_set 127 = .ok (.getfield 120, 3) := by decide +kernel
theorem dX7_set_130 : decode cX7_set 130 = .ok (.istore_n 3, 1) := by decide +kernel
theorem dX7_set_131 : decode cX7_set 131 = .ok (.aload_n 0, 1) := by decide +kernel
theorem dX7_set_132 : decode cX7_set 132 = .ok (.iload_n 2, 1) := by decide +kernel
theorem dX7_set_133 : decode cX7_set 133 = .ok (.putfield 120, 3) := by decide +kernel
theorem dX7_set_136 : decode cX7_set 136 = .ok (.iload_n 3, 1) := by decide +kernel
theorem dX7_set_137 : decode cX7_set 137 = .ok (.ireturn, 1) := by decide +kernel
theorem dX7_set_138 : decode cX7_set 138 = .ok (.iconst (-1), 1) := by decide +kernel
theorem dX7_set_139 : decode cX7_set 139 = .ok (.ireturn, 1) := by decide +kernel
theorem dX7_weightsOfAll_0 : decode cX7_weightsOfAll 0 = .ok (.iconst 0, 1) := by decide +kernel
theorem dX7_weightsOfAll_1 : decode cX7_weightsOfAll 1 = .ok (.istore_n 1, 1) := by decide +kernel
theorem dX7_weightsOfAll_2 : decode cX7_weightsOfAll 2 = .ok (.iconst 0, 1) := by decide +kernel
theorem dX7_weightsOfAll_3 : decode cX7_weightsOfAll 3 = .ok (.istore_n 2, 1) := by decide +kernel
theorem dX7_weightsOfAll_4 : decode cX7_weightsOfAll 4 = .ok (.iload_n 2, 1) := by decide +kernel
theorem dX7_weightsOfAll_5 : decode cX7_weightsOfAll 5 = .ok (.aload_n 0, 1) := by decide +kernel
theorem dX7_weightsOfAll_6 : decode cX7_weightsOfAll 6 = .ok (.getfield 93, 3) := by decide +kernel
theorem dX7_weightsOfAll_9 : decode cX7_weightsOfAll 9 = .ok (.if_icmp .ge 18, 3) := by decide +kernel
theorem dX7_weightsOfAll_12 : decode cX7_weightsOfAll 12 = .ok (.iload_n 1, 1) := by decide +kernel
theorem dX7_weightsOfAll_13 : decode cX7_weightsOfAll 13 = .ok (.aload_n 0, 1) := by decide +kernel
theorem dX7_weightsOfAll_14 : decode cX7_weightsOfAll 14 = .ok (.getfield 16, 3) := by decide +kernel
theorem dX7_weightsOfAll_17 : decode cX7_weightsOfAll 17 = .ok (.iload_n 2, 1) := by decide +kernel
theorem dX7_weightsOfAll_18 : decode cX7_weightsOfAll 18 = .ok (.iaload, 1) := by decide +kernel
theorem dX7_weightsOfAll_19 : decode cX7_weightsOfAll 19 = .ok (.iadd, 1) := by decide +kernel
theorem dX7_weightsOfAll_20 : decode cX7_weightsOfAll 20 = .ok (.istore_n 1, 1) := by decide +kernel
theorem dX7_weightsOfAll_21 : decode cX7_weightsOfAll 21 = .ok (.iinc 2 1, 3) := by decide +kernel
theorem dX7_weightsOfAll_24 : decode cX7_weightsOfAll 24 = .ok (.goto (-20), 3) := by decide +kernel
theorem dX7_weightsOfAll_27 : decode cX7_weightsOfAll 27 = .ok (.iload_n 1, 1) := by decide +kernel
theorem dX7_weightsOfAll_28 : decode cX7_weightsOfAll 28 = .ok (.ireturn, 1) := by decide +kernel
set_option maxRecDepth 20000 in
theorem ggX7_orders_X7_begin : GoodIn wsX7_orders wsX7_begin := goodIn_r _ [7, 8, 9, 63, 64, 65, 66, 67, 68, 69, 70, 71, 72, 73, 74, 75, 76, 77, 78, 79, 80, 81, 82, 83, 84, 85, 86, 87, 88, 89, 90, 91, 92] (by decide +kernel) (by decide +kernel)
set_option maxRecDepth 20000 in
theorem gX7_orders_X7_begin : GoodIn wsX7_orders (wsV RX7 123 RX7 yX7_begin wsX7_begin) := goodIn_app (goodIn_of _ (by decide +kernel)) ggX7_orders_X7_begin
set_option maxRecDepth 20000 in
theorem ggX7_orders_X7_with : GoodIn wsX7_orders wsX7_with := goodIn_r _ [13, 9, 14, 15, 16, 6, 17, 18, 19, 63, 64, 65, 66, 67, 68, 69, 70, 71, 72, 73, 74, 75, 76, 77, 78, 79, 80, 81, 82, 83, 84, 85, 86, 87, 88, 89, 90, 91, 92] (by decide +kernel) (by decide +kernel)
set_option maxRecDepth 20000 in
theorem gX7_orders_X7_with : GoodIn wsX7_orders (wsV RX7 126 RX7 yX7_with wsX7_with) := goodIn_app (goodIn_of _ (by decide +kernel)) ggX7_orders_X7_with
set_option maxRecDepth 20000 in
theorem ggX7_orders_X7_mixes : GoodIn wsX7_orders wsX7_mixes := goodIn_r _ [23, 24, 25, 26, 6, 27, 9, 14, 15, 16, 17, 18, 19, 63, 64, 65, 66, 67, 68, 69, 70, 71, 72, 73, 74, 75, 76, 77, 78, 79, 80, 81, 82, 83, 84, 85, 86, 87, 88, 89, 90, 91, 92] (by decide +kernel) (by decide +kernel)
set_option maxRecDepth 20000 in
theorem gX7_orders_X7_mixes : GoodIn wsX7_orders (wsV RX7 130 RX7 yX7_mixes wsX7_mixes) := goodIn_app (goodIn_of _ (by decide +kernel)) ggX7_orders_X7_mixes
set_option maxRecDepth 20000 in
theorem ggX7_orders_X7_byLengths : GoodIn wsX7_orders wsX7_byLengths := goodIn_r _ [31, 1, 32, 2, 33, 63, 64, 65, 66, 67, 68, 69, 70, 71, 72, 73, 74, 75, 76, 77, 78, 79, 80, 81, 82, 83, 84, 85, 86, 87, 88, 89, 90, 91, 92] (by decide +kernel) (by decide +kernel)
set_option maxRecDepth 20000 in
theorem gX7_orders_X7_byLengths : GoodIn wsX7_orders (wsV RX7 134 RX7 yX7_byLengths wsX7_byLengths) := goodIn_app (goodIn_of _ (by decide +kernel)) ggX7_orders_X7_byLengths
set_option maxRecDepth 20000 in
theorem ggX7_orders_X7_byWeights : GoodIn wsX7_orders wsX7_byWeights := goodIn_r _ [37, 1, 38, 2, 39, 40, 41, 6, 42, 24, 25, 26, 27, 9, 14, 15, 16, 17, 18, 19, 63, 64, 65, 66, 67, 68, 69, 70, 71, 72, 73, 74, 75, 76, 77, 78, 79, 80, 81, 82, 83, 84, 85, 86, 87, 88, 89, 90, 91, 92] (by decide +kernel) (by decide +kernel)
set_option maxRecDepth 20000 in
theorem gX7_orders_X7_byWeights : GoodIn wsX7_orders (wsV RX7 137 RX7 yX7_byWeights wsX7_byWeights) := goodIn_app (goodIn_of _ (by decide +kernel)) ggX7_orders_X7_byWeights
set_option maxRecDepth 20000 in
theorem ggX7_orders_X7_balanced : GoodIn wsX7_orders wsX7_balanced := goodIn_r _ [46, 47, 48, 49, 1, 50, 51, 2, 52, 53, 54, 55, 6, 56, 57, 3, 4, 5, 7, 8, 9, 10, 11, 12, 13, 14, 15, 16, 17, 18, 19, 20, 21, 22, 23, 24, 25, 26, 27, 63, 64, 65, 66, 67, 68, 69, 70, 71, 72, 73, 74, 75, 76, 77, 78, 79, 80, 81, 82, 83, 84, 85, 86, 87, 88, 89, 90, 91, 92] (by decide +kernel) (by decide +kernel)
set_option maxRecDepth 20000 in
theorem gX7_orders_X7_balanced : GoodIn wsX7_orders (wsV RX7 141 RX7 yX7_balanced wsX7_balanced) := goodIn_app (goodIn_of _ (by decide +kernel)) ggX7_orders_X7_balanced
set_option maxRecDepth 20000 in
theorem ggX7_orders_X7_buffered : GoodIn wsX7_orders wsX7_buffered := goodIn_r _ [61, 62, 1, 52, 2, 24, 25, 26, 6, 27, 9, 14, 15, 16, 17, 18, 19, 63, 64, 65, 66, 67, 68, 69, 70, 71, 72, 73, 74, 75, 76, 77, 78, 79, 80, 81, 82, 83, 84, 85, 86, 87, 88, 89, 90, 91, 92] (by decide +kernel) (by decide +kernel)
set_option maxRecDepth 20000 in
theorem gX7_orders_X7_buffered : GoodIn wsX7_orders (wsV RX7 145 RX7 yX7_buffered wsX7_buffered) := goodIn_app (goodIn_of _ (by decide +kernel)) ggX7_orders_X7_buffered
theorem dX7_orders_0 : decode cX7_orders 0 = .ok (.iconst 0, 1) := by decide +kernel
theorem dX7_orders_1 : decode cX7_orders 1 = .ok (.istore_n 3, 1) := by decide +kernel
theorem dX7_orders_2 : decode cX7_orders 2 = .ok (.iload_n 3, 1) := by decide +kernel
theorem dX7_orders_3 : decode cX7_orders 3 = .ok (.aload_n 0, 1) := by decide +kernel
theorem dX7_orders_4 : decode cX7_orders 4 = .ok (.getfield 93, 3) := by decide +kernel
theorem dX7_orders_7 : decode cX7_orders 7 = .ok (.if_icmp .ge 16, 3) := by decide +kernel
theorem dX7_orders_10 : decode cX7_orders 10 = .ok (.aload_n 0, 1) := by decide +kernel
theorem dX7_orders_11 : decode cX7_orders 11 = .ok (.getfield 42, 3) := by decide +kernel
theorem dX7_orders_14 : decode cX7_orders 14 = .ok (.iload_n 3, 1) := by decide +kernel
theorem dX7_orders_15 : decode cX7_orders 15 = .ok (.iload_n 3, 1) := by decide +kernel
theorem dX7_orders_16 : decode cX7_orders 16 = .ok (.iastore, 1) := by decide +kernel
theorem dX7_orders_17 : decode cX7_orders 17 = .ok (.iinc 3 1, 3) := by decide +kernel
theorem dX7_orders_20 : decode cX7_orders 20 = .ok (.goto (-18), 3) := by decide +kernel
theorem dX7_orders_23 : decode cX7_orders 23 = .ok (.aload_n 0, 1) := by decide +kernel
theorem dX7_orders_24 : decode cX7_orders 24 = .ok (.invokevirtual 123, 3) := by decide +kernel
theorem dX7_orders_27 : decode cX7_orders 27 = .ok (.aload_n 0, 1) := by decide +kernel
theorem dX7_orders_28 : decode cX7_orders 28 = .ok (.iload_n 1, 1) := by decide +kernel
theorem dX7_orders_29 : decode cX7_orders 29 = .ok (.i2l, 1) := by decide +kernel
theorem dX7_orders_30 : decode cX7_orders 30 = .ok (.invokevirtual 126, 3) := by decide +kernel
theorem dX7_orders_33 : decode cX7_orders 33 = .ok (.aload_n 0, 1) := by decide +kernel
theorem dX7_orders_34 : decode cX7_orders 34 = .ok (.iload_n 2, 1) := by decide +kernel
theorem dX7_orders_35 : decode cX7_orders 35 = .ok (.i2l, 1) := by decide +kernel
theorem dX7_orders_36 : decode cX7_orders 36 = .ok (.invokevirtual 126, 3) := by decide +kernel
theorem dX7_orders_39 : decode cX7_orders 39 = .ok (.iload_n 1, 1) := by decide +kernel
theorem dX7_orders_40 : decode cX7_orders 40 = .ok (.tableswitch 78 0 3 #[32, 47, 66, 71], 32) := by decide +kernel
theorem dX7_orders_72 : decode cX7_orders 72 = .ok (.aload_n 0, 1) := by decide +kernel
theorem dX7_orders_73 : decode cX7_orders 73 = .ok (.aload_n 0, 1) := by decide +kernel
theorem dX7_orders_74 : decode cX7_orders 74 = .ok (.getfield 42, 3) := by decide +kernel
theorem dX7_orders_77 : decode cX7_orders 77 = .ok (.iconst 0, 1) := by decide +kernel
theorem dX7_orders_78 : decode cX7_orders 78 = .ok (.aload_n 0, 1) := by decide +kernel
theorem dX7_orders_79 : decode cX7_orders 79 = .ok (.getfield 93, 3) := by decide +kernel
theorem dX7_orders_82 : decode cX7_orders 82 = .ok (.invokevirtual 130, 3) := by decide +kernel
theorem dX7_orders_85 : decode cX7_orders 85 = .ok (.iconst 1, 1) := by decide +kernel
theorem dX7_orders_86 : decode cX7_orders 86 = .ok (.ireturn, 1) := by decide +kernel
theorem dX7_orders_87 : decode cX7_orders 87 = .ok (.aload_n 0, 1) := by decide +kernel
theorem dX7_orders_88 : decode cX7_orders 88 = .ok (.aload_n 0, 1) := by decide +kernel
theorem dX7_orders_89 : decode cX7_orders 89 = .ok (.getfield 42, 3) := by decide +kernel
theorem dX7_orders_92 : decode cX7_orders 92 = .ok (.iconst 0, 1) := by decide +kernel
theorem dX7_orders_93 : decode cX7_orders 93 = .ok (.aload_n 0, 1) := by decide +kernel
theorem dX7_orders_94 : decode cX7_orders 94 = .ok (.getfield 93, 3) := by decide +kernel
theorem dX7_orders_97 : decode cX7_orders 97 = .ok (.invokevirtual 130, 3) := by decide +kernel
theorem dX7_orders_100 : decode cX7_orders 100 = .ok (.aload_n 0, 1) := by decide +kernel
theorem dX7_orders_101 : decode cX7_orders 101 = .ok (.invokevirtual 134, 3) := by decide +kernel
theorem dX7_orders_104 : decode cX7_orders 104 = .ok (.iconst 1, 1) := by decide +kernel
theorem dX7_orders_105 : decode cX7_orders 105 = .ok (.ireturn, 1) := by decide +kernel
theorem dX7_orders_106 : decode cX7_orders 106 = .ok (.aload_n 0, 1) := by decide +kernel
theorem dX7_orders_107 : decode cX7_orders 107 = .ok (.invokevirtual 137, 3) := by decide +kernel
theorem dX7_orders_110 : decode cX7_orders 110 = .ok (.ireturn, 1) := by decide +kernel
theorem dX7_orders_111 : decode cX7_orders 111 = .ok (.aload_n 0, 1) := by decide +kernel
theorem dX7_orders_112 : decode cX7_orders 112 = .ok (.iload_n 2, 1) := by decide +kernel
theorem dX7_orders_113 : decode cX7_orders 113 = .ok (.invokevirtual 141, 3) := by decide +kernel
theorem dX7_orders_116 : decode cX7_orders 116 = .ok (.iconst 1, 1) := by decide +kernel
theorem dX7_orders_117 : decode cX7_orders 117 = .ok (.ireturn, 1) := by decide +kernel
theorem dX7_orders_118 : decode cX7_orders 118 = .ok (.aload_n 0, 1) := by decide +kernel
theorem dX7_orders_119 : decode cX7_orders 119 = .ok (.invokevirtual 145, 3) := by decide +kernel
theorem dX7_orders_122 : decode cX7_orders 122 = .ok (.iconst 1, 1) := by decide +kernel
theorem dX7_orders_123 : decode cX7_orders 123 = .ok (.ireturn, 1) := by decide +kernel
theorem dX7_byLengths_0 : decode cX7_byLengths 0 = .ok (.iconst 0, 1) := by decide +kernel
theorem dX7_byLengths_1 : decode cX7_byLengths 1 = .ok (.istore_n 1, 1) := by decide +kernel
theorem dX7_byLengths_2 : decode cX7_byLengths 2 = .ok (.iload_n 1, 1) := by decide +kernel
theorem dX7_byLengths_3 : decode cX7_byLengths 3 = .ok (.aload_n 0, 1) := by decide +kernel
theorem dX7_byLengths_4 : decode cX7_byLengths 4 = .ok (.getfield 93, 3) := by decide +kernel
theorem dX7_byLengths_7 : decode cX7_byLengths 7 = .ok (.if_icmp .ge 127, 3) := by decide +kernel
theorem dX7_byLengths_10 : decode cX7_byLengths 10 = .ok (.iload_n 1, 1) := by decide +kernel
theorem dX7_byLengths_11 : decode cX7_byLengths 11 = .ok (.aload_n 0, 1) := by decide +kernel
theorem dX7_byLengths_12 : decode cX7_byLengths 12 = .ok (.getfield 36, 3) := by decide +kernel
theorem dX7_byLengths_15 : decode cX7_byLengths 15 = .ok (.iadd, 1) := by decide +kernel
theorem dX7_byLengths_16 : decode cX7_byLengths 16 = .ok (.aload_n 0, 1) := by decide +kernel
theorem dX7_byLengths_17 : decode cX7_byLengths 17 = .ok (.getfield 93, 3) := by decide +kernel
theorem dX7_byLengths_20 : decode cX7_byLengths 20 = .ok (.if_icmp .ge 12, 3) := by decide +kernel
theorem dX7_byLengths_23 : decode cX7_byLengths 23 = .ok (.iload_n 1, 1) := by decide +kernel
theorem dX7_byLengths_24 : decode cX7_byLengths 24 = .ok (.aload_n 0, 1) := by decide +kernel
theorem dX7_byLengths_25 : decode cX7_byLengths 25 = .ok (.getfield 36, 3) := by decide +kernel
theorem dX7_byLengths_28 : decode cX7_byLengths 28 = .ok (.iadd, 1) := by decide +kernel
theorem dX7_byLengths_29 : decode cX7_byLengths 29 = .ok (.goto 7, 3) := by decide +kernel
theorem dX7_byLengths_32 : decode cX7_byLengths 32 = .ok (.aload_n 0, 1) := by decide +kernel
theorem dX7_byLengths_33 : decode cX7_byLengths 33 = .ok (.getfield 93, 3) := by decide +kernel
theorem dX7_byLengths_36 : decode cX7_byLengths 36 = .ok (.istore_n 2, 1) := by decide +kernel
theorem dX7_byLengths_37 : decode cX7_byLengths 37 = .ok (.iload_n 1, 1) := by decide +kernel
theorem dX7_byLengths_38 : decode cX7_byLengths 38 = .ok (.iconst 1, 1) := by decide +kernel
theorem dX7_byLengths_39 : decode cX7_byLengths 39 = .ok (.iadd, 1) := by decide +kernel
theorem dX7_byLengths_40 : decode cX7_byLengths 40 = .ok (.istore_n 3, 1) := by decide +kernel
theorem dX7_byLengths_41 : decode cX7_byLengths 41 = .ok (.iload_n 3, 1) := by decide +kernel
theorem dX7_byLengths_42 : decode cX7_byLengths 42 = .ok (.iload_n 2, 1) := by decide +kernel
theorem dX7_byLengths_43 : decode cX7_byLengths 43 = .ok (.if_icmp .ge 81, 3) := by decide +kernel
theorem dX7_byLengths_46 : decode cX7_byLengths 46 = .ok (.aload_n 0, 1) := by decide +kernel
theorem dX7_byLengths_47 : decode cX7_byLengths 47 = .ok (.getfield 42, 3) := by decide +kernel
theorem dX7_byLengths_50 : decode cX7_byLengths 50 = .ok (.iload_n 3, 1) := by decide +kernel
theorem dX7_byLengths_51 : decode cX7_byLengths 51 = .ok (.iaload, 1) := by decide +kernel
theorem dX7_byLengths_52 : decode cX7_byLengths 52 = .ok (.istore 4, 2) := by decide +kernel
theorem dX7_byLengths_54 : decode cX7_byLengths 54 = .ok (.iload_n 3, 1) := by decide +kernel
theorem dX7_byLengths_55 : decode cX7_byLengths 55 = .ok (.istore 5, 2) := by decide +kernel
theorem dX7_byLengths_57 : decode cX7_byLengths 57 = .ok (.iload 5, 2) := by decide +kernel
theorem dX7_byLengths_59 : decode cX7_byLengths 59 = .ok (.iload_n 1, 1) := by decide +kernel
theorem dX7_byLengths_60 : decode cX7_byLengths 60 = .ok (.if_icmp .le 49, 3) := by decide +kernel
theorem dX7_byLengths_63 : decode cX7_byLengths 63 = .ok (.aload_n 0, 1) := by decide +kernel
theorem dX7_byLengths_64 : decode cX7_byLengths 64 = .ok (.getfield 19, 3) := by decide +kernel
theorem dX7_byLengths_67 : decode cX7_byLengths 67 = .ok (.aload_n 0, 1) := by decide +kernel
theorem dX7_byLengths_68 : decode cX7_byLengths 68 = .ok (.getfield 42, 3) := by decide +kernel
theorem dX7_byLengths_71 : decode cX7_byLengths 71 = .ok (.iload 5, 2) := by decide +kernel
theorem dX7_byLengths_73 : decode cX7_byLengths 73 = .ok (.iconst 1, 1) := by decide +kernel
theorem dX7_byLengths_74 : decode cX7_byLengths 74 = .ok (.isub, 1) := by decide +kernel
theorem dX7_byLengths_75 : decode cX7_byLengths 75 = .ok (.iaload, 1) := by decide +kernel
theorem dX7_byLengths_76 : decode cX7_byLengths 76 = .ok (.iaload, 1) := by decide +kernel
theorem dX7_byLengths_77 : decode cX7_byLengths 77 = .ok (.aload_n 0, 1) := by decide +kernel
theorem dX7_byLengths_78 : decode cX7_byLengths 78 = .ok (.getfield 19, 3) := by decide +kernel
theorem dX7_byLengths_81 : decode cX7_byLengths 81 = .ok (.iload 4, 2) := by decide +kernel
theorem dX7_byLengths_83 : decode cX7_byLengths 83 = .ok (.iaload, 1) := by decide +kernel
theorem dX7_byLengths_84 : decode cX7_byLengths 84 = .ok (.if_icmp .le 25, 3) := by decide +kernel
theorem dX7_byLengths_87 : decode cX7_byLengths 87 = .ok (.aload_n 0, 1) := by decide +kernel
theorem dX7_byLengths_88 : decode cX7_byLengths 88 = .ok (.getfield 42, 3) := by decide +kernel
theorem dX7_byLengths_91 : decode cX7_byLengths 91 = .ok (.iload 5, 2) := by decide +kernel
theorem dX7_byLengths_93 : decode cX7_byLengths 93 = .ok (.aload_n 0, 1) := by decide +kernel
theorem dX7_byLengths_94 : decode cX7_byLengths 94 = .ok (.getfield 42, 3) := by decide +kernel
theorem dX7_byLengths_97 : decode cX7_byLengths 97 = .ok (.iload 5, 2) := by decide +kernel
theorem dX7_byLengths_99 : decode cX7_byLengths 99 = .ok (.iconst 1, 1) := by decide +kernel
theorem dX7_byLengths_100 : decode cX7_byLengths 100 = .ok (.isub, 1) := by decide +kernel
theorem dX7_byLengths_101 : decode cX7_byLengths 101 = .ok (.iaload, 1) := by decide +kernel
theorem dX7_byLengths_102 : decode cX7_byLengths 102 = .ok (.iastore, 1) := by decide +kernel
theorem dX7_byLengths_103 : decode cX7_byLengths 103 = .ok (.iinc 5 (-1), 3) := by decide +kernel
theorem dX7_byLengths_106 : decode cX7_byLengths 106 = .ok (.goto (-49), 3) := by decide +kernel
theorem dX7_byLengths_109 : decode cX7_byLengths 109 = .ok (.aload_n 0, 1) := by decide +kernel
theorem dX7_byLengths_110 : decode cX7_byLengths 110 = .ok (.getfield 42, 3) := by decide +kernel
theorem dX7_byLengths_113 : decode cX7_byLengths 113 = .ok (.iload 5, 2) := by decide +kernel
theorem dX7_byLengths_115 : decode cX7_byLengths 115 = .ok (.iload 4, 2) := by decide +kernel
theorem dX7_byLengths_117 : decode cX7_byLengths 117 = .ok (.iastore, 1) := by decide +kernel
theorem dX7_byLengths_118 : decode cX7_byLengths 118 = .ok (.iinc 3 1, 3) := by decide +kernel
theorem dX7_byLengths_121 : decode cX7_byLengths 121 = .ok (.goto (-80), 3) := by decide +kernel
theorem dX7_byLengths_124 : decode cX7_byLengths 124 = .ok (.iload_n 1, 1) := by decide +kernel
theorem dX7_byLengths_125 : decode cX7_byLengths 125 = .ok (.aload_n 0, 1) := by decide +kernel
theorem dX7_byLengths_126 : decode cX7_byLengths 126 = .ok (.getfield 36, 3) := by decide +kernel
theorem dX7_byLengths_129 : decode cX7_byLengths 129 = .ok (.iadd, 1) := by decide +kernel
theorem dX7_byLengths_130 : decode cX7_byLengths 130 = .ok (.istore_n 1, 1) := by decide +kernel
theorem dX7_byLengths_131 : decode cX7_byLengths 131 = .ok (.goto (-129), 3) := by decide +kernel
theorem dX7_byLengths_134 : decode cX7_byLengths 134 = .ok (.return_, 1) := by decide +kernel
set_option maxRecDepth 20000 in
theorem ggX7_byWeights_X7_weightsOfAll : GoodIn wsX7_byWeights wsX7_weightsOfAll := goodIn_r _ [8, 1, 2, 20, 21, 22, 23, 24, 25, 26, 27, 28, 29, 30, 31, 32, 33, 34, 35, 36, 37, 38, 39, 40, 41, 42, 43, 44, 45, 46, 47, 48, 49] (by decide +kernel) (by decide +kernel)
set_option maxRecDepth 20000 in
theorem gX7_byWeights_X7_weightsOfAll : GoodIn wsX7_byWeights (wsV RX7 148 RX7 yX7_weightsOfAll wsX7_weightsOfAll) := goodIn_app (goodIn_of _ (by decide +kernel)) ggX7_byWeights_X7_weightsOfAll
set_option maxRecDepth 20000 in
theorem ggX7_byWeights_X7_draw : GoodIn wsX7_byWeights wsX7_draw := goodIn_r _ [12, 13, 14, 15, 16, 7, 17, 18, 19, 20, 21, 22, 23, 24, 25, 26, 27, 28, 29, 30, 31, 32, 33, 34, 35, 36, 37, 38, 39, 40, 41, 42, 43, 44, 45, 46, 47, 48, 49] (by decide +kernel) (by decide +kernel)
set_option maxRecDepth 20000 in
theorem gX7_byWeights_X7_draw : GoodIn wsX7_byWeights (wsV RX7 89 RX7 yX7_draw wsX7_draw) := goodIn_app (goodIn_of _ (by decide +kernel)) ggX7_byWeights_X7_draw
theorem dX7_byWeights_0 : decode cX7_byWeights 0 = .ok (.aload_n 0, 1) := by decide +kernel
theorem dX7_byWeights_1 : decode cX7_byWeights 1 = .ok (.invokevirtual 148, 3) := by decide +kernel
theorem dX7_byWeights_4 : decode cX7_byWeights 4 = .ok (.istore_n 1, 1) := by decide +kernel
theorem dX7_byWeights_5 : decode cX7_byWeights 5 = .ok (.iload_n 1, 1) := by decide +kernel
theorem dX7_byWeights_6 : decode cX7_byWeights 6 = .ok (.ifCond .ne 16, 3) := by decide +kernel
theorem dX7_byWeights_9 : decode cX7_byWeights 9 = .ok (.aload_n 0, 1) := by decide +kernel
theorem dX7_byWeights_10 : decode cX7_byWeights 10 = .ok (.getfield 93, 3) := by decide +kernel
theorem dX7_byWeights_13 : decode cX7_byWeights 13 = .ok (.ifCond .ne 7, 3) := by decide +kernel
theorem dX7_byWeights_16 : decode cX7_byWeights 16 = .ok (.iconst 1, 1) := by decide +kernel
theorem dX7_byWeights_17 : decode cX7_byWeights 17 = .ok (.goto 4, 3) := by decide +kernel
theorem dX7_byWeights_20 : decode cX7_byWeights 20 = .ok (.iconst 0, 1) := by decide +kernel
theorem dX7_byWeights_21 : decode cX7_byWeights 21 = .ok (.ireturn, 1) := by decide +kernel
theorem dX7_byWeights_22 : decode cX7_byWeights 22 = .ok (.iconst 0, 1) := by decide +kernel
theorem dX7_byWeights_23 : decode cX7_byWeights 23 = .ok (.istore_n 2, 1) := by decide +kernel
theorem dX7_byWeights_24 : decode cX7_byWeights 24 = .ok (.iload_n 2, 1) := by decide +kernel
theorem dX7_byWeights_25 : decode cX7_byWeights 25 = .ok (.aload_n 0, 1) := by decide +kernel
theorem dX7_byWeights_26 : decode cX7_byWeights 26 = .ok (.getfield 93, 3) := by decide +kernel
theorem dX7_byWeights_29 : decode cX7_byWeights 29 = .ok (.if_icmp .ge 59, 3) := by decide +kernel
theorem dX7_byWeights_32 : decode cX7_byWeights 32 = .ok (.aload_n 0, 1) := by decide +kernel
theorem dX7_byWeights_33 : decode cX7_byWeights 33 = .ok (.iload_n 1, 1) := by decide +kernel
theorem dX7_byWeights_34 : decode cX7_byWeights 34 = .ok (.i2l, 1) := by decide +kernel
theorem dX7_byWeights_35 : decode cX7_byWeights 35 = .ok (.invokevirtual 89, 3) := by decide +kernel
theorem dX7_byWeights_38 : decode cX7_byWeights 38 = .ok (.istore_n 3, 1) := by decide +kernel
theorem dX7_byWeights_39 : decode cX7_byWeights 39 = .ok (.iconst 0, 1) := by decide +kernel
theorem dX7_byWeights_40 : decode cX7_byWeights 40 = .ok (.istore 4, 2) := by decide +kernel
theorem dX7_byWeights_42 : decode cX7_byWeights 42 = .ok (.aload_n 0, 1) := by decide +kernel
theorem dX7_byWeights_43 : decode cX7_byWeights 43 = .ok (.getfield 16, 3) := by decide +kernel
theorem dX7_byWeights_46 : decode cX7_byWeights 46 = .ok (.iconst 0, 1) := by decide +kernel
theorem dX7_byWeights_47 : decode cX7_byWeights 47 = .ok (.iaload, 1) := by decide +kernel
theorem dX7_byWeights_48 : decode cX7_byWeights 48 = .ok (.istore 5, 2) := by decide +kernel
theorem dX7_byWeights_50 : decode cX7_byWeights 50 = .ok (.iload 5, 2) := by decide +kernel
theorem dX7_byWeights_52 : decode cX7_byWeights 52 = .ok (.iload_n 3, 1) := by decide +kernel
theorem dX7_byWeights_53 : decode cX7_byWeights 53 = .ok (.if_icmp .gt 21, 3) := by decide +kernel
theorem dX7_byWeights_56 : decode cX7_byWeights 56 = .ok (.iinc 4 1, 3) := by decide +kernel
theorem dX7_byWeights_59 : decode cX7_byWeights 59 = .ok (.iload 5, 2) := by decide +kernel
theorem dX7_byWeights_61 : decode cX7_byWeights 61 = .ok (.aload_n 0, 1) := by decide +kernel
theorem dX7_byWeights_62 : decode cX7_byWeights 62 = .ok (.getfield 16, 3) := by decide +kernel
theorem dX7_byWeights_65 : decode cX7_byWeights 65 = .ok (.iload 4, 2) := by decide +kernel
theorem dX7_byWeights_67 : decode cX7_byWeights 67 = .ok (.iaload, 1) := by decide +kernel
theorem dX7_byWeights_68 : decode cX7_byWeights 68 = .ok (.iadd, 1) := by decide +kernel
theorem dX7_byWeights_69 : decode cX7_byWeights 69 = .ok (.istore 5, 2) := by decide +kernel
theorem dX7_byWeights_71 : decode cX7_byWeights 71 = .ok (.goto (-21), 3) := by decide +kernel
theorem dX7_byWeights_74 : decode cX7_byWeights 74 = .ok (.aload_n 0, 1) := by decide +kernel
theorem dX7_byWeights_75 : decode cX7_byWeights 75 = .ok (.getfield 42, 3) := by decide +kernel
theorem dX7_byWeights_78 : decode cX7_byWeights 78 = .ok (.iload_n 2, 1) := by decide +kernel
theorem dX7_byWeights_79 : decode cX7_byWeights 79 = .ok (.iload 4, 2) := by decide +kernel
theorem dX7_byWeights_81 : decode cX7_byWeights 81 = .ok (.iastore, 1) := by decide +kernel
theorem dX7_byWeights_82 : decode cX7_byWeights 82 = .ok (.iinc 2 1, 3) := by decide +kernel
theorem dX7_byWeights_85 : decode cX7_byWeights 85 = .ok (.goto (-61), 3) := by decide +kernel
theorem dX7_byWeights_88 : decode cX7_byWeights 88 = .ok (.iconst 1, 1) := by decide +kernel
theorem dX7_byWeights_89 : decode cX7_byWeights 89 = .ok (.ireturn, 1) := by decide +kernel
set_option maxRecDepth 20000 in
theorem ggX7_again_X7_begin : GoodIn wsX7_again wsX7_begin := goodIn_r _ [13, 14, 15, 34, 35, 36, 37, 38, 39, 40, 41, 42, 43, 44, 45, 46, 47, 48, 49, 50, 51, 52, 53, 54, 55, 56, 57, 58, 59, 60, 61, 62, 63] (by decide +kernel) (by decide +kernel)
set_option maxRecDepth 20000 in
theorem gX7_again_X7_begin : GoodIn wsX7_again (wsV RX7 123 RX7 yX7_begin wsX7_begin) := goodIn_app (goodIn_of _ (by decide +kernel)) ggX7_again_X7_begin
set_option maxRecDepth 20000 in
theorem ggX7_again_X7_with : GoodIn wsX7_again wsX7_with := goodIn_r _ [19, 15, 20, 21, 22, 12, 23, 24, 25, 34, 35, 36, 37, 38, 39, 40, 41, 42, 43, 44, 45, 46, 47, 48, 49, 50, 51, 52, 53, 54, 55, 56, 57, 58, 59, 60, 61, 62, 63] (by decide +kernel) (by decide +kernel)
set_option maxRecDepth 20000 in
theorem gX7_again_X7_with : GoodIn wsX7_again (wsV RX7 126 RX7 yX7_with wsX7_with) := goodIn_app (goodIn_of _ (by decide +kernel)) ggX7_again_X7_with
set_option maxRecDepth 20000 in
theorem ggX7_again_X7_mixes : GoodIn wsX7_again wsX7_mixes := goodIn_r _ [29, 30, 31, 32, 12, 33, 15, 20, 21, 22, 23, 24, 25, 34, 35, 36, 37, 38, 39, 40, 41, 42, 43, 44, 45, 46, 47, 48, 49, 50, 51, 52, 53, 54, 55, 56, 57, 58, 59, 60, 61, 62, 63] (by decide +kernel) (by decide +kernel)
set_option maxRecDepth 20000 in
theorem gX7_again_X7_mixes : GoodIn wsX7_again (wsV RX7 130 RX7 yX7_mixes wsX7_mixes) := goodIn_app (goodIn_of _ (by decide +kernel)) ggX7_again_X7_mixes
theorem dX7_again_0 : decode cX7_again 0 = .ok (.aload_n 0, 1) := by decide +kernel
theorem dX7_again_1 : decode cX7_again 1 = .ok (.getfield 48, 3) := by decide +kernel
theorem dX7_again_4 : decode cX7_again 4 = .ok (.iload_n 1, 1) := by decide +kernel
theorem dX7_again_5 : decode cX7_again 5 = .ok (.iaload, 1) := by decide +kernel
theorem dX7_again_6 : decode cX7_again 6 = .ok (.istore_n 3, 1) := by decide +kernel
theorem dX7_again_7 : decode cX7_again 7 = .ok (.iconst 0, 1) := by decide +kernel
theorem dX7_again_8 : decode cX7_again 8 = .ok (.istore 4, 2) := by decide +kernel
theorem dX7_again_10 : decode cX7_again 10 = .ok (.iload 4, 2) := by decide +kernel
theorem dX7_again_12 : decode cX7_again 12 = .ok (.aload_n 0, 1) := by decide +kernel
theorem dX7_again_13 : decode cX7_again 13 = .ok (.getfield 93, 3) := by decide +kernel
theorem dX7_again_16 : decode cX7_again 16 = .ok (.if_icmp .ge 31, 3) := by decide +kernel
theorem dX7_again_19 : decode cX7_again 19 = .ok (.aload_n 0, 1) := by decide +kernel
theorem dX7_again_20 : decode cX7_again 20 = .ok (.getfield 13, 3) := by decide +kernel
theorem dX7_again_23 : decode cX7_again 23 = .ok (.iload 4, 2) := by decide +kernel
theorem dX7_again_25 : decode cX7_again 25 = .ok (.iaload, 1) := by decide +kernel
theorem dX7_again_26 : decode cX7_again 26 = .ok (.iload_n 1, 1) := by decide +kernel
theorem dX7_again_27 : decode cX7_again 27 = .ok (.if_icmp .ne 14, 3) := by decide +kernel
theorem dX7_again_30 : decode cX7_again 30 = .ok (.aload_n 0, 1) := by decide +kernel
theorem dX7_again_31 : decode cX7_again 31 = .ok (.getfield 45, 3) := by decide +kernel
theorem dX7_again_34 : decode cX7_again 34 = .ok (.iload_n 3, 1) := by decide +kernel
theorem dX7_again_35 : decode cX7_again 35 = .ok (.iload 4, 2) := by decide +kernel
theorem dX7_again_37 : decode cX7_again 37 = .ok (.iastore, 1) := by decide +kernel
theorem dX7_again_38 : decode cX7_again 38 = .ok (.iinc 3 1, 3) := by decide +kernel
theorem dX7_again_41 : decode cX7_again 41 = .ok (.iinc 4 1, 3) := by decide +kernel
theorem dX7_again_44 : decode cX7_again 44 = .ok (.goto (-34), 3) := by decide +kernel
theorem dX7_again_47 : decode cX7_again 47 = .ok (.aload_n 0, 1) := by decide +kernel
theorem dX7_again_48 : decode cX7_again 48 = .ok (.invokevirtual 123, 3) := by decide +kernel
theorem dX7_again_51 : decode cX7_again 51 = .ok (.aload_n 0, 1) := by decide +kernel
theorem dX7_again_52 : decode cX7_again 52 = .ok (.ldc2_w 152, 3) := by decide +kernel
theorem dX7_again_55 : decode cX7_again 55 = .ok (.invokevirtual 126, 3) := by decide +kernel
theorem dX7_again_58 : decode cX7_again 58 = .ok (.aload_n 0, 1) := by decide +kernel
theorem dX7_again_59 : decode cX7_again 59 = .ok (.iload_n 2, 1) := by decide +kernel
theorem dX7_again_60 : decode cX7_again 60 = .ok (.i2l, 1) := by decide +kernel
theorem dX7_again_61 : decode cX7_again 61 = .ok (.invokevirtual 126, 3) := by decide +kernel
theorem dX7_again_64 : decode cX7_again 64 = .ok (.aload_n 0, 1) := by decide +kernel
theorem dX7_again_65 : decode cX7_again 65 = .ok (.iload_n 1, 1) := by decide +kernel
theorem dX7_again_66 : decode cX7_again 66 = .ok (.i2l, 1) := by decide +kernel
theorem dX7_again_67 : decode cX7_again 67 = .ok (.invokevirtual 126, 3) := by decide +kernel
theorem dX7_again_70 : decode cX7_again 70 = .ok (.aload_n 0, 1) := by decide +kernel
theorem dX7_again_71 : decode cX7_again 71 = .ok (.aload_n 0, 1) := by decide +kernel
theorem dX7_again_72 : decode cX7_again 72 = .ok (.getfield 57, 3) := by decide +kernel
theorem dX7_again_75 : decode cX7_again 75 = .ok (.iload_n 1, 1) := by decide +kernel
theorem dX7_again_76 : decode cX7_again 76 = .ok (.iaload, 1) := by decide +kernel
theorem dX7_again_77 : decode cX7_again 77 = .ok (.i2l, 1) := by decide +kernel
theorem dX7_again_78 : decode cX7_again 78 = .ok (.invokevirtual 126, 3) := by decide +kernel
theorem dX7_again_81 : decode cX7_again 81 = .ok (.aload_n 0, 1) := by decide +kernel
theorem dX7_again_82 : decode cX7_again 82 = .ok (.aload_n 0, 1) := by decide +kernel
theorem dX7_again_83 : decode cX7_again 83 = .ok (.getfield 45, 3) := by decide +kernel
theorem dX7_again_86 : decode cX7_again 86 = .ok (.aload_n 0, 1) := by decide +kernel
theorem dX7_again_87 : decode cX7_again 87 = .ok (.getfield 48, 3) := by decide +kernel
theorem dX7_again_90 : decode cX7_again 90 = .ok (.iload_n 1, 1) := by decide +kernel
theorem dX7_again_91 : decode cX7_again 91 = .ok (.iaload, 1) := by decide +kernel
theorem dX7_again_92 : decode cX7_again 92 = .ok (.aload_n 0, 1) := by decide +kernel
theorem dX7_again_93 : decode cX7_again 93 = .ok (.getfield 51, 3) := by decide +kernel
theorem dX7_again_96 : decode cX7_again 96 = .ok (.iload_n 1, 1) := by decide +kernel
theorem dX7_again_97 : decode cX7_again 97 = .ok (.iaload, 1) := by decide +kernel
theorem dX7_again_98 : decode cX7_again 98 = .ok (.invokevirtual 130, 3) := by decide +kernel
theorem dX7_again_101 : decode cX7_again 101 = .ok (.aload_n 0, 1) := by decide +kernel
theorem dX7_again_102 : decode cX7_again 102 = .ok (.getfield 57, 3) := by decide +kernel
theorem dX7_again_105 : decode cX7_again 105 = .ok (.iload_n 1, 1) := by decide +kernel
theorem dX7_again_106 : decode cX7_again 106 = .ok (.dup2, 1) := by decide +kernel
theorem dX7_again_107 : decode cX7_again 107 = .ok (.iaload, 1) := by decide +kernel
theorem dX7_again_108 : decode cX7_again 108 = .ok (.iconst 1, 1) := by decide +kernel
theorem dX7_again_109 : decode cX7_again 109 = .ok (.iadd, 1) := by decide +kernel
theorem dX7_again_110 : decode cX7_again 110 = .ok (.iastore, 1) := by decide +kernel
theorem dX7_again_111 : decode cX7_again 111 = .ok (.aload_n 0, 1) := by decide +kernel
theorem dX7_again_112 : decode cX7_again 112 = .ok (.getfield 54, 3) := by decide +kernel
theorem dX7_again_115 : decode cX7_again 115 = .ok (.iload_n 1, 1) := by decide +kernel
theorem dX7_again_116 : decode cX7_again 116 = .ok (.iconst 0, 1) := by decide +kernel
theorem dX7_again_117 : decode cX7_again 117 = .ok (.iastore, 1) := by decide +kernel
theorem dX7_again_118 : decode cX7_again 118 = .ok (.return_, 1) := by decide +kernel
set_option maxRecDepth 20000 in
theorem ggX7_balanced_X7_again : GoodIn wsX7_balanced wsX7_again := goodIn_r _ [13, 1, 4, 5, 8, 14, 3, 2, 6, 15, 16, 17, 12, 18, 19, 20, 21, 22, 23, 24, 25, 26, 27, 28, 29, 30, 31, 32, 33, 34, 35, 36, 37, 38, 39, 40, 41, 42, 43, 44, 45, 46, 47, 48, 49, 50, 51, 52, 53, 54, 55, 56, 57, 58, 59, 60, 61, 62, 63, 64, 65, 66, 67, 68] (by decide +kernel) (by decide +kernel)
set_option maxRecDepth 20000 in
theorem gX7_balanced_X7_again : GoodIn wsX7_balanced (wsV RX7 154 RX7 yX7_again wsX7_again) := goodIn_app (goodIn_of _ (by decide +kernel)) ggX7_balanced_X7_again
theorem dX7_balanced_0 : decode cX7_balanced 0 = .ok (.iconst 0, 1) := by decide +kernel
theorem dX7_balanced_1 : decode cX7_balanced 1 = .ok (.istore_n 2, 1) := by decide +kernel
theorem dX7_balanced_2 : decode cX7_balanced 2 = .ok (.iconst 0, 1) := by decide +kernel
theorem dX7_balanced_3 : decode cX7_balanced 3 = .ok (.istore_n 3, 1) := by decide +kernel
theorem dX7_balanced_4 : decode cX7_balanced 4 = .ok (.iload_n 3, 1) := by decide +kernel
theorem dX7_balanced_5 : decode cX7_balanced 5 = .ok (.bipush 8, 2) := by decide +kernel
theorem dX7_balanced_7 : decode cX7_balanced 7 = .ok (.if_icmp .ge 97, 3) := by decide +kernel
theorem dX7_balanced_10 : decode cX7_balanced 10 = .ok (.aload_n 0, 1) := by decide +kernel
theorem dX7_balanced_11 : decode cX7_balanced 11 = .ok (.getfield 48, 3) := by decide +kernel
theorem dX7_balanced_14 : decode cX7_balanced 14 = .ok (.iload_n 3, 1) := by decide +kernel
theorem dX7_balanced_15 : decode cX7_balanced 15 = .ok (.iload_n 2, 1) := by decide +kernel
theorem dX7_balanced_16 : decode cX7_balanced 16 = .ok (.iastore, 1) := by decide +kernel
theorem dX7_balanced_17 : decode cX7_balanced 17 = .ok (.aload_n 0, 1) := by decide +kernel
theorem dX7_balanced_18 : decode cX7_balanced 18 = .ok (.getfield 51, 3) := by decide +kernel
theorem dX7_balanced_21 : decode cX7_balanced 21 = .ok (.iload_n 3, 1) := by decide +kernel
theorem dX7_balanced_22 : decode cX7_balanced 22 = .ok (.iconst 0, 1) := by decide +kernel
theorem dX7_balanced_23 : decode cX7_balanced 23 = .ok (.iastore, 1) := by decide +kernel
theorem dX7_balanced_24 : decode cX7_balanced 24 = .ok (.aload_n 0, 1) := by decide +kernel
theorem dX7_balanced_25 : decode cX7_balanced 25 = .ok (.getfield 57, 3) := by decide +kernel
theorem dX7_balanced_28 : decode cX7_balanced 28 = .ok (.iload_n 3, 1) := by decide +kernel
theorem dX7_balanced_29 : decode cX7_balanced 29 = .ok (.iconst 0, 1) := by decide +kernel
theorem dX7_balanced_30 : decode cX7_balanced 30 = .ok (.iastore, 1) := by decide +kernel
theorem dX7_balanced_31 : decode cX7_balanced 31 = .ok (.iconst 0, 1) := by decide +kernel
theorem dX7_balanced_32 : decode cX7_balanced 32 = .ok (.istore 4, 2) := by decide +kernel
theorem dX7_balanced_34 : decode cX7_balanced 34 = .ok (.iload 4, 2) := by decide +kernel
theorem dX7_balanced_36 : decode cX7_balanced 36 = .ok (.aload_n 0, 1) := by decide +kernel
theorem dX7_balanced_37 : decode cX7_balanced 37 = .ok (.getfield 93, 3) := by decide +kernel
theorem dX7_balanced_40 : decode cX7_balanced 40 = .ok (.if_icmp .ge 34, 3) := by decide +kernel
theorem dX7_balanced_43 : decode cX7_balanced 43 = .ok (.aload_n 0, 1) := by decide +kernel
theorem dX7_balanced_44 : decode cX7_balanced 44 = .ok (.getfield 51, 3) := by decide +kernel
theorem dX7_balanced_47 : decode cX7_balanced 47 = .ok (.iload_n 3, 1) := by decide +kernel
theorem dX7_balanced_48 : decode cX7_balanced 48 = .ok (.dup2, 1) := by decide +kernel
theorem dX7_balanced_49 : decode cX7_balanced 49 = .ok (.iaload, 1) := by decide +kernel
theorem dX7_balanced_50 : decode cX7_balanced 50 = .ok (.aload_n 0, 1) := by decide +kernel
theorem dX7_balanced_51 : decode cX7_balanced 51 = .ok (.getfield 13, 3) := by decide +kernel
theorem dX7_balanced_54 : decode cX7_balanced 54 = .ok (.iload 4, 2) := by decide +kernel
theorem dX7_balanced_56 : decode cX7_balanced 56 = .ok (.iaload, 1) := by decide +kernel
theorem dX7_balanced_57 : decode cX7_balanced 57 = .ok (.iload_n 3, 1) := by decide +kernel
theorem dX7_balanced_58 : decode cX7_balanced 58 = .ok (.if_icmp .ne 7, 3) := by decide +kernel
theorem dX7_balanced_61 : decode cX7_balanced 61 = .ok (.iconst 1, 1) := by decide +kernel
theorem dX7_balanced_62 : decode cX7_balanced 62 = .ok (.goto 4, 3) := by decide +kernel
theorem dX7_balanced_65 : decode cX7_balanced 65 = .ok (.iconst 0, 1) := by decide +kernel
theorem dX7_balanced_66 : decode cX7_balanced 66 = .ok (.iadd, 1) := by decide +kernel
theorem dX7_balanced_67 : decode cX7_balanced 67 = .ok (.iastore, 1) := by decide +kernel
theorem dX7_balanced_68 : decode cX7_balanced 68 = .ok (.iinc 4 1, 3) := by decide +kernel
theorem dX7_balanced_71 : decode cX7_balanced 71 = .ok (.goto (-37), 3) := by decide +kernel
theorem dX7_balanced_74 : decode cX7_balanced 74 = .ok (.iload_n 2, 1) := by decide +kernel
theorem dX7_balanced_75 : decode cX7_balanced 75 = .ok (.aload_n 0, 1) := by decide +kernel
theorem dX7_balanced_76 : decode cX7_balanced 76 = .ok (.getfield 51, 3) := by decide +kernel
theorem dX7_balanced_79 : decode cX7_balanced 79 = .ok (.iload_n 3, 1) := by decide +kernel
theorem dX7_balanced_80 : decode cX7_balanced 80 = .ok (.iaload, 1) := by decide +kernel
theorem dX7_balanced_81 : decode cX7_balanced 81 = .ok (.iadd, 1) := by decide +kernel
theorem dX7_balanced_82 : decode cX7_balanced 82 = .ok (.istore_n 2, 1) := by decide +kernel
theorem dX7_balanced_83 : decode cX7_balanced 83 = .ok (.aload_n 0, 1) := by decide +kernel
theorem dX7_balanced_84 : decode cX7_balanced 84 = .ok (.getfield 51, 3) := by decide +kernel
theorem dX7_balanced_87 : decode cX7_balanced 87 = .ok (.iload_n 3, 1) := by decide +kernel
theorem dX7_balanced_88 : decode cX7_balanced 88 = .ok (.iaload, 1) := by decide +kernel
theorem dX7_balanced_89 : decode cX7_balanced 89 = .ok (.ifCond .le 9, 3) := by decide +kernel
theorem dX7_balanced_92 : decode cX7_balanced 92 = .ok (.aload_n 0, 1) := by decide +kernel
theorem dX7_balanced_93 : decode cX7_balanced 93 = .ok (.iload_n 3, 1) := by decide +kernel
theorem dX7_balanced_94 : decode cX7_balanced 94 = .ok (.iload_n 1, 1) := by decide +kernel
theorem dX7_balanced_95 : decode cX7_balanced 95 = .ok (.invokevirtual 154, 3) := by decide +kernel
theorem dX7_balanced_98 : decode cX7_balanced 98 = .ok (.iinc 3 1, 3) := by decide +kernel
theorem dX7_balanced_101 : decode cX7_balanced 101 = .ok (.goto (-97), 3) := by decide +kernel
theorem dX7_balanced_104 : decode cX7_balanced 104 = .ok (.iconst 0, 1) := by decide +kernel
theorem dX7_balanced_105 : decode cX7_balanced 105 = .ok (.istore_n 3, 1) := by decide +kernel
theorem dX7_balanced_106 : decode cX7_balanced 106 = .ok (.iconst 0, 1) := by decide +kernel
theorem dX7_balanced_107 : decode cX7_balanced 107 = .ok (.istore 4, 2) := by decide +kernel
theorem dX7_balanced_109 : decode cX7_balanced 109 = .ok (.iload_n 3, 1) := by decide +kernel
theorem dX7_balanced_110 : decode cX7_balanced 110 = .ok (.aload_n 0, 1) := by decide +kernel
theorem dX7_balanced_111 : decode cX7_balanced 111 = .ok (.getfield 93, 3) := by decide +kernel
theorem dX7_balanced_114 : decode cX7_balanced 114 = .ok (.if_icmp .ge 89, 3) := by decide +kernel
theorem dX7_balanced_117 : decode cX7_balanced 117 = .ok (.aload_n 0, 1) := by decide +kernel
theorem dX7_balanced_118 : decode cX7_balanced 118 = .ok (.getfield 51, 3) := by decide +kernel
theorem dX7_balanced_121 : decode cX7_balanced 121 = .ok (.iload 4, 2) := by decide +kernel
theorem dX7_balanced_123 : decode cX7_balanced 123 = .ok (.iaload, 1) := by decide +kernel
theorem dX7_balanced_124 : decode cX7_balanced 124 = .ok (.ifCond .le 67, 3) := by decide +kernel
theorem dX7_balanced_127 : decode cX7_balanced 127 = .ok (.aload_n 0, 1) := by decide +kernel
theorem dX7_balanced_128 : decode cX7_balanced 128 = .ok (.getfield 54, 3) := by decide +kernel
theorem dX7_balanced_131 : decode cX7_balanced 131 = .ok (.iload 4, 2) := by decide +kernel
theorem dX7_balanced_133 : decode cX7_balanced 133 = .ok (.iaload, 1) := by decide +kernel
theorem dX7_balanced_134 : decode cX7_balanced 134 = .ok (.aload_n 0, 1) := by decide +kernel
theorem dX7_balanced_135 : decode cX7_balanced 135 = .ok (.getfield 51, 3) := by decide +kernel
theorem dX7_balanced_138 : decode cX7_balanced 138 = .ok (.iload 4, 2) := by decide +kernel
theorem dX7_balanced_140 : decode cX7_balanced 140 = .ok (.iaload, 1) := by decide +kernel
theorem dX7_balanced_141 : decode cX7_balanced 141 = .ok (.if_icmp .ne 10, 3) := by decide +kernel
theorem dX7_balanced_144 : decode cX7_balanced 144 = .ok (.aload_n 0, 1) := by decide +kernel
theorem dX7_balanced_145 : decode cX7_balanced 145 = .ok (.iload 4, 2) := by decide +kernel
theorem dX7_balanced_147 : decode cX7_balanced 147 = .ok (.iload_n 1, 1) := by decide +kernel
theorem dX7_balanced_148 : decode cX7_balanced 148 = .ok (.invokevirtual 154, 3) := by decide +kernel
theorem dX7_balanced_151 : decode cX7_balanced 151 = .ok (.aload_n 0, 1) := by decide +kernel
theorem dX7_balanced_152 : decode cX7_balanced 152 = .ok (.getfield 42, 3) := by decide +kernel
theorem dX7_balanced_155 : decode cX7_balanced 155 = .ok (.iload_n 3, 1) := by decide +kernel
theorem dX7_balanced_156 : decode cX7_balanced 156 = .ok (.aload_n 0, 1) := by decide +kernel
theorem dX7_balanced_157 : decode cX7_balanced 157 = .ok (.getfield 45, 3) := by decide +kernel
theorem dX7_balanced_160 : decode cX7_balanced 160 = .ok (.aload_n 0, 1) := by decide +kernel
theorem dX7_balanced_161 : decode cX7_balanced 161 = .ok (.getfield 48, 3) := by decide +kernel
theorem dX7_balanced_164 : decode cX7_balanced 164 = .ok (.iload 4, 2) := by decide +kernel
theorem dX7_balanced_166 : decode cX7_balanced 166 = .ok (.iaload, 1) := by decide +kernel
theorem dX7_balanced_167 : decode cX7_balanced 167 = .ok (.aload_n 0, 1) := by decide +kernel
theorem dX7_balanced_168 : decode cX7_balanced 168 = .ok (.getfield 54, 3) := by decide +kernel
theorem dX7_balanced_171 : decode cX7_balanced 171 = .ok (.iload 4, 2) := by decide +kernel
theorem dX7_balanced_173 : decode cX7_balanced 173 = .ok (.iaload, 1) := by decide +kernel
theorem dX7_balanced_174 : decode cX7_balanced 174 = .ok (.iadd, 1) := by decide +kernel
theorem dX7_balanced_175 : decode cX7_balanced 175 = .ok (.iaload, 1) := by decide +kernel
theorem dX7_balanced_176 : decode cX7_balanced 176 = .ok (.iastore, 1) := by decide +kernel
theorem dX7_balanced_177 : decode cX7_balanced 177 = .ok (.aload_n 0, 1) := by decide +kernel
theorem dX7_balanced_178 : decode cX7_balanced 178 = .ok (.getfield 54, 3) := by decide +kernel
theorem dX7_balanced_181 : decode cX7_balanced 181 = .ok (.iload 4, 2) := by decide +kernel
theorem dX7_balanced_183 : decode cX7_balanced 183 = .ok (.dup2, 1) := by decide +kernel
theorem dX7_balanced_184 : decode cX7_balanced 184 = .ok (.iaload, 1) := by decide +kernel
theorem dX7_balanced_185 : decode cX7_balanced 185 = .ok (.iconst 1, 1) := by decide +kernel
theorem dX7_balanced_186 : decode cX7_balanced 186 = .ok (.iadd, 1) := by decide +kernel
theorem dX7_balanced_187 : decode cX7_balanced 187 = .ok (.iastore, 1) := by decide +kernel
theorem dX7_balanced_188 : decode cX7_balanced 188 = .ok (.iinc 3 1, 3) := by decide +kernel
theorem dX7_balanced_191 : decode cX7_balanced 191 = .ok (.iload 4, 2) := by decide +kernel
theorem dX7_balanced_193 : decode cX7_balanced 193 = .ok (.iconst 1, 1) := by decide +kernel
theorem dX7_balanced_194 : decode cX7_balanced 194 = .ok (.iadd, 1) := by decide +kernel
theorem dX7_balanced_195 : decode cX7_balanced 195 = .ok (.bipush 8, 2) := by decide +kernel
theorem dX7_balanced_197 : decode cX7_balanced 197 = .ok (.irem, 1) := by decide +kernel
theorem dX7_balanced_198 : decode cX7_balanced 198 = .ok (.istore 4, 2) := by decide +kernel
theorem dX7_balanced_200 : decode cX7_balanced 200 = .ok (.goto (-91), 3) := by decide +kernel
theorem dX7_balanced_203 : decode cX7_balanced 203 = .ok (.return_, 1) := by decide +kernel
set_option maxRecDepth 20000 in
theorem ggX7_buffered_X7_draw : GoodIn wsX7_buffered wsX7_draw := goodIn_r _ [9, 10, 11, 12, 13, 8, 14, 15, 16, 17, 18, 19, 20, 21, 22, 23, 24, 25, 26, 27, 28, 29, 30, 31, 32, 33, 34, 35, 36, 37, 38, 39, 40, 41, 42, 43, 44, 45, 46] (by decide +kernel) (by decide +kernel)
set_option maxRecDepth 20000 in
theorem gX7_buffered_X7_draw : GoodIn wsX7_buffered (wsV RX7 89 RX7 yX7_draw wsX7_draw) := goodIn_app (goodIn_of _ (by decide +kernel)) ggX7_buffered_X7_draw
theorem dX7_buffered_0 : decode cX7_buffered 0 = .ok (.aload_n 0, 1) := by decide +kernel
theorem dX7_buffered_1 : decode cX7_buffered 1 = .ok (.getfield 39, 3) := by decide +kernel
theorem dX7_buffered_4 : decode cX7_buffered 4 = .ok (.aload_n 0, 1) := by decide +kernel
theorem dX7_buffered_5 : decode cX7_buffered 5 = .ok (.getfield 93, 3) := by decide +kernel
theorem dX7_buffered_8 : decode cX7_buffered 8 = .ok (.if_icmp .ge 10, 3) := by decide +kernel
theorem dX7_buffered_11 : decode cX7_buffered 11 = .ok (.aload_n 0, 1) := by decide +kernel
theorem dX7_buffered_12 : decode cX7_buffered 12 = .ok (.getfield 39, 3) := by decide +kernel
theorem dX7_buffered_15 : decode cX7_buffered 15 = .ok (.goto 7, 3) := by decide +kernel
theorem dX7_buffered_18 : decode cX7_buffered 18 = .ok (.aload_n 0, 1) := by decide +kernel
theorem dX7_buffered_19 : decode cX7_buffered 19 = .ok (.getfield 93, 3) := by decide +kernel
theorem dX7_buffered_22 : decode cX7_buffered 22 = .ok (.istore_n 1, 1) := by decide +kernel
theorem dX7_buffered_23 : decode cX7_buffered 23 = .ok (.iconst 0, 1) := by decide +kernel
theorem dX7_buffered_24 : decode cX7_buffered 24 = .ok (.istore_n 2, 1) := by decide +kernel
theorem dX7_buffered_25 : decode cX7_buffered 25 = .ok (.iload_n 2, 1) := by decide +kernel
theorem dX7_buffered_26 : decode cX7_buffered 26 = .ok (.iload_n 1, 1) := by decide +kernel
theorem dX7_buffered_27 : decode cX7_buffered 27 = .ok (.if_icmp .ge 16, 3) := by decide +kernel
theorem dX7_buffered_30 : decode cX7_buffered 30 = .ok (.aload_n 0, 1) := by decide +kernel
theorem dX7_buffered_31 : decode cX7_buffered 31 = .ok (.getfield 45, 3) := by decide +kernel
theorem dX7_buffered_34 : decode cX7_buffered 34 = .ok (.iload_n 2, 1) := by decide +kernel
theorem dX7_buffered_35 : decode cX7_buffered 35 = .ok (.iload_n 2, 1) := by decide +kernel
theorem dX7_buffered_36 : decode cX7_buffered 36 = .ok (.iastore, 1) := by decide +kernel
theorem dX7_buffered_37 : decode cX7_buffered 37 = .ok (.iinc 2 1, 3) := by decide +kernel
theorem dX7_buffered_40 : decode cX7_buffered 40 = .ok (.goto (-15), 3) := by decide +kernel
theorem dX7_buffered_43 : decode cX7_buffered 43 = .ok (.iload_n 1, 1) := by decide +kernel
theorem dX7_buffered_44 : decode cX7_buffered 44 = .ok (.istore_n 2, 1) := by decide +kernel
theorem dX7_buffered_45 : decode cX7_buffered 45 = .ok (.iconst 0, 1) := by decide +kernel
theorem dX7_buffered_46 : decode cX7_buffered 46 = .ok (.istore_n 3, 1) := by decide +kernel
theorem dX7_buffered_47 : decode cX7_buffered 47 = .ok (.iload_n 3, 1) := by decide +kernel
theorem dX7_buffered_48 : decode cX7_buffered 48 = .ok (.aload_n 0, 1) := by decide +kernel
theorem dX7_buffered_49 : decode cX7_buffered 49 = .ok (.getfield 93, 3) := by decide +kernel
theorem dX7_buffered_52 : decode cX7_buffered 52 = .ok (.if_icmp .ge 68, 3) := by decide +kernel
theorem dX7_buffered_55 : decode cX7_buffered 55 = .ok (.aload_n 0, 1) := by decide +kernel
theorem dX7_buffered_56 : decode cX7_buffered 56 = .ok (.iload_n 1, 1) := by decide +kernel
theorem dX7_buffered_57 : decode cX7_buffered 57 = .ok (.i2l, 1) := by decide +kernel
theorem dX7_buffered_58 : decode cX7_buffered 58 = .ok (.invokevirtual 89, 3) := by decide +kernel
theorem dX7_buffered_61 : decode cX7_buffered 61 = .ok (.istore 4, 2) := by decide +kernel
theorem dX7_buffered_63 : decode cX7_buffered 63 = .ok (.aload_n 0, 1) := by decide +kernel
theorem dX7_buffered_64 : decode cX7_buffered 64 = .ok (.getfield 42, 3) := by decide +kernel
theorem dX7_buffered_67 : decode cX7_buffered 67 = .ok (.iload_n 3, 1) := by decide +kernel
theorem dX7_buffered_68 : decode cX7_buffered 68 = .ok (.aload_n 0, 1) := by decide +kernel
theorem dX7_buffered_69 : decode cX7_buffered 69 = .ok (.getfield 45, 3) := by decide +kernel
theorem dX7_buffered_72 : decode cX7_buffered 72 = .ok (.iload 4, 2) := by decide +kernel
theorem dX7_buffered_74 : decode cX7_buffered 74 = .ok (.iaload, 1) := by decide +kernel
theorem dX7_buffered_75 : decode cX7_buffered 75 = .ok (.iastore, 1) := by decide +kernel
theorem dX7_buffered_76 : decode cX7_buffered 76 = .ok (.iload_n 2, 1) := by decide +kernel
theorem dX7_buffered_77 : decode cX7_buffered 77 = .ok (.aload_n 0, 1) := by decide +kernel
theorem dX7_buffered_78 : decode cX7_buffered 78 = .ok (.getfield 93, 3) := by decide +kernel
theorem dX7_buffered_81 : decode cX7_buffered 81 = .ok (.if_icmp .ge 17, 3) := by decide +kernel
theorem dX7_buffered_84 : decode cX7_buffered 84 = .ok (.aload_n 0, 1) := by decide +kernel
theorem dX7_buffered_85 : decode cX7_buffered 85 = .ok (.getfield 45, 3) := by decide +kernel
theorem dX7_buffered_88 : decode cX7_buffered 88 = .ok (.iload 4, 2) := by decide +kernel
theorem dX7_buffered_90 : decode cX7_buffered 90 = .ok (.iload_n 2, 1) := by decide +kernel
theorem dX7_buffered_91 : decode cX7_buffered 91 = .ok (.iastore, 1) := by decide +kernel
theorem dX7_buffered_92 : decode cX7_buffered 92 = .ok (.iinc 2 1, 3) := by decide +kernel
theorem dX7_buffered_95 : decode cX7_buffered 95 = .ok (.goto 19, 3) := by decide +kernel
theorem dX7_buffered_98 : decode cX7_buffered 98 = .ok (.iinc 1 (-1), 3) := by decide +kernel
theorem dX7_buffered_101 : decode cX7_buffered 101 = .ok (.aload_n 0, 1) := by decide +kernel
theorem dX7_buffered_102 : decode cX7_buffered 102 = .ok (.getfield 45, 3) := by decide +kernel
theorem dX7_buffered_105 : decode cX7_buffered 105 = .ok (.iload 4, 2) := by decide +kernel
theorem dX7_buffered_107 : decode cX7_buffered 107 = .ok (.aload_n 0, 1) := by decide +kernel
theorem dX7_buffered_108 : decode cX7_buffered 108 = .ok (.getfield 45, 3) := by decide +kernel
theorem dX7_buffered_111 : decode cX7_buffered 111 = .ok (.iload_n 1, 1) := by decide +kernel
theorem dX7_buffered_112 : decode cX7_buffered 112 = .ok (.iaload, 1) := by decide +kernel
theorem dX7_buffered_113 : decode cX7_buffered 113 = .ok (.iastore, 1) := by decide +kernel
theorem dX7_buffered_114 : decode cX7_buffered 114 = .ok (.iinc 3 1, 3) := by decide +kernel
theorem dX7_buffered_117 : decode cX7_buffered 117 = .ok (.goto (-70), 3) := by decide +kernel
theorem dX7_buffered_120 : decode cX7_buffered 120 = .ok (.return_, 1) := by decide +kernel
set_option maxRecDepth 20000 in
theorem ggX7_isAsked_X7_in : GoodIn wsX7_isAsked wsX7_in := goodIn_r _ [6] (by decide +kernel) (by decide +kernel)
set_option maxRecDepth 20000 in
theorem gX7_isAsked_X7_in : GoodIn wsX7_isAsked (va_wsS RX7 96 yX7_in wsX7_in) := goodIn_app (goodIn_of _ (by decide +kernel)) ggX7_isAsked_X7_in
theorem dX7_isAsked_0 : decode cX7_isAsked 0 = .ok (.iload_n 1, 1) := by decide +kernel
theorem dX7_isAsked_1 : decode cX7_isAsked 1 = .ok (.i2l, 1) := by decide +kernel
theorem dX7_isAsked_2 : decode cX7_isAsked 2 = .ok (.lconst 0, 1) := by decide +kernel
theorem dX7_isAsked_3 : decode cX7_isAsked 3 = .ok (.ldc2_w 158, 3) := by decide +kernel
theorem dX7_isAsked_6 : decode cX7_isAsked 6 = .ok (.invokestatic 96, 3) := by decide +kernel
theorem dX7_isAsked_9 : decode cX7_isAsked 9 = .ok (.ifCond .eq 19, 3) := by decide +kernel
theorem dX7_isAsked_12 : decode cX7_isAsked 12 = .ok (.iload_n 2, 1) := by decide +kernel
theorem dX7_isAsked_13 : decode cX7_isAsked 13 = .ok (.i2l, 1) := by decide +kernel
theorem dX7_isAsked_14 : decode cX7_isAsked 14 = .ok (.lconst 0, 1) := by decide +kernel
theorem dX7_isAsked_15 : decode cX7_isAsked 15 = .ok (.ldc2_w 102, 3) := by decide +kernel
theorem dX7_isAsked_18 : decode cX7_isAsked 18 = .ok (.invokestatic 96, 3) := by decide +kernel
theorem dX7_isAsked_21 : decode cX7_isAsked 21 = .ok (.ifCond .eq 7, 3) := by decide +kernel
theorem dX7_isAsked_24 : decode cX7_isAsked 24 = .ok (.iconst 1, 1) := by decide +kernel
theorem dX7_isAsked_25 : decode cX7_isAsked 25 = .ok (.goto 4, 3) := by decide +kernel
theorem dX7_isAsked_28 : decode cX7_isAsked 28 = .ok (.iconst 0, 1) := by decide +kernel
theorem dX7_isAsked_29 : decode cX7_isAsked 29 = .ok (.ireturn, 1) := by decide +kernel
theorem dX7_count_0 : decode cX7_count 0 = .ok (.aload_n 0, 1) := by decide +kernel
theorem dX7_count_1 : decode cX7_count 1 = .ok (.aload_n 0, 1) := by decide +kernel
theorem dX7_count_2 : decode cX7_count 2 = .ok (.getfield 32, 3) := by decide +kernel
theorem dX7_count_5 : decode cX7_count 5 = .ok (.ifCond .ne 7, 3) := by decide +kernel
theorem dX7_count_8 : decode cX7_count 8 = .ok (.iconst 1, 1) := by decide +kernel
theorem dX7_count_9 : decode cX7_count 9 = .ok (.goto 4, 3) := by decide +kernel
theorem dX7_count_12 : decode cX7_count 12 = .ok (.iconst 0, 1) := by decide +kernel
theorem dX7_count_13 : decode cX7_count 13 = .ok (.putfield 69, 3) := by decide +kernel
theorem dX7_count_16 : decode cX7_count 16 = .ok (.aload_n 0, 1) := by decide +kernel
theorem dX7_count_17 : decode cX7_count 17 = .ok (.getfield 32, 3) := by decide +kernel
theorem dX7_count_20 : decode cX7_count 20 = .ok (.ifCond .ne 7, 3) := by decide +kernel
theorem dX7_count_23 : decode cX7_count 23 = .ok (.iconst 0, 1) := by decide +kernel
theorem dX7_count_24 : decode cX7_count 24 = .ok (.goto 39, 3) := by decide +kernel
theorem dX7_count_27 : decode cX7_count 27 = .ok (.aload_n 0, 1) := by decide +kernel
theorem dX7_count_28 : decode cX7_count 28 = .ok (.getfield 120, 3) := by decide +kernel
theorem dX7_count_31 : decode cX7_count 31 = .ok (.iconst 1, 1) := by decide +kernel
theorem dX7_count_32 : decode cX7_count 32 = .ok (.if_icmp .ne 15, 3) := by decide +kernel
theorem dX7_count_35 : decode cX7_count 35 = .ok (.aload_n 0, 1) := by decide +kernel
theorem dX7_count_36 : decode cX7_count 36 = .ok (.getfield 93, 3) := by decide +kernel
theorem dX7_count_39 : decode cX7_count 39 = .ok (.aload_n 0, 1) := by decide +kernel
theorem dX7_count_40 : decode cX7_count 40 = .ok (.getfield 32, 3) := by decide +kernel
theorem dX7_count_43 : decode cX7_count 43 = .ok (.idiv, 1) := by decide +kernel
theorem dX7_count_44 : decode cX7_count 44 = .ok (.goto 19, 3) := by decide +kernel
theorem dX7_count_47 : decode cX7_count 47 = .ok (.aload_n 0, 1) := by decide +kernel
theorem dX7_count_48 : decode cX7_count 48 = .ok (.getfield 93, 3) := by decide +kernel
theorem dX7_count_51 : decode cX7_count 51 = .ok (.aload_n 0, 1) := by decide +kernel
theorem dX7_count_52 : decode cX7_count 52 = .ok (.getfield 32, 3) := by decide +kernel
theorem dX7_count_55 : decode cX7_count 55 = .ok (.iadd, 1) := by decide +kernel
theorem dX7_count_56 : decode cX7_count 56 = .ok (.iconst 1, 1) := by decide +kernel
theorem dX7_count_57 : decode cX7_count 57 = .ok (.isub, 1) := by decide +kernel
theorem dX7_count_58 : decode cX7_count 58 = .ok (.aload_n 0, 1) := by decide +kernel
theorem dX7_count_59 : decode cX7_count 59 = .ok (.getfield 32, 3) := by decide +kernel
theorem dX7_count_62 : decode cX7_count 62 = .ok (.idiv, 1) := by decide +kernel
theorem dX7_count_63 : decode cX7_count 63 = .ok (.ireturn, 1) := by decide +kernel
theorem dX7_manyOf_0 : decode cX7_manyOf 0 = .ok (.iload_n 1, 1) := by decide +kernel
theorem dX7_manyOf_1 : decode cX7_manyOf 1 = .ok (.i2l, 1) := by decide +kernel
theorem dX7_manyOf_2 : decode cX7_manyOf 2 = .ok (.aload_n 0, 1) := by decide +kernel
theorem dX7_manyOf_3 : decode cX7_manyOf 3 = .ok (.getfield 32, 3) := by decide +kernel
theorem dX7_manyOf_6 : decode cX7_manyOf 6 = .ok (.i2l, 1) := by decide +kernel
theorem dX7_manyOf_7 : decode cX7_manyOf 7 = .ok (.lmul, 1) := by decide +kernel
theorem dX7_manyOf_8 : decode cX7_manyOf 8 = .ok (.lstore_n 2, 1) := by decide +kernel
theorem dX7_manyOf_9 : decode cX7_manyOf 9 = .ok (.aload_n 0, 1) := by decide +kernel
theorem dX7_manyOf_10 : decode cX7_manyOf 10 = .ok (.getfield 93, 3) := by decide +kernel
theorem dX7_manyOf_13 : decode cX7_manyOf 13 = .ok (.i2l, 1) := by decide +kernel
theorem dX7_manyOf_14 : decode cX7_manyOf 14 = .ok (.lload_n 2, 1) := by decide +kernel
theorem dX7_manyOf_15 : decode cX7_manyOf 15 = .ok (.lsub, 1) := by decide +kernel
theorem dX7_manyOf_16 : decode cX7_manyOf 16 = .ok (.aload_n 0, 1) := by decide +kernel
theorem dX7_manyOf_17 : decode cX7_manyOf 17 = .ok (.getfield 32, 3) := by decide +kernel
theorem dX7_manyOf_20 : decode cX7_manyOf 20 = .ok (.i2l, 1) := by decide +kernel
theorem dX7_manyOf_21 : decode cX7_manyOf 21 = .ok (.lcmp, 1) := by decide +kernel
theorem dX7_manyOf_22 : decode cX7_manyOf 22 = .ok (.ifCond .ge 13, 3) := by decide +kernel
theorem dX7_manyOf_25 : decode cX7_manyOf 25 = .ok (.aload_n 0, 1) := by decide +kernel
theorem dX7_manyOf_26 : decode cX7_manyOf 26 = .ok (.getfield 93, 3) := by decide +kernel
theorem dX7_manyOf_29 : decode cX7_manyOf 29 = .ok (.i2l, 1) := by decide +kernel
theorem dX7_manyOf_30 : decode cX7_manyOf 30 = .ok (.lload_n 2, 1) := by decide +kernel
theorem dX7_manyOf_31 : decode cX7_manyOf 31 = .ok (.lsub, 1) := by decide +kernel
theorem dX7_manyOf_32 : decode cX7_manyOf 32 = .ok (.goto 8, 3) := by decide +kernel
theorem dX7_manyOf_35 : decode cX7_manyOf 35 = .ok (.aload_n 0, 1) := by decide +kernel
theorem dX7_manyOf_36 : decode cX7_manyOf 36 = .ok (.getfield 32, 3) := by decide +kernel
theorem dX7_manyOf_39 : decode cX7_manyOf 39 = .ok (.i2l, 1) := by decide +kernel
theorem dX7_manyOf_40 : decode cX7_manyOf 40 = .ok (.lstore 4, 2) := by decide +kernel
theorem dX7_manyOf_42 : decode cX7_manyOf 42 = .ok (.lload 4, 2) := by decide +kernel
theorem dX7_manyOf_44 : decode cX7_manyOf 44 = .ok (.lconst 0, 1) := by decide +kernel
theorem dX7_manyOf_45 : decode cX7_manyOf 45 = .ok (.lcmp, 1) := by decide +kernel
theorem dX7_manyOf_46 : decode cX7_manyOf 46 = .ok (.ifCond .lt 22, 3) := by decide +kernel
theorem dX7_manyOf_49 : decode cX7_manyOf 49 = .ok (.aload_n 0, 1) := by decide +kernel
theorem dX7_manyOf_50 : decode cX7_manyOf 50 = .ok (.getfield 120, 3) := by decide +kernel
theorem dX7_manyOf_53 : decode cX7_manyOf 53 = .ok (.iconst 1, 1) := by decide +kernel
theorem dX7_manyOf_54 : decode cX7_manyOf 54 = .ok (.if_icmp .ne 18, 3) := by decide +kernel
theorem dX7_manyOf_57 : decode cX7_manyOf 57 = .ok (.lload 4, 2) := by decide +kernel
theorem dX7_manyOf_59 : decode cX7_manyOf 59 = .ok (.aload_n 0, 1) := by decide +kernel
theorem dX7_manyOf_60 : decode cX7_manyOf 60 = .ok (.getfield 32, 3) := by decide +kernel
theorem dX7_manyOf_63 : decode cX7_manyOf 63 = .ok (.i2l, 1) := by decide +kernel
theorem dX7_manyOf_64 : decode cX7_manyOf 64 = .ok (.lcmp, 1) := by decide +kernel
theorem dX7_manyOf_65 : decode cX7_manyOf 65 = .ok (.ifCond .ge 7, 3) := by decide +kernel
theorem dX7_manyOf_68 : decode cX7_manyOf 68 = .ok (.iconst 0, 1) := by decide +kernel
theorem dX7_manyOf_69 : decode cX7_manyOf 69 = .ok (.goto 6, 3) := by decide +kernel
theorem dX7_manyOf_72 : decode cX7_manyOf 72 = .ok (.lload 4, 2) := by decide +kernel
theorem dX7_manyOf_74 : decode cX7_manyOf 74 = .ok (.l2i, 1) := by decide +kernel
theorem dX7_manyOf_75 : decode cX7_manyOf 75 = .ok (.ireturn, 1) := by decide +kernel
set_option maxRecDepth 20000 in
theorem ggX7_batch_X7_isAsked : GoodIn wsX7_batch wsX7_isAsked := goodIn_r _ [8, 9, 10, 11, 12, 7, 13] (by decide +kernel) (by decide +kernel)
set_option maxRecDepth 20000 in
theorem gX7_batch_X7_isAsked : GoodIn wsX7_batch (wsV RX7 160 RX7 yX7_isAsked wsX7_isAsked) := goodIn_app (goodIn_of _ (by decide +kernel)) ggX7_batch_X7_isAsked
set_option maxRecDepth 20000 in
theorem ggX7_batch_X7_orders : GoodIn wsX7_batch wsX7_orders := goodIn_r _ [17, 18, 3, 19, 20, 21, 7, 22, 23, 24, 25, 26, 27, 28, 29, 30, 31, 32, 33, 34, 35, 36, 37, 38, 39, 40, 41, 42, 43, 44, 45, 46, 47, 48, 49, 50, 51, 52, 53, 54, 55, 56, 57, 58, 59, 60, 61, 62, 63, 64, 65, 66, 67, 68, 69, 70, 71, 72, 73, 74, 75, 76, 77, 83, 84, 85, 86, 87, 88, 89, 90, 91, 92, 93, 94, 95, 96, 97, 98, 99, 100, 101, 102, 103, 104, 105, 106, 107, 108, 109, 110, 111, 112] (by decide +kernel) (by decide +kernel)
set_option maxRecDepth 20000 in
theorem gX7_batch_X7_orders : GoodIn wsX7_batch (wsV RX7 164 RX7 yX7_orders wsX7_orders) := goodIn_app (goodIn_of _ (by decide +kernel)) ggX7_batch_X7_orders
set_option maxRecDepth 20000 in
theorem ggX7_batch_X7_manyOf : GoodIn wsX7_batch wsX7_manyOf := goodIn_r _ [81, 2, 18, 82, 83, 84, 85, 86, 87, 88, 89, 90, 91, 92, 93, 94, 95, 96, 97, 98, 99, 100, 101, 102, 103, 104, 105, 106, 107, 108, 109, 110, 111, 112] (by decide +kernel) (by decide +kernel)
set_option maxRecDepth 20000 in
theorem gX7_batch_X7_manyOf : GoodIn wsX7_batch (wsV RX7 167 RX7 yX7_manyOf wsX7_manyOf) := goodIn_app (goodIn_of _ (by decide +kernel)) ggX7_batch_X7_manyOf
theorem dX7_batch_0 : decode cX7_batch 0 = .ok (.aload_n 0, 1) := by decide +kernel
theorem dX7_batch_1 : decode cX7_batch 1 = .ok (.iconst 0, 1) := by decide +kernel
theorem dX7_batch_2 : decode cX7_batch 2 = .ok (.putfield 69, 3) := by decide +kernel
theorem dX7_batch_5 : decode cX7_batch 5 = .ok (.aload_n 0, 1) := by decide +kernel
theorem dX7_batch_6 : decode cX7_batch 6 = .ok (.iload_n 1, 1) := by decide +kernel
theorem dX7_batch_7 : decode cX7_batch 7 = .ok (.iload_n 2, 1) := by decide +kernel
theorem dX7_batch_8 : decode cX7_batch 8 = .ok (.invokevirtual 160, 3) := by decide +kernel
theorem dX7_batch_11 : decode cX7_batch 11 = .ok (.ifCond .eq 12, 3) := by decide +kernel
theorem dX7_batch_14 : decode cX7_batch 14 = .ok (.iload_n 3, 1) := by decide +kernel
theorem dX7_batch_15 : decode cX7_batch 15 = .ok (.ifCond .lt 8, 3) := by decide +kernel
theorem dX7_batch_18 : decode cX7_batch 18 = .ok (.iload 4, 2) := by decide +kernel
theorem dX7_batch_20 : decode cX7_batch 20 = .ok (.ifCond .ge 5, 3) := by decide +kernel
theorem dX7_batch_23 : decode cX7_batch 23 = .ok (.iconst (-1), 1) := by decide +kernel
theorem dX7_batch_24 : decode cX7_batch 24 = .ok (.ireturn, 1) := by decide +kernel
theorem dX7_batch_25 : decode cX7_batch 25 = .ok (.aload_n 0, 1) := by decide +kernel
theorem dX7_batch_26 : decode cX7_batch 26 = .ok (.getfield 32, 3) := by decide +kernel
theorem dX7_batch_29 : decode cX7_batch 29 = .ok (.ifCond .eq 12, 3) := by decide +kernel
theorem dX7_batch_32 : decode cX7_batch 32 = .ok (.aload_n 0, 1) := by decide +kernel
theorem dX7_batch_33 : decode cX7_batch 33 = .ok (.iload_n 1, 1) := by decide +kernel
theorem dX7_batch_34 : decode cX7_batch 34 = .ok (.iload_n 2, 1) := by decide +kernel
theorem dX7_batch_35 : decode cX7_batch 35 = .ok (.invokevirtual 164, 3) := by decide +kernel
theorem dX7_batch_38 : decode cX7_batch 38 = .ok (.ifCond .ne 6, 3) := by decide +kernel
theorem dX7_batch_41 : decode cX7_batch 41 = .ok (.bipush (-16), 2) := by decide +kernel
theorem dX7_batch_43 : decode cX7_batch 43 = .ok (.ireturn, 1) := by decide +kernel
theorem dX7_batch_44 : decode cX7_batch 44 = .ok (.iload 4, 2) := by decide +kernel
theorem dX7_batch_46 : decode cX7_batch 46 = .ok (.aload_n 0, 1) := by decide +kernel
theorem dX7_batch_47 : decode cX7_batch 47 = .ok (.iload_n 3, 1) := by decide +kernel
theorem dX7_batch_48 : decode cX7_batch 48 = .ok (.invokevirtual 167, 3) := by decide +kernel
theorem dX7_batch_51 : decode cX7_batch 51 = .ok (.if_icmp .ge 20, 3) := by decide +kernel
theorem dX7_batch_54 : decode cX7_batch 54 = .ok (.aload_n 0, 1) := by decide +kernel
theorem dX7_batch_55 : decode cX7_batch 55 = .ok (.getfield 42, 3) := by decide +kernel
theorem dX7_batch_58 : decode cX7_batch 58 = .ok (.iload_n 3, 1) := by decide +kernel
theorem dX7_batch_59 : decode cX7_batch 59 = .ok (.aload_n 0, 1) := by decide +kernel
theorem dX7_batch_60 : decode cX7_batch 60 = .ok (.getfield 32, 3) := by decide +kernel
theorem dX7_batch_63 : decode cX7_batch 63 = .ok (.imul, 1) := by decide +kernel
theorem dX7_batch_64 : decode cX7_batch 64 = .ok (.iload 4, 2) := by decide +kernel
theorem dX7_batch_66 : decode cX7_batch 66 = .ok (.iadd, 1) := by decide +kernel
theorem dX7_batch_67 : decode cX7_batch 67 = .ok (.iaload, 1) := by decide +kernel
theorem dX7_batch_68 : decode cX7_batch 68 = .ok (.goto 5, 3) := by decide +kernel
theorem dX7_batch_71 : decode cX7_batch 71 = .ok (.bipush (-3), 2) := by decide +kernel
theorem dX7_batch_73 : decode cX7_batch 73 = .ok (.ireturn, 1) := by decide +kernel
set_option maxRecDepth 20000 in
theorem ggX7_share_X7_isAsked : GoodIn wsX7_share wsX7_isAsked := goodIn_r _ [9, 10, 11, 12, 13, 8, 14] (by decide +kernel) (by decide +kernel)
set_option maxRecDepth 20000 in
theorem gX7_share_X7_isAsked : GoodIn wsX7_share (wsV RX7 160 RX7 yX7_isAsked wsX7_isAsked) := goodIn_app (goodIn_of _ (by decide +kernel)) ggX7_share_X7_isAsked
set_option maxRecDepth 20000 in
theorem ggX7_share_X7_in : GoodIn wsX7_share wsX7_in := goodIn_r _ [14] (by decide +kernel) (by decide +kernel)
set_option maxRecDepth 20000 in
theorem gX7_share_X7_in : GoodIn wsX7_share (va_wsS RX7 96 yX7_in wsX7_in) := goodIn_app (goodIn_of _ (by decide +kernel)) ggX7_share_X7_in
set_option maxRecDepth 20000 in
theorem ggX7_share_X7_orders : GoodIn wsX7_share wsX7_orders := goodIn_r _ [18, 19, 4, 20, 21, 22, 8, 23, 24, 25, 26, 27, 28, 29, 30, 31, 32, 33, 34, 35, 36, 37, 38, 39, 40, 41, 42, 43, 44, 45, 46, 47, 48, 49, 50, 51, 52, 53, 54, 55, 56, 57, 58, 59, 60, 61, 62, 63, 64, 65, 66, 67, 68, 69, 70, 71, 72, 73, 74, 75, 76, 77, 78, 84, 85, 86, 87, 88, 89, 90, 91, 92, 93, 94, 95, 96, 97, 98, 99, 100, 101, 102, 103, 104, 105, 106, 107, 108, 109, 110, 111, 112, 113] (by decide +kernel) (by decide +kernel)
set_option maxRecDepth 20000 in
theorem gX7_share_X7_orders : GoodIn wsX7_share (wsV RX7 164 RX7 yX7_orders wsX7_orders) := goodIn_app (goodIn_of _ (by decide +kernel)) ggX7_share_X7_orders
set_option maxRecDepth 20000 in
theorem ggX7_share_X7_manyOf : GoodIn wsX7_share wsX7_manyOf := goodIn_r _ [82, 3, 19, 83, 84, 85, 86, 87, 88, 89, 90, 91, 92, 93, 94, 95, 96, 97, 98, 99, 100, 101, 102, 103, 104, 105, 106, 107, 108, 109, 110, 111, 112, 113] (by decide +kernel) (by decide +kernel)
set_option maxRecDepth 20000 in
theorem gX7_share_X7_manyOf : GoodIn wsX7_share (wsV RX7 167 RX7 yX7_manyOf wsX7_manyOf) := goodIn_app (goodIn_of _ (by decide +kernel)) ggX7_share_X7_manyOf
theorem dX7_share_0 : decode cX7_share 0 = .ok (.aload_n 0, 1) := by decide +kernel
theorem dX7_share_1 : decode cX7_share 1 = .ok (.iconst 0, 1) := by decide +kernel
theorem dX7_share_2 : decode cX7_share 2 = .ok (.putfield 69, 3) := by decide +kernel
theorem dX7_share_5 : decode cX7_share 5 = .ok (.aload_n 0, 1) := by decide +kernel
theorem dX7_share_6 : decode cX7_share 6 = .ok (.iload_n 1, 1) := by decide +kernel
theorem dX7_share_7 : decode cX7_share 7 = .ok (.iload_n 2, 1) := by decide +kernel
theorem dX7_share_8 : decode cX7_share 8 = .ok (.invokevirtual 160, 3) := by decide +kernel
theorem dX7_share_11 : decode cX7_share 11 = .ok (.ifCond .eq 40, 3) := by decide +kernel
theorem dX7_share_14 : decode cX7_share 14 = .ok (.iload_n 3, 1) := by decide +kernel
theorem dX7_share_15 : decode cX7_share 15 = .ok (.ifCond .lt 36, 3) := by decide +kernel
theorem dX7_share_18 : decode cX7_share 18 = .ok (.iload 6, 2) := by decide +kernel
theorem dX7_share_20 : decode cX7_share 20 = .ok (.ifCond .lt 31, 3) := by decide +kernel
theorem dX7_share_23 : decode cX7_share 23 = .ok (.iload 4, 2) := by decide +kernel
theorem dX7_share_25 : decode cX7_share 25 = .ok (.i2l, 1) := by decide +kernel
theorem dX7_share_26 : decode cX7_share 26 = .ok (.lconst 1, 1) := by decide +kernel
theorem dX7_share_27 : decode cX7_share 27 = .ok (.ldc2_w 171, 3) := by decide +kernel
theorem dX7_share_30 : decode cX7_share 30 = .ok (.invokestatic 96, 3) := by decide +kernel
theorem dX7_share_33 : decode cX7_share 33 = .ok (.ifCond .eq 18, 3) := by decide +kernel
theorem dX7_share_36 : decode cX7_share 36 = .ok (.iload 5, 2) := by decide +kernel
theorem dX7_share_38 : decode cX7_share 38 = .ok (.i2l, 1) := by decide +kernel
theorem dX7_share_39 : decode cX7_share 39 = .ok (.lconst 0, 1) := by decide +kernel
theorem dX7_share_40 : decode cX7_share 40 = .ok (.iload 4, 2) := by decide +kernel
theorem dX7_share_42 : decode cX7_share 42 = .ok (.iconst 1, 1) := by decide +kernel
theorem dX7_share_43 : decode cX7_share 43 = .ok (.isub, 1) := by decide +kernel
theorem dX7_share_44 : decode cX7_share 44 = .ok (.i2l, 1) := by decide +kernel
theorem dX7_share_45 : decode cX7_share 45 = .ok (.invokestatic 96, 3) := by decide +kernel
theorem dX7_share_48 : decode cX7_share 48 = .ok (.ifCond .ne 5, 3) := by decide +kernel
theorem dX7_share_51 : decode cX7_share 51 = .ok (.iconst (-1), 1) := by decide +kernel
theorem dX7_share_52 : decode cX7_share 52 = .ok (.ireturn, 1) := by decide +kernel
theorem dX7_share_53 : decode cX7_share 53 = .ok (.aload_n 0, 1) := by decide +kernel
theorem dX7_share_54 : decode cX7_share 54 = .ok (.getfield 32, 3) := by decide +kernel
theorem dX7_share_57 : decode cX7_share 57 = .ok (.ifCond .eq 12, 3) := by decide +kernel
theorem dX7_share_60 : decode cX7_share 60 = .ok (.aload_n 0, 1) := by decide +kernel
theorem dX7_share_61 : decode cX7_share 61 = .ok (.iload_n 1, 1) := by decide +kernel
theorem dX7_share_62 : decode cX7_share 62 = .ok (.iload_n 2, 1) := by decide +kernel
theorem dX7_share_63 : decode cX7_share 63 = .ok (.invokevirtual 164, 3) := by decide +kernel
theorem dX7_share_66 : decode cX7_share 66 = .ok (.ifCond .ne 6, 3) := by decide +kernel
theorem dX7_share_69 : decode cX7_share 69 = .ok (.bipush (-16), 2) := by decide +kernel
theorem dX7_share_71 : decode cX7_share 71 = .ok (.ireturn, 1) := by decide +kernel
theorem dX7_share_72 : decode cX7_share 72 = .ok (.iload 5, 2) := by decide +kernel
theorem dX7_share_74 : decode cX7_share 74 = .ok (.i2l, 1) := by decide +kernel
theorem dX7_share_75 : decode cX7_share 75 = .ok (.iload 6, 2) := by decide +kernel
theorem dX7_share_77 : decode cX7_share 77 = .ok (.i2l, 1) := by decide +kernel
theorem dX7_share_78 : decode cX7_share 78 = .ok (.iload 4, 2) := by decide +kernel
theorem dX7_share_80 : decode cX7_share 80 = .ok (.i2l, 1) := by decide +kernel
theorem dX7_share_81 : decode cX7_share 81 = .ok (.lmul, 1) := by decide +kernel
theorem dX7_share_82 : decode cX7_share 82 = .ok (.ladd, 1) := by decide +kernel
theorem dX7_share_83 : decode cX7_share 83 = .ok (.lstore 7, 2) := by decide +kernel
theorem dX7_share_85 : decode cX7_share 85 = .ok (.lload 7, 2) := by decide +kernel
theorem dX7_share_87 : decode cX7_share 87 = .ok (.aload_n 0, 1) := by decide +kernel
theorem dX7_share_88 : decode cX7_share 88 = .ok (.iload_n 3, 1) := by decide +kernel
theorem dX7_share_89 : decode cX7_share 89 = .ok (.invokevirtual 167, 3) := by decide +kernel
theorem dX7_share_92 : decode cX7_share 92 = .ok (.i2l, 1) := by decide +kernel
theorem dX7_share_93 : decode cX7_share 93 = .ok (.lcmp, 1) := by decide +kernel
theorem dX7_share_94 : decode cX7_share 94 = .ok (.ifCond .ge 21, 3) := by decide +kernel
theorem dX7_share_97 : decode cX7_share 97 = .ok (.aload_n 0, 1) := by decide +kernel
theorem dX7_share_98 : decode cX7_share 98 = .ok (.getfield 42, 3) := by decide +kernel
theorem dX7_share_101 : decode cX7_share 101 = .ok (.iload_n 3, 1) := by decide +kernel
theorem dX7_share_102 : decode cX7_share 102 = .ok (.aload_n 0, 1) := by decide +kernel
theorem dX7_share_103 : decode cX7_share 103 = .ok (.getfield 32, 3) := by decide +kernel
theorem dX7_share_106 : decode cX7_share 106 = .ok (.imul, 1) := by decide +kernel
theorem dX7_share_107 : decode cX7_share 107 = .ok (.lload 7, 2) := by decide +kernel
theorem dX7_share_109 : decode cX7_share 109 = .ok (.l2i, 1) := by decide +kernel
theorem dX7_share_110 : decode cX7_share 110 = .ok (.iadd, 1) := by decide +kernel
theorem dX7_share_111 : decode cX7_share 111 = .ok (.iaload, 1) := by decide +kernel
theorem dX7_share_112 : decode cX7_share 112 = .ok (.goto 5, 3) := by decide +kernel
theorem dX7_share_115 : decode cX7_share 115 = .ok (.bipush (-3), 2) := by decide +kernel
theorem dX7_share_117 : decode cX7_share 117 = .ok (.ireturn, 1) := by decide +kernel
set_option maxRecDepth 20000 in
theorem ggX7_once_X7_isAsked : GoodIn wsX7_once wsX7_isAsked := goodIn_r _ [9, 10, 11, 12, 13, 8, 14] (by decide +kernel) (by decide +kernel)
set_option maxRecDepth 20000 in
theorem gX7_once_X7_isAsked : GoodIn wsX7_once (wsV RX7 160 RX7 yX7_isAsked wsX7_isAsked) := goodIn_app (goodIn_of _ (by decide +kernel)) ggX7_once_X7_isAsked
set_option maxRecDepth 20000 in
theorem ggX7_once_X7_orders : GoodIn wsX7_once wsX7_orders := goodIn_r _ [18, 2, 4, 19, 20, 21, 8, 22, 23, 24, 25, 26, 27, 28, 29, 30, 31, 32, 33, 34, 35, 36, 37, 38, 39, 40, 41, 42, 43, 44, 45, 46, 47, 48, 49, 50, 51, 52, 53, 54, 55, 56, 57, 58, 59, 60, 61, 62, 63, 64, 65, 66, 3, 67, 68, 69, 70, 71, 72, 73, 74, 75, 76, 77, 78, 79, 80, 81, 82, 83, 84, 85, 86, 87, 88, 89, 90, 91, 92, 93, 94, 95, 96, 97, 98, 99, 100, 101, 102, 103, 104, 105, 106] (by decide +kernel) (by decide +kernel)
set_option maxRecDepth 20000 in
theorem gX7_once_X7_orders : GoodIn wsX7_once (wsV RX7 164 RX7 yX7_orders wsX7_orders) := goodIn_app (goodIn_of _ (by decide +kernel)) ggX7_once_X7_orders
theorem dX7_once_0 : decode cX7_once 0 = .ok (.aload_n 0, 1) := by decide +kernel
theorem dX7_once_1 : decode cX7_once 1 = .ok (.iconst 0, 1) := by decide +kernel
theorem dX7_once_2 : decode cX7_once 2 = .ok (.putfield 69, 3) := by decide +kernel
theorem dX7_once_5 : decode cX7_once 5 = .ok (.aload_n 0, 1) := by decide +kernel
theorem dX7_once_6 : decode cX7_once 6 = .ok (.iload_n 1, 1) := by decide +kernel
theorem dX7_once_7 : decode cX7_once 7 = .ok (.iload_n 2, 1) := by decide +kernel
theorem dX7_once_8 : decode cX7_once 8 = .ok (.invokevirtual 160, 3) := by decide +kernel
theorem dX7_once_11 : decode cX7_once 11 = .ok (.ifCond .ne 5, 3) := by decide +kernel
theorem dX7_once_14 : decode cX7_once 14 = .ok (.iconst (-1), 1) := by decide +kernel
theorem dX7_once_15 : decode cX7_once 15 = .ok (.ireturn, 1) := by decide +kernel
theorem dX7_once_16 : decode cX7_once 16 = .ok (.aload_n 0, 1) := by decide +kernel
theorem dX7_once_17 : decode cX7_once 17 = .ok (.iload_n 1, 1) := by decide +kernel
theorem dX7_once_18 : decode cX7_once 18 = .ok (.iload_n 2, 1) := by decide +kernel
theorem dX7_once_19 : decode cX7_once 19 = .ok (.invokevirtual 164, 3) := by decide +kernel
theorem dX7_once_22 : decode cX7_once 22 = .ok (.ifCond .ne 6, 3) := by decide +kernel
theorem dX7_once_25 : decode cX7_once 25 = .ok (.bipush (-16), 2) := by decide +kernel
theorem dX7_once_27 : decode cX7_once 27 = .ok (.ireturn, 1) := by decide +kernel
theorem dX7_once_28 : decode cX7_once 28 = .ok (.iconst 0, 1) := by decide +kernel
theorem dX7_once_29 : decode cX7_once 29 = .ok (.istore_n 3, 1) := by decide +kernel
theorem dX7_once_30 : decode cX7_once 30 = .ok (.iload_n 3, 1) := by decide +kernel
theorem dX7_once_31 : decode cX7_once 31 = .ok (.aload_n 0, 1) := by decide +kernel
theorem dX7_once_32 : decode cX7_once 32 = .ok (.getfield 93, 3) := by decide +kernel
theorem dX7_once_35 : decode cX7_once 35 = .ok (.if_icmp .ge 16, 3) := by decide +kernel
theorem dX7_once_38 : decode cX7_once 38 = .ok (.aload_n 0, 1) := by decide +kernel
theorem dX7_once_39 : decode cX7_once 39 = .ok (.getfield 45, 3) := by decide +kernel
theorem dX7_once_42 : decode cX7_once 42 = .ok (.iload_n 3, 1) := by decide +kernel
theorem dX7_once_43 : decode cX7_once 43 = .ok (.iconst 0, 1) := by decide +kernel
theorem dX7_once_44 : decode cX7_once 44 = .ok (.iastore, 1) := by decide +kernel
theorem dX7_once_45 : decode cX7_once 45 = .ok (.iinc 3 1, 3) := by decide +kernel
theorem dX7_once_48 : decode cX7_once 48 = .ok (.goto (-18), 3) := by decide +kernel
theorem dX7_once_51 : decode cX7_once 51 = .ok (.iconst 0, 1) := by decide +kernel
theorem dX7_once_52 : decode cX7_once 52 = .ok (.istore_n 3, 1) := by decide +kernel
theorem dX7_once_53 : decode cX7_once 53 = .ok (.iload_n 3, 1) := by decide +kernel
theorem dX7_once_54 : decode cX7_once 54 = .ok (.aload_n 0, 1) := by decide +kernel
theorem dX7_once_55 : decode cX7_once 55 = .ok (.getfield 93, 3) := by decide +kernel
theorem dX7_once_58 : decode cX7_once 58 = .ok (.if_icmp .ge 24, 3) := by decide +kernel
theorem dX7_once_61 : decode cX7_once 61 = .ok (.aload_n 0, 1) := by decide +kernel
theorem dX7_once_62 : decode cX7_once 62 = .ok (.getfield 45, 3) := by decide +kernel
theorem dX7_once_65 : decode cX7_once 65 = .ok (.aload_n 0, 1) := by decide +kernel
theorem dX7_once_66 : decode cX7_once 66 = .ok (.getfield 42, 3) := by decide +kernel
theorem dX7_once_69 : decode cX7_once 69 = .ok (.iload_n 3, 1) := by decide +kernel
theorem dX7_once_70 : decode cX7_once 70 = .ok (.iaload, 1) := by decide +kernel
theorem dX7_once_71 : decode cX7_once 71 = .ok (.dup2, 1) := by decide +kernel
theorem dX7_once_72 : decode cX7_once 72 = .ok (.iaload, 1) := by decide +kernel
theorem dX7_once_73 : decode cX7_once 73 = .ok (.iconst 1, 1) := by decide +kernel
theorem dX7_once_74 : decode cX7_once 74 = .ok (.iadd, 1) := by decide +kernel
theorem dX7_once_75 : decode cX7_once 75 = .ok (.iastore, 1) := by decide +kernel
theorem dX7_once_76 : decode cX7_once 76 = .ok (.iinc 3 1, 3) := by decide +kernel
theorem dX7_once_79 : decode cX7_once 79 = .ok (.goto (-26), 3) := by decide +kernel
theorem dX7_once_82 : decode cX7_once 82 = .ok (.iconst 0, 1) := by decide +kernel
theorem dX7_once_83 : decode cX7_once 83 = .ok (.istore_n 3, 1) := by decide +kernel
theorem dX7_once_84 : decode cX7_once 84 = .ok (.iload_n 3, 1) := by decide +kernel
theorem dX7_once_85 : decode cX7_once 85 = .ok (.aload_n 0, 1) := by decide +kernel
theorem dX7_once_86 : decode cX7_once 86 = .ok (.getfield 93, 3) := by decide +kernel
theorem dX7_once_89 : decode cX7_once 89 = .ok (.if_icmp .ge 21, 3) := by decide +kernel
theorem dX7_once_92 : decode cX7_once 92 = .ok (.aload_n 0, 1) := by decide +kernel
theorem dX7_once_93 : decode cX7_once 93 = .ok (.getfield 45, 3) := by decide +kernel
theorem dX7_once_96 : decode cX7_once 96 = .ok (.iload_n 3, 1) := by decide +kernel
theorem dX7_once_97 : decode cX7_once 97 = .ok (.iaload, 1) := by decide +kernel
theorem dX7_once_98 : decode cX7_once 98 = .ok (.iconst 1, 1) := by decide +kernel
theorem dX7_once_99 : decode cX7_once 99 = .ok (.if_icmp .eq 5, 3) := by decide +kernel
theorem dX7_once_102 : decode cX7_once 102 = .ok (.iconst 0, 1) := by decide +kernel
theorem dX7_once_103 : decode cX7_once 103 = .ok (.ireturn, 1) := by decide +kernel
theorem dX7_once_104 : decode cX7_once 104 = .ok (.iinc 3 1, 3) := by decide +kernel
theorem dX7_once_107 : decode cX7_once 107 = .ok (.goto (-23), 3) := by decide +kernel
theorem dX7_once_110 : decode cX7_once 110 = .ok (.iconst 1, 1) := by decide +kernel
theorem dX7_once_111 : decode cX7_once 111 = .ok (.ireturn, 1) := by decide +kernel
set_option maxRecDepth 20000 in
theorem ggX7_resume_X7_isAsked : GoodIn wsX7_resume wsX7_isAsked := goodIn_r _ [10, 11, 12, 13, 14, 9, 15] (by decide +kernel) (by decide +kernel)
set_option maxRecDepth 20000 in
theorem gX7_resume_X7_isAsked : GoodIn wsX7_resume (wsV RX7 160 RX7 yX7_isAsked wsX7_isAsked) := goodIn_app (goodIn_of _ (by decide +kernel)) ggX7_resume_X7_isAsked
set_option maxRecDepth 20000 in
theorem ggX7_resume_X7_in : GoodIn wsX7_resume wsX7_in := goodIn_r _ [15] (by decide +kernel) (by decide +kernel)
set_option maxRecDepth 20000 in
theorem gX7_resume_X7_in : GoodIn wsX7_resume (va_wsS RX7 96 yX7_in wsX7_in) := goodIn_app (goodIn_of _ (by decide +kernel)) ggX7_resume_X7_in
theorem dX7_resume_0 : decode cX7_resume 0 = .ok (.aload_n 0, 1) := by decide +kernel
theorem dX7_resume_1 : decode cX7_resume 1 = .ok (.iconst 0, 1) := by decide +kernel
theorem dX7_resume_2 : decode cX7_resume 2 = .ok (.putfield 69, 3) := by decide +kernel
theorem dX7_resume_5 : decode cX7_resume 5 = .ok (.aload_n 0, 1) := by decide +kernel
theorem dX7_resume_6 : decode cX7_resume 6 = .ok (.iload_n 1, 1) := by decide +kernel
theorem dX7_resume_7 : decode cX7_resume 7 = .ok (.iload_n 2, 1) := by decide +kernel
theorem dX7_resume_8 : decode cX7_resume 8 = .ok (.invokevirtual 160, 3) := by decide +kernel
theorem dX7_resume_11 : decode cX7_resume 11 = .ok (.ifCond .eq 17, 3) := by decide +kernel
theorem dX7_resume_14 : decode cX7_resume 14 = .ok (.iload_n 3, 1) := by decide +kernel
theorem dX7_resume_15 : decode cX7_resume 15 = .ok (.i2l, 1) := by decide +kernel
theorem dX7_resume_16 : decode cX7_resume 16 = .ok (.lconst 0, 1) := by decide +kernel
theorem dX7_resume_17 : decode cX7_resume 17 = .ok (.aload_n 0, 1) := by decide +kernel
theorem dX7_resume_18 : decode cX7_resume 18 = .ok (.getfield 93, 3) := by decide +kernel
theorem dX7_resume_21 : decode cX7_resume 21 = .ok (.i2l, 1) := by decide +kernel
theorem dX7_resume_22 : decode cX7_resume 22 = .ok (.invokestatic 96, 3) := by decide +kernel
theorem dX7_resume_25 : decode cX7_resume 25 = .ok (.ifCond .ne 5, 3) := by decide +kernel
theorem dX7_resume_28 : decode cX7_resume 28 = .ok (.iconst (-1), 1) := by decide +kernel
theorem dX7_resume_29 : decode cX7_resume 29 = .ok (.ireturn, 1) := by decide +kernel
theorem dX7_resume_30 : decode cX7_resume 30 = .ok (.aload_n 0, 1) := by decide +kernel
theorem dX7_resume_31 : decode cX7_resume 31 = .ok (.iload_n 1, 1) := by decide +kernel
theorem dX7_resume_32 : decode cX7_resume 32 = .ok (.putfield 173, 3) := by decide +kernel
theorem dX7_resume_35 : decode cX7_resume 35 = .ok (.aload_n 0, 1) := by decide +kernel
theorem dX7_resume_36 : decode cX7_resume 36 = .ok (.iload_n 2, 1) := by decide +kernel
theorem dX7_resume_37 : decode cX7_resume 37 = .ok (.putfield 176, 3) := by decide +kernel
theorem dX7_resume_40 : decode cX7_resume 40 = .ok (.aload_n 0, 1) := by decide +kernel
theorem dX7_resume_41 : decode cX7_resume 41 = .ok (.iload_n 3, 1) := by decide +kernel
theorem dX7_resume_42 : decode cX7_resume 42 = .ok (.putfield 179, 3) := by decide +kernel
theorem dX7_resume_45 : decode cX7_resume 45 = .ok (.iconst 1, 1) := by decide +kernel
theorem dX7_resume_46 : decode cX7_resume 46 = .ok (.ireturn, 1) := by decide +kernel
set_option maxRecDepth 20000 in
theorem ggX7_next_X7_orders : GoodIn wsX7_next wsX7_orders := goodIn_r _ [11, 2, 6, 12, 13, 14, 10, 15, 16, 17, 18, 19, 20, 21, 22, 23, 24, 25, 26, 27, 28, 29, 30, 31, 32, 33, 34, 35, 36, 37, 38, 39, 40, 41, 42, 43, 44, 45, 46, 47, 48, 49, 50, 51, 52, 53, 54, 55, 56, 57, 58, 59, 60, 61, 62, 63, 64, 65, 66, 67, 68, 69, 70, 71, 72, 73, 74, 75, 76, 77, 78, 79, 80, 81, 82, 83, 84, 85, 86, 87, 88, 89, 90, 91, 92, 93, 94, 95, 96, 97, 98, 99, 100] (by decide +kernel) (by decide +kernel)
set_option maxRecDepth 20000 in
theorem gX7_next_X7_orders : GoodIn wsX7_next (wsV RX7 164 RX7 yX7_orders wsX7_orders) := goodIn_app (goodIn_of _ (by decide +kernel)) ggX7_next_X7_orders
theorem dX7_next_0 : decode cX7_next 0 = .ok (.aload_n 0, 1) := by decide +kernel
theorem dX7_next_1 : decode cX7_next 1 = .ok (.iconst 0, 1) := by decide +kernel
theorem dX7_next_2 : decode cX7_next 2 = .ok (.putfield 69, 3) := by decide +kernel
theorem dX7_next_5 : decode cX7_next 5 = .ok (.aload_n 0, 1) := by decide +kernel
theorem dX7_next_6 : decode cX7_next 6 = .ok (.getfield 93, 3) := by decide +kernel
theorem dX7_next_9 : decode cX7_next 9 = .ok (.ifCond .ne 6, 3) := by decide +kernel
theorem dX7_next_12 : decode cX7_next 12 = .ok (.bipush (-3), 2) := by decide +kernel
theorem dX7_next_14 : decode cX7_next 14 = .ok (.ireturn, 1) := by decide +kernel
theorem dX7_next_15 : decode cX7_next 15 = .ok (.aload_n 0, 1) := by decide +kernel
theorem dX7_next_16 : decode cX7_next 16 = .ok (.getfield 179, 3) := by decide +kernel
theorem dX7_next_19 : decode cX7_next 19 = .ok (.aload_n 0, 1) := by decide +kernel
theorem dX7_next_20 : decode cX7_next 20 = .ok (.getfield 93, 3) := by decide +kernel
theorem dX7_next_23 : decode cX7_next 23 = .ok (.if_icmp .lt 7, 3) := by decide +kernel
theorem dX7_next_26 : decode cX7_next 26 = .ok (.iconst 1, 1) := by decide +kernel
theorem dX7_next_27 : decode cX7_next 27 = .ok (.goto 4, 3) := by decide +kernel
theorem dX7_next_30 : decode cX7_next 30 = .ok (.iconst 0, 1) := by decide +kernel
theorem dX7_next_31 : decode cX7_next 31 = .ok (.istore_n 1, 1) := by decide +kernel
theorem dX7_next_32 : decode cX7_next 32 = .ok (.iload_n 1, 1) := by decide +kernel
theorem dX7_next_33 : decode cX7_next 33 = .ok (.ifCond .eq 16, 3) := by decide +kernel
theorem dX7_next_36 : decode cX7_next 36 = .ok (.aload_n 0, 1) := by decide +kernel
theorem dX7_next_37 : decode cX7_next 37 = .ok (.getfield 176, 3) := by decide +kernel
theorem dX7_next_40 : decode cX7_next 40 = .ok (.iconst 1, 1) := by decide +kernel
theorem dX7_next_41 : decode cX7_next 41 = .ok (.iadd, 1) := by decide +kernel
theorem dX7_next_42 : decode cX7_next 42 = .ok (.sipush 1001, 3) := by decide +kernel
theorem dX7_next_45 : decode cX7_next 45 = .ok (.irem, 1) := by decide +kernel
theorem dX7_next_46 : decode cX7_next 46 = .ok (.goto 7, 3) := by decide +kernel
theorem dX7_next_49 : decode cX7_next 49 = .ok (.aload_n 0, 1) := by decide +kernel
theorem dX7_next_50 : decode cX7_next 50 = .ok (.getfield 176, 3) := by decide +kernel
theorem dX7_next_53 : decode cX7_next 53 = .ok (.istore_n 2, 1) := by decide +kernel
theorem dX7_next_54 : decode cX7_next 54 = .ok (.iload_n 1, 1) := by decide +kernel
theorem dX7_next_55 : decode cX7_next 55 = .ok (.ifCond .eq 7, 3) := by decide +kernel
theorem dX7_next_58 : decode cX7_next 58 = .ok (.iconst 0, 1) := by decide +kernel
theorem dX7_next_59 : decode cX7_next 59 = .ok (.goto 7, 3) := by decide +kernel
theorem dX7_next_62 : decode cX7_next 62 = .ok (.aload_n 0, 1) := by decide +kernel
theorem dX7_next_63 : decode cX7_next 63 = .ok (.getfield 179, 3) := by decide +kernel
theorem dX7_next_66 : decode cX7_next 66 = .ok (.istore_n 3, 1) := by decide +kernel
theorem dX7_next_67 : decode cX7_next 67 = .ok (.aload_n 0, 1) := by decide +kernel
theorem dX7_next_68 : decode cX7_next 68 = .ok (.aload_n 0, 1) := by decide +kernel
theorem dX7_next_69 : decode cX7_next 69 = .ok (.getfield 173, 3) := by decide +kernel
theorem dX7_next_72 : decode cX7_next 72 = .ok (.iload_n 2, 1) := by decide +kernel
theorem dX7_next_73 : decode cX7_next 73 = .ok (.invokevirtual 164, 3) := by decide +kernel
theorem dX7_next_76 : decode cX7_next 76 = .ok (.ifCond .ne 6, 3) := by decide +kernel
theorem dX7_next_79 : decode cX7_next 79 = .ok (.bipush (-16), 2) := by decide +kernel
theorem dX7_next_81 : decode cX7_next 81 = .ok (.ireturn, 1) := by decide +kernel
theorem dX7_next_82 : decode cX7_next 82 = .ok (.aload_n 0, 1) := by decide +kernel
theorem dX7_next_83 : decode cX7_next 83 = .ok (.iload_n 2, 1) := by decide +kernel
theorem dX7_next_84 : decode cX7_next 84 = .ok (.putfield 176, 3) := by decide +kernel
theorem dX7_next_87 : decode cX7_next 87 = .ok (.aload_n 0, 1) := by decide +kernel
theorem dX7_next_88 : decode cX7_next 88 = .ok (.iload_n 3, 1) := by decide +kernel
theorem dX7_next_89 : decode cX7_next 89 = .ok (.iconst 1, 1) := by decide +kernel
theorem dX7_next_90 : decode cX7_next 90 = .ok (.iadd, 1) := by decide +kernel
theorem dX7_next_91 : decode cX7_next 91 = .ok (.putfield 179, 3) := by decide +kernel
theorem dX7_next_94 : decode cX7_next 94 = .ok (.aload_n 0, 1) := by decide +kernel
theorem dX7_next_95 : decode cX7_next 95 = .ok (.getfield 42, 3) := by decide +kernel
theorem dX7_next_98 : decode cX7_next 98 = .ok (.iload_n 3, 1) := by decide +kernel
theorem dX7_next_99 : decode cX7_next 99 = .ok (.iaload, 1) := by decide +kernel
theorem dX7_next_100 : decode cX7_next 100 = .ok (.ireturn, 1) := by decide +kernel
theorem dX7_at_0 : decode cX7_at 0 = .ok (.aload_n 0, 1) := by decide +kernel
theorem dX7_at_1 : decode cX7_at 1 = .ok (.iconst 0, 1) := by decide +kernel
theorem dX7_at_2 : decode cX7_at 2 = .ok (.putfield 69, 3) := by decide +kernel
theorem dX7_at_5 : decode cX7_at 5 = .ok (.iload_n 1, 1) := by decide +kernel
theorem dX7_at_6 : decode cX7_at 6 = .ok (.ifCond .ne 10, 3) := by decide +kernel
theorem dX7_at_9 : decode cX7_at 9 = .ok (.aload_n 0, 1) := by decide +kernel
theorem dX7_at_10 : decode cX7_at 10 = .ok (.getfield 173, 3) := by decide +kernel
theorem dX7_at_13 : decode cX7_at 13 = .ok (.goto 28, 3) := by decide +kernel
theorem dX7_at_16 : decode cX7_at 16 = .ok (.iload_n 1, 1) := by decide +kernel
theorem dX7_at_17 : decode cX7_at 17 = .ok (.iconst 1, 1) := by decide +kernel
theorem dX7_at_18 : decode cX7_at 18 = .ok (.if_icmp .ne 10, 3) := by decide +kernel
theorem dX7_at_21 : decode cX7_at 21 = .ok (.aload_n 0, 1) := by decide +kernel
theorem dX7_at_22 : decode cX7_at 22 = .ok (.getfield 176, 3) := by decide +kernel
theorem dX7_at_25 : decode cX7_at 25 = .ok (.goto 16, 3) := by decide +kernel
theorem dX7_at_28 : decode cX7_at 28 = .ok (.iload_n 1, 1) := by decide +kernel
theorem dX7_at_29 : decode cX7_at 29 = .ok (.iconst 2, 1) := by decide +kernel
theorem dX7_at_30 : decode cX7_at 30 = .ok (.if_icmp .ne 10, 3) := by decide +kernel
theorem dX7_at_33 : decode cX7_at 33 = .ok (.aload_n 0, 1) := by decide +kernel
theorem dX7_at_34 : decode cX7_at 34 = .ok (.getfield 179, 3) := by decide +kernel
theorem dX7_at_37 : decode cX7_at 37 = .ok (.goto 4, 3) := by decide +kernel
theorem dX7_at_40 : decode cX7_at 40 = .ok (.iconst (-1), 1) := by decide +kernel
theorem dX7_at_41 : decode cX7_at 41 = .ok (.ireturn, 1) := by decide +kernel
end
section
theorem dX7_failure_0 : decode cX7_failure 0 = .ok (.aload_n 0, 1) := by decide +kernel
theorem dX7_failure_1 : decode cX7_failure 1 = .ok (.getfield 7, 3) := by decide +kernel
theorem dX7_failure_4 : decode cX7_failure 4 = .ok (.iload_n 2, 1) := by decide +kernel
theorem dX7_failure_5 : decode cX7_failure 5 = .ok (.iaload, 1) := by decide +kernel
theorem dX7_failure_6 : decode cX7_failure 6 = .ok (.iconst 2, 1) := by decide +kernel
theorem dX7_failure_7 : decode cX7_failure 7 = .ok (.if_icmp .ne 5, 3) := by decide +kernel
theorem dX7_failure_10 : decode cX7_failure 10 = .ok (.iconst 1, 1) := by decide +kernel
theorem dX7_failure_11 : decode cX7_failure 11 = .ok (.ireturn, 1) := by decide +kernel
theorem dX7_failure_12 : decode cX7_failure 12 = .ok (.aload_n 0, 1) := by decide +kernel
theorem dX7_failure_13 : decode cX7_failure 13 = .ok (.getfield 7, 3) := by decide +kernel
theorem dX7_failure_16 : decode cX7_failure 16 = .ok (.iload_n 2, 1) := by decide +kernel
theorem dX7_failure_17 : decode cX7_failure 17 = .ok (.iaload, 1) := by decide +kernel
theorem dX7_failure_18 : decode cX7_failure 18 = .ok (.ifCond .ne 7, 3) := by decide +kernel
theorem dX7_failure_21 : decode cX7_failure 21 = .ok (.iconst 1, 1) := by decide +kernel
theorem dX7_failure_22 : decode cX7_failure 22 = .ok (.goto 4, 3) := by decide +kernel
theorem dX7_failure_25 : decode cX7_failure 25 = .ok (.iconst 0, 1) := by decide +kernel
theorem dX7_failure_26 : decode cX7_failure 26 = .ok (.iload_n 1, 1) := by decide +kernel
theorem dX7_failure_27 : decode cX7_failure 27 = .ok (.iconst 2, 1) := by decide +kernel
theorem dX7_failure_28 : decode cX7_failure 28 = .ok (.if_icmp .le 7, 3) := by decide +kernel
theorem dX7_failure_31 : decode cX7_failure 31 = .ok (.iconst 1, 1) := by decide +kernel
theorem dX7_failure_32 : decode cX7_failure 32 = .ok (.goto 4, 3) := by decide +kernel
theorem dX7_failure_35 : decode cX7_failure 35 = .ok (.iconst 0, 1) := by decide +kernel
theorem dX7_failure_36 : decode cX7_failure 36 = .ok (.if_icmp .eq 5, 3) := by decide +kernel
theorem dX7_failure_39 : decode cX7_failure 39 = .ok (.iconst 2, 1) := by decide +kernel
theorem dX7_failure_40 : decode cX7_failure 40 = .ok (.ireturn, 1) := by decide +kernel
theorem dX7_failure_41 : decode cX7_failure 41 = .ok (.iload_n 1, 1) := by decide +kernel
theorem dX7_failure_42 : decode cX7_failure 42 = .ok (.iconst 1, 1) := by decide +kernel
theorem dX7_failure_43 : decode cX7_failure 43 = .ok (.if_icmp .ne 23, 3) := by decide +kernel
theorem dX7_failure_46 : decode cX7_failure 46 = .ok (.iload_n 3, 1) := by decide +kernel
theorem dX7_failure_47 : decode cX7_failure 47 = .ok (.aload_n 0, 1) := by decide +kernel
theorem dX7_failure_48 : decode cX7_failure 48 = .ok (.getfield 22, 3) := by decide +kernel
theorem dX7_failure_51 : decode cX7_failure 51 = .ok (.iload_n 2, 1) := by decide +kernel
theorem dX7_failure_52 : decode cX7_failure 52 = .ok (.iaload, 1) := by decide +kernel
theorem dX7_failure_53 : decode cX7_failure 53 = .ok (.if_icmp .gt 31, 3) := by decide +kernel
theorem dX7_failure_56 : decode cX7_failure 56 = .ok (.iload_n 3, 1) := by decide +kernel
theorem dX7_failure_57 : decode cX7_failure 57 = .ok (.aload_n 0, 1) := by decide +kernel
theorem dX7_failure_58 : decode cX7_failure 58 = .ok (.getfield 25, 3) := by decide +kernel
theorem dX7_failure_61 : decode cX7_failure 61 = .ok (.iload_n 2, 1) := by decide +kernel
theorem dX7_failure_62 : decode cX7_failure 62 = .ok (.iaload, 1) := by decide +kernel
theorem dX7_failure_63 : decode cX7_failure 63 = .ok (.if_icmp .gt 21, 3) := by decide +kernel
theorem dX7_failure_66 : decode cX7_failure 66 = .ok (.iload_n 1, 1) := by decide +kernel
theorem dX7_failure_67 : decode cX7_failure 67 = .ok (.iconst 4, 1) := by decide +kernel
theorem dX7_failure_68 : decode cX7_failure 68 = .ok (.if_icmp .ne 18, 3) := by decide +kernel
theorem dX7_failure_71 : decode cX7_failure 71 = .ok (.aload_n 0, 1) := by decide +kernel
theorem dX7_failure_72 : decode cX7_failure 72 = .ok (.getfield 19, 3) := by decide +kernel
theorem dX7_failure_75 : decode cX7_failure 75 = .ok (.iload_n 2, 1) := by decide +kernel
theorem dX7_failure_76 : decode cX7_failure 76 = .ok (.iaload, 1) := by decide +kernel
theorem dX7_failure_77 : decode cX7_failure 77 = .ok (.ifCond .ne 9, 3) := by decide +kernel
theorem dX7_failure_80 : decode cX7_failure 80 = .ok (.iload_n 3, 1) := by decide +kernel
theorem dX7_failure_81 : decode cX7_failure 81 = .ok (.ifCond .le 5, 3) := by decide +kernel
theorem dX7_failure_84 : decode cX7_failure 84 = .ok (.iconst 3, 1) := by decide +kernel
theorem dX7_failure_85 : decode cX7_failure 85 = .ok (.ireturn, 1) := by decide +kernel
theorem dX7_failure_86 : decode cX7_failure 86 = .ok (.iload_n 1, 1) := by decide +kernel
theorem dX7_failure_87 : decode cX7_failure 87 = .ok (.iconst 1, 1) := by decide +kernel
theorem dX7_failure_88 : decode cX7_failure 88 = .ok (.if_icmp .ne 9, 3) := by decide +kernel
theorem dX7_failure_91 : decode cX7_failure 91 = .ok (.iload_n 3, 1) := by decide +kernel
theorem dX7_failure_92 : decode cX7_failure 92 = .ok (.ifCond .ge 5, 3) := by decide +kernel
theorem dX7_failure_95 : decode cX7_failure 95 = .ok (.iconst 5, 1) := by decide +kernel
theorem dX7_failure_96 : decode cX7_failure 96 = .ok (.ireturn, 1) := by decide +kernel
theorem dX7_failure_97 : decode cX7_failure 97 = .ok (.iload_n 1, 1) := by decide +kernel
theorem dX7_failure_98 : decode cX7_failure 98 = .ok (.iconst 2, 1) := by decide +kernel
theorem dX7_failure_99 : decode cX7_failure 99 = .ok (.if_icmp .ne 7, 3) := by decide +kernel
theorem dX7_failure_102 : decode cX7_failure 102 = .ok (.iload_n 3, 1) := by decide +kernel
theorem dX7_failure_103 : decode cX7_failure 103 = .ok (.ifCond .eq 22, 3) := by decide +kernel
theorem dX7_failure_106 : decode cX7_failure 106 = .ok (.iload_n 1, 1) := by decide +kernel
theorem dX7_failure_107 : decode cX7_failure 107 = .ok (.iconst 4, 1) := by decide +kernel
theorem dX7_failure_108 : decode cX7_failure 108 = .ok (.if_icmp .ne 22, 3) := by decide +kernel
theorem dX7_failure_111 : decode cX7_failure 111 = .ok (.aload_n 0, 1) := by decide +kernel
theorem dX7_failure_112 : decode cX7_failure 112 = .ok (.getfield 19, 3) := by decide +kernel
theorem dX7_failure_115 : decode cX7_failure 115 = .ok (.iload_n 2, 1) := by decide +kernel
theorem dX7_failure_116 : decode cX7_failure 116 = .ok (.iaload, 1) := by decide +kernel
theorem dX7_failure_117 : decode cX7_failure 117 = .ok (.iconst 1, 1) := by decide +kernel
theorem dX7_failure_118 : decode cX7_failure 118 = .ok (.if_icmp .ne 12, 3) := by decide +kernel
theorem dX7_failure_121 : decode cX7_failure 121 = .ok (.iload_n 3, 1) := by decide +kernel
theorem dX7_failure_122 : decode cX7_failure 122 = .ok (.ifCond .le 8, 3) := by decide +kernel
theorem dX7_failure_125 : decode cX7_failure 125 = .ok (.bipush 6, 2) := by decide +kernel
theorem dX7_failure_127 : decode cX7_failure 127 = .ok (.goto 4, 3) := by decide +kernel
theorem dX7_failure_130 : decode cX7_failure 130 = .ok (.iconst 0, 1) := by decide +kernel
theorem dX7_failure_131 : decode cX7_failure 131 = .ok (.ireturn, 1) := by decide +kernel
set_option maxRecDepth 20000 in
theorem ggX7_act_X7_isRow : GoodIn wsX7_act wsX7_isRow := goodIn_r _ [22, 23, 24, 25, 21, 26, 60, 61, 62, 63, 64, 65, 66, 67, 68, 69, 70, 71, 72, 73, 74, 75, 76, 77, 78, 79, 80, 81, 82, 83, 84, 85, 86, 87, 88, 89] (by decide +kernel) (by decide +kernel)
set_option maxRecDepth 20000 in
theorem gX7_act_X7_isRow : GoodIn wsX7_act (wsV RX7 110 RX7 yX7_isRow wsX7_isRow) := goodIn_app (goodIn_of _ (by decide +kernel)) ggX7_act_X7_isRow
set_option maxRecDepth 20000 in
theorem ggX7_act_X7_in : GoodIn wsX7_act wsX7_in := goodIn_r _ [26] (by decide +kernel) (by decide +kernel)
set_option maxRecDepth 20000 in
theorem gX7_act_X7_in : GoodIn wsX7_act (va_wsS RX7 96 yX7_in wsX7_in) := goodIn_app (goodIn_of _ (by decide +kernel)) ggX7_act_X7_in
set_option maxRecDepth 20000 in
theorem ggX7_act_X7_failure : GoodIn wsX7_act wsX7_failure := goodIn_r _ [30, 8, 12, 14, 10, 60, 61, 62, 63, 64, 65, 66, 67, 68, 69, 70, 71, 72, 73, 74, 75, 76, 77, 78, 79, 80, 81, 82, 83, 84, 85, 86, 87, 88, 89] (by decide +kernel) (by decide +kernel)
set_option maxRecDepth 20000 in
theorem gX7_act_X7_failure : GoodIn wsX7_act (wsV RX7 188 RX7 yX7_failure wsX7_failure) := goodIn_app (goodIn_of _ (by decide +kernel)) ggX7_act_X7_failure
set_option maxRecDepth 20000 in
theorem ggX7_act_X7_begin : GoodIn wsX7_act wsX7_begin := goodIn_r _ [34, 35, 36, 60, 61, 62, 63, 64, 65, 66, 67, 68, 69, 70, 71, 72, 73, 74, 75, 76, 77, 78, 79, 80, 81, 82, 83, 84, 85, 86, 87, 88, 89] (by decide +kernel) (by decide +kernel)
set_option maxRecDepth 20000 in
theorem gX7_act_X7_begin : GoodIn wsX7_act (wsV RX7 123 RX7 yX7_begin wsX7_begin) := goodIn_app (goodIn_of _ (by decide +kernel)) ggX7_act_X7_begin
set_option maxRecDepth 20000 in
theorem ggX7_act_X7_with : GoodIn wsX7_act wsX7_with := goodIn_r _ [40, 36, 41, 42, 43, 21, 44, 45, 46, 60, 61, 62, 63, 64, 65, 66, 67, 68, 69, 70, 71, 72, 73, 74, 75, 76, 77, 78, 79, 80, 81, 82, 83, 84, 85, 86, 87, 88, 89] (by decide +kernel) (by decide +kernel)
set_option maxRecDepth 20000 in
theorem gX7_act_X7_with : GoodIn wsX7_act (wsV RX7 126 RX7 yX7_with wsX7_with) := goodIn_app (goodIn_of _ (by decide +kernel)) ggX7_act_X7_with
set_option maxRecDepth 20000 in
theorem ggX7_act_X7_draw : GoodIn wsX7_act wsX7_draw := goodIn_r _ [50, 36, 41, 42, 43, 21, 44, 45, 46, 60, 61, 62, 63, 64, 65, 66, 67, 68, 69, 70, 71, 72, 73, 74, 75, 76, 77, 78, 79, 80, 81, 82, 83, 84, 85, 86, 87, 88, 89] (by decide +kernel) (by decide +kernel)
set_option maxRecDepth 20000 in
theorem gX7_act_X7_draw : GoodIn wsX7_act (wsV RX7 89 RX7 yX7_draw wsX7_draw) := goodIn_app (goodIn_of _ (by decide +kernel)) ggX7_act_X7_draw
set_option maxRecDepth 20000 in
theorem ggX7_act_X7_turn : GoodIn wsX7_act wsX7_turn := goodIn_r _ [54, 11, 55, 16, 15, 13, 60, 61, 62, 63, 64, 65, 66, 67, 68, 69, 70, 71, 72, 73, 74, 75, 76, 77, 78, 79, 80, 81, 82, 83, 84, 85, 86, 87, 88, 89] (by decide +kernel) (by decide +kernel)
set_option maxRecDepth 20000 in
theorem gX7_act_X7_turn : GoodIn wsX7_act (wsV RX7 203 RX7 yX7_turn wsX7_turn) := goodIn_app (goodIn_of _ (by decide +kernel)) ggX7_act_X7_turn
set_option maxRecDepth 20000 in
theorem ggX7_act_X7_crop : GoodIn wsX7_act wsX7_crop := goodIn_r _ [59, 13, 15, 16, 11, 47, 48, 49, 21, 50, 36, 41, 42, 43, 44, 45, 46, 60, 61, 62, 63, 64, 65, 66, 67, 68, 69, 70, 71, 72, 73, 74, 75, 76, 77, 78, 79, 80, 81, 82, 83, 84, 85, 86, 87, 88, 89] (by decide +kernel) (by decide +kernel)
set_option maxRecDepth 20000 in
theorem gX7_act_X7_crop : GoodIn wsX7_act (wsV RX7 206 RX7 yX7_crop wsX7_crop) := goodIn_app (goodIn_of _ (by decide +kernel)) ggX7_act_X7_crop
theorem dX7_act_0 : decode cX7_act 0 = .ok (.aload_n 0, 1) := by decide +kernel
theorem dX7_act_1 : decode cX7_act 1 = .ok (.iconst 0, 1) := by decide +kernel
theorem dX7_act_2 : decode cX7_act 2 = .ok (.putfield 69, 3) := by decide +kernel
theorem dX7_act_5 : decode cX7_act 5 = .ok (.aload_n 0, 1) := by decide +kernel
theorem dX7_act_6 : decode cX7_act 6 = .ok (.iload_n 2, 1) := by decide +kernel
theorem dX7_act_7 : decode cX7_act 7 = .ok (.invokevirtual 110, 3) := by decide +kernel
theorem dX7_act_10 : decode cX7_act 10 = .ok (.ifCond .eq 93, 3) := by decide +kernel
theorem dX7_act_13 : decode cX7_act 13 = .ok (.iload_n 1, 1) := by decide +kernel
theorem dX7_act_14 : decode cX7_act 14 = .ok (.i2l, 1) := by decide +kernel
theorem dX7_act_15 : decode cX7_act 15 = .ok (.lconst 0, 1) := by decide +kernel
theorem dX7_act_16 : decode cX7_act 16 = .ok (.ldc2_w 158, 3) := by decide +kernel
theorem dX7_act_19 : decode cX7_act 19 = .ok (.invokestatic 96, 3) := by decide +kernel
theorem dX7_act_22 : decode cX7_act 22 = .ok (.ifCond .eq 81, 3) := by decide +kernel
theorem dX7_act_25 : decode cX7_act 25 = .ok (.iload_n 3, 1) := by decide +kernel
theorem dX7_act_26 : decode cX7_act 26 = .ok (.i2l, 1) := by decide +kernel
theorem dX7_act_27 : decode cX7_act 27 = .ok (.lconst 0, 1) := by decide +kernel
theorem dX7_act_28 : decode cX7_act 28 = .ok (.ldc2_w 102, 3) := by decide +kernel
theorem dX7_act_31 : decode cX7_act 31 = .ok (.invokestatic 96, 3) := by decide +kernel
theorem dX7_act_34 : decode cX7_act 34 = .ok (.ifCond .eq 69, 3) := by decide +kernel
theorem dX7_act_37 : decode cX7_act 37 = .ok (.iload_n 1, 1) := by decide +kernel
theorem dX7_act_38 : decode cX7_act 38 = .ok (.iconst 2, 1) := by decide +kernel
theorem dX7_act_39 : decode cX7_act 39 = .ok (.if_icmp .ne 16, 3) := by decide +kernel
theorem dX7_act_42 : decode cX7_act 42 = .ok (.iload 4, 2) := by decide +kernel
theorem dX7_act_44 : decode cX7_act 44 = .ok (.i2l, 1) := by decide +kernel
theorem dX7_act_45 : decode cX7_act 45 = .ok (.lconst 0, 1) := by decide +kernel
theorem dX7_act_46 : decode cX7_act 46 = .ok (.ldc2_w 182, 3) := by decide +kernel
theorem dX7_act_49 : decode cX7_act 49 = .ok (.invokestatic 96, 3) := by decide +kernel
theorem dX7_act_52 : decode cX7_act 52 = .ok (.ifCond .eq 51, 3) := by decide +kernel
theorem dX7_act_55 : decode cX7_act 55 = .ok (.iload_n 1, 1) := by decide +kernel
theorem dX7_act_56 : decode cX7_act 56 = .ok (.iconst 3, 1) := by decide +kernel
theorem dX7_act_57 : decode cX7_act 57 = .ok (.if_icmp .ne 16, 3) := by decide +kernel
theorem dX7_act_60 : decode cX7_act 60 = .ok (.iload 4, 2) := by decide +kernel
theorem dX7_act_62 : decode cX7_act 62 = .ok (.i2l, 1) := by decide +kernel
theorem dX7_act_63 : decode cX7_act 63 = .ok (.lconst 0, 1) := by decide +kernel
theorem dX7_act_64 : decode cX7_act 64 = .ok (.ldc2_w 184, 3) := by decide +kernel
theorem dX7_act_67 : decode cX7_act 67 = .ok (.invokestatic 96, 3) := by decide +kernel
theorem dX7_act_70 : decode cX7_act 70 = .ok (.ifCond .eq 33, 3) := by decide +kernel
theorem dX7_act_73 : decode cX7_act 73 = .ok (.iload_n 1, 1) := by decide +kernel
theorem dX7_act_74 : decode cX7_act 74 = .ok (.iconst 4, 1) := by decide +kernel
theorem dX7_act_75 : decode cX7_act 75 = .ok (.if_icmp .ne 16, 3) := by decide +kernel
theorem dX7_act_78 : decode cX7_act 78 = .ok (.iload 4, 2) := by decide +kernel
theorem dX7_act_80 : decode cX7_act 80 = .ok (.i2l, 1) := by decide +kernel
theorem dX7_act_81 : decode cX7_act 81 = .ok (.lconst 0, 1) := by decide +kernel
theorem dX7_act_82 : decode cX7_act 82 = .ok (.ldc2_w 186, 3) := by decide +kernel
theorem dX7_act_85 : decode cX7_act 85 = .ok (.invokestatic 96, 3) := by decide +kernel
theorem dX7_act_88 : decode cX7_act 88 = .ok (.ifCond .eq 15, 3) := by decide +kernel
theorem dX7_act_91 : decode cX7_act 91 = .ok (.iload_n 1, 1) := by decide +kernel
theorem dX7_act_92 : decode cX7_act 92 = .ok (.iconst 1, 1) := by decide +kernel
theorem dX7_act_93 : decode cX7_act 93 = .ok (.if_icmp .ne 12, 3) := by decide +kernel
theorem dX7_act_96 : decode cX7_act 96 = .ok (.iload 4, 2) := by decide +kernel
theorem dX7_act_98 : decode cX7_act 98 = .ok (.bipush 40, 2) := by decide +kernel
theorem dX7_act_100 : decode cX7_act 100 = .ok (.if_icmp .le 5, 3) := by decide +kernel
theorem dX7_act_103 : decode cX7_act 103 = .ok (.iconst (-1), 1) := by decide +kernel
theorem dX7_act_104 : decode cX7_act 104 = .ok (.ireturn, 1) := by decide +kernel
theorem dX7_act_105 : decode cX7_act 105 = .ok (.aload_n 0, 1) := by decide +kernel
theorem dX7_act_106 : decode cX7_act 106 = .ok (.iload_n 1, 1) := by decide +kernel
theorem dX7_act_107 : decode cX7_act 107 = .ok (.iload_n 2, 1) := by decide +kernel
theorem dX7_act_108 : decode cX7_act 108 = .ok (.iload 4, 2) := by decide +kernel
theorem dX7_act_110 : decode cX7_act 110 = .ok (.invokevirtual 188, 3) := by decide +kernel
theorem dX7_act_113 : decode cX7_act 113 = .ok (.istore 5, 2) := by decide +kernel
theorem dX7_act_115 : decode cX7_act 115 = .ok (.iload 5, 2) := by decide +kernel
theorem dX7_act_117 : decode cX7_act 117 = .ok (.ifCond .le 9, 3) := by decide +kernel
theorem dX7_act_120 : decode cX7_act 120 = .ok (.bipush (-10), 2) := by decide +kernel
theorem dX7_act_122 : decode cX7_act 122 = .ok (.iload 5, 2) := by decide +kernel
theorem dX7_act_124 : decode cX7_act 124 = .ok (.isub, 1) := by decide +kernel
theorem dX7_act_125 : decode cX7_act 125 = .ok (.ireturn, 1) := by decide +kernel
theorem dX7_act_126 : decode cX7_act 126 = .ok (.aload_n 0, 1) := by decide +kernel
theorem dX7_act_127 : decode cX7_act 127 = .ok (.invokevirtual 123, 3) := by decide +kernel
theorem dX7_act_130 : decode cX7_act 130 = .ok (.aload_n 0, 1) := by decide +kernel
theorem dX7_act_131 : decode cX7_act 131 = .ok (.ldc2_w 192, 3) := by decide +kernel
theorem dX7_act_134 : decode cX7_act 134 = .ok (.invokevirtual 126, 3) := by decide +kernel
theorem dX7_act_137 : decode cX7_act 137 = .ok (.aload_n 0, 1) := by decide +kernel
theorem dX7_act_138 : decode cX7_act 138 = .ok (.iload_n 2, 1) := by decide +kernel
theorem dX7_act_139 : decode cX7_act 139 = .ok (.i2l, 1) := by decide +kernel
theorem dX7_act_140 : decode cX7_act 140 = .ok (.invokevirtual 126, 3) := by decide +kernel
theorem dX7_act_143 : decode cX7_act 143 = .ok (.aload_n 0, 1) := by decide +kernel
theorem dX7_act_144 : decode cX7_act 144 = .ok (.iload_n 3, 1) := by decide +kernel
theorem dX7_act_145 : decode cX7_act 145 = .ok (.i2l, 1) := by decide +kernel
theorem dX7_act_146 : decode cX7_act 146 = .ok (.invokevirtual 126, 3) := by decide +kernel
theorem dX7_act_149 : decode cX7_act 149 = .ok (.aload_n 0, 1) := by decide +kernel
theorem dX7_act_150 : decode cX7_act 150 = .ok (.iload_n 1, 1) := by decide +kernel
theorem dX7_act_151 : decode cX7_act 151 = .ok (.i2l, 1) := by decide +kernel
theorem dX7_act_152 : decode cX7_act 152 = .ok (.invokevirtual 126, 3) := by decide +kernel
theorem dX7_act_155 : decode cX7_act 155 = .ok (.aload_n 0, 1) := by decide +kernel
theorem dX7_act_156 : decode cX7_act 156 = .ok (.aload_n 0, 1) := by decide +kernel
theorem dX7_act_157 : decode cX7_act 157 = .ok (.getfield 7, 3) := by decide +kernel
theorem dX7_act_160 : decode cX7_act 160 = .ok (.iload_n 2, 1) := by decide +kernel
theorem dX7_act_161 : decode cX7_act 161 = .ok (.iaload, 1) := by decide +kernel
theorem dX7_act_162 : decode cX7_act 162 = .ok (.putfield 60, 3) := by decide +kernel
theorem dX7_act_165 : decode cX7_act 165 = .ok (.aload_n 0, 1) := by decide +kernel
theorem dX7_act_166 : decode cX7_act 166 = .ok (.aload_n 0, 1) := by decide +kernel
theorem dX7_act_167 : decode cX7_act 167 = .ok (.getfield 19, 3) := by decide +kernel
theorem dX7_act_170 : decode cX7_act 170 = .ok (.iload_n 2, 1) := by decide +kernel
theorem dX7_act_171 : decode cX7_act 171 = .ok (.iaload, 1) := by decide +kernel
theorem dX7_act_172 : decode cX7_act 172 = .ok (.putfield 194, 3) := by decide +kernel
theorem dX7_act_175 : decode cX7_act 175 = .ok (.aload_n 0, 1) := by decide +kernel
theorem dX7_act_176 : decode cX7_act 176 = .ok (.aload_n 0, 1) := by decide +kernel
theorem dX7_act_177 : decode cX7_act 177 = .ok (.getfield 22, 3) := by decide +kernel
theorem dX7_act_180 : decode cX7_act 180 = .ok (.iload_n 2, 1) := by decide +kernel
theorem dX7_act_181 : decode cX7_act 181 = .ok (.iaload, 1) := by decide +kernel
theorem dX7_act_182 : decode cX7_act 182 = .ok (.putfield 197, 3) := by decide +kernel
theorem dX7_act_185 : decode cX7_act 185 = .ok (.aload_n 0, 1) := by decide +kernel
theorem dX7_act_186 : decode cX7_act 186 = .ok (.aload_n 0, 1) := by decide +kernel
theorem dX7_act_187 : decode cX7_act 187 = .ok (.getfield 25, 3) := by decide +kernel
theorem dX7_act_190 : decode cX7_act 190 = .ok (.iload_n 2, 1) := by decide +kernel
theorem dX7_act_191 : decode cX7_act 191 = .ok (.iaload, 1) := by decide +kernel
theorem dX7_act_192 : decode cX7_act 192 = .ok (.putfield 200, 3) := by decide +kernel
theorem dX7_act_195 : decode cX7_act 195 = .ok (.iconst 0, 1) := by decide +kernel
theorem dX7_act_196 : decode cX7_act 196 = .ok (.istore 6, 2) := by decide +kernel
theorem dX7_act_198 : decode cX7_act 198 = .ok (.iload 6, 2) := by decide +kernel
theorem dX7_act_200 : decode cX7_act 200 = .ok (.aload_n 0, 1) := by decide +kernel
theorem dX7_act_201 : decode cX7_act 201 = .ok (.getfield 194, 3) := by decide +kernel
theorem dX7_act_204 : decode cX7_act 204 = .ok (.if_icmp .ge 29, 3) := by decide +kernel
theorem dX7_act_207 : decode cX7_act 207 = .ok (.aload_n 0, 1) := by decide +kernel
theorem dX7_act_208 : decode cX7_act 208 = .ok (.getfield 63, 3) := by decide +kernel
theorem dX7_act_211 : decode cX7_act 211 = .ok (.iload 6, 2) := by decide +kernel
theorem dX7_act_213 : decode cX7_act 213 = .ok (.aload_n 0, 1) := by decide +kernel
theorem dX7_act_214 : decode cX7_act 214 = .ok (.getfield 29, 3) := by decide +kernel
theorem dX7_act_217 : decode cX7_act 217 = .ok (.sipush 1600, 3) := by decide +kernel
theorem dX7_act_220 : decode cX7_act 220 = .ok (.iload_n 2, 1) := by decide +kernel
theorem dX7_act_221 : decode cX7_act 221 = .ok (.imul, 1) := by decide +kernel
theorem dX7_act_222 : decode cX7_act 222 = .ok (.iload 6, 2) := by decide +kernel
theorem dX7_act_224 : decode cX7_act 224 = .ok (.iadd, 1) := by decide +kernel
theorem dX7_act_225 : decode cX7_act 225 = .ok (.iaload, 1) := by decide +kernel
theorem dX7_act_226 : decode cX7_act 226 = .ok (.iastore, 1) := by decide +kernel
theorem dX7_act_227 : decode cX7_act 227 = .ok (.iinc 6 1, 3) := by decide +kernel
theorem dX7_act_230 : decode cX7_act 230 = .ok (.goto (-32), 3) := by decide +kernel
theorem dX7_act_233 : decode cX7_act 233 = .ok (.iload_n 1, 1) := by decide +kernel
theorem dX7_act_234 : decode cX7_act 234 = .ok (.tableswitch 168 0 3 #[30, 62, 71, 109], 30) := by decide +kernel
theorem dX7_act_264 : decode cX7_act 264 = .ok (.aload_n 0, 1) := by decide +kernel
theorem dX7_act_265 : decode cX7_act 265 = .ok (.ldc2_w 158, 3) := by decide +kernel
theorem dX7_act_268 : decode cX7_act 268 = .ok (.invokevirtual 89, 3) := by decide +kernel
theorem dX7_act_271 : decode cX7_act 271 = .ok (.istore 6, 2) := by decide +kernel
theorem dX7_act_273 : decode cX7_act 273 = .ok (.iconst 0, 1) := by decide +kernel
theorem dX7_act_274 : decode cX7_act 274 = .ok (.istore 7, 2) := by decide +kernel
theorem dX7_act_276 : decode cX7_act 276 = .ok (.iload 7, 2) := by decide +kernel
theorem dX7_act_278 : decode cX7_act 278 = .ok (.iload 6, 2) := by decide +kernel
theorem dX7_act_280 : decode cX7_act 280 = .ok (.if_icmp .ge 13, 3) := by decide +kernel
theorem dX7_act_283 : decode cX7_act 283 = .ok (.aload_n 0, 1) := by decide +kernel
theorem dX7_act_284 : decode cX7_act 284 = .ok (.invokevirtual 203, 3) := by decide +kernel
theorem dX7_act_287 : decode cX7_act 287 = .ok (.iinc 7 1, 3) := by decide +kernel
theorem dX7_act_290 : decode cX7_act 290 = .ok (.goto (-14), 3) := by decide +kernel
theorem dX7_act_293 : decode cX7_act 293 = .ok (.goto 174, 3) := by decide +kernel
theorem dX7_act_296 : decode cX7_act 296 = .ok (.aload_n 0, 1) := by decide +kernel
theorem dX7_act_297 : decode cX7_act 297 = .ok (.iload 4, 2) := by decide +kernel
theorem dX7_act_299 : decode cX7_act 299 = .ok (.invokevirtual 206, 3) := by decide +kernel
theorem dX7_act_302 : decode cX7_act 302 = .ok (.goto 165, 3) := by decide +kernel
theorem dX7_act_305 : decode cX7_act 305 = .ok (.iconst 0, 1) := by decide +kernel
theorem dX7_act_306 : decode cX7_act 306 = .ok (.istore 6, 2) := by decide +kernel
theorem dX7_act_308 : decode cX7_act 308 = .ok (.iload 6, 2) := by decide +kernel
theorem dX7_act_310 : decode cX7_act 310 = .ok (.aload_n 0, 1) := by decide +kernel
theorem dX7_act_311 : decode cX7_act 311 = .ok (.getfield 194, 3) := by decide +kernel
theorem dX7_act_314 : decode cX7_act 314 = .ok (.if_icmp .ge 26, 3) := by decide +kernel
theorem dX7_act_317 : decode cX7_act 317 = .ok (.aload_n 0, 1) := by decide +kernel
theorem dX7_act_318 : decode cX7_act 318 = .ok (.getfield 63, 3) := by decide +kernel
theorem dX7_act_321 : decode cX7_act 321 = .ok (.iload 6, 2) := by decide +kernel
theorem dX7_act_323 : decode cX7_act 323 = .ok (.dup2, 1) := by decide +kernel
theorem dX7_act_324 : decode cX7_act 324 = .ok (.iaload, 1) := by decide +kernel
theorem dX7_act_325 : decode cX7_act 325 = .ok (.aload_n 0, 1) := by decide +kernel
theorem dX7_act_326 : decode cX7_act 326 = .ok (.iload 4, 2) := by decide +kernel
theorem dX7_act_328 : decode cX7_act 328 = .ok (.i2l, 1) := by decide +kernel
theorem dX7_act_329 : decode cX7_act 329 = .ok (.invokevirtual 89, 3) := by decide +kernel
theorem dX7_act_332 : decode cX7_act 332 = .ok (.ixor, 1) := by decide +kernel
theorem dX7_act_333 : decode cX7_act 333 = .ok (.iastore, 1) := by decide +kernel
theorem dX7_act_334 : decode cX7_act 334 = .ok (.iinc 6 1, 3) := by decide +kernel
theorem dX7_act_337 : decode cX7_act 337 = .ok (.goto (-29), 3) := by decide +kernel
theorem dX7_act_340 : decode cX7_act 340 = .ok (.goto 127, 3) := by decide +kernel
theorem dX7_act_343 : decode cX7_act 343 = .ok (.iconst 0, 1) := by decide +kernel
theorem dX7_act_344 : decode cX7_act 344 = .ok (.istore 6, 2) := by decide +kernel
theorem dX7_act_346 : decode cX7_act 346 = .ok (.iconst 0, 1) := by decide +kernel
theorem dX7_act_347 : decode cX7_act 347 = .ok (.istore 7, 2) := by decide +kernel
theorem dX7_act_349 : decode cX7_act 349 = .ok (.iload 7, 2) := by decide +kernel
theorem dX7_act_351 : decode cX7_act 351 = .ok (.aload_n 0, 1) := by decide +kernel
theorem dX7_act_352 : decode cX7_act 352 = .ok (.getfield 194, 3) := by decide +kernel
theorem dX7_act_355 : decode cX7_act 355 = .ok (.if_icmp .ge 38, 3) := by decide +kernel
theorem dX7_act_358 : decode cX7_act 358 = .ok (.aload_n 0, 1) := by decide +kernel
theorem dX7_act_359 : decode cX7_act 359 = .ok (.ldc2_w 184, 3) := by decide +kernel
theorem dX7_act_362 : decode cX7_act 362 = .ok (.invokevirtual 89, 3) := by decide +kernel
theorem dX7_act_365 : decode cX7_act 365 = .ok (.iload 4, 2) := by decide +kernel
theorem dX7_act_367 : decode cX7_act 367 = .ok (.if_icmp .lt 20, 3) := by decide +kernel
theorem dX7_act_370 : decode cX7_act 370 = .ok (.aload_n 0, 1) := by decide +kernel
theorem dX7_act_371 : decode cX7_act 371 = .ok (.getfield 63, 3) := by decide +kernel
theorem dX7_act_374 : decode cX7_act 374 = .ok (.iload 6, 2) := by decide +kernel
theorem dX7_act_376 : decode cX7_act 376 = .ok (.aload_n 0, 1) := by decide +kernel
theorem dX7_act_377 : decode cX7_act 377 = .ok (.getfield 63, 3) := by decide +kernel
theorem dX7_act_380 : decode cX7_act 380 = .ok (.iload 7, 2) := by decide +kernel
theorem dX7_act_382 : decode cX7_act 382 = .ok (.iaload, 1) := by decide +kernel
theorem dX7_act_383 : decode cX7_act 383 = .ok (.iastore, 1) := by decide +kernel
theorem dX7_act_384 : decode cX7_act 384 = .ok (.iinc 6 1, 3) := by decide +kernel
theorem dX7_act_387 : decode cX7_act 387 = .ok (.iinc 7 1, 3) := by decide +kernel
theorem dX7_act_390 : decode cX7_act 390 = .ok (.goto (-41), 3) := by decide +kernel
theorem dX7_act_393 : decode cX7_act 393 = .ok (.aload_n 0, 1) := by decide +kernel
theorem dX7_act_394 : decode cX7_act 394 = .ok (.iload 6, 2) := by decide +kernel
theorem dX7_act_396 : decode cX7_act 396 = .ok (.putfield 194, 3) := by decide +kernel
theorem dX7_act_399 : decode cX7_act 399 = .ok (.goto 68, 3) := by decide +kernel
theorem dX7_act_402 : decode cX7_act 402 = .ok (.iconst 0, 1) := by decide +kernel
theorem dX7_act_403 : decode cX7_act 403 = .ok (.istore 6, 2) := by decide +kernel
theorem dX7_act_405 : decode cX7_act 405 = .ok (.iload 6, 2) := by decide +kernel
theorem dX7_act_407 : decode cX7_act 407 = .ok (.iload 4, 2) := by decide +kernel
theorem dX7_act_409 : decode cX7_act 409 = .ok (.if_icmp .ge 58, 3) := by decide +kernel
theorem dX7_act_412 : decode cX7_act 412 = .ok (.aload_n 0, 1) := by decide +kernel
theorem dX7_act_413 : decode cX7_act 413 = .ok (.aload_n 0, 1) := by decide +kernel
theorem dX7_act_414 : decode cX7_act 414 = .ok (.getfield 194, 3) := by decide +kernel
theorem dX7_act_417 : decode cX7_act 417 = .ok (.iconst 1, 1) := by decide +kernel
theorem dX7_act_418 : decode cX7_act 418 = .ok (.isub, 1) := by decide +kernel
theorem dX7_act_419 : decode cX7_act 419 = .ok (.i2l, 1) := by decide +kernel
theorem dX7_act_420 : decode cX7_act 420 = .ok (.invokevirtual 89, 3) := by decide +kernel
theorem dX7_act_423 : decode cX7_act 423 = .ok (.istore 7, 2) := by decide +kernel
theorem dX7_act_425 : decode cX7_act 425 = .ok (.aload_n 0, 1) := by decide +kernel
theorem dX7_act_426 : decode cX7_act 426 = .ok (.getfield 63, 3) := by decide +kernel
theorem dX7_act_429 : decode cX7_act 429 = .ok (.iload 7, 2) := by decide +kernel
theorem dX7_act_431 : decode cX7_act 431 = .ok (.iaload, 1) := by decide +kernel
theorem dX7_act_432 : decode cX7_act 432 = .ok (.istore 8, 2) := by decide +kernel
theorem dX7_act_434 : decode cX7_act 434 = .ok (.aload_n 0, 1) := by decide +kernel
theorem dX7_act_435 : decode cX7_act 435 = .ok (.getfield 63, 3) := by decide +kernel
theorem dX7_act_438 : decode cX7_act 438 = .ok (.iload 7, 2) := by decide +kernel
theorem dX7_act_440 : decode cX7_act 440 = .ok (.aload_n 0, 1) := by decide +kernel
theorem dX7_act_441 : decode cX7_act 441 = .ok (.getfield 63, 3) := by decide +kernel
theorem dX7_act_444 : decode cX7_act 444 = .ok (.iload 7, 2) := by decide +kernel
theorem dX7_act_446 : decode cX7_act 446 = .ok (.iconst 1, 1) := by decide +kernel
theorem dX7_act_447 : decode cX7_act 447 = .ok (.iadd, 1) := by decide +kernel
theorem dX7_act_448 : decode cX7_act 448 = .ok (.iaload, 1) := by decide +kernel
theorem dX7_act_449 : decode cX7_act 449 = .ok (.iastore, 1) := by decide +kernel
theorem dX7_act_450 : decode cX7_act 450 = .ok (.aload_n 0, 1) := by decide +kernel
theorem dX7_act_451 : decode cX7_act 451 = .ok (.getfield 63, 3) := by decide +kernel
theorem dX7_act_454 : decode cX7_act 454 = .ok (.iload 7, 2) := by decide +kernel
theorem dX7_act_456 : decode cX7_act 456 = .ok (.iconst 1, 1) := by decide +kernel
theorem dX7_act_457 : decode cX7_act 457 = .ok (.iadd, 1) := by decide +kernel
theorem dX7_act_458 : decode cX7_act 458 = .ok (.iload 8, 2) := by decide +kernel
theorem dX7_act_460 : decode cX7_act 460 = .ok (.iastore, 1) := by decide +kernel
theorem dX7_act_461 : decode cX7_act 461 = .ok (.iinc 6 1, 3) := by decide +kernel
theorem dX7_act_464 : decode cX7_act 464 = .ok (.goto (-59), 3) := by decide +kernel
theorem dX7_act_467 : decode cX7_act 467 = .ok (.aload_n 0, 1) := by decide +kernel
theorem dX7_act_468 : decode cX7_act 468 = .ok (.getfield 194, 3) := by decide +kernel
theorem dX7_act_471 : decode cX7_act 471 = .ok (.ireturn, 1) := by decide +kernel
theorem dX7_turn_0 : decode cX7_turn 0 = .ok (.iconst 0, 1) := by decide +kernel
theorem dX7_turn_1 : decode cX7_turn 1 = .ok (.istore_n 1, 1) := by decide +kernel
theorem dX7_turn_2 : decode cX7_turn 2 = .ok (.iload_n 1, 1) := by decide +kernel
theorem dX7_turn_3 : decode cX7_turn 3 = .ok (.aload_n 0, 1) := by decide +kernel
theorem dX7_turn_4 : decode cX7_turn 4 = .ok (.getfield 194, 3) := by decide +kernel
theorem dX7_turn_7 : decode cX7_turn 7 = .ok (.if_icmp .ge 21, 3) := by decide +kernel
theorem dX7_turn_10 : decode cX7_turn 10 = .ok (.aload_n 0, 1) := by decide +kernel
theorem dX7_turn_11 : decode cX7_turn 11 = .ok (.getfield 66, 3) := by decide +kernel
theorem dX7_turn_14 : decode cX7_turn 14 = .ok (.iload_n 1, 1) := by decide +kernel
theorem dX7_turn_15 : decode cX7_turn 15 = .ok (.aload_n 0, 1) := by decide +kernel
theorem dX7_turn_16 : decode cX7_turn 16 = .ok (.getfield 63, 3) := by decide +kernel
theorem dX7_turn_19 : decode cX7_turn 19 = .ok (.iload_n 1, 1) := by decide +kernel
theorem dX7_turn_20 : decode cX7_turn 20 = .ok (.iaload, 1) := by decide +kernel
theorem dX7_turn_21 : decode cX7_turn 21 = .ok (.iastore, 1) := by decide +kernel
theorem dX7_turn_22 : decode cX7_turn 22 = .ok (.iinc 1 1, 3) := by decide +kernel
theorem dX7_turn_25 : decode cX7_turn 25 = .ok (.goto (-23), 3) := by decide +kernel
theorem dX7_turn_28 : decode cX7_turn 28 = .ok (.iconst 0, 1) := by decide +kernel
theorem dX7_turn_29 : decode cX7_turn 29 = .ok (.istore_n 1, 1) := by decide +kernel
theorem dX7_turn_30 : decode cX7_turn 30 = .ok (.iload_n 1, 1) := by decide +kernel
theorem dX7_turn_31 : decode cX7_turn 31 = .ok (.aload_n 0, 1) := by decide +kernel
theorem dX7_turn_32 : decode cX7_turn 32 = .ok (.getfield 200, 3) := by decide +kernel
theorem dX7_turn_35 : decode cX7_turn 35 = .ok (.if_icmp .ge 58, 3) := by decide +kernel
theorem dX7_turn_38 : decode cX7_turn 38 = .ok (.iconst 0, 1) := by decide +kernel
theorem dX7_turn_39 : decode cX7_turn 39 = .ok (.istore_n 2, 1) := by decide +kernel
theorem dX7_turn_40 : decode cX7_turn 40 = .ok (.iload_n 2, 1) := by decide +kernel
theorem dX7_turn_41 : decode cX7_turn 41 = .ok (.aload_n 0, 1) := by decide +kernel
theorem dX7_turn_42 : decode cX7_turn 42 = .ok (.getfield 197, 3) := by decide +kernel
theorem dX7_turn_45 : decode cX7_turn 45 = .ok (.if_icmp .ge 42, 3) := by decide +kernel
theorem dX7_turn_48 : decode cX7_turn 48 = .ok (.aload_n 0, 1) := by decide +kernel
theorem dX7_turn_49 : decode cX7_turn 49 = .ok (.getfield 63, 3) := by decide +kernel
theorem dX7_turn_52 : decode cX7_turn 52 = .ok (.iload_n 1, 1) := by decide +kernel
theorem dX7_turn_53 : decode cX7_turn 53 = .ok (.aload_n 0, 1) := by decide +kernel
theorem dX7_turn_54 : decode cX7_turn 54 = .ok (.getfield 197, 3) := by decide +kernel
theorem dX7_turn_57 : decode cX7_turn 57 = .ok (.imul, 1) := by decide +kernel
theorem dX7_turn_58 : decode cX7_turn 58 = .ok (.iload_n 2, 1) := by decide +kernel
theorem dX7_turn_59 : decode cX7_turn 59 = .ok (.iadd, 1) := by decide +kernel
theorem dX7_turn_60 : decode cX7_turn 60 = .ok (.aload_n 0, 1) := by decide +kernel
theorem dX7_turn_61 : decode cX7_turn 61 = .ok (.getfield 66, 3) := by decide +kernel
theorem dX7_turn_64 : decode cX7_turn 64 = .ok (.aload_n 0, 1) := by decide +kernel
theorem dX7_turn_65 : decode cX7_turn 65 = .ok (.getfield 197, 3) := by decide +kernel
theorem dX7_turn_68 : decode cX7_turn 68 = .ok (.iconst 1, 1) := by decide +kernel
theorem dX7_turn_69 : decode cX7_turn 69 = .ok (.isub, 1) := by decide +kernel
theorem dX7_turn_70 : decode cX7_turn 70 = .ok (.iload_n 2, 1) := by decide +kernel
theorem dX7_turn_71 : decode cX7_turn 71 = .ok (.isub, 1) := by decide +kernel
theorem dX7_turn_72 : decode cX7_turn 72 = .ok (.aload_n 0, 1) := by decide +kernel
theorem dX7_turn_73 : decode cX7_turn 73 = .ok (.getfield 200, 3) := by decide +kernel
theorem dX7_turn_76 : decode cX7_turn 76 = .ok (.imul, 1) := by decide +kernel
theorem dX7_turn_77 : decode cX7_turn 77 = .ok (.iload_n 1, 1) := by decide +kernel
theorem dX7_turn_78 : decode cX7_turn 78 = .ok (.iadd, 1) := by decide +kernel
theorem dX7_turn_79 : decode cX7_turn 79 = .ok (.iaload, 1) := by decide +kernel
theorem dX7_turn_80 : decode cX7_turn 80 = .ok (.iastore, 1) := by decide +kernel
theorem dX7_turn_81 : decode cX7_turn 81 = .ok (.iinc 2 1, 3) := by decide +kernel
theorem dX7_turn_84 : decode cX7_turn 84 = .ok (.goto (-44), 3) := by decide +kernel
theorem dX7_turn_87 : decode cX7_turn 87 = .ok (.iinc 1 1, 3) := by decide +kernel
theorem dX7_turn_90 : decode cX7_turn 90 = .ok (.goto (-60), 3) := by decide +kernel
theorem dX7_turn_93 : decode cX7_turn 93 = .ok (.aload_n 0, 1) := by decide +kernel
theorem dX7_turn_94 : decode cX7_turn 94 = .ok (.getfield 197, 3) := by decide +kernel
theorem dX7_turn_97 : decode cX7_turn 97 = .ok (.istore_n 1, 1) := by decide +kernel
theorem dX7_turn_98 : decode cX7_turn 98 = .ok (.aload_n 0, 1) := by decide +kernel
theorem dX7_turn_99 : decode cX7_turn 99 = .ok (.aload_n 0, 1) := by decide +kernel
theorem dX7_turn_100 : decode cX7_turn 100 = .ok (.getfield 200, 3) := by decide +kernel
theorem dX7_turn_103 : decode cX7_turn 103 = .ok (.putfield 197, 3) := by decide +kernel
theorem dX7_turn_106 : decode cX7_turn 106 = .ok (.aload_n 0, 1) := by decide +kernel
theorem dX7_turn_107 : decode cX7_turn 107 = .ok (.iload_n 1, 1) := by decide +kernel
theorem dX7_turn_108 : decode cX7_turn 108 = .ok (.putfield 200, 3) := by decide +kernel
theorem dX7_turn_111 : decode cX7_turn 111 = .ok (.return_, 1) := by decide +kernel
set_option maxRecDepth 20000 in
theorem ggX7_crop_X7_draw : GoodIn wsX7_crop wsX7_draw := goodIn_r _ [9, 10, 11, 12, 13, 8, 14, 15, 16, 17, 18, 19, 20, 21, 22, 23, 24, 25, 26, 27, 28, 29, 30, 31, 32, 33, 34, 35, 36, 37, 38, 39, 40, 41, 42, 43, 44, 45, 46] (by decide +kernel) (by decide +kernel)
set_option maxRecDepth 20000 in
theorem gX7_crop_X7_draw : GoodIn wsX7_crop (wsV RX7 89 RX7 yX7_draw wsX7_draw) := goodIn_app (goodIn_of _ (by decide +kernel)) ggX7_crop_X7_draw
theorem dX7_crop_0 : decode cX7_crop 0 = .ok (.aload_n 0, 1) := by decide +kernel
theorem dX7_crop_1 : decode cX7_crop 1 = .ok (.aload_n 0, 1) := by decide +kernel
theorem dX7_crop_2 : decode cX7_crop 2 = .ok (.getfield 197, 3) := by decide +kernel
theorem dX7_crop_5 : decode cX7_crop 5 = .ok (.iload_n 1, 1) := by decide +kernel
theorem dX7_crop_6 : decode cX7_crop 6 = .ok (.isub, 1) := by decide +kernel
theorem dX7_crop_7 : decode cX7_crop 7 = .ok (.iconst 1, 1) := by decide +kernel
theorem dX7_crop_8 : decode cX7_crop 8 = .ok (.iadd, 1) := by decide +kernel
theorem dX7_crop_9 : decode cX7_crop 9 = .ok (.i2l, 1) := by decide +kernel
theorem dX7_crop_10 : decode cX7_crop 10 = .ok (.invokevirtual 89, 3) := by decide +kernel
theorem dX7_crop_13 : decode cX7_crop 13 = .ok (.istore_n 2, 1) := by decide +kernel
theorem dX7_crop_14 : decode cX7_crop 14 = .ok (.aload_n 0, 1) := by decide +kernel
theorem dX7_crop_15 : decode cX7_crop 15 = .ok (.aload_n 0, 1) := by decide +kernel
theorem dX7_crop_16 : decode cX7_crop 16 = .ok (.getfield 200, 3) := by decide +kernel
theorem dX7_crop_19 : decode cX7_crop 19 = .ok (.iload_n 1, 1) := by decide +kernel
theorem dX7_crop_20 : decode cX7_crop 20 = .ok (.isub, 1) := by decide +kernel
theorem dX7_crop_21 : decode cX7_crop 21 = .ok (.iconst 1, 1) := by decide +kernel
theorem dX7_crop_22 : decode cX7_crop 22 = .ok (.iadd, 1) := by decide +kernel
theorem dX7_crop_23 : decode cX7_crop 23 = .ok (.i2l, 1) := by decide +kernel
theorem dX7_crop_24 : decode cX7_crop 24 = .ok (.invokevirtual 89, 3) := by decide +kernel
theorem dX7_crop_27 : decode cX7_crop 27 = .ok (.istore_n 3, 1) := by decide +kernel
theorem dX7_crop_28 : decode cX7_crop 28 = .ok (.iconst 0, 1) := by decide +kernel
theorem dX7_crop_29 : decode cX7_crop 29 = .ok (.istore 4, 2) := by decide +kernel
theorem dX7_crop_31 : decode cX7_crop 31 = .ok (.iload 4, 2) := by decide +kernel
theorem dX7_crop_33 : decode cX7_crop 33 = .ok (.iload_n 1, 1) := by decide +kernel
theorem dX7_crop_34 : decode cX7_crop 34 = .ok (.if_icmp .ge 55, 3) := by decide +kernel
theorem dX7_crop_37 : decode cX7_crop 37 = .ok (.iconst 0, 1) := by decide +kernel
theorem dX7_crop_38 : decode cX7_crop 38 = .ok (.istore 5, 2) := by decide +kernel
theorem dX7_crop_40 : decode cX7_crop 40 = .ok (.iload 5, 2) := by decide +kernel
theorem dX7_crop_42 : decode cX7_crop 42 = .ok (.iload_n 1, 1) := by decide +kernel
theorem dX7_crop_43 : decode cX7_crop 43 = .ok (.if_icmp .ge 40, 3) := by decide +kernel
theorem dX7_crop_46 : decode cX7_crop 46 = .ok (.aload_n 0, 1) := by decide +kernel
theorem dX7_crop_47 : decode cX7_crop 47 = .ok (.getfield 63, 3) := by decide +kernel
theorem dX7_crop_50 : decode cX7_crop 50 = .ok (.iload 4, 2) := by decide +kernel
theorem dX7_crop_52 : decode cX7_crop 52 = .ok (.iload_n 1, 1) := by decide +kernel
theorem dX7_crop_53 : decode cX7_crop 53 = .ok (.imul, 1) := by decide +kernel
theorem dX7_crop_54 : decode cX7_crop 54 = .ok (.iload 5, 2) := by decide +kernel
theorem dX7_crop_56 : decode cX7_crop 56 = .ok (.iadd, 1) := by decide +kernel
theorem dX7_crop_57 : decode cX7_crop 57 = .ok (.aload_n 0, 1) := by decide +kernel
theorem dX7_crop_58 : decode cX7_crop 58 = .ok (.getfield 63, 3) := by decide +kernel
theorem dX7_crop_61 : decode cX7_crop 61 = .ok (.iload_n 2, 1) := by decide +kernel
theorem dX7_crop_62 : decode cX7_crop 62 = .ok (.iload 4, 2) := by decide +kernel
theorem dX7_crop_64 : decode cX7_crop 64 = .ok (.iadd, 1) := by decide +kernel
theorem dX7_crop_65 : decode cX7_crop 65 = .ok (.aload_n 0, 1) := by decide +kernel
theorem dX7_crop_66 : decode cX7_crop 66 = .ok (.getfield 200, 3) := by decide +kernel
theorem dX7_crop_69 : decode cX7_crop 69 = .ok (.imul, 1) := by decide +kernel
theorem dX7_crop_70 : decode cX7_crop 70 = .ok (.iload_n 3, 1) := by decide +kernel
theorem dX7_crop_71 : decode cX7_crop 71 = .ok (.iadd, 1) := by decide +kernel
theorem dX7_crop_72 : decode cX7_crop 72 = .ok (.iload 5, 2) := by decide +kernel
theorem dX7_crop_74 : decode cX7_crop 74 = .ok (.iadd, 1) := by decide +kernel
theorem dX7_crop_75 : decode cX7_crop 75 = .ok (.iaload, 1) := by decide +kernel
theorem dX7_crop_76 : decode cX7_crop 76 = .ok (.iastore, 1) := by decide +kernel
theorem dX7_crop_77 : decode cX7_crop 77 = .ok (.iinc 5 1, 3) := by decide +kernel
theorem dX7_crop_80 : decode cX7_crop 80 = .ok (.goto (-40), 3) := by decide +kernel
theorem dX7_crop_83 : decode cX7_crop 83 = .ok (.iinc 4 1, 3) := by decide +kernel
theorem dX7_crop_86 : decode cX7_crop 86 = .ok (.goto (-55), 3) := by decide +kernel
theorem dX7_crop_89 : decode cX7_crop 89 = .ok (.aload_n 0, 1) := by decide +kernel
theorem dX7_crop_90 : decode cX7_crop 90 = .ok (.iload_n 1, 1) := by decide +kernel
theorem dX7_crop_91 : decode cX7_crop 91 = .ok (.putfield 197, 3) := by decide +kernel
theorem dX7_crop_94 : decode cX7_crop 94 = .ok (.aload_n 0, 1) := by decide +kernel
theorem dX7_crop_95 : decode cX7_crop 95 = .ok (.iload_n 1, 1) := by decide +kernel
theorem dX7_crop_96 : decode cX7_crop 96 = .ok (.putfield 200, 3) := by decide +kernel
theorem dX7_crop_99 : decode cX7_crop 99 = .ok (.aload_n 0, 1) := by decide +kernel
theorem dX7_crop_100 : decode cX7_crop 100 = .ok (.iload_n 1, 1) := by decide +kernel
theorem dX7_crop_101 : decode cX7_crop 101 = .ok (.iload_n 1, 1) := by decide +kernel
theorem dX7_crop_102 : decode cX7_crop 102 = .ok (.imul, 1) := by decide +kernel
theorem dX7_crop_103 : decode cX7_crop 103 = .ok (.putfield 194, 3) := by decide +kernel
theorem dX7_crop_106 : decode cX7_crop 106 = .ok (.return_, 1) := by decide +kernel
set_option maxRecDepth 20000 in
theorem ggX7_out_X7_in : GoodIn wsX7_out wsX7_in := goodIn_r _ [10] (by decide +kernel) (by decide +kernel)
set_option maxRecDepth 20000 in
theorem gX7_out_X7_in : GoodIn wsX7_out (va_wsS RX7 96 yX7_in wsX7_in) := goodIn_app (goodIn_of _ (by decide +kernel)) ggX7_out_X7_in
theorem dX7_out_0 : decode cX7_out 0 = .ok (.aload_n 0, 1) := by decide +kernel
theorem dX7_out_1 : decode cX7_out 1 = .ok (.iconst 0, 1) := by decide +kernel
theorem dX7_out_2 : decode cX7_out 2 = .ok (.putfield 69, 3) := by decide +kernel
theorem dX7_out_5 : decode cX7_out 5 = .ok (.aload_n 0, 1) := by decide +kernel
theorem dX7_out_6 : decode cX7_out 6 = .ok (.getfield 60, 3) := by decide +kernel
theorem dX7_out_9 : decode cX7_out 9 = .ok (.iconst 2, 1) := by decide +kernel
theorem dX7_out_10 : decode cX7_out 10 = .ok (.if_icmp .ne 6, 3) := by decide +kernel
theorem dX7_out_13 : decode cX7_out 13 = .ok (.bipush (-11), 2) := by decide +kernel
theorem dX7_out_15 : decode cX7_out 15 = .ok (.ireturn, 1) := by decide +kernel
theorem dX7_out_16 : decode cX7_out 16 = .ok (.iload_n 1, 1) := by decide +kernel
theorem dX7_out_17 : decode cX7_out 17 = .ok (.tableswitch 42 (-3) (-1) #[37, 32, 27], 27) := by decide +kernel
theorem dX7_out_44 : decode cX7_out 44 = .ok (.aload_n 0, 1) := by decide +kernel
theorem dX7_out_45 : decode cX7_out 45 = .ok (.getfield 194, 3) := by decide +kernel
theorem dX7_out_48 : decode cX7_out 48 = .ok (.ireturn, 1) := by decide +kernel
theorem dX7_out_49 : decode cX7_out 49 = .ok (.aload_n 0, 1) := by decide +kernel
theorem dX7_out_50 : decode cX7_out 50 = .ok (.getfield 197, 3) := by decide +kernel
theorem dX7_out_53 : decode cX7_out 53 = .ok (.ireturn, 1) := by decide +kernel
theorem dX7_out_54 : decode cX7_out 54 = .ok (.aload_n 0, 1) := by decide +kernel
theorem dX7_out_55 : decode cX7_out 55 = .ok (.getfield 200, 3) := by decide +kernel
theorem dX7_out_58 : decode cX7_out 58 = .ok (.ireturn, 1) := by decide +kernel
theorem dX7_out_59 : decode cX7_out 59 = .ok (.iload_n 1, 1) := by decide +kernel
theorem dX7_out_60 : decode cX7_out 60 = .ok (.i2l, 1) := by decide +kernel
theorem dX7_out_61 : decode cX7_out 61 = .ok (.lconst 0, 1) := by decide +kernel
theorem dX7_out_62 : decode cX7_out 62 = .ok (.aload_n 0, 1) := by decide +kernel
theorem dX7_out_63 : decode cX7_out 63 = .ok (.getfield 194, 3) := by decide +kernel
theorem dX7_out_66 : decode cX7_out 66 = .ok (.iconst 1, 1) := by decide +kernel
theorem dX7_out_67 : decode cX7_out 67 = .ok (.isub, 1) := by decide +kernel
theorem dX7_out_68 : decode cX7_out 68 = .ok (.i2l, 1) := by decide +kernel
theorem dX7_out_69 : decode cX7_out 69 = .ok (.invokestatic 96, 3) := by decide +kernel
theorem dX7_out_72 : decode cX7_out 72 = .ok (.ifCond .eq 12, 3) := by decide +kernel
theorem dX7_out_75 : decode cX7_out 75 = .ok (.aload_n 0, 1) := by decide +kernel
theorem dX7_out_76 : decode cX7_out 76 = .ok (.getfield 63, 3) := by decide +kernel
theorem dX7_out_79 : decode cX7_out 79 = .ok (.iload_n 1, 1) := by decide +kernel
theorem dX7_out_80 : decode cX7_out 80 = .ok (.iaload, 1) := by decide +kernel
theorem dX7_out_81 : decode cX7_out 81 = .ok (.goto 5, 3) := by decide +kernel
theorem dX7_out_84 : decode cX7_out 84 = .ok (.bipush (-13), 2) := by decide +kernel
theorem dX7_out_86 : decode cX7_out 86 = .ok (.ireturn, 1) := by decide +kernel
set_option maxRecDepth 20000 in
theorem ggX7_like_X7_isRow : GoodIn wsX7_like wsX7_isRow := goodIn_r _ [16, 17, 18, 19, 15, 20, 21, 22, 23, 24, 25, 26, 27, 28, 29, 30, 31, 32, 33, 34, 35, 36, 37, 38, 39, 40, 41, 42, 43, 44, 45, 46, 47, 48, 49, 50] (by decide +kernel) (by decide +kernel)
set_option maxRecDepth 20000 in
theorem gX7_like_X7_isRow : GoodIn wsX7_like (wsV RX7 110 RX7 yX7_isRow wsX7_isRow) := goodIn_app (goodIn_of _ (by decide +kernel)) ggX7_like_X7_isRow
theorem dX7_like_0 : decode cX7_like 0 = .ok (.aload_n 0, 1) := by decide +kernel
theorem dX7_like_1 : decode cX7_like 1 = .ok (.iconst 0, 1) := by decide +kernel
theorem dX7_like_2 : decode cX7_like 2 = .ok (.putfield 69, 3) := by decide +kernel
theorem dX7_like_5 : decode cX7_like 5 = .ok (.aload_n 0, 1) := by decide +kernel
theorem dX7_like_6 : decode cX7_like 6 = .ok (.iload_n 1, 1) := by decide +kernel
theorem dX7_like_7 : decode cX7_like 7 = .ok (.invokevirtual 110, 3) := by decide +kernel
theorem dX7_like_10 : decode cX7_like 10 = .ok (.ifCond .ne 5, 3) := by decide +kernel
theorem dX7_like_13 : decode cX7_like 13 = .ok (.iconst (-1), 1) := by decide +kernel
theorem dX7_like_14 : decode cX7_like 14 = .ok (.ireturn, 1) := by decide +kernel
theorem dX7_like_15 : decode cX7_like 15 = .ok (.aload_n 0, 1) := by decide +kernel
theorem dX7_like_16 : decode cX7_like 16 = .ok (.getfield 60, 3) := by decide +kernel
theorem dX7_like_19 : decode cX7_like 19 = .ok (.aload_n 0, 1) := by decide +kernel
theorem dX7_like_20 : decode cX7_like 20 = .ok (.getfield 7, 3) := by decide +kernel
theorem dX7_like_23 : decode cX7_like 23 = .ok (.iload_n 1, 1) := by decide +kernel
theorem dX7_like_24 : decode cX7_like 24 = .ok (.iaload, 1) := by decide +kernel
theorem dX7_like_25 : decode cX7_like 25 = .ok (.if_icmp .ne 50, 3) := by decide +kernel
theorem dX7_like_28 : decode cX7_like 28 = .ok (.aload_n 0, 1) := by decide +kernel
theorem dX7_like_29 : decode cX7_like 29 = .ok (.getfield 60, 3) := by decide +kernel
theorem dX7_like_32 : decode cX7_like 32 = .ok (.iconst 2, 1) := by decide +kernel
theorem dX7_like_33 : decode cX7_like 33 = .ok (.if_icmp .eq 44, 3) := by decide +kernel
theorem dX7_like_36 : decode cX7_like 36 = .ok (.aload_n 0, 1) := by decide +kernel
theorem dX7_like_37 : decode cX7_like 37 = .ok (.getfield 194, 3) := by decide +kernel
theorem dX7_like_40 : decode cX7_like 40 = .ok (.aload_n 0, 1) := by decide +kernel
theorem dX7_like_41 : decode cX7_like 41 = .ok (.getfield 19, 3) := by decide +kernel
theorem dX7_like_44 : decode cX7_like 44 = .ok (.iload_n 1, 1) := by decide +kernel
theorem dX7_like_45 : decode cX7_like 45 = .ok (.iaload, 1) := by decide +kernel
theorem dX7_like_46 : decode cX7_like 46 = .ok (.if_icmp .ne 29, 3) := by decide +kernel
theorem dX7_like_49 : decode cX7_like 49 = .ok (.aload_n 0, 1) := by decide +kernel
theorem dX7_like_50 : decode cX7_like 50 = .ok (.getfield 197, 3) := by decide +kernel
theorem dX7_like_53 : decode cX7_like 53 = .ok (.aload_n 0, 1) := by decide +kernel
theorem dX7_like_54 : decode cX7_like 54 = .ok (.getfield 22, 3) := by decide +kernel
theorem dX7_like_57 : decode cX7_like 57 = .ok (.iload_n 1, 1) := by decide +kernel
theorem dX7_like_58 : decode cX7_like 58 = .ok (.iaload, 1) := by decide +kernel
theorem dX7_like_59 : decode cX7_like 59 = .ok (.if_icmp .ne 16, 3) := by decide +kernel
theorem dX7_like_62 : decode cX7_like 62 = .ok (.aload_n 0, 1) := by decide +kernel
theorem dX7_like_63 : decode cX7_like 63 = .ok (.getfield 200, 3) := by decide +kernel
theorem dX7_like_66 : decode cX7_like 66 = .ok (.aload_n 0, 1) := by decide +kernel
theorem dX7_like_67 : decode cX7_like 67 = .ok (.getfield 25, 3) := by decide +kernel
theorem dX7_like_70 : decode cX7_like 70 = .ok (.iload_n 1, 1) := by decide +kernel
theorem dX7_like_71 : decode cX7_like 71 = .ok (.iaload, 1) := by decide +kernel
theorem dX7_like_72 : decode cX7_like 72 = .ok (.if_icmp .eq 5, 3) := by decide +kernel
theorem dX7_like_75 : decode cX7_like 75 = .ok (.iconst 0, 1) := by decide +kernel
theorem dX7_like_76 : decode cX7_like 76 = .ok (.ireturn, 1) := by decide +kernel
theorem dX7_like_77 : decode cX7_like 77 = .ok (.iconst 0, 1) := by decide +kernel
theorem dX7_like_78 : decode cX7_like 78 = .ok (.istore_n 2, 1) := by decide +kernel
theorem dX7_like_79 : decode cX7_like 79 = .ok (.iload_n 2, 1) := by decide +kernel
theorem dX7_like_80 : decode cX7_like 80 = .ok (.aload_n 0, 1) := by decide +kernel
theorem dX7_like_81 : decode cX7_like 81 = .ok (.getfield 19, 3) := by decide +kernel
theorem dX7_like_84 : decode cX7_like 84 = .ok (.iload_n 1, 1) := by decide +kernel
theorem dX7_like_85 : decode cX7_like 85 = .ok (.iaload, 1) := by decide +kernel
theorem dX7_like_86 : decode cX7_like 86 = .ok (.if_icmp .ge 32, 3) := by decide +kernel
theorem dX7_like_89 : decode cX7_like 89 = .ok (.aload_n 0, 1) := by decide +kernel
theorem dX7_like_90 : decode cX7_like 90 = .ok (.getfield 63, 3) := by decide +kernel
theorem dX7_like_93 : decode cX7_like 93 = .ok (.iload_n 2, 1) := by decide +kernel
theorem dX7_like_94 : decode cX7_like 94 = .ok (.iaload, 1) := by decide +kernel
theorem dX7_like_95 : decode cX7_like 95 = .ok (.aload_n 0, 1) := by decide +kernel
theorem dX7_like_96 : decode cX7_like 96 = .ok (.getfield 29, 3) := by decide +kernel
theorem dX7_like_99 : decode cX7_like 99 = .ok (.sipush 1600, 3) := by decide +kernel
theorem dX7_like_102 : decode cX7_like 102 = .ok (.iload_n 1, 1) := by decide +kernel
theorem dX7_like_103 : decode cX7_like 103 = .ok (.imul, 1) := by decide +kernel
theorem dX7_like_104 : decode cX7_like 104 = .ok (.iload_n 2, 1) := by decide +kernel
theorem dX7_like_105 : decode cX7_like 105 = .ok (.iadd, 1) := by decide +kernel
theorem dX7_like_106 : decode cX7_like 106 = .ok (.iaload, 1) := by decide +kernel
theorem dX7_like_107 : decode cX7_like 107 = .ok (.if_icmp .eq 5, 3) := by decide +kernel
theorem dX7_like_110 : decode cX7_like 110 = .ok (.iconst 0, 1) := by decide +kernel
theorem dX7_like_111 : decode cX7_like 111 = .ok (.ireturn, 1) := by decide +kernel
theorem dX7_like_112 : decode cX7_like 112 = .ok (.iinc 2 1, 3) := by decide +kernel
theorem dX7_like_115 : decode cX7_like 115 = .ok (.goto (-36), 3) := by decide +kernel
theorem dX7_like_118 : decode cX7_like 118 = .ok (.iconst 1, 1) := by decide +kernel
theorem dX7_like_119 : decode cX7_like 119 = .ok (.ireturn, 1) := by decide +kernel
theorem dJ9_max_7cf53_0 : decode cJ9_max_7cf53 0 = .ok (.iload_n 0, 1) := by decide +kernel
theorem dJ9_max_7cf53_1 : decode cJ9_max_7cf53 1 = .ok (.iload_n 1, 1) := by decide +kernel
theorem dJ9_max_7cf53_2 : decode cJ9_max_7cf53 2 = .ok (.if_icmp .lt 7, 3) := by decide +kernel
theorem dJ9_max_7cf53_5 : decode cJ9_max_7cf53 5 = .ok (.iload_n 0, 1) := by decide +kernel
theorem dJ9_max_7cf53_6 : decode cJ9_max_7cf53 6 = .ok (.goto 4, 3) := by decide +kernel
theorem dJ9_max_7cf53_9 : decode cJ9_max_7cf53 9 = .ok (.iload_n 1, 1) := by decide +kernel
theorem dJ9_max_7cf53_10 : decode cJ9_max_7cf53 10 = .ok (.ireturn, 1) := by decide +kernel
theorem dJ9_min_7cf53_0 : decode cJ9_min_7cf53 0 = .ok (.iload_n 0, 1) := by decide +kernel
theorem dJ9_min_7cf53_1 : decode cJ9_min_7cf53 1 = .ok (.iload_n 1, 1) := by decide +kernel
theorem dJ9_min_7cf53_2 : decode cJ9_min_7cf53 2 = .ok (.if_icmp .gt 7, 3) := by decide +kernel
theorem dJ9_min_7cf53_5 : decode cJ9_min_7cf53 5 = .ok (.iload_n 0, 1) := by decide +kernel
theorem dJ9_min_7cf53_6 : decode cJ9_min_7cf53 6 = .ok (.goto 4, 3) := by decide +kernel
theorem dJ9_min_7cf53_9 : decode cJ9_min_7cf53 9 = .ok (.iload_n 1, 1) := by decide +kernel
theorem dJ9_min_7cf53_10 : decode cJ9_min_7cf53 10 = .ok (.ireturn, 1) := by decide +kernel
abbrev vwCl : List vw_C := [(RX1, TX1, 5), (RX2, TX2, 1), (RX3, TX3, 10), (RX4, TX4, 4), (RX5, TX5, 5), (RX6, TX6, 8), (RX7, TX7, 30)]
end
section
/-! base: one world a system; contracts over it; rows of our own over the kit's -/
def nwF : List (String × Nat × String × String × String) := [("BatchOrder$Order", 46, "BatchOrder$Rows", "many", "I"), ("BatchOrder", 143, "BatchOrder$Rows", "many", "I"), ("BatchOrder$Order", 79, "BatchOrder$Settings", "start", "J"), ("BatchOrder", 122, "BatchOrder$Settings", "start", "J"), ("BatchOrder", 133, "BatchOrder$Settings", "size", "I"), ("BatchOrder$Order", 98, "BatchOrder$Settings", "group", "I"), ("BatchOrder$Order", 132, "BatchOrder$Settings", "buffer", "I"), ("BatchOrder$Acts", 11, "BatchOrder$Content", "kind", "I"), ("BatchOrder", 80, "BatchOrder$Content", "kind", "I"), ("BatchOrder$Acts", 27, "BatchOrder$Content", "high", "I"), ("BatchOrder", 116, "BatchOrder$Content", "high", "I"), ("BatchOrder$Acts", 30, "BatchOrder$Content", "wide", "I"), ("BatchOrder", 119, "BatchOrder$Content", "wide", "I"), ("BatchOrder$Acts", 21, "BatchOrder$Content", "length", "I"), ("BatchOrder", 83, "BatchOrder$Content", "length", "I"), ("BatchOrder$Rows", 44, "BatchOrder$Content", "length", "I")]
def nwM : List (Nat × MethodName) := [(9, yX4_init), (18, yX5_init), (25, yX2_init)]
def NW (U : State) : Prop := (∀ t ∈ nwF, va_Nw (.fieldLinkNest t.1 t.2.1 t.2.2.1 t.2.2.2.1 t.2.2.2.2 "BatchOrder") U) ∧ (∀ t ∈ nwM, va_Nw (.methodLinkNest "BatchOrder" t.1 t.2 "BatchOrder") U) ∧ va_AO "BatchOrder$Content" U
theorem NW.warm {s U : State} (hW : s.WarmedH U.vm) (h : NW s) : NW U := ⟨fun t ht => va_Nw.warmF hW (h.1 t ht), fun t ht => va_Nw.warmM hW (h.2.1 t ht), va_AO.moved hW.alike h.2.2⟩
theorem NW.same {u U : State} (hv : u.vm = U.vm) (h : NW u) : NW U := ⟨fun t ht => va_Nw.same rfl hv (h.1 t ht), fun t ht => va_Nw.same rfl hv (h.2.1 t ht), va_AO.moved (by rw [hv]; exact Vm.Alike.refl _) h.2.2⟩
def Cx (p : Program) (s : State) (m : MethodId) (c : Code) (args : Array Value) (cc : ByteArray) (nL : Nat) (Ts : List Cond) (own : String) (D : va_G) (tys : List (ClassId × FieldType)) : Prop := CallFix p m c cc nL s args Ts own ∧ va_K D vwCl tys s ∧ NW s
def Wd (A : Nat → Prop) (H0 : Heap) (D : va_G) (ws : va_W) (H : Heap) (locs : List Loc) : Prop := va_P D vwCl ws H ∧ va_D A ws ∧ va_S A H0 H locs
def PreW (D : va_G) (tys : List (ClassId × FieldType)) (ws : va_W) (sz : Nat) (U : State) : Prop := U.heap.size = sz ∧ va_P D vwCl ws U.heap ∧ va_K D vwCl tys U ∧ va_D (fun _ => True) ws ∧ NW U
def PostW (D : va_G) (tys : List (ClassId × FieldType)) (ws : va_W) (sz : Nat) (w : va_W) (t : State) : Prop := va_P D vwCl w t.heap ∧ va_K D vwCl tys t ∧ va_D (va_A ws sz) w
def Ki (l : Launch) (y : MethodName) (wds : List Cond) (rm : Room) (D : va_G) (tys : List (ClassId × FieldType)) (av : List Value) (ws : va_W) (post : Int32 → va_W → Prop) : Prop := ∀ sz : Nat, Met l y wds rm (va_Pc av (PreW D tys ws sz)) (va_Qi post (PostW D tys ws sz) (va_A ws sz)) rm.cells rm.slots (va_A ws sz)
def Kl (l : Launch) (y : MethodName) (wds : List Cond) (rm : Room) (D : va_G) (tys : List (ClassId × FieldType)) (av : List Value) (ws : va_W) (post : Int64 → va_W → Prop) : Prop := ∀ sz : Nat, Met l y wds rm (va_Pc av (PreW D tys ws sz)) (va_Ql post (PostW D tys ws sz) (va_A ws sz)) rm.cells rm.slots (va_A ws sz)
def Kv (l : Launch) (y : MethodName) (wds : List Cond) (rm : Room) (D : va_G) (tys : List (ClassId × FieldType)) (av : List Value) (ws : va_W) (post : va_W → Prop) : Prop := ∀ sz : Nat, Met l y wds rm (va_Pc av (PreW D tys ws sz)) (va_Qv post (PostW D tys ws sz) (va_A ws sz)) rm.cells rm.slots (va_A ws sz)
def Kq (l : Launch) (y : MethodName) (wds : List Cond) (rm : Room) (D : va_G) (tys : List (ClassId × FieldType)) (av : List Value) (ws : va_W) (post : Option Nat → va_W → Prop) : Prop := ∀ sz : Nat, Met l y wds rm (va_Pc av (PreW D tys ws sz)) (va_Qq post (PostW D tys ws sz) (va_A ws sz)) rm.cells rm.slots (va_A ws sz)
theorem PreW.blind {D : va_G} {tys : List (ClassId × FieldType)} {av : List Value} {ws : va_W} {sz : Nat} : FrameBlind (va_Pc av (PreW D tys ws sz)) := fun a U g mk q => by
  obtain ⟨q0, q1, qP, qK, qD, qN⟩ := q
  exact ⟨q0, q1, qP, va_K.moved (u := U) (U := U.calling g mk a) (Vm.Alike.refl U.vm) qK, qD, NW.same (u := U) (U := U.calling g mk a) rfl qN⟩
section
variable {p : Program} {l : Launch} {e : Env} {R : Room} {s : State} {m : MethodId} {args : Array Value} {below : List Frame} {meth : Method} {c : Code} {H : Heap} {locs : List Loc} {cells slots : Nat} {Q : State → Prop}
variable {cc : ByteArray} {nL : Nat} {Ts : List Cond} {own : String} {pc : Nat} {ls : Array Slot} {rest st0 : List Value} {D : va_G} {A : Nat → Prop} {a : Nat} {tys : List (ClassId × FieldType)} {ws ws' : va_W} {H0 : Heap}
theorem Wd.pre (C : Cx p s m c args cc nL Ts own D tys) (G : Wd A H0 D ws H locs) {av : List Value} {U : State} (hU : U.heap = H) (hW : s.WarmedH U.vm) : va_Pc av (PreW D tys ws H.size) av.toArray U := ⟨rfl, by rw [hU], by rw [hU]; exact G.1, va_K.moved hW.alike C.2.1, G.2.1.weaken (fun _ _ _ _ => trivial), NW.warm hW C.2.2⟩
theorem Wd.fr (G : Wd A H0 D ws H locs) (hA : ∀ q : Nat, H0.size ≤ q → A q) : ∀ q, va_A ws H.size q → A q := by
  intro q h
  rcases h with ⟨k, e, h⟩ | h
  · exact G.2.1.2 k _ h
  · exact hA q (Nat.le_trans G.2.2.1 h)
theorem r_ai {post : Int32 → va_W → Prop} {mc ms : Nat} {av : Array Value} (G : Wd A H0 D ws H locs) (hA : ∀ q : Nat, H0.size ≤ q → A q) (hr : va_Run p l e R s m args below meth c H locs cells slots mc ms (F0 m pc ls st0) rest (va_Qi post (PostW D tys ws H.size) (va_A ws H.size) av) (va_A ws H.size))
    (kk : ∀ (r : Int32) (w : va_W) (H1 : Heap) (locs1 : List Loc), post r w → Wd A H0 D w H1 locs1 → W p l e R s m args below meth c H1 locs1 (cells + mc) (slots + ms) Q (F0 m (pc + 3) ls (.int r :: rest))) : W p l e R s m args below meth c H locs cells slots Q (F0 m pc ls st0) :=
  va_calli hr G.2.2 (fun q _ h => G.fr hA q h) (G.fr hA) (fun r w t H1 locs1 ht hvm hp hB hz hk hS => kk r w H1 locs1 hp ⟨by rw [← ht]; exact hB.1, hB.2.2.weaken (fun k q _ h => G.fr hA q.1 h), hS⟩)
theorem r_al {post : Int64 → va_W → Prop} {mc ms : Nat} {av : Array Value} (G : Wd A H0 D ws H locs) (hA : ∀ q : Nat, H0.size ≤ q → A q) (hr : va_Run p l e R s m args below meth c H locs cells slots mc ms (F0 m pc ls st0) rest (va_Ql post (PostW D tys ws H.size) (va_A ws H.size) av) (va_A ws H.size))
    (kk : ∀ (r : Int64) (w : va_W) (H1 : Heap) (locs1 : List Loc), post r w → Wd A H0 D w H1 locs1 → W p l e R s m args below meth c H1 locs1 (cells + mc) (slots + ms) Q (F0 m (pc + 3) ls (.long r :: rest))) : W p l e R s m args below meth c H locs cells slots Q (F0 m pc ls st0) :=
  va_calll hr G.2.2 (fun q _ h => G.fr hA q h) (G.fr hA) (fun r w t H1 locs1 ht hvm hp hB hz hk hS => kk r w H1 locs1 hp ⟨by rw [← ht]; exact hB.1, hB.2.2.weaken (fun k q _ h => G.fr hA q.1 h), hS⟩)
theorem r_av {post : va_W → Prop} {mc ms : Nat} {av : Array Value} (G : Wd A H0 D ws H locs) (hA : ∀ q : Nat, H0.size ≤ q → A q) (hr : va_Run p l e R s m args below meth c H locs cells slots mc ms (F0 m pc ls st0) rest (va_Qv post (PostW D tys ws H.size) (va_A ws H.size) av) (va_A ws H.size))
    (kk : ∀ (w : va_W) (H1 : Heap) (locs1 : List Loc), post w → Wd A H0 D w H1 locs1 → W p l e R s m args below meth c H1 locs1 (cells + mc) (slots + ms) Q (F0 m (pc + 3) ls rest)) : W p l e R s m args below meth c H locs cells slots Q (F0 m pc ls st0) :=
  va_callv hr G.2.2 (fun q _ h => G.fr hA q h) (G.fr hA) (fun w t H1 locs1 ht hvm hp hB hz hk hS => kk w H1 locs1 hp ⟨by rw [← ht]; exact hB.1, hB.2.2.weaken (fun k q _ h => G.fr hA q.1 h), hS⟩)
theorem r_aq {post : Option Nat → va_W → Prop} {mc ms : Nat} {av : Array Value} (G : Wd A H0 D ws H locs) (hA : ∀ q : Nat, H0.size ≤ q → A q) (hr : va_Run p l e R s m args below meth c H locs cells slots mc ms (F0 m pc ls st0) rest (va_Qq post (PostW D tys ws H.size) (va_A ws H.size) av) (va_A ws H.size))
    (kk : ∀ (r : Option Nat) (w : va_W) (H1 : Heap) (locs1 : List Loc), post r w → Wd A H0 D w H1 locs1 → W p l e R s m args below meth c H1 locs1 (cells + mc) (slots + ms) Q (F0 m (pc + 3) ls (va_rf r :: rest))) : W p l e R s m args below meth c H locs cells slots Q (F0 m pc ls st0) :=
  va_callq hr G.2.2 (fun q _ h => G.fr hA q h) (G.fr hA) (fun r w t H1 locs1 ht hvm hp hB hz hk hS => kk r w H1 locs1 hp ⟨by rw [← ht]; exact hB.1, hB.2.2.weaken (fun k q _ h => G.fr hA q.1 h), hS⟩)
variable {y : MethodName} {bytes : ByteArray} {maxL index ci b q0 : Nat} {ret : Option FieldType} {wds wds' : List Cond} {rm : Room} {Cn : String} {T : u_T} {N na : Nat} {fs As : List Value} {Qc : Nat → Array Value → State → Outcome → State → Prop} {fr : Nat → Addr → Prop}
theorem r_rV (C : Cx p s m c args cc nL Ts own D tys) (G : Wd A H0 D ws H locs) (hM : ∀ sz : Nat, Met l y wds rm (va_Pc (.ref b :: As) (PreW D tys ws sz)) (Qc sz) rm.cells rm.slots (fr sz)) (hT : GoodIn Ts (wsV own index Cn y wds)) (hw : wds = Cond.code y bytes maxL ret :: wds')
    (hd : y.cls = Cn ∧ y.cls ≠ "java/lang/invoke/MethodHandle" ∧ y.cls ≠ "java/lang/invoke/VarHandle" ∧ (parseMethodDescriptor y.desc).map (fun d => d.parameters.length) = some na) (hR : rm.frames + 1 ≤ R.frames ∧ 8 + (maxL + 11) + rm.locals ≤ R.locals) (q0 : Nat) (he : ws[q0]? = some (b, .inr (ci, fs))) (hc : vwCl[ci]? = some (Cn, T, N))
    (hna : As.length = na) (hsz : ls.size = nL) (hst : st0 = As.reverse ++ .ref b :: rest) (hW : (rest.map fun v => v.category).sum ≤ 8) (hdg : decode cc pc = .ok (.invokevirtual index, 3)) (hf : cells + rm.cells ≤ R.cells ∧ slots + rm.slots ≤ R.slots) :
    va_Run p l e R s m args below meth c H locs cells slots rm.cells rm.slots (F0 m pc ls st0) rest (Qc H.size (Value.ref b :: As).toArray) (fr H.size) :=
  va_runV (C := Cn) (bytes := bytes) (maxL := maxL) (ret := ret) C.1 (hM H.size) (cwV na C.1.2.2.2.2 hT hw rfl rfl hd hR) ⟨PreW.blind, va_recv C.2.1 G.1 hc he, fun U hU hW => G.pre C hU hW⟩ rfl hna hsz hst (lv_room hW) hdg hf
theorem r_rS (C : Cx p s m c args cc nL Ts own D tys) (G : Wd A H0 D ws H locs) (hM : ∀ sz : Nat, Met l y wds rm (va_Pc As (PreW D tys ws sz)) (Qc sz) rm.cells rm.slots (fr sz)) (hT : GoodIn Ts (va_wsS own index y wds)) (hw : wds = Cond.code y bytes maxL ret :: wds')
    (hd : y.cls ≠ "java/lang/invoke/MethodHandle" ∧ y.cls ≠ "java/lang/invoke/VarHandle" ∧ (parseMethodDescriptor y.desc).map (fun d => d.parameters.length) = some na) (hR : rm.frames + 1 ≤ R.frames ∧ 8 + (maxL + 11) + rm.locals ≤ R.locals)
    (hna : As.length = na) (hsz : ls.size = nL) (hst : st0 = As.reverse ++ rest) (hW : (rest.map fun v => v.category).sum ≤ 8) (hdg : decode cc pc = .ok (.invokestatic index, 3)) (hf : cells + rm.cells ≤ R.cells ∧ slots + rm.slots ≤ R.slots) :
    va_Run p l e R s m args below meth c H locs cells slots rm.cells rm.slots (F0 m pc ls st0) rest (Qc H.size As.toArray) (fr H.size) :=
  va_runS (bytes := bytes) (maxL := maxL) (ret := ret) C.1 (hM H.size) (va_cwS na C.1.2.2.2.2 hT hw rfl rfl hd hR) ⟨PreW.blind, fun U hU hW => G.pre C hU hW⟩ rfl hna hsz hst (lv_room hW) hdg hf
theorem r_rI (C : Cx p s m c args cc nL Ts own D tys) (G : Wd A H0 D ws H locs) (hM : ∀ sz : Nat, Met l y wds rm (va_Pc (.ref b :: As) (PreW D tys ws sz)) (Qc sz) rm.cells rm.slots (fr sz)) (hT : GoodIn Ts wds) (hw : wds = Cond.code y bytes maxL none :: wds')
    (hini : Cond.initialized y.cls ∈ Ts) (hl : Cond.methodLink own index y ∈ Ts) (hin : Cond.instanceMethod y ∈ Ts) (hy1 : y.name = "<init>")
    (hd : y.cls ≠ "java/lang/invoke/MethodHandle" ∧ y.cls ≠ "java/lang/invoke/VarHandle" ∧ (parseMethodDescriptor y.desc).map (fun d => d.parameters.length) = some na) (hR : rm.frames + 1 ≤ R.frames ∧ 8 + (maxL + 11) + rm.locals ≤ R.locals)
    (hna : As.length = na) (hsz : ls.size = nL) (hst : st0 = As.reverse ++ .ref b :: rest) (hW : (rest.map fun v => v.category).sum ≤ 8) (hdg : decode cc pc = .ok (.invokespecial index, 3)) (hf : cells + rm.cells ≤ R.cells ∧ slots + rm.slots ≤ R.slots) :
    va_Run p l e R s m args below meth c H locs cells slots rm.cells rm.slots (F0 m pc ls st0) rest (Qc H.size (Value.ref b :: As).toArray) (fr H.size) :=
  va_runI (bytes := bytes) (maxL := maxL) C.1 (hM H.size) (cwI na C.1.2.2.2.2 hT hw rfl rfl (C.1.2.2.2.2 _ hini) (C.1.2.2.2.2 _ hl) (C.1.2.2.2.2 _ hin) hy1 hd hR) ⟨PreW.blind, fun U hU hW => G.pre C hU hW⟩ rfl hna hsz hst (lv_room hW) hdg hf
theorem r_rN (C : Cx p s m c args cc nL Ts own D tys) (G : Wd A H0 D ws H locs) (ho : own = "BatchOrder") (hM : ∀ sz : Nat, Met l y wds rm (va_Pc (.ref b :: As) (PreW D tys ws sz)) (Qc sz) rm.cells rm.slots (fr sz)) (hT : GoodIn Ts wds) (hw : wds = Cond.code y bytes maxL none :: wds')
    (hini : Cond.initialized y.cls ∈ Ts) (hl : (index, y) ∈ nwM) (hin : Cond.instanceMethod y ∈ Ts) (hy1 : y.name = "<init>")
    (hd : y.cls ≠ "java/lang/invoke/MethodHandle" ∧ y.cls ≠ "java/lang/invoke/VarHandle" ∧ (parseMethodDescriptor y.desc).map (fun d => d.parameters.length) = some na) (hR : rm.frames + 1 ≤ R.frames ∧ 8 + (maxL + 11) + rm.locals ≤ R.locals)
    (hna : As.length = na) (hsz : ls.size = nL) (hst : st0 = As.reverse ++ .ref b :: rest) (hW : (rest.map fun v => v.category).sum ≤ 8) (hdg : decode cc pc = .ok (.invokespecial index, 3)) (hf : cells + rm.cells ≤ R.cells ∧ slots + rm.slots ≤ R.slots) :
    va_Run p l e R s m args below meth c H locs cells slots rm.cells rm.slots (F0 m pc ls st0) rest (Qc H.size (Value.ref b :: As).toArray) (fr H.size) := by
  subst ho
  exact va_runIN (host := "BatchOrder") (bytes := bytes) (maxL := maxL) C.1 (hM H.size) ⟨va_cnB na C.1.2.2.2.2 hT hw rfl rfl (C.2.2.2.1 _ hl) (C.1.2.2.2.2 _ hini) hd hR, hy1, C.1.2.2.2.2 _ hin⟩ ⟨PreW.blind, fun U hU hW => G.pre C hU hW⟩ rfl hna hsz hst (lv_room hW) hdg hf
theorem r_get (C : Cx p s m c args cc nL Ts own D tys) (G : Wd A H0 D ws H locs) {v : Value} (hin : ∀ w ∈ u_ws Cn T N, w ∈ Ts) (q0 : Nat) (he : ws[q0]? = some (a, .inr (ci, fs))) (hc : vwCl[ci]? = some (Cn, T, N)) (k : Nat) (hk : k < N) (hlink : Cond.fieldLink own index (T k).1 (T k).2.1 (T k).2.2.1 ∈ Ts) (hv : fs[k]? = some v) (hdg : decode cc pc = .ok (.getfield index, 3))
    (kk : W p l e R s m args below meth c H locs cells slots Q (F0 m (pc + 3) ls (v :: rest))) : W p l e R s m args below meth c H locs cells slots Q (F0 m pc ls (.ref a :: rest)) :=
  va_get C.1.1 C.1.2.1 C.1.2.2.2.2 hin C.1.2.2.2.1 C.2.1 G.1 q0 he hc k hk (C.1.2.2.2.2 _ hlink) (fun _ h => h) hv hdg kk
theorem r_getN (C : Cx p s m c args cc nL Ts own D tys) (G : Wd A H0 D ws H locs) {v : Value} (hin : ∀ w ∈ u_ws Cn T N, w ∈ Ts) (q0 : Nat) (he : ws[q0]? = some (a, .inr (ci, fs))) (hc : vwCl[ci]? = some (Cn, T, N)) (k : Nat) (hk : k < N) (hlink : (own, index, (T k).1, (T k).2.1, (T k).2.2.1) ∈ nwF) (hv : fs[k]? = some v) (hdg : decode cc pc = .ok (.getfield index, 3))
    (kk : W p l e R s m args below meth c H locs cells slots Q (F0 m (pc + 3) ls (v :: rest))) : W p l e R s m args below meth c H locs cells slots Q (F0 m pc ls (.ref a :: rest)) :=
  va_getN (host := "BatchOrder") C.1.1 C.1.2.1 C.1.2.2.2.2 hin C.1.2.2.2.1 C.2.1 G.1 q0 he hc k hk (va_Nw.use rfl (C.2.2.1 _ hlink)) (fun _ h => h) hv hdg kk
theorem r_put (C : Cx p s m c args cc nL Ts own D tys) (G : Wd A H0 D ws H locs) {v : Value} {ty0 : Nat → FieldType} (hin : ∀ w ∈ u_ws Cn T N, w ∈ Ts) (hty : ∀ k, k < N → parseFieldDescriptor (T k).2.2.1 = some (ty0 k)) (hnm : ∀ a, a < N → ∀ b, b < N → a ≠ b → (T a).2.1 ≠ (T b).2.1) (q0 : Nat) (he : ws[q0]? = some (a, .inr (ci, fs))) (hc : vwCl[ci]? = some (Cn, T, N)) (k : Nat) (hk : k < N) (hlink : Cond.fieldLink own index (T k).1 (T k).2.1 (T k).2.2.1 ∈ Ts) (hfin : (T k).2.2.2 = false) (hn : narrow (ty0 k) v = v) (hfit : fits (ty0 k) v = true) (hl : k < fs.length) (hdg : decode cc pc = .ok (.putfield index, 3)) (hw : ws.set q0 (a, .inr (ci, fs.set k v)) = ws')
    (kk : ∀ (H1 : Heap) (locs1 : List Loc), Wd A H0 D ws' H1 locs1 → W p l e R s m args below meth c H1 locs1 cells slots Q (F0 m (pc + 3) ls rest)) : W p l e R s m args below meth c H locs cells slots Q (F0 m pc ls (v :: .ref a :: rest)) :=
  va_put C.1.1 C.1.2.1 C.1.2.2.2.2 hin ty0 hty hnm C.1.2.2.2.1 C.2.1 G.1 G.2.1 G.2.2 q0 he hc k hk (C.1.2.2.2.2 _ hlink) (fun _ h => h) hfin (hty k hk) hn hfit hl hdg (fun H1 locs1 h1 h2 h3 => kk H1 locs1 ⟨by rw [← hw]; exact h1, by rw [← hw]; exact h2, h3⟩)
theorem r_putN (C : Cx p s m c args cc nL Ts own D tys) (G : Wd A H0 D ws H locs) {v : Value} {ty0 : Nat → FieldType} (hin : ∀ w ∈ u_ws Cn T N, w ∈ Ts) (hty : ∀ k, k < N → parseFieldDescriptor (T k).2.2.1 = some (ty0 k)) (hnm : ∀ a, a < N → ∀ b, b < N → a ≠ b → (T a).2.1 ≠ (T b).2.1) (q0 : Nat) (he : ws[q0]? = some (a, .inr (ci, fs))) (hc : vwCl[ci]? = some (Cn, T, N)) (k : Nat) (hk : k < N) (hlink : (own, index, (T k).1, (T k).2.1, (T k).2.2.1) ∈ nwF) (hfin : (T k).2.2.2 = false) (hn : narrow (ty0 k) v = v) (hfit : fits (ty0 k) v = true) (hl : k < fs.length) (hdg : decode cc pc = .ok (.putfield index, 3)) (hw : ws.set q0 (a, .inr (ci, fs.set k v)) = ws')
    (kk : ∀ (H1 : Heap) (locs1 : List Loc), Wd A H0 D ws' H1 locs1 → W p l e R s m args below meth c H1 locs1 cells slots Q (F0 m (pc + 3) ls rest)) : W p l e R s m args below meth c H locs cells slots Q (F0 m pc ls (v :: .ref a :: rest)) :=
  va_putN (host := "BatchOrder") C.1.1 C.1.2.1 C.1.2.2.2.2 hin ty0 hty hnm C.1.2.2.2.1 C.2.1 G.1 G.2.1 G.2.2 q0 he hc k hk (va_Nw.use rfl (C.2.2.1 _ hlink)) (fun _ h => h) hfin (hty k hk) hn hfit hl hdg (fun H1 locs1 h1 h2 h3 => kk H1 locs1 ⟨by rw [← hw]; exact h1, by rw [← hw]; exact h2, h3⟩)
theorem r_putF (C : Cx p s m c args cc nL Ts own D tys) (G : Wd A H0 D ws H locs) {v : Value} {ty0 : Nat → FieldType} (hname : meth.name = "<init>") (hin : ∀ w ∈ u_ws Cn T N, w ∈ Ts) (hty : ∀ k, k < N → parseFieldDescriptor (T k).2.2.1 = some (ty0 k)) (hnm : ∀ a, a < N → ∀ b, b < N → a ≠ b → (T a).2.1 ≠ (T b).2.1) (q0 : Nat) (he : ws[q0]? = some (a, .inr (ci, fs))) (hc : vwCl[ci]? = some (Cn, T, N)) (k : Nat) (hk : k < N) (hlink : Cond.fieldLink own index (T k).1 (T k).2.1 (T k).2.2.1 ∈ Ts) (hfin : (T k).2.2.2 = true) (hdecl : (T k).1 = own) (hn : narrow (ty0 k) v = v) (hfit : fits (ty0 k) v = true) (hl : k < fs.length) (hdg : decode cc pc = .ok (.putfield index, 3)) (hw : ws.set q0 (a, .inr (ci, fs.set k v)) = ws')
    (kk : ∀ (H1 : Heap) (locs1 : List Loc), Wd A H0 D ws' H1 locs1 → W p l e R s m args below meth c H1 locs1 cells slots Q (F0 m (pc + 3) ls rest)) : W p l e R s m args below meth c H locs cells slots Q (F0 m pc ls (v :: .ref a :: rest)) :=
  va_putF C.1.1 C.1.2.1 C.1.2.2.2.2 hin ty0 hty hnm C.1.2.2.2.1 C.2.1 G.1 G.2.1 G.2.2 q0 he hc k hk (C.1.2.2.2.2 _ hlink) (fun _ h => h) hfin hname hdecl (hty k hk) hn hfit hl hdg (fun H1 locs1 h1 h2 h3 => kk H1 locs1 ⟨by rw [← hw]; exact h1, by rw [← hw]; exact h2, h3⟩)
theorem in_of {i : Int32} {j n : Nat} (hi : i = nI j) (hj : j < n) (hn : n < 2 ^ 31) : vp_in i n ∧ i.toNatClampNeg = j := by
  subst hi
  exact ⟨vp_in_nI hj hn, nI_clamp (by omega)⟩
theorem r_iald (C : Cx p s m c args cc nL Ts own D tys) (G : Wd A H0 D ws H locs) (q0 t0 : Nat) {cA : ClassId} {n : Nat} {f : Nat → Int32} (ha : ws[q0]? = some (a, .inl (cA, n, .inl f))) (ht : tys[t0]? = some (cA, .int)) {i v : Int32} (j : Nat) (hi : i = nI j) (hj : j < n) (hn : n < 2 ^ 31) (hv : f j = v) (hdg : decode cc pc = .ok (.iaload, 1))
    (kk : W p l e R s m args below meth c H locs cells slots Q (F0 m (pc + 1) ls (.int v :: rest))) : W p l e R s m args below meth c H locs cells slots Q (F0 m pc ls (.int i :: .ref a :: rest)) := by
  obtain ⟨h1, h2⟩ := in_of hi hj hn
  refine va_iald C.1.1 C.1.2.1 C.2.1 G.1 q0 t0 ha ht h1 hdg ?_
  rw [h2, hv]
  exact kk
theorem r_iast (C : Cx p s m c args cc nL Ts own D tys) (G : Wd A H0 D ws H locs) (q0 t0 : Nat) {cA : ClassId} {n : Nat} {f f' : Nat → Int32} (ha : ws[q0]? = some (a, .inl (cA, n, .inl f))) (ht : tys[t0]? = some (cA, .int)) {i x : Int32} (j : Nat) (hi : i = nI j) (hj : j < n) (hn : n < 2 ^ 31) (hv : upd f j x = f') (hdg : decode cc pc = .ok (.iastore, 1)) (hw : ws.set q0 (a, .inl (cA, n, .inl f')) = ws')
    (kk : ∀ (H1 : Heap) (locs1 : List Loc), Wd A H0 D ws' H1 locs1 → W p l e R s m args below meth c H1 locs1 cells slots Q (F0 m (pc + 1) ls rest)) : W p l e R s m args below meth c H locs cells slots Q (F0 m pc ls (.int x :: .int i :: .ref a :: rest)) := by
  obtain ⟨h1, h2⟩ := in_of hi hj hn
  refine va_iast C.1.1 C.1.2.1 C.2.1 G.1 G.2.1 G.2.2 q0 t0 ha ht h1 hdg (fun H1 locs1 g1 g2 g3 => kk H1 locs1 ?_)
  rw [h2, hv, hw] at g1 g2
  exact ⟨g1, g2, g3⟩
theorem r_alen (C : Cx p s m c args cc nL Ts own D tys) (G : Wd A H0 D ws H locs) (q0 t0 : Nat) {cA : ClassId} {x : vp_A} (ha : ws[q0]? = some (a, .inl (cA, x))) {ty : FieldType} (ht : tys[t0]? = some (cA, ty)) (hdg : decode cc pc = .ok (.arraylength, 1))
    (kk : W p l e R s m args below meth c H locs cells slots Q (F0 m (pc + 1) ls (.int (nI x.1) :: rest))) : W p l e R s m args below meth c H locs cells slots Q (F0 m pc ls (.ref a :: rest)) :=
  va_alen C.1.1 C.1.2.1 C.2.1 G.1 q0 t0 ha ht rfl hdg kk
theorem r_aald (C : Cx p s m c args cc nL Ts own D tys) (G : Wd A H0 D ws H locs) (q0 t0 : Nat) {cA : ClassId} {Co : String} {n : Nat} {f : Nat → Option Nat} (ha : ws[q0]? = some (a, .inl (cA, n, .inr (.inr (.inr (.inr f)))))) (ht : tys[t0]? = some (cA, .object Co)) {i : Int32} {v : Option Nat} (j : Nat) (hi : i = nI j) (hj : j < n) (hn : n < 2 ^ 31) (hv : f j = v) (hdg : decode cc pc = .ok (.aaload, 1))
    (kk : W p l e R s m args below meth c H locs cells slots Q (F0 m (pc + 1) ls (va_rf v :: rest))) : W p l e R s m args below meth c H locs cells slots Q (F0 m pc ls (.int i :: .ref a :: rest)) := by
  obtain ⟨h1, h2⟩ := in_of hi hj hn
  refine va_aldq C.1.1 C.1.2.1 C.2.1 G.1 q0 t0 ha ht h1 hdg ?_
  rw [h2, hv]
  exact kk
theorem r_aast (C : Cx p s m c args cc nL Ts own D tys) (G : Wd A H0 D ws H locs) (q0 t0 qk ck : Nat) {cA : ClassId} {r : vw_C} {n v : Nat} {vs : List Value} {f f' : Nat → Option Nat} (ha : ws[q0]? = some (a, .inl (cA, n, .inr (.inr (.inr (.inr f)))))) (ht : tys[t0]? = some (cA, .object r.1)) (hv : ws[qk]? = some (v, .inr (ck, vs))) (hc : vwCl[ck]? = some r) {i : Int32} (j : Nat) (hi : i = nI j) (hj : j < n) (hn : n < 2 ^ 31) (hf : va_up f j (some v) = f') (hdg : decode cc pc = .ok (.aastore, 1)) (hw : ws.set q0 (a, .inl (cA, n, .inr (.inr (.inr (.inr f'))))) = ws')
    (kk : ∀ (H1 : Heap) (locs1 : List Loc), Wd A H0 D ws' H1 locs1 → W p l e R s m args below meth c H1 locs1 cells slots Q (F0 m (pc + 1) ls rest)) : W p l e R s m args below meth c H locs cells slots Q (F0 m pc ls (.ref v :: .int i :: .ref a :: rest)) := by
  obtain ⟨h1, h2⟩ := in_of hi hj hn
  refine va_astq C.1.1 C.1.2.1 C.2.1 G.1 G.2.1 G.2.2 q0 t0 qk ck ha ht hv hc h1 hdg (fun H1 locs1 g1 g2 g3 => kk H1 locs1 ?_)
  rw [h2, hf, hw] at g1 g2
  exact ⟨g1, g2, g3⟩
theorem r_newi (C : Cx p s m c args cc nL Ts own D tys) (G : Wd A H0 D ws H locs) (hA : ∀ q : Nat, H0.size ≤ q → A q) (t0 : Nat) {cI : ClassId} (ht : tys[t0]? = some (cI, .int)) (harr : Cond.arrayClass .int ∈ Ts) {n : Nat} (hn : n < 2 ^ 27) (hcells : cells + 1 ≤ R.cells) (hslots : slots + n ≤ R.slots) (hdg : decode cc pc = .ok (.newarray .int, 2))
    (kk : ∀ (q : Nat) (H1 : Heap), Wd A H0 D (ws ++ [(q, .inl (cI, n, .inl (fun _ => 0)))]) H1 locs → W p l e R s m args below meth c H1 locs (cells + 1) (slots + n) Q (F0 m (pc + 2) ls (.ref q :: rest))) : W p l e R s m args below meth c H locs cells slots Q (F0 m pc ls (.int (nI n) :: rest)) := by
  refine va_newa (atype := .int) (ty := .int) (N' := n) (a0 := (n, .inl (fun _ => 0))) C.1.1 C.1.2.1 (C.1.2.2.2.2 _ harr) rfl C.2.1 G.1 G.2.1 G.2.2 hA (fun cA => rfl) (nI_pos (by omega)) (nI_clamp (by omega)) (by show n * 4 ≤ _; omega) hcells hslots hdg (fun q cA H1 h1 h2 h3 h4 => ?_)
  have e1 : s.vm.findClass ("[" ++ FieldType.int.toString) = some cA := (h1.2 tys.length (cA, .int) (by simp)).2
  have e2 : s.vm.findClass ("[" ++ FieldType.int.toString) = some cI := (C.2.1.2 t0 _ ht).2
  have e3 : cA = cI := Option.some.inj (e1.symm.trans e2)
  subst e3
  exact kk q H1 ⟨h2, h3, h4⟩
end
theorem cv_lt {x y : Int32} {X Y : Int} (hx : x.toInt = X) (hy : y.toInt = Y) : x < y ↔ X < Y := by rw [Int32.lt_iff_toInt_lt, hx, hy]
theorem cv_le {x y : Int32} {X Y : Int} (hx : x.toInt = X) (hy : y.toInt = Y) : x ≤ y ↔ X ≤ Y := by rw [Int32.le_iff_toInt_le, hx, hy]
theorem cv_eq {x y : Int32} {X Y : Int} (hx : x.toInt = X) (hy : y.toInt = Y) : x = y ↔ X = Y := by rw [← Int32.toInt_inj, hx, hy]
/-- a method's end, for an answer that is an int (or a boolean) -/
def RETi (p : Program) (l : Launch) (e : Env) (rm : Room) (s : State) (m : MethodId) (args : Array Value) (below : List Frame) (meth : Method) (c : Code) (A : Nat → Prop) (D : va_G) (cc : ByteArray) (rt : FieldType) (post : Int32 → va_W → Prop) (Q : State → Prop) : Prop :=
  ∀ (v : Int32) (w : va_W) (H : Heap) (locs : List Loc) (ls : Array Slot) (pc cells slots : Nat), post v w → Wd A s.heap D w H locs → cells ≤ rm.cells → slots ≤ rm.slots → narrow rt (.int v) = .int v → decode cc pc = .ok (.ireturn, 1) → W p l e rm s m args below meth c H locs cells slots Q (F0 m pc ls [.int v])
def RETl (p : Program) (l : Launch) (e : Env) (rm : Room) (s : State) (m : MethodId) (args : Array Value) (below : List Frame) (meth : Method) (c : Code) (A : Nat → Prop) (D : va_G) (cc : ByteArray) (post : Int64 → va_W → Prop) (Q : State → Prop) : Prop :=
  ∀ (v : Int64) (w : va_W) (H : Heap) (locs : List Loc) (ls : Array Slot) (pc cells slots : Nat), post v w → Wd A s.heap D w H locs → cells ≤ rm.cells → slots ≤ rm.slots → decode cc pc = .ok (.lreturn, 1) → W p l e rm s m args below meth c H locs cells slots Q (F0 m pc ls [.long v])
def RETv (p : Program) (l : Launch) (e : Env) (rm : Room) (s : State) (m : MethodId) (args : Array Value) (below : List Frame) (meth : Method) (c : Code) (A : Nat → Prop) (D : va_G) (cc : ByteArray) (post : va_W → Prop) (Q : State → Prop) : Prop :=
  ∀ (w : va_W) (H : Heap) (locs : List Loc) (ls : Array Slot) (pc cells slots : Nat), post w → Wd A s.heap D w H locs → cells ≤ rm.cells → slots ≤ rm.slots → decode cc pc = .ok (.return_, 1) → W p l e rm s m args below meth c H locs cells slots Q (F0 m pc ls [])
def RETq (p : Program) (l : Launch) (e : Env) (rm : Room) (s : State) (m : MethodId) (args : Array Value) (below : List Frame) (meth : Method) (c : Code) (A : Nat → Prop) (D : va_G) (cc : ByteArray) (post : Option Nat → va_W → Prop) (Q : State → Prop) : Prop :=
  ∀ (v : Option Nat) (w : va_W) (H : Heap) (locs : List Loc) (ls : Array Slot) (pc cells slots : Nat), post v w → Wd A s.heap D w H locs → cells ≤ rm.cells → slots ≤ rm.slots → decode cc pc = .ok (.areturn, 1) → W p l e rm s m args below meth c H locs cells slots Q (F0 m pc ls [va_rf v])
section
variable {l : Launch} {y : MethodName} {wds wds' : List Cond} {rm : Room} {D : va_G} {tys : List (ClassId × FieldType)} {av : List Value} {ws : va_W} {cc : ByteArray} {maxL : Nat} {rt : FieldType} {own : String}
theorem Ki.mk {post : Int32 → va_W → Prop} (hy : plainName y.cls = true) (hw : wds = Cond.code y cc maxL (some rt) :: wds') (ho : y.cls = own) (hlen : (lg_sl av).length ≤ maxL)
    (body : ∀ (p : Program) (e : Env) (s : State) (m : MethodId) (below : List Frame) (meth : Method) (c : Code) (A : Nat → Prop) (Q : State → Prop) (ls : Array Slot), Cx p s m c av.toArray cc maxL wds own D tys → meth.name = y.name → (∀ q : Nat, s.heap.size ≤ q → A q) → Wd A s.heap D ws s.heap [] → lv_has ls maxL (lv_args 0 av) → RETi p l e rm s m av.toArray below meth c A D cc rt post Q →
      W p l e rm s m av.toArray below meth c s.heap [] 0 0 Q (F0 m 0 ls [])) : Ki l y wds rm D tys av ws post := by
  intro sz
  refine Met.ofW (cc := cc) (maxL := maxL) (ret := some rt) hy hw ?_
  intro p e s m args below meth c s₁ B hml hv
  obtain ⟨rfl, hsz, hP, hK, hD0, hN⟩ := hv
  subst hsz
  have hts := atoms_spec (ws := wds) B.pre
  have hown : s.vm.findClass own = some m.cls := by rw [← ho]; exact findClass_of_methodNamed B.named
  have hD := hD0.self (sz := s.heap.size)
  rw [lg_entry_eq]
  refine body p e s m below meth c (va_A ws s.heap.size) _ _ ⟨⟨B.exec, B.bytes, hml, hown, hts⟩, hK, hN⟩ (name_of_methodNamed B.named B.method).1 (fun q h => Or.inr h) ⟨hP, hD, va_S.rf⟩ (lv_entry av hlen) ?_
  intro v w H locs ls pc cells slots hp G h1 h2 hn hdg
  refine W.widen h1 h2 ?_
  exact W.zret (ty := rt) B.exec B.bytes B.returns hn (fun t ht hW => ⟨⟨v, w, rfl, hp, by rw [ht]; exact G.1, va_K.moved hW.alike hK, G.2.1⟩, G.2.2.F ht⟩) G.2.2.2.2 hdg B.notSynchronized
theorem Kl.mk {post : Int64 → va_W → Prop} (hy : plainName y.cls = true) (hw : wds = Cond.code y cc maxL (some .long) :: wds') (ho : y.cls = own) (hlen : (lg_sl av).length ≤ maxL)
    (body : ∀ (p : Program) (e : Env) (s : State) (m : MethodId) (below : List Frame) (meth : Method) (c : Code) (A : Nat → Prop) (Q : State → Prop) (ls : Array Slot), Cx p s m c av.toArray cc maxL wds own D tys → meth.name = y.name → (∀ q : Nat, s.heap.size ≤ q → A q) → Wd A s.heap D ws s.heap [] → lv_has ls maxL (lv_args 0 av) → RETl p l e rm s m av.toArray below meth c A D cc post Q →
      W p l e rm s m av.toArray below meth c s.heap [] 0 0 Q (F0 m 0 ls [])) : Kl l y wds rm D tys av ws post := by
  intro sz
  refine Met.ofW (cc := cc) (maxL := maxL) (ret := some .long) hy hw ?_
  intro p e s m args below meth c s₁ B hml hv
  obtain ⟨rfl, hsz, hP, hK, hD0, hN⟩ := hv
  subst hsz
  have hts := atoms_spec (ws := wds) B.pre
  have hown : s.vm.findClass own = some m.cls := by rw [← ho]; exact findClass_of_methodNamed B.named
  have hD := hD0.self (sz := s.heap.size)
  rw [lg_entry_eq]
  refine body p e s m below meth c (va_A ws s.heap.size) _ _ ⟨⟨B.exec, B.bytes, hml, hown, hts⟩, hK, hN⟩ (name_of_methodNamed B.named B.method).1 (fun q h => Or.inr h) ⟨hP, hD, va_S.rf⟩ (lv_entry av hlen) ?_
  intro v w H locs ls pc cells slots hp G h1 h2 hdg
  refine W.widen h1 h2 ?_
  exact W.lret B.exec B.bytes B.returns (fun t ht hW => ⟨⟨v, w, rfl, hp, by rw [ht]; exact G.1, va_K.moved hW.alike hK, G.2.1⟩, G.2.2.F ht⟩) G.2.2.2.2 hdg B.notSynchronized
theorem Kv.mk {post : va_W → Prop} (hy : plainName y.cls = true) (hw : wds = Cond.code y cc maxL none :: wds') (ho : y.cls = own) (hlen : (lg_sl av).length ≤ maxL)
    (body : ∀ (p : Program) (e : Env) (s : State) (m : MethodId) (below : List Frame) (meth : Method) (c : Code) (A : Nat → Prop) (Q : State → Prop) (ls : Array Slot), Cx p s m c av.toArray cc maxL wds own D tys → meth.name = y.name → (∀ q : Nat, s.heap.size ≤ q → A q) → Wd A s.heap D ws s.heap [] → lv_has ls maxL (lv_args 0 av) → RETv p l e rm s m av.toArray below meth c A D cc post Q →
      W p l e rm s m av.toArray below meth c s.heap [] 0 0 Q (F0 m 0 ls [])) : Kv l y wds rm D tys av ws post := by
  intro sz
  refine Met.ofW (cc := cc) (maxL := maxL) (ret := none) hy hw ?_
  intro p e s m args below meth c s₁ B hml hv
  obtain ⟨rfl, hsz, hP, hK, hD0, hN⟩ := hv
  subst hsz
  have hts := atoms_spec (ws := wds) B.pre
  have hown : s.vm.findClass own = some m.cls := by rw [← ho]; exact findClass_of_methodNamed B.named
  have hD := hD0.self (sz := s.heap.size)
  rw [lg_entry_eq]
  refine body p e s m below meth c (va_A ws s.heap.size) _ _ ⟨⟨B.exec, B.bytes, hml, hown, hts⟩, hK, hN⟩ (name_of_methodNamed B.named B.method).1 (fun q h => Or.inr h) ⟨hP, hD, va_S.rf⟩ (lv_entry av hlen) ?_
  intro w H locs ls pc cells slots hp G h1 h2 hdg
  refine W.widen h1 h2 ?_
  exact W.vret B.exec B.bytes B.returns (fun t ht hW => ⟨⟨w, rfl, hp, by rw [ht]; exact G.1, va_K.moved hW.alike hK, G.2.1⟩, G.2.2.F ht⟩) G.2.2.2.2 hdg B.notSynchronized
theorem Kq.mk {post : Option Nat → va_W → Prop} (hy : plainName y.cls = true) (hw : wds = Cond.code y cc maxL (some rt) :: wds') (hrt : ∃ n, rt = .object n) (ho : y.cls = own) (hlen : (lg_sl av).length ≤ maxL)
    (body : ∀ (p : Program) (e : Env) (s : State) (m : MethodId) (below : List Frame) (meth : Method) (c : Code) (A : Nat → Prop) (Q : State → Prop) (ls : Array Slot), Cx p s m c av.toArray cc maxL wds own D tys → meth.name = y.name → (∀ q : Nat, s.heap.size ≤ q → A q) → Wd A s.heap D ws s.heap [] → lv_has ls maxL (lv_args 0 av) → RETq p l e rm s m av.toArray below meth c A D cc post Q →
      W p l e rm s m av.toArray below meth c s.heap [] 0 0 Q (F0 m 0 ls [])) : Kq l y wds rm D tys av ws post := by
  intro sz
  refine Met.ofW (cc := cc) (maxL := maxL) (ret := some rt) hy hw ?_
  intro p e s m args below meth c s₁ B hml hv
  obtain ⟨rfl, hsz, hP, hK, hD0, hN⟩ := hv
  subst hsz
  have hts := atoms_spec (ws := wds) B.pre
  have hown : s.vm.findClass own = some m.cls := by rw [← ho]; exact findClass_of_methodNamed B.named
  have hD := hD0.self (sz := s.heap.size)
  rw [lg_entry_eq]
  refine body p e s m below meth c (va_A ws s.heap.size) _ _ ⟨⟨B.exec, B.bytes, hml, hown, hts⟩, hK, hN⟩ (name_of_methodNamed B.named B.method).1 (fun q h => Or.inr h) ⟨hP, hD, va_S.rf⟩ (lv_entry av hlen) ?_
  intro v w H locs ls pc cells slots hp G h1 h2 hdg
  refine W.widen h1 h2 ?_
  exact W.aret (rt := rt) B.exec B.bytes B.returns (Or.inl hrt) (va_rf_or v) (fun t ht hW => ⟨⟨v, w, rfl, hp, by rw [ht]; exact G.1, va_K.moved hW.alike hK, G.2.1⟩, G.2.2.F ht⟩) G.2.2.2.2 hdg B.notSynchronized
end
section
variable {p : Program} {l : Launch} {e : Env} {R : Room} {s : State} {m : MethodId} {args : Array Value} {below : List Frame} {meth : Method} {c : Code} {H : Heap} {locs : List Loc} {cells slots : Nat} {Q : State → Prop}
variable {cc : ByteArray} {pc : Nat} {ls : Array Slot} {rest : List Value}
theorem r_iadd (hx : p.tables.exec = Jvm.exec) (hb : c.code = cc) {a b : Nat} (hdg : decode cc pc = .ok (.iadd, 1)) (k : W p l e R s m args below meth c H locs cells slots Q (F0 m (pc + 1) ls (.int (nI (a + b)) :: rest))) : W p l e R s m args below meth c H locs cells slots Q (F0 m pc ls (.int (nI b) :: .int (nI a) :: rest)) := lv_iadd hx hb hdg (by rw [nI_add]; exact k)
theorem r_isub (hx : p.tables.exec = Jvm.exec) (hb : c.code = cc) {a b : Nat} (h : b ≤ a) (hdg : decode cc pc = .ok (.isub, 1)) (k : W p l e R s m args below meth c H locs cells slots Q (F0 m (pc + 1) ls (.int (nI (a - b)) :: rest))) : W p l e R s m args below meth c H locs cells slots Q (F0 m pc ls (.int (nI b) :: .int (nI a) :: rest)) := lv_isub hx hb hdg (by rw [pk_sub h]; exact k)
theorem r_imul (hx : p.tables.exec = Jvm.exec) (hb : c.code = cc) {a b : Nat} (hdg : decode cc pc = .ok (.imul, 1)) (k : W p l e R s m args below meth c H locs cells slots Q (F0 m (pc + 1) ls (.int (nI (a * b)) :: rest))) : W p l e R s m args below meth c H locs cells slots Q (F0 m pc ls (.int (nI b) :: .int (nI a) :: rest)) := lv_imul hx hb hdg (by rw [pk_mul]; exact k)
theorem r_idiv (hx : p.tables.exec = Jvm.exec) (hb : c.code = cc) {a d : Nat} (ha : a < 2 ^ 31) (h0 : 0 < d) (hd : d < 2 ^ 31) (hdg : decode cc pc = .ok (.idiv, 1)) (k : W p l e R s m args below meth c H locs cells slots Q (F0 m (pc + 1) ls (.int (nI (a / d)) :: rest))) : W p l e R s m args below meth c H locs cells slots Q (F0 m pc ls (.int (nI d) :: .int (nI a) :: rest)) := lv_idiv hx hb hdg (nI_ne0 h0 hd) (by rw [pk_div ha h0 hd]; exact k)
theorem r_irem (hx : p.tables.exec = Jvm.exec) (hb : c.code = cc) {a d : Nat} (ha : a < 2 ^ 31) (h0 : 0 < d) (hd : d < 2 ^ 31) (hdg : decode cc pc = .ok (.irem, 1)) (k : W p l e R s m args below meth c H locs cells slots Q (F0 m (pc + 1) ls (.int (nI (a % d)) :: rest))) : W p l e R s m args below meth c H locs cells slots Q (F0 m pc ls (.int (nI d) :: .int (nI a) :: rest)) := lv_irem hx hb hdg (nI_ne0 h0 hd) (by rw [pk_rem ha h0 hd]; exact k)
theorem r_top {x y : Int32} (h : x = y) (k : W p l e R s m args below meth c H locs cells slots Q (F0 m pc ls (.int y :: rest))) : W p l e R s m args below meth c H locs cells slots Q (F0 m pc ls (.int x :: rest)) := by rw [h]; exact k
theorem r_topl {x y : Int64} (h : x = y) (k : W p l e R s m args below meth c H locs cells slots Q (F0 m pc ls (.long y :: rest))) : W p l e R s m args below meth c H locs cells slots Q (F0 m pc ls (.long x :: rest)) := by rw [h]; exact k
theorem r_st {st st' : List Value} (h : st = st') (k : W p l e R s m args below meth c H locs cells slots Q (F0 m pc ls st')) : W p l e R s m args below meth c H locs cells slots Q (F0 m pc ls st) := by rw [h]; exact k
end
theorem Wd.eq {A : Nat → Prop} {H0 : Heap} {D : va_G} {ws ws' : va_W} {H : Heap} {locs : List Loc} (G : Wd A H0 D ws H locs) (h : ws = ws') : Wd A H0 D ws' H locs := h ▸ G
theorem inc_n (t n : Nat) : nI t + Int32.ofInt (n : Int) = nI (t + n) := by rw [← nI_add]; rfl
theorem nI_upd (f : Nat → Nat) (j v : Nat) : upd (fun i => nI (f i)) j (nI v) = fun i => nI (va_up f j v i) := by
  funext i
  by_cases h : i = j
  · subst h; simp [upd, va_up]
  · simp [upd, va_up, h]
theorem up_same {α : Type} (f : Nat → α) (k : Nat) (v : α) : va_up f k v k = v := by simp [va_up]
theorem up_ne {α : Type} (f : Nat → α) {k j : Nat} (v : α) (h : j ≠ k) : va_up f k v j = f j := by simp [va_up, h]
abbrev TY (cI cO cL : ClassId) : List (ClassId × FieldType) := [(cI, .int), (cO, .object "BatchOrder$Content"), (cL, .long)]
end
section
/-! what a state of the two systems is -/
def bPool (cI : ClassId) (n : Nat) (ca ia : Nat → Nat) (K : Nat → Nat → Nat) (G : Nat → Nat → Int32) : va_W :=
  (List.range n).flatMap (fun r => [(ca r, .inr (0, [.ref (ia r), .int (nI (K 0 r)), .int (nI (K 1 r)), .int (nI (K 2 r)), .int (nI (K 3 r))])), (ia r, .inl (cI, K 4 r, .inl (G r)))])
def bW (cI cO : ClassId) (a ca ia : Nat → Nat) (n : Nat) (O : Nat → Option Nat) (I : Nat → Nat) (J : Nat → Int64) (F : Nat → Nat → Nat) (E : Nat → Nat → Int32) (K : Nat → Nat → Nat) (G : Nat → Nat → Int32) : va_W :=
  [(a 0, .inr (5, [.ref (a 1), .ref (a 2), .ref (a 3), .ref (a 4), .ref (a 14), .int (nI (I 0)), .int (nI (I 1)), .int (nI (I 2))])),
   (a 1, .inr (3, [.ref (a 5), .ref (a 6), .ref (a 7), .int (nI (I 3))])),
   (a 2, .inr (4, [.long (J 0), .int (nI (I 4)), .int (nI (I 5)), .int (nI (I 6)), .int (nI (I 7))])),
   (a 3, .inr (1, [.long (J 1)])),
   (a 4, .inr (2, [.ref (a 1), .ref (a 2), .ref (a 3), .ref (a 8), .int (nI (I 8)), .ref (a 9), .ref (a 10), .ref (a 11), .ref (a 12), .ref (a 13)])),
   (a 5, .inl (cO, 60, .inr (.inr (.inr (.inr O))))),
   (a 6, .inl (cI, 60, .inl (fun i => nI (F 0 i)))), (a 7, .inl (cI, 60, .inl (fun i => nI (F 1 i)))), (a 8, .inl (cI, 60, .inl (fun i => nI (F 2 i)))), (a 9, .inl (cI, 60, .inl (fun i => nI (F 3 i)))),
   (a 10, .inl (cI, 8, .inl (fun i => nI (F 4 i)))), (a 11, .inl (cI, 8, .inl (fun i => nI (F 5 i)))), (a 12, .inl (cI, 8, .inl (fun i => nI (F 6 i)))), (a 13, .inl (cI, 8, .inl (fun i => nI (F 7 i)))),
   (a 14, .inr (0, [.ref (a 15), .int (nI (I 9)), .int (nI (I 10)), .int (nI (I 11)), .int (nI (I 12))])),
   (a 15, .inl (cI, 1600, .inl (E 0)))] ++ bPool cI n ca ia K G
def mW (cI : ClassId) (b : Nat → Nat) (I : Nat → Nat) (J : Nat → Int64) (F : Nat → Nat → Nat) (G : Nat → Nat → Int32) : va_W :=
  [(b 0, .inr (6, [.int (nI (I 0)), .long (J 0), .long (J 1), .int (nI (I 1)), .ref (b 1), .ref (b 2), .ref (b 3), .ref (b 4), .ref (b 5), .ref (b 6), .ref (b 7), .int (nI (I 2)), .int (nI (I 3)), .int (nI (I 4)), .int (nI (I 5)), .ref (b 8), .ref (b 9), .ref (b 10), .ref (b 11), .ref (b 12), .ref (b 13), .int (nI (I 6)), .int (nI (I 7)), .int (nI (I 8)), .int (nI (I 9)), .int (nI (I 10)), .int (nI (I 11)), .int (nI (I 12)), .ref (b 14), .ref (b 15)])),
   (b 1, .inl (cI, 60, .inl (fun i => nI (F 0 i)))), (b 2, .inl (cI, 60, .inl (fun i => nI (F 1 i)))), (b 3, .inl (cI, 60, .inl (fun i => nI (F 2 i)))), (b 4, .inl (cI, 60, .inl (fun i => nI (F 3 i)))), (b 5, .inl (cI, 60, .inl (fun i => nI (F 4 i)))), (b 6, .inl (cI, 60, .inl (fun i => nI (F 5 i)))),
   (b 7, .inl (cI, 96000, .inl (G 0))),
   (b 8, .inl (cI, 60, .inl (fun i => nI (F 6 i)))), (b 9, .inl (cI, 60, .inl (fun i => nI (F 7 i)))),
   (b 10, .inl (cI, 8, .inl (fun i => nI (F 8 i)))), (b 11, .inl (cI, 8, .inl (fun i => nI (F 9 i)))), (b 12, .inl (cI, 8, .inl (fun i => nI (F 10 i)))), (b 13, .inl (cI, 8, .inl (fun i => nI (F 11 i)))),
   (b 14, .inl (cI, 1600, .inl (G 1))), (b 15, .inl (cI, 1600, .inl (G 2)))]
theorem pair_len {α : Type} (f g : Nat → α) (n : Nat) : ((List.range n).flatMap (fun r => [f r, g r])).length = 2 * n := by
  induction n with
  | zero => rfl
  | succ n ih => rw [List.range_succ, List.flatMap_append, List.length_append, ih]; simp; omega
theorem pair_get {α : Type} (f g : Nat → α) (n r : Nat) (h : r < n) : ((List.range n).flatMap (fun r => [f r, g r]))[2 * r]? = some (f r) ∧ ((List.range n).flatMap (fun r => [f r, g r]))[2 * r + 1]? = some (g r) := by
  induction n with
  | zero => omega
  | succ n ih =>
    rw [List.range_succ, List.flatMap_append]
    have hl := pair_len f g n
    by_cases e : r = n
    · subst e
      rw [List.getElem?_append_right (by omega), List.getElem?_append_right (by omega), hl]
      simp
    · obtain ⟨h1, h2⟩ := ih (by omega)
      rw [List.getElem?_append_left (by omega), List.getElem?_append_left (by omega)]
      exact ⟨h1, h2⟩
theorem pair_cases {α : Type} (f g : Nat → α) (n k : Nat) : (∃ r, r < n ∧ k = 2 * r ∧ ((List.range n).flatMap (fun r => [f r, g r]))[k]? = some (f r)) ∨ (∃ r, r < n ∧ k = 2 * r + 1 ∧ ((List.range n).flatMap (fun r => [f r, g r]))[k]? = some (g r)) ∨ (2 * n ≤ k ∧ ((List.range n).flatMap (fun r => [f r, g r]))[k]? = none) := by
  by_cases h : k < 2 * n
  · rcases Nat.mod_two_eq_zero_or_one k with e | e
    · exact Or.inl ⟨k / 2, by omega, by omega, by have := (pair_get f g n (k / 2) (by omega)).1; rwa [show 2 * (k / 2) = k by omega] at this⟩
    · exact Or.inr (Or.inl ⟨k / 2, by omega, by omega, by have := (pair_get f g n (k / 2) (by omega)).2; rwa [show 2 * (k / 2) + 1 = k by omega] at this⟩)
  · exact Or.inr (Or.inr ⟨by omega, List.getElem?_eq_none (by rw [pair_len]; omega)⟩)
theorem pair_set0 {α : Type} (f g : Nat → α) (n r : Nat) (h : r < n) (v : α) : ((List.range n).flatMap (fun r => [f r, g r])).set (2 * r) v = (List.range n).flatMap (fun i => [va_up f r v i, g i]) := by
  apply List.ext_getElem?
  intro k
  rw [List.getElem?_set]
  rcases pair_cases f g n k with ⟨i, hi, rfl, e⟩ | ⟨i, hi, rfl, e⟩ | ⟨hk, e⟩
  · rw [(pair_get (va_up f r v) g n i hi).1]
    by_cases c : i = r
    · subst c; rw [if_pos rfl, if_pos (by rw [pair_len]; omega)]; simp [va_up]
    · rw [if_neg (by omega), e]; simp [va_up, c]
  · rw [(pair_get (va_up f r v) g n i hi).2, if_neg (by omega), e]
  · rw [if_neg (by omega), e]
    exact (List.getElem?_eq_none (by rw [pair_len]; omega)).symm
theorem pair_set1 {α : Type} (f g : Nat → α) (n r : Nat) (h : r < n) (v : α) : ((List.range n).flatMap (fun r => [f r, g r])).set (2 * r + 1) v = (List.range n).flatMap (fun i => [f i, va_up g r v i]) := by
  apply List.ext_getElem?
  intro k
  rw [List.getElem?_set]
  rcases pair_cases f g n k with ⟨i, hi, rfl, e⟩ | ⟨i, hi, rfl, e⟩ | ⟨hk, e⟩
  · rw [(pair_get f (va_up g r v) n i hi).1, if_neg (by omega), e]
  · rw [(pair_get f (va_up g r v) n i hi).2]
    by_cases c : i = r
    · subst c; rw [if_pos rfl, if_pos (by rw [pair_len]; omega)]; simp [va_up]
    · rw [if_neg (by omega), e]; simp [va_up, c]
  · rw [if_neg (by omega), e]
    exact (List.getElem?_eq_none (by rw [pair_len]; omega)).symm
theorem pair_congr {α : Type} {f g f' g' : Nat → α} {n : Nat} (h : ∀ r, r < n → f r = f' r ∧ g r = g' r) : (List.range n).flatMap (fun r => [f r, g r]) = (List.range n).flatMap (fun r => [f' r, g' r]) := by
  induction n with
  | zero => rfl
  | succ n ih =>
    rw [List.range_succ, List.flatMap_append, List.flatMap_append, ih (fun r hr => h r (by omega))]
    obtain ⟨h1, h2⟩ := h n (by omega)
    simp [h1, h2]
section
variable {cI cO : ClassId} {a ca ia : Nat → Nat} {n : Nat} {O : Nat → Option Nat} {I : Nat → Nat} {J : Nat → Int64} {F : Nat → Nat → Nat} {E : Nat → Nat → Int32} {K : Nat → Nat → Nat} {G : Nat → Nat → Int32}
theorem bW_c {r : Nat} (h : r < n) : (bW cI cO a ca ia n O I J F E K G)[16 + 2 * r]? = some (ca r, .inr (0, [.ref (ia r), .int (nI (K 0 r)), .int (nI (K 1 r)), .int (nI (K 2 r)), .int (nI (K 3 r))])) := by
  unfold bW bPool
  rw [List.getElem?_append_right (by simp), show 16 + 2 * r - _ = 2 * r by simp]
  exact (pair_get _ _ n r h).1
theorem bW_i {r : Nat} (h : r < n) : (bW cI cO a ca ia n O I J F E K G)[16 + (2 * r + 1)]? = some (ia r, .inl (cI, K 4 r, .inl (G r))) := by
  unfold bW bPool
  rw [List.getElem?_append_right (by simp), show 16 + (2 * r + 1) - _ = 2 * r + 1 by simp]
  exact (pair_get _ _ n r h).2
theorem bW_setlen {r v : Nat} (h : r < n) : (bW cI cO a ca ia n O I J F E K G).set (16 + 2 * r) (ca r, .inr (0, [.ref (ia r), .int (nI (K 0 r)), .int (nI (K 1 r)), .int (nI (K 2 r)), .int (nI v)])) = bW cI cO a ca ia n O I J F E (va_up K 3 (va_up (K 3) r v)) G := by
  unfold bW bPool
  rw [List.set_append_right _ _ (by simp), show 16 + 2 * r - _ = 2 * r by simp, pair_set0 _ _ n r h]
  congr 1
  apply pair_congr
  intro i _
  refine ⟨?_, rfl⟩
  by_cases c : i = r
  · subst c; simp [va_up]
  · simp [va_up, c]
theorem bW_setitems {r : Nat} {g : Nat → Int32} (h : r < n) : (bW cI cO a ca ia n O I J F E K G).set (16 + (2 * r + 1)) (ia r, .inl (cI, K 4 r, .inl g)) = bW cI cO a ca ia n O I J F E K (va_up G r g) := by
  unfold bW bPool
  rw [List.set_append_right _ _ (by simp), show 16 + (2 * r + 1) - _ = 2 * r + 1 by simp, pair_set1 _ _ n r h]
  congr 1
  apply pair_congr
  intro i _
  refine ⟨rfl, ?_⟩
  by_cases c : i = r
  · subst c; simp [va_up]
  · simp [va_up, c]
end
theorem nI_max {a b : Nat} (ha : a < 2 ^ 31) (hb : b < 2 ^ 31) : (if nI a < nI b then nI b else nI a) = nI (max a b) := by
  by_cases h : a < b
  · rw [if_pos ((nI_ltI ha hb).mpr h), Nat.max_eq_right (by omega)]
  · rw [if_neg (fun q => h ((nI_ltI ha hb).mp q)), Nat.max_eq_left (by omega)]
theorem nI_min {a b : Nat} (ha : a < 2 ^ 31) (hb : b < 2 ^ 31) : (if nI b < nI a then nI b else nI a) = nI (min a b) := by
  by_cases h : b < a
  · rw [if_pos ((nI_ltI hb ha).mpr h), Nat.min_eq_right (by omega)]
  · rw [if_neg (fun q => h ((nI_ltI hb ha).mp q)), Nat.min_eq_left (by omega)]
/-! the draws -/
def gold : Int64 := (-7046029254386353131)
def ush (z : Int64) (k : Nat) : Int64 := (z.toUInt64 >>> ((nI k).toInt64.toUInt64 &&& Int64.toUInt64 63)).toInt64
def mixv (z : Int64) : Int64 :=
  let z1 := (z ^^^ ush z 30) * (-4658895280553007687)
  let z2 := (z1 ^^^ ush z1 27) * (-7723592293110705685)
  z2 ^^^ ush z2 31
def keyv (s k : Int64) : Int64 := mixv (s ^^^ (k * gold))
def dr (s : Int64) (n : Nat) : Nat := ((mixv s).toUInt64.toNat / 2) % n
theorem ush1 (x : Int64) : ush x 1 = lN (x.toUInt64.toNat / 2) ∧ x.toUInt64.toNat / 2 < 2 ^ 63 := by
  have h : x.toUInt64.toNat < 2 ^ 64 := UInt64.toNat_lt _
  refine ⟨?_, by omega⟩
  unfold ush lN
  have e : ((nI 1).toInt64.toUInt64 &&& Int64.toUInt64 63) = 1 := by decide
  rw [e]
  apply Int64.toBitVec_inj.mp
  apply BitVec.eq_of_toNat_eq
  have h1 : ((x.toUInt64 >>> (1 : UInt64)).toInt64).toBitVec.toNat = x.toUInt64.toNat / 2 := by
    show (x.toUInt64 >>> (1 : UInt64)).toNat = _
    rw [UInt64.toNat_shiftRight]
    simp [Nat.shiftRight_eq_div_pow]
  rw [h1]
  show _ = (Int64.ofNat _).toBitVec.toNat
  rw [show (Int64.ofNat (x.toUInt64.toNat / 2)).toBitVec = BitVec.ofNat 64 (x.toUInt64.toNat / 2) from rfl, BitVec.toNat_ofNat, Nat.mod_eq_of_lt (by omega)]
theorem dr_val (s : Int64) {n : Nat} (h0 : 0 < n) (hn : n < 2 ^ 31) : (ush (mixv s) 1 - ush (mixv s) 1 / lN n * lN n).toInt32 = nI (dr s n) := by
  obtain ⟨h1, h2⟩ := ush1 (mixv s)
  rw [h1, pk_lRem h2 h0 (by omega), lN_i]
  rfl
theorem dr_lt (s : Int64) {n : Nat} (h0 : 0 < n) : dr s n < n := Nat.mod_lt _ h0
def nxg (s : Int64) : Int64 := s + gold
/-- a row's mixing: k more places from the last one down, the row begins at o; the draws as variables, so that no check ever opens them -/
def shf (dd : Int64 → Nat → Nat) (nx : Int64 → Int64) (o : Nat) : Nat → (Nat → Nat) → Int64 → (Nat → Nat) × Int64
  | 0, f, s => (f, s)
  | k + 1, f, s => shf dd nx o k (va_up (va_up f (o + (k + 1)) (f (o + dd (nx s) (k + 1 + 1)))) (o + dd (nx s) (k + 1 + 1)) (f (o + (k + 1)))) (nx s)
theorem shf_step {dd : Int64 → Nat → Nat} {nx : Int64 → Int64} {o k d : Nat} {f : Nat → Nat} {s s1 : Int64} (e1 : s1 = nx s) (e2 : d = dd s1 (k + 1 + 1)) : shf dd nx o (k + 1) f s = shf dd nx o k (va_up (va_up f (o + (k + 1)) (f (o + d))) (o + d) (f (o + (k + 1)))) s1 := by
  subst e1; subst e2; rfl
end
section
theorem lN_ne0 {k : Nat} (h0 : 0 < k) (hk : k < 2 ^ 63) : ¬ lN k = 0 := by
  intro h
  have h1 : lN k = lN 0 := h
  rw [pk_lEQ hk (by omega)] at h1
  omega
set_option maxHeartbeats 4000000 in
set_option maxRecDepth 100000 in
theorem c_X2_mixed (l : Launch) (D : va_G) (cI cO cL : ClassId) (ws : va_W) (z : Int64) : Kl l yX2_mixed wsX2_mixed { frames := 0, cells := 0, slots := 0, locals := 0 } D (TY cI cO cL) [.long (z)] (ws) (fun r w => r = mixv z ∧ w = ws) := by
  refine Kl.mk (cc := cX2_mixed) (maxL := 2) (own := RX2) (by decide) rfl rfl (Nat.le_of_ble_eq_true rfl) ?_
  intro p e s m below meth c A Q ls C hname hA G hl RET
  obtain ⟨⟨hx, hb, hml, hown, hts⟩, hK, hN⟩ := id C
  have hl : lv_has ls 2 [(0, .long (z))] := hl
  refine lv_lload_n hx hb dX2_mixed_0 rfl (lv_at hl 0 rfl) ?_
  refine lv_lload_n hx hb dX2_mixed_1 rfl (lv_at hl 0 rfl) ?_
  refine lv_bipush (v := (nI (30))) hx hb dX2_mixed_2 (by decide) ?_
  refine lv_lushr (v := ush z 30) hx hb dX2_mixed_4 rfl ?_
  refine lv_lxor hx hb dX2_mixed_5 ?_
  refine lv_ldc2 (v := (-4658895280553007687)) hx hb hown (hts (.constantLong RX2 23 (-4658895280553007687)) (by decide +kernel)) dX2_mixed_6 ?_
  refine lv_lmul hx hb dX2_mixed_9 ?_
  refine lv_lstore_n (lv' := [(0, .long ((z ^^^ (ush z 30)) * ((-4658895280553007687))))]) hx hb dX2_mixed_10 rfl hl (by decide) rfl (fun ls hl => ?_)
  refine lv_lload_n hx hb dX2_mixed_11 rfl (lv_at hl 0 rfl) ?_
  refine lv_lload_n hx hb dX2_mixed_12 rfl (lv_at hl 0 rfl) ?_
  refine lv_bipush (v := (nI (27))) hx hb dX2_mixed_13 (by decide) ?_
  refine lv_lushr (v := ush ((z ^^^ (ush z 30)) * ((-4658895280553007687))) 27) hx hb dX2_mixed_15 rfl ?_
  refine lv_lxor hx hb dX2_mixed_16 ?_
  refine lv_ldc2 (v := (-7723592293110705685)) hx hb hown (hts (.constantLong RX2 25 (-7723592293110705685)) (by decide +kernel)) dX2_mixed_17 ?_
  refine lv_lmul hx hb dX2_mixed_20 ?_
  refine lv_lstore_n (lv' := [(0, .long ((((z ^^^ (ush z 30)) * ((-4658895280553007687))) ^^^ (ush ((z ^^^ (ush z 30)) * ((-4658895280553007687))) 27)) * ((-7723592293110705685))))]) hx hb dX2_mixed_21 rfl hl (by decide) rfl (fun ls hl => ?_)
  refine lv_lload_n hx hb dX2_mixed_22 rfl (lv_at hl 0 rfl) ?_
  refine lv_lload_n hx hb dX2_mixed_23 rfl (lv_at hl 0 rfl) ?_
  refine lv_bipush (v := (nI (31))) hx hb dX2_mixed_24 (by decide) ?_
  refine lv_lushr (v := ush ((((z ^^^ (ush z 30)) * ((-4658895280553007687))) ^^^ (ush ((z ^^^ (ush z 30)) * ((-4658895280553007687))) 27)) * ((-7723592293110705685))) 31) hx hb dX2_mixed_26 rfl ?_
  refine lv_lxor hx hb dX2_mixed_27 ?_
  exact RET (((((z ^^^ (ush z 30)) * ((-4658895280553007687))) ^^^ (ush ((z ^^^ (ush z 30)) * ((-4658895280553007687))) 27)) * ((-7723592293110705685))) ^^^ (ush ((((z ^^^ (ush z 30)) * ((-4658895280553007687))) ^^^ (ush ((z ^^^ (ush z 30)) * ((-4658895280553007687))) 27)) * ((-7723592293110705685))) 31)) (ws) _ _ ls _ _ _ (⟨rfl, rfl⟩) G (by first | (simp only []; omega) | decide) (by first | (simp only []; omega) | decide) dX2_mixed_28
set_option maxHeartbeats 4000000 in
set_option maxRecDepth 100000 in
theorem c_X7_mix (l : Launch) (D : va_G) (cI cO cL : ClassId) (ws : va_W) (z : Int64) : Kl l yX7_mix wsX7_mix { frames := 0, cells := 0, slots := 0, locals := 0 } D (TY cI cO cL) [.long (z)] (ws) (fun r w => r = mixv z ∧ w = ws) := by
  refine Kl.mk (cc := cX7_mix) (maxL := 4) (own := RX7) (by decide) rfl rfl (Nat.le_of_ble_eq_true rfl) ?_
  intro p e s m below meth c A Q ls C hname hA G hl RET
  obtain ⟨⟨hx, hb, hml, hown, hts⟩, hK, hN⟩ := id C
  have hl : lv_has ls 4 [(0, .long (z))] := hl
  refine lv_lload_n hx hb dX7_mix_0 rfl (lv_at hl 0 rfl) ?_
  refine lv_lload_n hx hb dX7_mix_1 rfl (lv_at hl 0 rfl) ?_
  refine lv_bipush (v := (nI (30))) hx hb dX7_mix_2 (by decide) ?_
  refine lv_lushr (v := ush z 30) hx hb dX7_mix_4 rfl ?_
  refine lv_lxor hx hb dX7_mix_5 ?_
  refine lv_ldc2 (v := (-4658895280553007687)) hx hb hown (hts (.constantLong RX7 72 (-4658895280553007687)) (by decide +kernel)) dX7_mix_6 ?_
  refine lv_lmul hx hb dX7_mix_9 ?_
  refine lv_lstore_n (lv' := [(2, .long ((z ^^^ (ush z 30)) * ((-4658895280553007687)))), (0, .long (z))]) hx hb dX7_mix_10 rfl hl (by decide) rfl (fun ls hl => ?_)
  refine lv_lload_n hx hb dX7_mix_11 rfl (lv_at hl 0 rfl) ?_
  refine lv_lload_n hx hb dX7_mix_12 rfl (lv_at hl 0 rfl) ?_
  refine lv_bipush (v := (nI (27))) hx hb dX7_mix_13 (by decide) ?_
  refine lv_lushr (v := ush ((z ^^^ (ush z 30)) * ((-4658895280553007687))) 27) hx hb dX7_mix_15 rfl ?_
  refine lv_lxor hx hb dX7_mix_16 ?_
  refine lv_ldc2 (v := (-7723592293110705685)) hx hb hown (hts (.constantLong RX7 74 (-7723592293110705685)) (by decide +kernel)) dX7_mix_17 ?_
  refine lv_lmul hx hb dX7_mix_20 ?_
  refine lv_lstore_n (lv' := [(2, .long ((((z ^^^ (ush z 30)) * ((-4658895280553007687))) ^^^ (ush ((z ^^^ (ush z 30)) * ((-4658895280553007687))) 27)) * ((-7723592293110705685)))), (0, .long (z))]) hx hb dX7_mix_21 rfl hl (by decide) rfl (fun ls hl => ?_)
  refine lv_lload_n hx hb dX7_mix_22 rfl (lv_at hl 0 rfl) ?_
  refine lv_lload_n hx hb dX7_mix_23 rfl (lv_at hl 0 rfl) ?_
  refine lv_bipush (v := (nI (31))) hx hb dX7_mix_24 (by decide) ?_
  refine lv_lushr (v := ush ((((z ^^^ (ush z 30)) * ((-4658895280553007687))) ^^^ (ush ((z ^^^ (ush z 30)) * ((-4658895280553007687))) 27)) * ((-7723592293110705685))) 31) hx hb dX7_mix_26 rfl ?_
  refine lv_lxor hx hb dX7_mix_27 ?_
  exact RET (((((z ^^^ (ush z 30)) * ((-4658895280553007687))) ^^^ (ush ((z ^^^ (ush z 30)) * ((-4658895280553007687))) 27)) * ((-7723592293110705685))) ^^^ (ush ((((z ^^^ (ush z 30)) * ((-4658895280553007687))) ^^^ (ush ((z ^^^ (ush z 30)) * ((-4658895280553007687))) 27)) * ((-7723592293110705685))) 31)) (ws) _ _ ls _ _ _ (⟨rfl, rfl⟩) G (by first | (simp only []; omega) | decide) (by first | (simp only []; omega) | decide) dX7_mix_28
set_option maxHeartbeats 4000000 in
set_option maxRecDepth 100000 in
theorem c_X2_begin (l : Launch) (D : va_G) (cI cO cL : ClassId) (a ca ia : Nat → Nat) (n : Nat) (O : Nat → Option Nat) (I : Nat → Nat) (J : Nat → Int64) (F : Nat → Nat → Nat) (E : Nat → Nat → Int32) (K : Nat → Nat → Nat) (G0 : Nat → Nat → Int32) (z : Int64) : Kv l yX2_begin wsX2_begin { frames := 0, cells := 0, slots := 0, locals := 0 } D (TY cI cO cL) [.ref (a 3), .long (z)] (bW cI cO a ca ia n O I J F E K G0) (fun w => w = bW cI cO a ca ia n O I (va_up J 1 z) F E K G0) := by
  refine Kv.mk (cc := cX2_begin) (maxL := 3) (own := RX2) (by decide) rfl rfl (Nat.le_of_ble_eq_true rfl) ?_
  intro p e s m below meth c A Q ls C hname hA G hl RET
  obtain ⟨⟨hx, hb, hml, hown, hts⟩, hK, hN⟩ := id C
  have hl : lv_has ls 3 [(0, .ref (a 3)), (1, .long (z))] := hl
  have hX2 : ∀ w ∈ u_ws RX2 TX2 1, w ∈ wsX2_begin := by decide +kernel
  refine lv_aload_n hx hb dX2_begin_0 rfl (lv_at hl 0 rfl) ?_
  refine lv_lload_n hx hb dX2_begin_1 rfl (lv_at hl 1 rfl) ?_
  refine r_put (ws' := bW cI cO a ca ia n O I (va_up J 1 z) F E K G0) C G hX2 tyX2_ok nmX2 3 rfl rfl 0 (by decide) (by decide +kernel) rfl rfl rfl (Nat.le_of_ble_eq_true rfl) dX2_begin_2 rfl (fun H locs G => ?_)
  exact RET (bW cI cO a ca ia n O I (va_up J 1 z) F E K G0) _ _ ls _ _ _ (rfl) G (by first | (simp only []; omega) | decide) (by first | (simp only []; omega) | decide) dX2_begin_5
set_option maxHeartbeats 4000000 in
set_option maxRecDepth 100000 in
theorem c_X7_begin (l : Launch) (D : va_G) (cI cO cL : ClassId) (b : Nat → Nat) (I : Nat → Nat) (J : Nat → Int64) (F : Nat → Nat → Nat) (G0 : Nat → Nat → Int32) : Kv l yX7_begin wsX7_begin { frames := 0, cells := 0, slots := 0, locals := 0 } D (TY cI cO cL) [.ref (b 0)] (mW cI b I J F G0) (fun w => w = mW cI b I (va_up J 1 (J 0)) F G0) := by
  refine Kv.mk (cc := cX7_begin) (maxL := 1) (own := RX7) (by decide) rfl rfl (Nat.le_of_ble_eq_true rfl) ?_
  intro p e s m below meth c A Q ls C hname hA G hl RET
  obtain ⟨⟨hx, hb, hml, hown, hts⟩, hK, hN⟩ := id C
  have hl : lv_has ls 1 [(0, .ref (b 0))] := hl
  have hX7 : ∀ w ∈ u_ws RX7 TX7 30, w ∈ wsX7_begin := by decide +kernel
  refine lv_aload_n hx hb dX7_begin_0 rfl (lv_at hl 0 rfl) ?_
  refine lv_aload_n hx hb dX7_begin_1 rfl (lv_at hl 0 rfl) ?_
  refine r_get (v := .long (J 0)) C G hX7 0 rfl rfl 1 (by decide) (by decide +kernel) rfl dX7_begin_2 ?_
  refine r_put (ws' := mW cI b I (va_up J 1 (J 0)) F G0) C G hX7 tyX7_ok nmX7 0 rfl rfl 2 (by decide) (by decide +kernel) rfl rfl rfl (Nat.le_of_ble_eq_true rfl) dX7_begin_5 rfl (fun H locs G => ?_)
  exact RET (mW cI b I (va_up J 1 (J 0)) F G0) _ _ ls _ _ _ (rfl) G (by first | (simp only []; omega) | decide) (by first | (simp only []; omega) | decide) dX7_begin_8
set_option maxHeartbeats 4000000 in
set_option maxRecDepth 100000 in
theorem c_X2_key (l : Launch) (D : va_G) (cI cO cL : ClassId) (a ca ia : Nat → Nat) (n : Nat) (O : Nat → Option Nat) (I : Nat → Nat) (J : Nat → Int64) (F : Nat → Nat → Nat) (E : Nat → Nat → Int32) (K : Nat → Nat → Nat) (G0 : Nat → Nat → Int32) (k : Nat) (hk : k < 2 ^ 31) : Kv l yX2_key wsX2_key { frames := 1, cells := 0, slots := 0, locals := 21 } D (TY cI cO cL) [.ref (a 3), .int (nI (k))] (bW cI cO a ca ia n O I J F E K G0) (fun w => ∃ σ, σ = keyv (J 1) (lN k) ∧ w = bW cI cO a ca ia n O I (va_up J 1 (σ)) F E K G0) := by
  refine Kv.mk (cc := cX2_key) (maxL := 2) (own := RX2) (by decide) rfl rfl (Nat.le_of_ble_eq_true rfl) ?_
  intro p e s m below meth c A Q ls C hname hA G hl RET
  obtain ⟨⟨hx, hb, hml, hown, hts⟩, hK, hN⟩ := id C
  have hl : lv_has ls 2 [(0, .ref (a 3)), (1, .int (nI (k)))] := hl
  have hX2 : ∀ w ∈ u_ws RX2 TX2 1, w ∈ wsX2_key := by decide +kernel
  refine lv_aload_n hx hb dX2_key_0 rfl (lv_at hl 0 rfl) ?_
  refine lv_aload_n hx hb dX2_key_1 rfl (lv_at hl 0 rfl) ?_
  refine r_get (v := .long (J 1)) C G hX2 3 rfl rfl 0 (by decide) (by decide +kernel) rfl dX2_key_2 ?_
  refine lv_iload_n hx hb dX2_key_5 rfl (lv_at hl 1 rfl) ?_
  refine lv_i2l (v := lN (k)) hx hb dX2_key_6 (nI_l (by omega)) ?_
  refine lv_ldc2 (v := gold) hx hb hown (hts (.constantLong RX2 13 (-7046029254386353131)) (by decide +kernel)) dX2_key_7 ?_
  refine lv_lmul hx hb dX2_key_10 ?_
  refine lv_lxor hx hb dX2_key_11 ?_
  refine r_al G hA (r_rS (na := 1) (As := [.long ((J 1) ^^^ ((lN (k)) * gold))]) (rest := [.ref (a 3)]) C G (c_X2_mixed l D cI cO cL (bW cI cO a ca ia n O I J F E K G0) ((J 1) ^^^ ((lN (k)) * gold))) gX2_key_X2_mixed rfl (by decide +kernel) ⟨Nat.le_of_ble_eq_true rfl, Nat.le_of_ble_eq_true rfl⟩ rfl hl.1 rfl (Nat.le_of_ble_eq_true rfl) dX2_key_12 ⟨by first | (simp only []; omega) | decide, by first | (simp only []; omega) | decide⟩) (fun r12 w12 H locs hp12 G => ?_)
  obtain ⟨rfl, rfl⟩ := hp12
  refine r_put (ws' := bW cI cO a ca ia n O I (va_up J 1 (mixv ((J 1) ^^^ ((lN (k)) * gold)))) F E K G0) C G hX2 tyX2_ok nmX2 3 rfl rfl 0 (by decide) (by decide +kernel) rfl rfl rfl (Nat.le_of_ble_eq_true rfl) dX2_key_15 rfl (fun H locs G => ?_)
  exact RET (bW cI cO a ca ia n O I (va_up J 1 (mixv ((J 1) ^^^ ((lN (k)) * gold)))) F E K G0) _ _ ls _ _ _ (⟨_, rfl, rfl⟩) G (by first | (simp only []; omega) | decide) (by first | (simp only []; omega) | decide) dX2_key_18
set_option maxHeartbeats 4000000 in
set_option maxRecDepth 100000 in
theorem c_X7_with (l : Launch) (D : va_G) (cI cO cL : ClassId) (b : Nat → Nat) (I : Nat → Nat) (J : Nat → Int64) (F : Nat → Nat → Nat) (G0 : Nat → Nat → Int32) (k : Int64) : Kv l yX7_with wsX7_with { frames := 1, cells := 0, slots := 0, locals := 23 } D (TY cI cO cL) [.ref (b 0), .long (k)] (mW cI b I J F G0) (fun w => ∃ σ, σ = keyv (J 1) k ∧ w = mW cI b I (va_up J 1 (σ)) F G0) := by
  refine Kv.mk (cc := cX7_with) (maxL := 3) (own := RX7) (by decide) rfl rfl (Nat.le_of_ble_eq_true rfl) ?_
  intro p e s m below meth c A Q ls C hname hA G hl RET
  obtain ⟨⟨hx, hb, hml, hown, hts⟩, hK, hN⟩ := id C
  have hl : lv_has ls 3 [(0, .ref (b 0)), (1, .long (k))] := hl
  have hX7 : ∀ w ∈ u_ws RX7 TX7 30, w ∈ wsX7_with := by decide +kernel
  refine lv_aload_n hx hb dX7_with_0 rfl (lv_at hl 0 rfl) ?_
  refine lv_aload_n hx hb dX7_with_1 rfl (lv_at hl 0 rfl) ?_
  refine r_get (v := .long (J 1)) C G hX7 0 rfl rfl 2 (by decide) (by decide +kernel) rfl dX7_with_2 ?_
  refine lv_lload_n hx hb dX7_with_5 rfl (lv_at hl 1 rfl) ?_
  refine lv_ldc2 (v := gold) hx hb hown (hts (.constantLong RX7 83 (-7046029254386353131)) (by decide +kernel)) dX7_with_6 ?_
  refine lv_lmul hx hb dX7_with_9 ?_
  refine lv_lxor hx hb dX7_with_10 ?_
  refine r_al G hA (r_rS (na := 1) (As := [.long ((J 1) ^^^ (k * gold))]) (rest := [.ref (b 0)]) C G (c_X7_mix l D cI cO cL (mW cI b I J F G0) ((J 1) ^^^ (k * gold))) gX7_with_X7_mix rfl (by decide +kernel) ⟨Nat.le_of_ble_eq_true rfl, Nat.le_of_ble_eq_true rfl⟩ rfl hl.1 rfl (Nat.le_of_ble_eq_true rfl) dX7_with_11 ⟨by first | (simp only []; omega) | decide, by first | (simp only []; omega) | decide⟩) (fun r11 w11 H locs hp11 G => ?_)
  obtain ⟨rfl, rfl⟩ := hp11
  refine r_put (ws' := mW cI b I (va_up J 1 (mixv ((J 1) ^^^ (k * gold)))) F G0) C G hX7 tyX7_ok nmX7 0 rfl rfl 2 (by decide) (by decide +kernel) rfl rfl rfl (Nat.le_of_ble_eq_true rfl) dX7_with_14 rfl (fun H locs G => ?_)
  exact RET (mW cI b I (va_up J 1 (mixv ((J 1) ^^^ (k * gold)))) F G0) _ _ ls _ _ _ (⟨_, rfl, rfl⟩) G (by first | (simp only []; omega) | decide) (by first | (simp only []; omega) | decide) dX7_with_17
set_option maxHeartbeats 4000000 in
set_option maxRecDepth 100000 in
theorem c_X2_below (l : Launch) (D : va_G) (cI cO cL : ClassId) (a ca ia : Nat → Nat) (n : Nat) (O : Nat → Option Nat) (I : Nat → Nat) (J : Nat → Int64) (F : Nat → Nat → Nat) (E : Nat → Nat → Int32) (K : Nat → Nat → Nat) (G0 : Nat → Nat → Int32) (k : Nat) (h0 : 0 < k) (hk : k < 2 ^ 31) : Ki l yX2_below wsX2_below { frames := 1, cells := 0, slots := 0, locals := 21 } D (TY cI cO cL) [.ref (a 3), .int (nI (k))] (bW cI cO a ca ia n O I J F E K G0) (fun r w => ∃ d σ, σ = nxg (J 1) ∧ d = dr σ k ∧ d < k ∧ r = nI d ∧ w = bW cI cO a ca ia n O I (va_up J 1 (σ)) F E K G0) := by
  refine Ki.mk (cc := cX2_below) (maxL := 2) (rt := .int) (own := RX2) (by decide) rfl rfl (Nat.le_of_ble_eq_true rfl) ?_
  intro p e s m below meth c A Q ls C hname hA G hl RET
  obtain ⟨⟨hx, hb, hml, hown, hts⟩, hK, hN⟩ := id C
  have hl : lv_has ls 2 [(0, .ref (a 3)), (1, .int (nI (k)))] := hl
  have hX2 : ∀ w ∈ u_ws RX2 TX2 1, w ∈ wsX2_below := by decide +kernel
  refine lv_iload_n hx hb dX2_below_0 rfl (lv_at hl 1 rfl) ?_
  refine lv_iconst (v := (nI (1))) hx hb dX2_below_1 (by decide) ?_
  refine lv_icmp_ge (tgt := 7) hx hb dX2_below_2 (by decide) (fun c2 => ?_) (fun c2 => ?_)
  · skip
    replace c2 : ((1 : Nat) : Int) ≤ ((k : Nat) : Int) := (cv_le (nI_toInt (by omega)) (nI_toInt (by omega))).mp c2
    refine lv_aload_n hx hb dX2_below_7 rfl (lv_at hl 0 rfl) ?_
    refine lv_dup hx hb dX2_below_8 rfl ?_
    refine r_get (v := .long (J 1)) C G hX2 3 rfl rfl 0 (by decide) (by decide +kernel) rfl dX2_below_9 ?_
    refine lv_ldc2 (v := gold) hx hb hown (hts (.constantLong RX2 13 (-7046029254386353131)) (by decide +kernel)) dX2_below_12 ?_
    refine lv_ladd hx hb dX2_below_15 ?_
    refine r_put (ws' := bW cI cO a ca ia n O I (va_up J 1 ((J 1) + gold)) F E K G0) C G hX2 tyX2_ok nmX2 3 rfl rfl 0 (by decide) (by decide +kernel) rfl rfl rfl (Nat.le_of_ble_eq_true rfl) dX2_below_16 rfl (fun H locs G => ?_)
    refine lv_aload_n hx hb dX2_below_19 rfl (lv_at hl 0 rfl) ?_
    refine r_get (v := .long ((J 1) + gold)) C G hX2 3 rfl rfl 0 (by decide) (by decide +kernel) rfl dX2_below_20 ?_
    refine r_al G hA (r_rS (na := 1) (As := [.long ((J 1) + gold)]) (rest := []) C G (c_X2_mixed l D cI cO cL (bW cI cO a ca ia n O I (va_up J 1 ((J 1) + gold)) F E K G0) ((J 1) + gold)) gX2_below_X2_mixed rfl (by decide +kernel) ⟨Nat.le_of_ble_eq_true rfl, Nat.le_of_ble_eq_true rfl⟩ rfl hl.1 rfl (Nat.le_of_ble_eq_true rfl) dX2_below_23 ⟨by first | (simp only []; omega) | decide, by first | (simp only []; omega) | decide⟩) (fun r23 w23 H locs hp23 G => ?_)
    obtain ⟨rfl, rfl⟩ := hp23
    refine lv_iconst (v := (nI (1))) hx hb dX2_below_26 (by decide) ?_
    refine lv_lushr (v := ush (mixv ((J 1) + gold)) 1) hx hb dX2_below_27 rfl ?_
    refine lv_iload_n hx hb dX2_below_28 rfl (lv_at hl 1 rfl) ?_
    refine lv_i2l (v := lN (k)) hx hb dX2_below_29 (nI_l (by omega)) ?_
    refine lv_lrem hx hb dX2_below_30 (lN_ne0 (by omega) (by omega)) ?_
    refine lv_l2i hx hb dX2_below_31 rfl ?_
    exact RET (((ush (mixv ((J 1) + gold)) 1) - (ush (mixv ((J 1) + gold)) 1) / (lN (k)) * (lN (k))).toInt32) (bW cI cO a ca ia n O I (va_up J 1 ((J 1) + gold)) F E K G0) _ _ ls _ _ _ (⟨_, _, rfl, rfl, dr_lt _ h0, dr_val _ h0 hk, rfl⟩) G (by first | (simp only []; omega) | decide) (by first | (simp only []; omega) | decide) rfl dX2_below_32
  · skip
    replace c2 : ((k : Nat) : Int) < ((1 : Nat) : Int) := Int.not_le.mp (fun h => c2 ((cv_le (nI_toInt (by omega)) (nI_toInt (by omega))).mpr h))
    exact absurd c2 (by omega)
set_option maxHeartbeats 4000000 in
set_option maxRecDepth 100000 in
theorem c_X7_draw (l : Launch) (D : va_G) (cI cO cL : ClassId) (b : Nat → Nat) (I : Nat → Nat) (J : Nat → Int64) (F : Nat → Nat → Nat) (G0 : Nat → Nat → Int32) (k : Nat) (h0 : 0 < k) (hk : k < 2 ^ 31) : Ki l yX7_draw wsX7_draw { frames := 1, cells := 0, slots := 0, locals := 23 } D (TY cI cO cL) [.ref (b 0), .long (lN k)] (mW cI b I J F G0) (fun r w => ∃ d σ, σ = nxg (J 1) ∧ d = dr σ k ∧ d < k ∧ r = nI d ∧ w = mW cI b I (va_up J 1 (σ)) F G0) := by
  refine Ki.mk (cc := cX7_draw) (maxL := 3) (rt := .int) (own := RX7) (by decide) rfl rfl (Nat.le_of_ble_eq_true rfl) ?_
  intro p e s m below meth c A Q ls C hname hA G hl RET
  obtain ⟨⟨hx, hb, hml, hown, hts⟩, hK, hN⟩ := id C
  have hl : lv_has ls 3 [(0, .ref (b 0)), (1, .long (lN k))] := hl
  have hX7 : ∀ w ∈ u_ws RX7 TX7 30, w ∈ wsX7_draw := by decide +kernel
  refine lv_aload_n hx hb dX7_draw_0 rfl (lv_at hl 0 rfl) ?_
  refine lv_dup hx hb dX7_draw_1 rfl ?_
  refine r_get (v := .long (J 1)) C G hX7 0 rfl rfl 2 (by decide) (by decide +kernel) rfl dX7_draw_2 ?_
  refine lv_ldc2 (v := gold) hx hb hown (hts (.constantLong RX7 83 (-7046029254386353131)) (by decide +kernel)) dX7_draw_5 ?_
  refine lv_ladd hx hb dX7_draw_8 ?_
  refine r_put (ws' := mW cI b I (va_up J 1 ((J 1) + gold)) F G0) C G hX7 tyX7_ok nmX7 0 rfl rfl 2 (by decide) (by decide +kernel) rfl rfl rfl (Nat.le_of_ble_eq_true rfl) dX7_draw_9 rfl (fun H locs G => ?_)
  refine lv_aload_n hx hb dX7_draw_12 rfl (lv_at hl 0 rfl) ?_
  refine r_get (v := .long ((J 1) + gold)) C G hX7 0 rfl rfl 2 (by decide) (by decide +kernel) rfl dX7_draw_13 ?_
  refine r_al G hA (r_rS (na := 1) (As := [.long ((J 1) + gold)]) (rest := []) C G (c_X7_mix l D cI cO cL (mW cI b I (va_up J 1 ((J 1) + gold)) F G0) ((J 1) + gold)) gX7_draw_X7_mix rfl (by decide +kernel) ⟨Nat.le_of_ble_eq_true rfl, Nat.le_of_ble_eq_true rfl⟩ rfl hl.1 rfl (Nat.le_of_ble_eq_true rfl) dX7_draw_16 ⟨by first | (simp only []; omega) | decide, by first | (simp only []; omega) | decide⟩) (fun r16 w16 H locs hp16 G => ?_)
  obtain ⟨rfl, rfl⟩ := hp16
  refine lv_iconst (v := (nI (1))) hx hb dX7_draw_19 (by decide) ?_
  refine lv_lushr (v := ush (mixv ((J 1) + gold)) 1) hx hb dX7_draw_20 rfl ?_
  refine lv_lload_n hx hb dX7_draw_21 rfl (lv_at hl 1 rfl) ?_
  refine lv_lrem hx hb dX7_draw_22 (lN_ne0 (by omega) (by omega)) ?_
  refine lv_l2i hx hb dX7_draw_23 rfl ?_
  exact RET (((ush (mixv ((J 1) + gold)) 1) - (ush (mixv ((J 1) + gold)) 1) / (lN k) * (lN k)).toInt32) (mW cI b I (va_up J 1 ((J 1) + gold)) F G0) _ _ ls _ _ _ (⟨_, _, rfl, rfl, dr_lt _ h0, dr_val _ h0 hk, rfl⟩) G (by first | (simp only []; omega) | decide) (by first | (simp only []; omega) | decide) rfl dX7_draw_24
end
section
set_option maxHeartbeats 4000000 in
set_option maxRecDepth 100000 in
theorem c_X2_shuffle_p (l : Launch) (D : va_G) (cI cO cL : ClassId) (a ca ia : Nat → Nat) (n : Nat) (O : Nat → Option Nat) (I : Nat → Nat) (J : Nat → Int64) (F : Nat → Nat → Nat) (E : Nat → Nat → Int32) (K : Nat → Nat → Nat) (G0 : Nat → Nat → Int32) (o q : Nat) (h : o + q ≤ 60) : Kv l yX2_shuffle wsX2_shuffle { frames := 2, cells := 0, slots := 0, locals := 42 } D (TY cI cO cL) [.ref (a 3), .ref (a 8), .int (nI (o)), .int (nI (q))] (bW cI cO a ca ia n O I J F E K G0) (fun w => ∃ g σ, (g, σ) = shf dr nxg o (q - 1) (F 2) (J 1) ∧ w = bW cI cO a ca ia n O I (va_up J 1 (σ)) (va_up F 2 g) E K G0) := by
  refine Kv.mk (cc := cX2_shuffle) (maxL := 7) (own := RX2) (by decide) rfl rfl (Nat.le_of_ble_eq_true rfl) ?_
  intro p e s m below meth c A Q ls C hname hA G hl RET
  obtain ⟨⟨hx, hb, hml, hown, hts⟩, hK, hN⟩ := id C
  have hl : lv_has ls 7 [(0, .ref (a 3)), (1, .ref (a 8)), (2, .int (nI (o))), (3, .int (nI (q)))] := hl
  rcases Nat.eq_zero_or_pos q with rfl | hq
  · skip
    refine lv_iload_n hx hb dX2_shuffle_0 rfl (lv_at hl 2 rfl) ?_
    refine lv_if_lt (tgt := 12) hx hb dX2_shuffle_1 (by decide) (fun c1 => ?_) (fun c1 => ?_)
    · skip
      replace c1 : ((o : Nat) : Int) < (0) := (cv_lt (nI_toInt (by omega)) (by decide)).mp c1
      exact absurd c1 (by omega)
    · skip
      replace c1 : (0) ≤ ((o : Nat) : Int) := Int.not_lt.mp (fun h => c1 ((cv_lt (nI_toInt (by omega)) (by decide)).mpr h))
      refine lv_iload_n hx hb dX2_shuffle_4 rfl (lv_at hl 3 rfl) ?_
      refine lv_aload_n hx hb dX2_shuffle_5 rfl (lv_at hl 1 rfl) ?_
      refine r_alen C G 8 0 rfl rfl dX2_shuffle_6 ?_
      refine r_top (y := nI (60)) rfl ?_
      refine lv_iload_n hx hb dX2_shuffle_7 rfl (lv_at hl 2 rfl) ?_
      refine r_isub hx hb (by omega) dX2_shuffle_8 ?_
      refine lv_icmp_le (tgt := 13) hx hb dX2_shuffle_9 (by decide) (fun c9 => ?_) (fun c9 => ?_)
      · skip
        replace c9 : ((0 : Nat) : Int) ≤ ((60 - o : Nat) : Int) := (cv_le (nI_toInt (by omega)) (nI_toInt (by omega))).mp c9
        refine lv_iload_n hx hb dX2_shuffle_13 rfl (lv_at hl 3 rfl) ?_
        refine lv_iconst (v := (nI (1))) hx hb dX2_shuffle_14 (by decide) ?_
        refine lv_isub hx hb dX2_shuffle_15 ?_
        refine r_top (y := (-1)) (by decide) ?_
        refine lv_istore (lv' := [(4, .int ((-1))), (0, .ref (a 3)), (1, .ref (a 8)), (2, .int (nI (o))), (3, .int (nI (0)))]) hx hb dX2_shuffle_16 hl (by decide) rfl (fun ls hl => ?_)
        refine lv_iload hx hb dX2_shuffle_18 (lv_at hl 0 rfl) ?_
        refine lv_iconst (v := (nI (1))) hx hb dX2_shuffle_20 (by decide) ?_
        refine lv_icmp_lt (tgt := 66) hx hb dX2_shuffle_21 (by decide) (fun c21 => ?_) (fun c21 => ?_)
        · skip
          exact RET (bW cI cO a ca ia n O I J F E K G0) _ _ ls _ _ _ (⟨F 2, J 1, rfl, rfl⟩) G (by first | (simp only []; omega) | decide) (by first | (simp only []; omega) | decide) dX2_shuffle_66
        · skip
          exact absurd c21 (by decide)
      · skip
        replace c9 : ((60 - o : Nat) : Int) < ((0 : Nat) : Int) := Int.not_le.mp (fun h => c9 ((cv_le (nI_toInt (by omega)) (nI_toInt (by omega))).mpr h))
        exact absurd c9 (by omega)
  · skip
    refine lv_iload_n hx hb dX2_shuffle_0 rfl (lv_at hl 2 rfl) ?_
    refine lv_if_lt (tgt := 12) hx hb dX2_shuffle_1 (by decide) (fun c1 => ?_) (fun c1 => ?_)
    · skip
      replace c1 : ((o : Nat) : Int) < (0) := (cv_lt (nI_toInt (by omega)) (by decide)).mp c1
      exact absurd c1 (by omega)
    · skip
      replace c1 : (0) ≤ ((o : Nat) : Int) := Int.not_lt.mp (fun h => c1 ((cv_lt (nI_toInt (by omega)) (by decide)).mpr h))
      refine lv_iload_n hx hb dX2_shuffle_4 rfl (lv_at hl 3 rfl) ?_
      refine lv_aload_n hx hb dX2_shuffle_5 rfl (lv_at hl 1 rfl) ?_
      refine r_alen C G 8 0 rfl rfl dX2_shuffle_6 ?_
      refine r_top (y := nI (60)) rfl ?_
      refine lv_iload_n hx hb dX2_shuffle_7 rfl (lv_at hl 2 rfl) ?_
      refine r_isub hx hb (by omega) dX2_shuffle_8 ?_
      refine lv_icmp_le (tgt := 13) hx hb dX2_shuffle_9 (by decide) (fun c9 => ?_) (fun c9 => ?_)
      · skip
        replace c9 : ((q : Nat) : Int) ≤ ((60 - o : Nat) : Int) := (cv_le (nI_toInt (by omega)) (nI_toInt (by omega))).mp c9
        refine lv_iload_n hx hb dX2_shuffle_13 rfl (lv_at hl 3 rfl) ?_
        refine lv_iconst (v := (nI (1))) hx hb dX2_shuffle_14 (by decide) ?_
        refine r_isub hx hb (by omega) dX2_shuffle_15 ?_
        refine lv_istore (lv' := [(4, .int (nI (q - 1))), (0, .ref (a 3)), (1, .ref (a 8)), (2, .int (nI (o))), (3, .int (nI (q)))]) hx hb dX2_shuffle_16 hl (by decide) rfl (fun ls hl => ?_)
        have lp18 : ∀ (fuel18 : Nat) (k : Nat) (f : Nat → Nat) (σ : Int64) (hm : k < fuel18) (hk : k < q) (hs : shf dr nxg o k f σ = shf dr nxg o (q - 1) (F 2) (J 1)) (H : Heap) (locs : List Loc) (ls : Array Slot), Wd A s.heap D (bW cI cO a ca ia n O I (va_up J 1 (σ)) (va_up F 2 f) E K G0) H locs → lv_has ls 7 [(0, .ref (a 3)), (1, .ref (a 8)), (2, .int (nI (o))), (3, .int (nI (q))), (4, .int (nI (k)))] → W p l e ({ frames := 2, cells := 0, slots := 0, locals := 42 } : Room) s m ([.ref (a 3), .ref (a 8), .int (nI (o)), .int (nI (q))] : List Value).toArray below meth c H locs 0 0 Q (F0 m 18 ls []) := by
          intro fuel18
          induction fuel18 with
          | zero => intro k f σ hm hk hs; exact absurd hm (by omega)
          | succ fuel18 ih18 =>
            intro k f σ hm hk hs H locs ls G hl
            refine lv_iload hx hb dX2_shuffle_18 (lv_at hl 4 rfl) ?_
            refine lv_iconst (v := (nI (1))) hx hb dX2_shuffle_20 (by decide) ?_
            refine lv_icmp_lt (tgt := 66) hx hb dX2_shuffle_21 (by decide) (fun c21 => ?_) (fun c21 => ?_)
            · skip
              replace c21 : ((k : Nat) : Int) < ((1 : Nat) : Int) := (cv_lt (nI_toInt (by omega)) (nI_toInt (by omega))).mp c21
              exact RET (bW cI cO a ca ia n O I (va_up J 1 (σ)) (va_up F 2 f) E K G0) _ _ ls _ _ _ (⟨f, σ, by have hk0 : k = 0 := (by omega); subst hk0; exact hs, rfl⟩) G (by first | (simp only []; omega) | decide) (by first | (simp only []; omega) | decide) dX2_shuffle_66
            · skip
              replace c21 : ((1 : Nat) : Int) ≤ ((k : Nat) : Int) := Int.not_lt.mp (fun h => c21 ((cv_lt (nI_toInt (by omega)) (nI_toInt (by omega))).mpr h))
              obtain ⟨k1, rfl⟩ : ∃ k1, k = k1 + 1 := ⟨k - 1, by omega⟩
              refine lv_iload_n hx hb dX2_shuffle_24 rfl (lv_at hl 2 rfl) ?_
              refine lv_aload_n hx hb dX2_shuffle_25 rfl (lv_at hl 0 rfl) ?_
              refine lv_iload hx hb dX2_shuffle_26 (lv_at hl 4 rfl) ?_
              refine lv_iconst (v := (nI (1))) hx hb dX2_shuffle_28 (by decide) ?_
              refine r_iadd hx hb dX2_shuffle_29 ?_
              refine r_ai G hA (r_rV (na := 1) (As := [.int (nI ((k1 + 1) + 1))]) (rest := [.int (nI (o))]) C G (c_X2_below l D cI cO cL a ca ia n O I (va_up J 1 (σ)) (va_up F 2 f) E K G0 ((k1 + 1) + 1) (by omega) (by omega)) gX2_shuffle_X2_below rfl (by decide +kernel) ⟨Nat.le_of_ble_eq_true rfl, Nat.le_of_ble_eq_true rfl⟩ 3 rfl rfl rfl hl.1 rfl (Nat.le_of_ble_eq_true rfl) dX2_shuffle_30 ⟨by first | (simp only []; omega) | decide, by first | (simp only []; omega) | decide⟩) (fun r30 w30 H locs hp30 G => ?_)
              obtain ⟨d30, σ30, eσ30, ed30, hd30, rfl, rfl⟩ := hp30
              refine r_iadd hx hb dX2_shuffle_33 ?_
              refine lv_istore (lv' := [(5, .int (nI (o + d30))), (0, .ref (a 3)), (1, .ref (a 8)), (2, .int (nI (o))), (3, .int (nI (q))), (4, .int (nI (k1 + 1)))]) hx hb dX2_shuffle_34 hl (by decide) rfl (fun ls hl => ?_)
              refine lv_aload_n hx hb dX2_shuffle_36 rfl (lv_at hl 2 rfl) ?_
              refine lv_iload_n hx hb dX2_shuffle_37 rfl (lv_at hl 3 rfl) ?_
              refine lv_iload hx hb dX2_shuffle_38 (lv_at hl 5 rfl) ?_
              refine r_iadd hx hb dX2_shuffle_40 ?_
              refine r_iald (v := nI (f (o + (k1 + 1)))) C G 8 0 rfl rfl (o + (k1 + 1)) rfl (by omega) (by omega) rfl dX2_shuffle_41 ?_
              refine lv_istore (lv' := [(6, .int (nI (f (o + (k1 + 1))))), (5, .int (nI (o + d30))), (0, .ref (a 3)), (1, .ref (a 8)), (2, .int (nI (o))), (3, .int (nI (q))), (4, .int (nI (k1 + 1)))]) hx hb dX2_shuffle_42 hl (by decide) rfl (fun ls hl => ?_)
              refine lv_aload_n hx hb dX2_shuffle_44 rfl (lv_at hl 3 rfl) ?_
              refine lv_iload_n hx hb dX2_shuffle_45 rfl (lv_at hl 4 rfl) ?_
              refine lv_iload hx hb dX2_shuffle_46 (lv_at hl 6 rfl) ?_
              refine r_iadd hx hb dX2_shuffle_48 ?_
              refine lv_aload_n hx hb dX2_shuffle_49 rfl (lv_at hl 3 rfl) ?_
              refine lv_iload hx hb dX2_shuffle_50 (lv_at hl 1 rfl) ?_
              refine r_iald (v := nI (f (o + d30))) C G 8 0 rfl rfl (o + d30) rfl (by omega) (by omega) rfl dX2_shuffle_52 ?_
              refine r_iast (ws' := bW cI cO a ca ia n O I (va_up J 1 (σ30)) (va_up F 2 (va_up f (o + (k1 + 1)) (f (o + d30)))) E K G0) C G 8 0 rfl rfl (o + (k1 + 1)) rfl (by omega) (by omega) (nI_upd _ _ _) dX2_shuffle_53 rfl (fun H locs G => ?_)
              refine lv_aload_n hx hb dX2_shuffle_54 rfl (lv_at hl 3 rfl) ?_
              refine lv_iload hx hb dX2_shuffle_55 (lv_at hl 1 rfl) ?_
              refine lv_iload hx hb dX2_shuffle_57 (lv_at hl 0 rfl) ?_
              refine r_iast (ws' := bW cI cO a ca ia n O I (va_up J 1 (σ30)) (va_up F 2 (va_up (va_up f (o + (k1 + 1)) (f (o + d30))) (o + d30) (f (o + (k1 + 1))))) E K G0) C G 8 0 rfl rfl (o + d30) rfl (by omega) (by omega) (nI_upd _ _ _) dX2_shuffle_59 rfl (fun H locs G => ?_)
              refine lv_iinc (v := nI (k1)) (lv' := [(4, .int (nI (k1))), (6, .int (nI (f (o + (k1 + 1))))), (5, .int (nI (o + d30))), (0, .ref (a 3)), (1, .ref (a 8)), (2, .int (nI (o))), (3, .int (nI (q)))]) hx hb dX2_shuffle_60 hl (k := 6) rfl (pk_m1 _) (by decide) rfl (fun ls hl => ?_)
              refine lv_goto (tgt := 18) hx hb dX2_shuffle_63 (by decide) ?_
              exact ih18 k1 (va_up (va_up f (o + (k1 + 1)) (f (o + d30))) (o + d30) (f (o + (k1 + 1)))) (σ30) (by omega) (by omega) (Eq.trans (shf_step eσ30 ed30).symm hs) _ _ _ (G.eq (rfl)) (lv_sub hl [3, 4, 5, 6, 0] rfl)
        exact lp18 q (q - 1) (F 2) (J 1) (by omega) (by omega) rfl _ _ _ (G.eq (rfl)) (lv_sub hl [1, 2, 3, 4, 0] rfl)
      · skip
        replace c9 : ((60 - o : Nat) : Int) < ((q : Nat) : Int) := Int.not_le.mp (fun h => c9 ((cv_le (nI_toInt (by omega)) (nI_toInt (by omega))).mpr h))
        exact absurd c9 (by omega)
set_option maxHeartbeats 4000000 in
set_option maxRecDepth 100000 in
theorem c_X2_shuffle_s (l : Launch) (D : va_G) (cI cO cL : ClassId) (a ca ia : Nat → Nat) (n : Nat) (O : Nat → Option Nat) (I : Nat → Nat) (J : Nat → Int64) (F : Nat → Nat → Nat) (E : Nat → Nat → Int32) (K : Nat → Nat → Nat) (G0 : Nat → Nat → Int32) (o q : Nat) (h : o + q ≤ 60) : Kv l yX2_shuffle wsX2_shuffle { frames := 2, cells := 0, slots := 0, locals := 42 } D (TY cI cO cL) [.ref (a 3), .ref (a 9), .int (nI (o)), .int (nI (q))] (bW cI cO a ca ia n O I J F E K G0) (fun w => ∃ g σ, (g, σ) = shf dr nxg o (q - 1) (F 3) (J 1) ∧ w = bW cI cO a ca ia n O I (va_up J 1 (σ)) (va_up F 3 g) E K G0) := by
  refine Kv.mk (cc := cX2_shuffle) (maxL := 7) (own := RX2) (by decide) rfl rfl (Nat.le_of_ble_eq_true rfl) ?_
  intro p e s m below meth c A Q ls C hname hA G hl RET
  obtain ⟨⟨hx, hb, hml, hown, hts⟩, hK, hN⟩ := id C
  have hl : lv_has ls 7 [(0, .ref (a 3)), (1, .ref (a 9)), (2, .int (nI (o))), (3, .int (nI (q)))] := hl
  rcases Nat.eq_zero_or_pos q with rfl | hq
  · skip
    refine lv_iload_n hx hb dX2_shuffle_0 rfl (lv_at hl 2 rfl) ?_
    refine lv_if_lt (tgt := 12) hx hb dX2_shuffle_1 (by decide) (fun c1 => ?_) (fun c1 => ?_)
    · skip
      replace c1 : ((o : Nat) : Int) < (0) := (cv_lt (nI_toInt (by omega)) (by decide)).mp c1
      exact absurd c1 (by omega)
    · skip
      replace c1 : (0) ≤ ((o : Nat) : Int) := Int.not_lt.mp (fun h => c1 ((cv_lt (nI_toInt (by omega)) (by decide)).mpr h))
      refine lv_iload_n hx hb dX2_shuffle_4 rfl (lv_at hl 3 rfl) ?_
      refine lv_aload_n hx hb dX2_shuffle_5 rfl (lv_at hl 1 rfl) ?_
      refine r_alen C G 9 0 rfl rfl dX2_shuffle_6 ?_
      refine r_top (y := nI (60)) rfl ?_
      refine lv_iload_n hx hb dX2_shuffle_7 rfl (lv_at hl 2 rfl) ?_
      refine r_isub hx hb (by omega) dX2_shuffle_8 ?_
      refine lv_icmp_le (tgt := 13) hx hb dX2_shuffle_9 (by decide) (fun c9 => ?_) (fun c9 => ?_)
      · skip
        replace c9 : ((0 : Nat) : Int) ≤ ((60 - o : Nat) : Int) := (cv_le (nI_toInt (by omega)) (nI_toInt (by omega))).mp c9
        refine lv_iload_n hx hb dX2_shuffle_13 rfl (lv_at hl 3 rfl) ?_
        refine lv_iconst (v := (nI (1))) hx hb dX2_shuffle_14 (by decide) ?_
        refine lv_isub hx hb dX2_shuffle_15 ?_
        refine r_top (y := (-1)) (by decide) ?_
        refine lv_istore (lv' := [(4, .int ((-1))), (0, .ref (a 3)), (1, .ref (a 9)), (2, .int (nI (o))), (3, .int (nI (0)))]) hx hb dX2_shuffle_16 hl (by decide) rfl (fun ls hl => ?_)
        refine lv_iload hx hb dX2_shuffle_18 (lv_at hl 0 rfl) ?_
        refine lv_iconst (v := (nI (1))) hx hb dX2_shuffle_20 (by decide) ?_
        refine lv_icmp_lt (tgt := 66) hx hb dX2_shuffle_21 (by decide) (fun c21 => ?_) (fun c21 => ?_)
        · skip
          exact RET (bW cI cO a ca ia n O I J F E K G0) _ _ ls _ _ _ (⟨F 3, J 1, rfl, rfl⟩) G (by first | (simp only []; omega) | decide) (by first | (simp only []; omega) | decide) dX2_shuffle_66
        · skip
          exact absurd c21 (by decide)
      · skip
        replace c9 : ((60 - o : Nat) : Int) < ((0 : Nat) : Int) := Int.not_le.mp (fun h => c9 ((cv_le (nI_toInt (by omega)) (nI_toInt (by omega))).mpr h))
        exact absurd c9 (by omega)
  · skip
    refine lv_iload_n hx hb dX2_shuffle_0 rfl (lv_at hl 2 rfl) ?_
    refine lv_if_lt (tgt := 12) hx hb dX2_shuffle_1 (by decide) (fun c1 => ?_) (fun c1 => ?_)
    · skip
      replace c1 : ((o : Nat) : Int) < (0) := (cv_lt (nI_toInt (by omega)) (by decide)).mp c1
      exact absurd c1 (by omega)
    · skip
      replace c1 : (0) ≤ ((o : Nat) : Int) := Int.not_lt.mp (fun h => c1 ((cv_lt (nI_toInt (by omega)) (by decide)).mpr h))
      refine lv_iload_n hx hb dX2_shuffle_4 rfl (lv_at hl 3 rfl) ?_
      refine lv_aload_n hx hb dX2_shuffle_5 rfl (lv_at hl 1 rfl) ?_
      refine r_alen C G 9 0 rfl rfl dX2_shuffle_6 ?_
      refine r_top (y := nI (60)) rfl ?_
      refine lv_iload_n hx hb dX2_shuffle_7 rfl (lv_at hl 2 rfl) ?_
      refine r_isub hx hb (by omega) dX2_shuffle_8 ?_
      refine lv_icmp_le (tgt := 13) hx hb dX2_shuffle_9 (by decide) (fun c9 => ?_) (fun c9 => ?_)
      · skip
        replace c9 : ((q : Nat) : Int) ≤ ((60 - o : Nat) : Int) := (cv_le (nI_toInt (by omega)) (nI_toInt (by omega))).mp c9
        refine lv_iload_n hx hb dX2_shuffle_13 rfl (lv_at hl 3 rfl) ?_
        refine lv_iconst (v := (nI (1))) hx hb dX2_shuffle_14 (by decide) ?_
        refine r_isub hx hb (by omega) dX2_shuffle_15 ?_
        refine lv_istore (lv' := [(4, .int (nI (q - 1))), (0, .ref (a 3)), (1, .ref (a 9)), (2, .int (nI (o))), (3, .int (nI (q)))]) hx hb dX2_shuffle_16 hl (by decide) rfl (fun ls hl => ?_)
        have lp18 : ∀ (fuel18 : Nat) (k : Nat) (f : Nat → Nat) (σ : Int64) (hm : k < fuel18) (hk : k < q) (hs : shf dr nxg o k f σ = shf dr nxg o (q - 1) (F 3) (J 1)) (H : Heap) (locs : List Loc) (ls : Array Slot), Wd A s.heap D (bW cI cO a ca ia n O I (va_up J 1 (σ)) (va_up F 3 f) E K G0) H locs → lv_has ls 7 [(0, .ref (a 3)), (1, .ref (a 9)), (2, .int (nI (o))), (3, .int (nI (q))), (4, .int (nI (k)))] → W p l e ({ frames := 2, cells := 0, slots := 0, locals := 42 } : Room) s m ([.ref (a 3), .ref (a 9), .int (nI (o)), .int (nI (q))] : List Value).toArray below meth c H locs 0 0 Q (F0 m 18 ls []) := by
          intro fuel18
          induction fuel18 with
          | zero => intro k f σ hm hk hs; exact absurd hm (by omega)
          | succ fuel18 ih18 =>
            intro k f σ hm hk hs H locs ls G hl
            refine lv_iload hx hb dX2_shuffle_18 (lv_at hl 4 rfl) ?_
            refine lv_iconst (v := (nI (1))) hx hb dX2_shuffle_20 (by decide) ?_
            refine lv_icmp_lt (tgt := 66) hx hb dX2_shuffle_21 (by decide) (fun c21 => ?_) (fun c21 => ?_)
            · skip
              replace c21 : ((k : Nat) : Int) < ((1 : Nat) : Int) := (cv_lt (nI_toInt (by omega)) (nI_toInt (by omega))).mp c21
              exact RET (bW cI cO a ca ia n O I (va_up J 1 (σ)) (va_up F 3 f) E K G0) _ _ ls _ _ _ (⟨f, σ, by have hk0 : k = 0 := (by omega); subst hk0; exact hs, rfl⟩) G (by first | (simp only []; omega) | decide) (by first | (simp only []; omega) | decide) dX2_shuffle_66
            · skip
              replace c21 : ((1 : Nat) : Int) ≤ ((k : Nat) : Int) := Int.not_lt.mp (fun h => c21 ((cv_lt (nI_toInt (by omega)) (nI_toInt (by omega))).mpr h))
              obtain ⟨k1, rfl⟩ : ∃ k1, k = k1 + 1 := ⟨k - 1, by omega⟩
              refine lv_iload_n hx hb dX2_shuffle_24 rfl (lv_at hl 2 rfl) ?_
              refine lv_aload_n hx hb dX2_shuffle_25 rfl (lv_at hl 0 rfl) ?_
              refine lv_iload hx hb dX2_shuffle_26 (lv_at hl 4 rfl) ?_
              refine lv_iconst (v := (nI (1))) hx hb dX2_shuffle_28 (by decide) ?_
              refine r_iadd hx hb dX2_shuffle_29 ?_
              refine r_ai G hA (r_rV (na := 1) (As := [.int (nI ((k1 + 1) + 1))]) (rest := [.int (nI (o))]) C G (c_X2_below l D cI cO cL a ca ia n O I (va_up J 1 (σ)) (va_up F 3 f) E K G0 ((k1 + 1) + 1) (by omega) (by omega)) gX2_shuffle_X2_below rfl (by decide +kernel) ⟨Nat.le_of_ble_eq_true rfl, Nat.le_of_ble_eq_true rfl⟩ 3 rfl rfl rfl hl.1 rfl (Nat.le_of_ble_eq_true rfl) dX2_shuffle_30 ⟨by first | (simp only []; omega) | decide, by first | (simp only []; omega) | decide⟩) (fun r30 w30 H locs hp30 G => ?_)
              obtain ⟨d30, σ30, eσ30, ed30, hd30, rfl, rfl⟩ := hp30
              refine r_iadd hx hb dX2_shuffle_33 ?_
              refine lv_istore (lv' := [(5, .int (nI (o + d30))), (0, .ref (a 3)), (1, .ref (a 9)), (2, .int (nI (o))), (3, .int (nI (q))), (4, .int (nI (k1 + 1)))]) hx hb dX2_shuffle_34 hl (by decide) rfl (fun ls hl => ?_)
              refine lv_aload_n hx hb dX2_shuffle_36 rfl (lv_at hl 2 rfl) ?_
              refine lv_iload_n hx hb dX2_shuffle_37 rfl (lv_at hl 3 rfl) ?_
              refine lv_iload hx hb dX2_shuffle_38 (lv_at hl 5 rfl) ?_
              refine r_iadd hx hb dX2_shuffle_40 ?_
              refine r_iald (v := nI (f (o + (k1 + 1)))) C G 9 0 rfl rfl (o + (k1 + 1)) rfl (by omega) (by omega) rfl dX2_shuffle_41 ?_
              refine lv_istore (lv' := [(6, .int (nI (f (o + (k1 + 1))))), (5, .int (nI (o + d30))), (0, .ref (a 3)), (1, .ref (a 9)), (2, .int (nI (o))), (3, .int (nI (q))), (4, .int (nI (k1 + 1)))]) hx hb dX2_shuffle_42 hl (by decide) rfl (fun ls hl => ?_)
              refine lv_aload_n hx hb dX2_shuffle_44 rfl (lv_at hl 3 rfl) ?_
              refine lv_iload_n hx hb dX2_shuffle_45 rfl (lv_at hl 4 rfl) ?_
              refine lv_iload hx hb dX2_shuffle_46 (lv_at hl 6 rfl) ?_
              refine r_iadd hx hb dX2_shuffle_48 ?_
              refine lv_aload_n hx hb dX2_shuffle_49 rfl (lv_at hl 3 rfl) ?_
              refine lv_iload hx hb dX2_shuffle_50 (lv_at hl 1 rfl) ?_
              refine r_iald (v := nI (f (o + d30))) C G 9 0 rfl rfl (o + d30) rfl (by omega) (by omega) rfl dX2_shuffle_52 ?_
              refine r_iast (ws' := bW cI cO a ca ia n O I (va_up J 1 (σ30)) (va_up F 3 (va_up f (o + (k1 + 1)) (f (o + d30)))) E K G0) C G 9 0 rfl rfl (o + (k1 + 1)) rfl (by omega) (by omega) (nI_upd _ _ _) dX2_shuffle_53 rfl (fun H locs G => ?_)
              refine lv_aload_n hx hb dX2_shuffle_54 rfl (lv_at hl 3 rfl) ?_
              refine lv_iload hx hb dX2_shuffle_55 (lv_at hl 1 rfl) ?_
              refine lv_iload hx hb dX2_shuffle_57 (lv_at hl 0 rfl) ?_
              refine r_iast (ws' := bW cI cO a ca ia n O I (va_up J 1 (σ30)) (va_up F 3 (va_up (va_up f (o + (k1 + 1)) (f (o + d30))) (o + d30) (f (o + (k1 + 1))))) E K G0) C G 9 0 rfl rfl (o + d30) rfl (by omega) (by omega) (nI_upd _ _ _) dX2_shuffle_59 rfl (fun H locs G => ?_)
              refine lv_iinc (v := nI (k1)) (lv' := [(4, .int (nI (k1))), (6, .int (nI (f (o + (k1 + 1))))), (5, .int (nI (o + d30))), (0, .ref (a 3)), (1, .ref (a 9)), (2, .int (nI (o))), (3, .int (nI (q)))]) hx hb dX2_shuffle_60 hl (k := 6) rfl (pk_m1 _) (by decide) rfl (fun ls hl => ?_)
              refine lv_goto (tgt := 18) hx hb dX2_shuffle_63 (by decide) ?_
              exact ih18 k1 (va_up (va_up f (o + (k1 + 1)) (f (o + d30))) (o + d30) (f (o + (k1 + 1)))) (σ30) (by omega) (by omega) (Eq.trans (shf_step eσ30 ed30).symm hs) _ _ _ (G.eq (rfl)) (lv_sub hl [3, 4, 5, 6, 0] rfl)
        exact lp18 q (q - 1) (F 3) (J 1) (by omega) (by omega) rfl _ _ _ (G.eq (rfl)) (lv_sub hl [1, 2, 3, 4, 0] rfl)
      · skip
        replace c9 : ((60 - o : Nat) : Int) < ((q : Nat) : Int) := Int.not_le.mp (fun h => c9 ((cv_le (nI_toInt (by omega)) (nI_toInt (by omega))).mpr h))
        exact absurd c9 (by omega)
set_option maxHeartbeats 4000000 in
set_option maxRecDepth 100000 in
theorem c_X7_mixes_o (l : Launch) (D : va_G) (cI cO cL : ClassId) (b : Nat → Nat) (I : Nat → Nat) (J : Nat → Int64) (F : Nat → Nat → Nat) (G0 : Nat → Nat → Int32) (o q : Nat) (h : o + q ≤ 60) : Kv l yX7_mixes wsX7_mixes { frames := 2, cells := 0, slots := 0, locals := 45 } D (TY cI cO cL) [.ref (b 0), .ref (b 8), .int (nI (o)), .int (nI (q))] (mW cI b I J F G0) (fun w => ∃ g σ, (g, σ) = shf dr nxg o (q - 1) (F 6) (J 1) ∧ w = mW cI b I (va_up J 1 (σ)) (va_up F 6 g) G0) := by
  refine Kv.mk (cc := cX7_mixes) (maxL := 7) (own := RX7) (by decide) rfl rfl (Nat.le_of_ble_eq_true rfl) ?_
  intro p e s m below meth c A Q ls C hname hA G hl RET
  obtain ⟨⟨hx, hb, hml, hown, hts⟩, hK, hN⟩ := id C
  have hl : lv_has ls 7 [(0, .ref (b 0)), (1, .ref (b 8)), (2, .int (nI (o))), (3, .int (nI (q)))] := hl
  rcases Nat.eq_zero_or_pos q with rfl | hq
  · skip
    refine lv_iload_n hx hb dX7_mixes_0 rfl (lv_at hl 3 rfl) ?_
    refine lv_iconst (v := (nI (1))) hx hb dX7_mixes_1 (by decide) ?_
    refine lv_isub hx hb dX7_mixes_2 ?_
    refine r_top (y := (-1)) (by decide) ?_
    refine lv_istore (lv' := [(4, .int ((-1))), (0, .ref (b 0)), (1, .ref (b 8)), (2, .int (nI (o))), (3, .int (nI (0)))]) hx hb dX7_mixes_3 hl (by decide) rfl (fun ls hl => ?_)
    refine lv_iload hx hb dX7_mixes_5 (lv_at hl 0 rfl) ?_
    refine lv_if_le (tgt := 55) hx hb dX7_mixes_7 (by decide) (fun c7 => ?_) (fun c7 => ?_)
    · skip
      exact RET (mW cI b I J F G0) _ _ ls _ _ _ (⟨F 6, J 1, rfl, rfl⟩) G (by first | (simp only []; omega) | decide) (by first | (simp only []; omega) | decide) dX7_mixes_55
    · skip
      exact absurd c7 (by decide)
  · skip
    refine lv_iload_n hx hb dX7_mixes_0 rfl (lv_at hl 3 rfl) ?_
    refine lv_iconst (v := (nI (1))) hx hb dX7_mixes_1 (by decide) ?_
    refine r_isub hx hb (by omega) dX7_mixes_2 ?_
    refine lv_istore (lv' := [(4, .int (nI (q - 1))), (0, .ref (b 0)), (1, .ref (b 8)), (2, .int (nI (o))), (3, .int (nI (q)))]) hx hb dX7_mixes_3 hl (by decide) rfl (fun ls hl => ?_)
    have lp5 : ∀ (fuel5 : Nat) (k : Nat) (f : Nat → Nat) (σ : Int64) (hm : k < fuel5) (hk : k < q) (hs : shf dr nxg o k f σ = shf dr nxg o (q - 1) (F 6) (J 1)) (H : Heap) (locs : List Loc) (ls : Array Slot), Wd A s.heap D (mW cI b I (va_up J 1 (σ)) (va_up F 6 f) G0) H locs → lv_has ls 7 [(0, .ref (b 0)), (1, .ref (b 8)), (2, .int (nI (o))), (3, .int (nI (q))), (4, .int (nI (k)))] → W p l e ({ frames := 2, cells := 0, slots := 0, locals := 45 } : Room) s m ([.ref (b 0), .ref (b 8), .int (nI (o)), .int (nI (q))] : List Value).toArray below meth c H locs 0 0 Q (F0 m 5 ls []) := by
      intro fuel5
      induction fuel5 with
      | zero => intro k f σ hm hk hs; exact absurd hm (by omega)
      | succ fuel5 ih5 =>
        intro k f σ hm hk hs H locs ls G hl
        refine lv_iload hx hb dX7_mixes_5 (lv_at hl 4 rfl) ?_
        refine lv_if_le (tgt := 55) hx hb dX7_mixes_7 (by decide) (fun c7 => ?_) (fun c7 => ?_)
        · skip
          replace c7 : ((k : Nat) : Int) ≤ (0) := (cv_le (nI_toInt (by omega)) (by decide)).mp c7
          exact RET (mW cI b I (va_up J 1 (σ)) (va_up F 6 f) G0) _ _ ls _ _ _ (⟨f, σ, by have hk0 : k = 0 := (by omega); subst hk0; exact hs, rfl⟩) G (by first | (simp only []; omega) | decide) (by first | (simp only []; omega) | decide) dX7_mixes_55
        · skip
          replace c7 : (0) < ((k : Nat) : Int) := Int.not_le.mp (fun h => c7 ((cv_le (nI_toInt (by omega)) (by decide)).mpr h))
          obtain ⟨k1, rfl⟩ : ∃ k1, k = k1 + 1 := ⟨k - 1, by omega⟩
          refine lv_aload_n hx hb dX7_mixes_10 rfl (lv_at hl 0 rfl) ?_
          refine lv_iload hx hb dX7_mixes_11 (lv_at hl 4 rfl) ?_
          refine lv_iconst (v := (nI (1))) hx hb dX7_mixes_13 (by decide) ?_
          refine r_iadd hx hb dX7_mixes_14 ?_
          refine lv_i2l (v := lN ((k1 + 1) + 1)) hx hb dX7_mixes_15 (nI_l (by omega)) ?_
          refine r_ai G hA (r_rV (na := 1) (As := [.long (lN ((k1 + 1) + 1))]) (rest := []) C G (c_X7_draw l D cI cO cL b I (va_up J 1 (σ)) (va_up F 6 f) G0 ((k1 + 1) + 1) (by omega) (by omega)) gX7_mixes_X7_draw rfl (by decide +kernel) ⟨Nat.le_of_ble_eq_true rfl, Nat.le_of_ble_eq_true rfl⟩ 0 rfl rfl rfl hl.1 rfl (Nat.le_of_ble_eq_true rfl) dX7_mixes_16 ⟨by first | (simp only []; omega) | decide, by first | (simp only []; omega) | decide⟩) (fun r16 w16 H locs hp16 G => ?_)
          obtain ⟨d16, σ16, eσ16, ed16, hd16, rfl, rfl⟩ := hp16
          refine lv_istore (lv' := [(5, .int (nI (d16))), (0, .ref (b 0)), (1, .ref (b 8)), (2, .int (nI (o))), (3, .int (nI (q))), (4, .int (nI (k1 + 1)))]) hx hb dX7_mixes_19 hl (by decide) rfl (fun ls hl => ?_)
          refine lv_aload_n hx hb dX7_mixes_21 rfl (lv_at hl 2 rfl) ?_
          refine lv_iload_n hx hb dX7_mixes_22 rfl (lv_at hl 3 rfl) ?_
          refine lv_iload hx hb dX7_mixes_23 (lv_at hl 5 rfl) ?_
          refine r_iadd hx hb dX7_mixes_25 ?_
          refine r_iald (v := nI (f (o + (k1 + 1)))) C G 8 0 rfl rfl (o + (k1 + 1)) rfl (by omega) (by omega) rfl dX7_mixes_26 ?_
          refine lv_istore (lv' := [(6, .int (nI (f (o + (k1 + 1))))), (5, .int (nI (d16))), (0, .ref (b 0)), (1, .ref (b 8)), (2, .int (nI (o))), (3, .int (nI (q))), (4, .int (nI (k1 + 1)))]) hx hb dX7_mixes_27 hl (by decide) rfl (fun ls hl => ?_)
          refine lv_aload_n hx hb dX7_mixes_29 rfl (lv_at hl 3 rfl) ?_
          refine lv_iload_n hx hb dX7_mixes_30 rfl (lv_at hl 4 rfl) ?_
          refine lv_iload hx hb dX7_mixes_31 (lv_at hl 6 rfl) ?_
          refine r_iadd hx hb dX7_mixes_33 ?_
          refine lv_aload_n hx hb dX7_mixes_34 rfl (lv_at hl 3 rfl) ?_
          refine lv_iload_n hx hb dX7_mixes_35 rfl (lv_at hl 4 rfl) ?_
          refine lv_iload hx hb dX7_mixes_36 (lv_at hl 1 rfl) ?_
          refine r_iadd hx hb dX7_mixes_38 ?_
          refine r_iald (v := nI (f (o + d16))) C G 8 0 rfl rfl (o + d16) rfl (by omega) (by omega) rfl dX7_mixes_39 ?_
          refine r_iast (ws' := mW cI b I (va_up J 1 (σ16)) (va_up F 6 (va_up f (o + (k1 + 1)) (f (o + d16)))) G0) C G 8 0 rfl rfl (o + (k1 + 1)) rfl (by omega) (by omega) (nI_upd _ _ _) dX7_mixes_40 rfl (fun H locs G => ?_)
          refine lv_aload_n hx hb dX7_mixes_41 rfl (lv_at hl 3 rfl) ?_
          refine lv_iload_n hx hb dX7_mixes_42 rfl (lv_at hl 4 rfl) ?_
          refine lv_iload hx hb dX7_mixes_43 (lv_at hl 1 rfl) ?_
          refine r_iadd hx hb dX7_mixes_45 ?_
          refine lv_iload hx hb dX7_mixes_46 (lv_at hl 0 rfl) ?_
          refine r_iast (ws' := mW cI b I (va_up J 1 (σ16)) (va_up F 6 (va_up (va_up f (o + (k1 + 1)) (f (o + d16))) (o + d16) (f (o + (k1 + 1))))) G0) C G 8 0 rfl rfl (o + d16) rfl (by omega) (by omega) (nI_upd _ _ _) dX7_mixes_48 rfl (fun H locs G => ?_)
          refine lv_iinc (v := nI (k1)) (lv' := [(4, .int (nI (k1))), (6, .int (nI (f (o + (k1 + 1))))), (5, .int (nI (d16))), (0, .ref (b 0)), (1, .ref (b 8)), (2, .int (nI (o))), (3, .int (nI (q)))]) hx hb dX7_mixes_49 hl (k := 6) rfl (pk_m1 _) (by decide) rfl (fun ls hl => ?_)
          refine lv_goto (tgt := 5) hx hb dX7_mixes_52 (by decide) ?_
          exact ih5 k1 (va_up (va_up f (o + (k1 + 1)) (f (o + d16))) (o + d16) (f (o + (k1 + 1)))) (σ16) (by omega) (by omega) (Eq.trans (shf_step eσ16 ed16).symm hs) _ _ _ (G.eq (rfl)) (lv_sub hl [3, 4, 5, 6, 0] rfl)
    exact lp5 q (q - 1) (F 6) (J 1) (by omega) (by omega) rfl _ _ _ (G.eq (rfl)) (lv_sub hl [1, 2, 3, 4, 0] rfl)
set_option maxHeartbeats 4000000 in
set_option maxRecDepth 100000 in
theorem c_X7_mixes_s (l : Launch) (D : va_G) (cI cO cL : ClassId) (b : Nat → Nat) (I : Nat → Nat) (J : Nat → Int64) (F : Nat → Nat → Nat) (G0 : Nat → Nat → Int32) (o q : Nat) (h : o + q ≤ 60) : Kv l yX7_mixes wsX7_mixes { frames := 2, cells := 0, slots := 0, locals := 45 } D (TY cI cO cL) [.ref (b 0), .ref (b 9), .int (nI (o)), .int (nI (q))] (mW cI b I J F G0) (fun w => ∃ g σ, (g, σ) = shf dr nxg o (q - 1) (F 7) (J 1) ∧ w = mW cI b I (va_up J 1 (σ)) (va_up F 7 g) G0) := by
  refine Kv.mk (cc := cX7_mixes) (maxL := 7) (own := RX7) (by decide) rfl rfl (Nat.le_of_ble_eq_true rfl) ?_
  intro p e s m below meth c A Q ls C hname hA G hl RET
  obtain ⟨⟨hx, hb, hml, hown, hts⟩, hK, hN⟩ := id C
  have hl : lv_has ls 7 [(0, .ref (b 0)), (1, .ref (b 9)), (2, .int (nI (o))), (3, .int (nI (q)))] := hl
  rcases Nat.eq_zero_or_pos q with rfl | hq
  · skip
    refine lv_iload_n hx hb dX7_mixes_0 rfl (lv_at hl 3 rfl) ?_
    refine lv_iconst (v := (nI (1))) hx hb dX7_mixes_1 (by decide) ?_
    refine lv_isub hx hb dX7_mixes_2 ?_
    refine r_top (y := (-1)) (by decide) ?_
    refine lv_istore (lv' := [(4, .int ((-1))), (0, .ref (b 0)), (1, .ref (b 9)), (2, .int (nI (o))), (3, .int (nI (0)))]) hx hb dX7_mixes_3 hl (by decide) rfl (fun ls hl => ?_)
    refine lv_iload hx hb dX7_mixes_5 (lv_at hl 0 rfl) ?_
    refine lv_if_le (tgt := 55) hx hb dX7_mixes_7 (by decide) (fun c7 => ?_) (fun c7 => ?_)
    · skip
      exact RET (mW cI b I J F G0) _ _ ls _ _ _ (⟨F 7, J 1, rfl, rfl⟩) G (by first | (simp only []; omega) | decide) (by first | (simp only []; omega) | decide) dX7_mixes_55
    · skip
      exact absurd c7 (by decide)
  · skip
    refine lv_iload_n hx hb dX7_mixes_0 rfl (lv_at hl 3 rfl) ?_
    refine lv_iconst (v := (nI (1))) hx hb dX7_mixes_1 (by decide) ?_
    refine r_isub hx hb (by omega) dX7_mixes_2 ?_
    refine lv_istore (lv' := [(4, .int (nI (q - 1))), (0, .ref (b 0)), (1, .ref (b 9)), (2, .int (nI (o))), (3, .int (nI (q)))]) hx hb dX7_mixes_3 hl (by decide) rfl (fun ls hl => ?_)
    have lp5 : ∀ (fuel5 : Nat) (k : Nat) (f : Nat → Nat) (σ : Int64) (hm : k < fuel5) (hk : k < q) (hs : shf dr nxg o k f σ = shf dr nxg o (q - 1) (F 7) (J 1)) (H : Heap) (locs : List Loc) (ls : Array Slot), Wd A s.heap D (mW cI b I (va_up J 1 (σ)) (va_up F 7 f) G0) H locs → lv_has ls 7 [(0, .ref (b 0)), (1, .ref (b 9)), (2, .int (nI (o))), (3, .int (nI (q))), (4, .int (nI (k)))] → W p l e ({ frames := 2, cells := 0, slots := 0, locals := 45 } : Room) s m ([.ref (b 0), .ref (b 9), .int (nI (o)), .int (nI (q))] : List Value).toArray below meth c H locs 0 0 Q (F0 m 5 ls []) := by
      intro fuel5
      induction fuel5 with
      | zero => intro k f σ hm hk hs; exact absurd hm (by omega)
      | succ fuel5 ih5 =>
        intro k f σ hm hk hs H locs ls G hl
        refine lv_iload hx hb dX7_mixes_5 (lv_at hl 4 rfl) ?_
        refine lv_if_le (tgt := 55) hx hb dX7_mixes_7 (by decide) (fun c7 => ?_) (fun c7 => ?_)
        · skip
          replace c7 : ((k : Nat) : Int) ≤ (0) := (cv_le (nI_toInt (by omega)) (by decide)).mp c7
          exact RET (mW cI b I (va_up J 1 (σ)) (va_up F 7 f) G0) _ _ ls _ _ _ (⟨f, σ, by have hk0 : k = 0 := (by omega); subst hk0; exact hs, rfl⟩) G (by first | (simp only []; omega) | decide) (by first | (simp only []; omega) | decide) dX7_mixes_55
        · skip
          replace c7 : (0) < ((k : Nat) : Int) := Int.not_le.mp (fun h => c7 ((cv_le (nI_toInt (by omega)) (by decide)).mpr h))
          obtain ⟨k1, rfl⟩ : ∃ k1, k = k1 + 1 := ⟨k - 1, by omega⟩
          refine lv_aload_n hx hb dX7_mixes_10 rfl (lv_at hl 0 rfl) ?_
          refine lv_iload hx hb dX7_mixes_11 (lv_at hl 4 rfl) ?_
          refine lv_iconst (v := (nI (1))) hx hb dX7_mixes_13 (by decide) ?_
          refine r_iadd hx hb dX7_mixes_14 ?_
          refine lv_i2l (v := lN ((k1 + 1) + 1)) hx hb dX7_mixes_15 (nI_l (by omega)) ?_
          refine r_ai G hA (r_rV (na := 1) (As := [.long (lN ((k1 + 1) + 1))]) (rest := []) C G (c_X7_draw l D cI cO cL b I (va_up J 1 (σ)) (va_up F 7 f) G0 ((k1 + 1) + 1) (by omega) (by omega)) gX7_mixes_X7_draw rfl (by decide +kernel) ⟨Nat.le_of_ble_eq_true rfl, Nat.le_of_ble_eq_true rfl⟩ 0 rfl rfl rfl hl.1 rfl (Nat.le_of_ble_eq_true rfl) dX7_mixes_16 ⟨by first | (simp only []; omega) | decide, by first | (simp only []; omega) | decide⟩) (fun r16 w16 H locs hp16 G => ?_)
          obtain ⟨d16, σ16, eσ16, ed16, hd16, rfl, rfl⟩ := hp16
          refine lv_istore (lv' := [(5, .int (nI (d16))), (0, .ref (b 0)), (1, .ref (b 9)), (2, .int (nI (o))), (3, .int (nI (q))), (4, .int (nI (k1 + 1)))]) hx hb dX7_mixes_19 hl (by decide) rfl (fun ls hl => ?_)
          refine lv_aload_n hx hb dX7_mixes_21 rfl (lv_at hl 2 rfl) ?_
          refine lv_iload_n hx hb dX7_mixes_22 rfl (lv_at hl 3 rfl) ?_
          refine lv_iload hx hb dX7_mixes_23 (lv_at hl 5 rfl) ?_
          refine r_iadd hx hb dX7_mixes_25 ?_
          refine r_iald (v := nI (f (o + (k1 + 1)))) C G 9 0 rfl rfl (o + (k1 + 1)) rfl (by omega) (by omega) rfl dX7_mixes_26 ?_
          refine lv_istore (lv' := [(6, .int (nI (f (o + (k1 + 1))))), (5, .int (nI (d16))), (0, .ref (b 0)), (1, .ref (b 9)), (2, .int (nI (o))), (3, .int (nI (q))), (4, .int (nI (k1 + 1)))]) hx hb dX7_mixes_27 hl (by decide) rfl (fun ls hl => ?_)
          refine lv_aload_n hx hb dX7_mixes_29 rfl (lv_at hl 3 rfl) ?_
          refine lv_iload_n hx hb dX7_mixes_30 rfl (lv_at hl 4 rfl) ?_
          refine lv_iload hx hb dX7_mixes_31 (lv_at hl 6 rfl) ?_
          refine r_iadd hx hb dX7_mixes_33 ?_
          refine lv_aload_n hx hb dX7_mixes_34 rfl (lv_at hl 3 rfl) ?_
          refine lv_iload_n hx hb dX7_mixes_35 rfl (lv_at hl 4 rfl) ?_
          refine lv_iload hx hb dX7_mixes_36 (lv_at hl 1 rfl) ?_
          refine r_iadd hx hb dX7_mixes_38 ?_
          refine r_iald (v := nI (f (o + d16))) C G 9 0 rfl rfl (o + d16) rfl (by omega) (by omega) rfl dX7_mixes_39 ?_
          refine r_iast (ws' := mW cI b I (va_up J 1 (σ16)) (va_up F 7 (va_up f (o + (k1 + 1)) (f (o + d16)))) G0) C G 9 0 rfl rfl (o + (k1 + 1)) rfl (by omega) (by omega) (nI_upd _ _ _) dX7_mixes_40 rfl (fun H locs G => ?_)
          refine lv_aload_n hx hb dX7_mixes_41 rfl (lv_at hl 3 rfl) ?_
          refine lv_iload_n hx hb dX7_mixes_42 rfl (lv_at hl 4 rfl) ?_
          refine lv_iload hx hb dX7_mixes_43 (lv_at hl 1 rfl) ?_
          refine r_iadd hx hb dX7_mixes_45 ?_
          refine lv_iload hx hb dX7_mixes_46 (lv_at hl 0 rfl) ?_
          refine r_iast (ws' := mW cI b I (va_up J 1 (σ16)) (va_up F 7 (va_up (va_up f (o + (k1 + 1)) (f (o + d16))) (o + d16) (f (o + (k1 + 1))))) G0) C G 9 0 rfl rfl (o + d16) rfl (by omega) (by omega) (nI_upd _ _ _) dX7_mixes_48 rfl (fun H locs G => ?_)
          refine lv_iinc (v := nI (k1)) (lv' := [(4, .int (nI (k1))), (6, .int (nI (f (o + (k1 + 1))))), (5, .int (nI (d16))), (0, .ref (b 0)), (1, .ref (b 9)), (2, .int (nI (o))), (3, .int (nI (q)))]) hx hb dX7_mixes_49 hl (k := 6) rfl (pk_m1 _) (by decide) rfl (fun ls hl => ?_)
          refine lv_goto (tgt := 5) hx hb dX7_mixes_52 (by decide) ?_
          exact ih5 k1 (va_up (va_up f (o + (k1 + 1)) (f (o + d16))) (o + d16) (f (o + (k1 + 1)))) (σ16) (by omega) (by omega) (Eq.trans (shf_step eσ16 ed16).symm hs) _ _ _ (G.eq (rfl)) (lv_sub hl [3, 4, 5, 6, 0] rfl)
    exact lp5 q (q - 1) (F 7) (J 1) (by omega) (by omega) rfl _ _ _ (G.eq (rfl)) (lv_sub hl [1, 2, 3, 4, 0] rfl)
end
section
theorem cw_lt {x y : Int64} {X Y : Int} (hx : x.toInt = X) (hy : y.toInt = Y) : x < y ↔ X < Y := by rw [Int64.lt_iff_toInt_lt, hx, hy]
theorem cw_le {x y : Int64} {X Y : Int} (hx : x.toInt = X) (hy : y.toInt = Y) : x ≤ y ↔ X ≤ Y := by rw [Int64.le_iff_toInt_le, hx, hy]
theorem cw_eq {x y : Int64} {X Y : Int} (hx : x.toInt = X) (hy : y.toInt = Y) : x = y ↔ X = Y := by rw [← Int64.toInt_inj, hx, hy]
theorem i2l_ti {x : Int32} {X : Int} (h : x.toInt = X) : x.toInt64.toInt = X := by rw [Int32.toInt_toInt64, h]
theorem nat_of {x : Int32} (h : 0 ≤ x.toInt) : ∃ j : Nat, j < 2 ^ 31 ∧ x.toInt = (j : Int) ∧ x = nI j := by
  obtain ⟨j, hj, rfl⟩ := nI_of (x := x) (fun q => by rw [Int32.lt_iff_toInt_lt] at q; have : (0 : Int32).toInt = 0 := rfl; omega)
  exact ⟨j, hj, nI_toInt hj, rfl⟩
theorem eq_lit {x : Int32} {k : Nat} (h : x.toInt = (k : Int)) (hk : k < 2 ^ 31) : x = nI k := Int32.toInt_inj.mp (by rw [h, nI_toInt hk])
def zr (o k : Nat) (g : Nat → Int32) : Nat → Int32 := fun i => if o ≤ i ∧ i < o + k then 0 else g i
theorem zr_0 (o : Nat) (g : Nat → Int32) : zr o 0 g = g := by
  funext i; unfold zr; rw [if_neg (by omega)]
theorem zr_s (o k : Nat) (g : Nat → Int32) : upd (zr o k g) (o + k) 0 = zr o (k + 1) g := by
  funext i; unfold upd zr
  by_cases h : i = o + k
  · rw [if_pos h, if_pos (by omega)]
  · rw [if_neg h]
    by_cases h2 : o ≤ i ∧ i < o + k
    · rw [if_pos h2, if_pos (by omega)]
    · rw [if_neg h2, if_neg (by omega)]
set_option maxHeartbeats 4000000 in
set_option maxRecDepth 100000 in
theorem c_X7_in (l : Launch) (D : va_G) (cI cO cL : ClassId) (ws : va_W) (v lo hi : Int64) (V LO HI : Int) (hV : v.toInt = V) (hLO : lo.toInt = LO) (hHI : hi.toInt = HI) : Ki l yX7_in wsX7_in { frames := 0, cells := 0, slots := 0, locals := 0 } D (TY cI cO cL) [.long (v), .long (lo), .long (hi)] (ws) (fun r w => (r = 1 ∧ w = ws ∧ (LO ≤ V ∧ V ≤ HI)) ∨ (r = 0 ∧ w = ws ∧ ¬ (LO ≤ V ∧ V ≤ HI))) := by
  refine Ki.mk (cc := cX7_in) (maxL := 6) (rt := .boolean) (own := RX7) (by decide) rfl rfl (Nat.le_of_ble_eq_true rfl) ?_
  intro p e s m below meth c A Q ls C hname hA G hl RET
  obtain ⟨⟨hx, hb, hml, hown, hts⟩, hK, hN⟩ := id C
  have hl : lv_has ls 6 [(0, .long (v)), (2, .long (lo)), (4, .long (hi))] := hl
  refine lv_lload_n hx hb dX7_in_0 rfl (lv_at hl 0 rfl) ?_
  refine lv_lload_n hx hb dX7_in_1 rfl (lv_at hl 1 rfl) ?_
  refine W.lcmp hx hb dX7_in_2 ?_
  refine lv_if_lt (tgt := 17) hx hb dX7_in_3 (by decide) (fun c3 => ?_) (fun c3 => ?_)
  · skip
    replace c3 : V < LO := ((lg_cmp_lt _ _).trans (cw_lt hV hLO)).mp c3
    refine lv_iconst (v := (nI (0))) hx hb dX7_in_17 (by decide) ?_
    exact RET (nI (0)) (ws) _ _ ls _ _ _ (Or.inr ⟨rfl, rfl, by omega⟩) G (by first | (simp only []; omega) | decide) (by first | (simp only []; omega) | decide) rfl dX7_in_18
  · skip
    replace c3 : LO ≤ V := Int.not_lt.mp (fun h => c3 (((lg_cmp_lt _ _).trans (cw_lt hV hLO)).mpr h))
    refine lv_lload_n hx hb dX7_in_6 rfl (lv_at hl 0 rfl) ?_
    refine lv_lload hx hb dX7_in_7 (lv_at hl 2 rfl) ?_
    refine W.lcmp hx hb dX7_in_9 ?_
    refine lv_if_gt (tgt := 17) hx hb dX7_in_10 (by decide) (fun c10 => ?_) (fun c10 => ?_)
    · skip
      replace c10 : HI < V := ((lg_cmp_gt _ _).trans (cw_lt hHI hV)).mp c10
      refine lv_iconst (v := (nI (0))) hx hb dX7_in_17 (by decide) ?_
      exact RET (nI (0)) (ws) _ _ ls _ _ _ (Or.inr ⟨rfl, rfl, by omega⟩) G (by first | (simp only []; omega) | decide) (by first | (simp only []; omega) | decide) rfl dX7_in_18
    · skip
      replace c10 : V ≤ HI := Int.not_lt.mp (fun h => c10 (((lg_cmp_gt _ _).trans (cw_lt hHI hV)).mpr h))
      refine lv_iconst (v := (nI (1))) hx hb dX7_in_13 (by decide) ?_
      refine lv_goto (tgt := 18) hx hb dX7_in_14 (by decide) ?_
      exact RET (nI (1)) (ws) _ _ ls _ _ _ (Or.inl ⟨rfl, rfl, by omega⟩) G (by first | (simp only []; omega) | decide) (by first | (simp only []; omega) | decide) rfl dX7_in_18
set_option maxHeartbeats 4000000 in
set_option maxRecDepth 100000 in
theorem c_X7_isRow (l : Launch) (D : va_G) (cI cO cL : ClassId) (b : Nat → Nat) (I : Nat → Nat) (J : Nat → Int64) (F : Nat → Nat → Nat) (G0 : Nat → Nat → Int32) (x : Int32) (h1 : I 1 ≤ 60) : Ki l yX7_isRow wsX7_isRow { frames := 1, cells := 0, slots := 0, locals := 25 } D (TY cI cO cL) [.ref (b 0), .int (x)] (mW cI b I J F G0) (fun r w => (r = 1 ∧ w = mW cI b I J F G0 ∧ (0 ≤ x.toInt ∧ x.toInt < I 1)) ∨ (r = 0 ∧ w = mW cI b I J F G0 ∧ ¬ (0 ≤ x.toInt ∧ x.toInt < I 1))) := by
  refine Ki.mk (cc := cX7_isRow) (maxL := 2) (rt := .boolean) (own := RX7) (by decide) rfl rfl (Nat.le_of_ble_eq_true rfl) ?_
  intro p e s m below meth c A Q ls C hname hA G hl RET
  obtain ⟨⟨hx, hb, hml, hown, hts⟩, hK, hN⟩ := id C
  have hl : lv_has ls 2 [(0, .ref (b 0)), (1, .int (x))] := hl
  have hX7 : ∀ w ∈ u_ws RX7 TX7 30, w ∈ wsX7_isRow := by decide +kernel
  refine lv_iload_n hx hb dX7_isRow_0 rfl (lv_at hl 1 rfl) ?_
  refine lv_i2l hx hb dX7_isRow_1 rfl ?_
  refine lv_lconst (v := 0) hx hb dX7_isRow_2 (by decide) ?_
  refine lv_aload_n hx hb dX7_isRow_3 rfl (lv_at hl 0 rfl) ?_
  refine r_get (v := .int (nI (I 1))) C G hX7 0 rfl rfl 3 (by decide) (by decide +kernel) rfl dX7_isRow_4 ?_
  refine lv_iconst (v := (nI (1))) hx hb dX7_isRow_7 (by decide) ?_
  refine lv_isub hx hb dX7_isRow_8 ?_
  refine lv_i2l hx hb dX7_isRow_9 rfl ?_
  refine r_ai G hA (r_rS (na := 3) (As := [.long (x.toInt64), .long (0), .long ((nI (I 1) - nI (1)).toInt64)]) (rest := []) C G (c_X7_in l D cI cO cL (mW cI b I J F G0) x.toInt64 0 ((nI (I 1) - nI (1)).toInt64) ((x).toInt) ((0)) (((I 1 : Nat) : Int) - ((1 : Nat) : Int)) ((i2l_ti rfl)) ((by decide)) ((i2l_ti (pk_sub_toInt (by omega) (by omega))))) gX7_isRow_X7_in rfl (by decide +kernel) ⟨Nat.le_of_ble_eq_true rfl, Nat.le_of_ble_eq_true rfl⟩ rfl hl.1 rfl (Nat.le_of_ble_eq_true rfl) dX7_isRow_10 ⟨by first | (simp only []; omega) | decide, by first | (simp only []; omega) | decide⟩) (fun r10 w10 H locs hp10 G => ?_)
  rcases hp10 with ⟨rfl, rfl, hi10⟩ | ⟨rfl, rfl, hi10⟩
  · skip
    exact RET (nI (1)) (mW cI b I J F G0) _ _ ls _ _ _ (Or.inl ⟨rfl, rfl, by omega⟩) G (by first | (simp only []; omega) | decide) (by first | (simp only []; omega) | decide) rfl dX7_isRow_13
  · skip
    exact RET (nI (0)) (mW cI b I J F G0) _ _ ls _ _ _ (Or.inr ⟨rfl, rfl, by omega⟩) G (by first | (simp only []; omega) | decide) (by first | (simp only []; omega) | decide) rfl dX7_isRow_13
set_option maxHeartbeats 4000000 in
set_option maxRecDepth 100000 in
theorem c_X7_isAsked (l : Launch) (D : va_G) (cI cO cL : ClassId) (b : Nat → Nat) (I : Nat → Nat) (J : Nat → Int64) (F : Nat → Nat → Nat) (G0 : Nat → Nat → Int32) (x y : Int32) : Ki l yX7_isAsked wsX7_isAsked { frames := 1, cells := 0, slots := 0, locals := 25 } D (TY cI cO cL) [.ref (b 0), .int (x), .int (y)] (mW cI b I J F G0) (fun r w => (r = 1 ∧ w = mW cI b I J F G0 ∧ (0 ≤ x.toInt ∧ x.toInt ≤ 4 ∧ 0 ≤ y.toInt ∧ y.toInt ≤ 1000)) ∨ (r = 0 ∧ w = mW cI b I J F G0 ∧ ¬ (0 ≤ x.toInt ∧ x.toInt ≤ 4 ∧ 0 ≤ y.toInt ∧ y.toInt ≤ 1000))) := by
  refine Ki.mk (cc := cX7_isAsked) (maxL := 3) (rt := .boolean) (own := RX7) (by decide) rfl rfl (Nat.le_of_ble_eq_true rfl) ?_
  intro p e s m below meth c A Q ls C hname hA G hl RET
  obtain ⟨⟨hx, hb, hml, hown, hts⟩, hK, hN⟩ := id C
  have hl : lv_has ls 3 [(0, .ref (b 0)), (1, .int (x)), (2, .int (y))] := hl
  refine lv_iload_n hx hb dX7_isAsked_0 rfl (lv_at hl 1 rfl) ?_
  refine lv_i2l hx hb dX7_isAsked_1 rfl ?_
  refine lv_lconst (v := 0) hx hb dX7_isAsked_2 (by decide) ?_
  refine lv_ldc2 (v := (4)) hx hb hown (hts (.constantLong RX7 158 (4)) (by decide +kernel)) dX7_isAsked_3 ?_
  refine r_ai G hA (r_rS (na := 3) (As := [.long (x.toInt64), .long (0), .long ((4))]) (rest := []) C G (c_X7_in l D cI cO cL (mW cI b I J F G0) x.toInt64 0 ((4)) ((x).toInt) ((0)) ((4)) ((i2l_ti rfl)) ((by decide)) ((by decide))) gX7_isAsked_X7_in rfl (by decide +kernel) ⟨Nat.le_of_ble_eq_true rfl, Nat.le_of_ble_eq_true rfl⟩ rfl hl.1 rfl (Nat.le_of_ble_eq_true rfl) dX7_isAsked_6 ⟨by first | (simp only []; omega) | decide, by first | (simp only []; omega) | decide⟩) (fun r6 w6 H locs hp6 G => ?_)
  rcases hp6 with ⟨rfl, rfl, hi6⟩ | ⟨rfl, rfl, hi6⟩
  · skip
    refine lv_if_eq (tgt := 28) hx hb dX7_isAsked_9 (by decide) (fun c9 => ?_) (fun c9 => ?_)
    · skip
      exact absurd c9 (by decide)
    · skip
      refine lv_iload_n hx hb dX7_isAsked_12 rfl (lv_at hl 2 rfl) ?_
      refine lv_i2l hx hb dX7_isAsked_13 rfl ?_
      refine lv_lconst (v := 0) hx hb dX7_isAsked_14 (by decide) ?_
      refine lv_ldc2 (v := (1000)) hx hb hown (hts (.constantLong RX7 102 (1000)) (by decide +kernel)) dX7_isAsked_15 ?_
      refine r_ai G hA (r_rS (na := 3) (As := [.long (y.toInt64), .long (0), .long ((1000))]) (rest := []) C G (c_X7_in l D cI cO cL (mW cI b I J F G0) y.toInt64 0 ((1000)) ((y).toInt) ((0)) ((1000)) ((i2l_ti rfl)) ((by decide)) ((by decide))) gX7_isAsked_X7_in rfl (by decide +kernel) ⟨Nat.le_of_ble_eq_true rfl, Nat.le_of_ble_eq_true rfl⟩ rfl hl.1 rfl (Nat.le_of_ble_eq_true rfl) dX7_isAsked_18 ⟨by first | (simp only []; omega) | decide, by first | (simp only []; omega) | decide⟩) (fun r18 w18 H locs hp18 G => ?_)
      rcases hp18 with ⟨rfl, rfl, hi18⟩ | ⟨rfl, rfl, hi18⟩
      · skip
        refine lv_if_eq (tgt := 28) hx hb dX7_isAsked_21 (by decide) (fun c21 => ?_) (fun c21 => ?_)
        · skip
          exact absurd c21 (by decide)
        · skip
          refine lv_iconst (v := (nI (1))) hx hb dX7_isAsked_24 (by decide) ?_
          refine lv_goto (tgt := 29) hx hb dX7_isAsked_25 (by decide) ?_
          exact RET (nI (1)) (mW cI b I J F G0) _ _ ls _ _ _ (Or.inl ⟨rfl, rfl, by omega⟩) G (by first | (simp only []; omega) | decide) (by first | (simp only []; omega) | decide) rfl dX7_isAsked_29
      · skip
        refine lv_if_eq (tgt := 28) hx hb dX7_isAsked_21 (by decide) (fun c21 => ?_) (fun c21 => ?_)
        · skip
          refine lv_iconst (v := (nI (0))) hx hb dX7_isAsked_28 (by decide) ?_
          exact RET (nI (0)) (mW cI b I J F G0) _ _ ls _ _ _ (Or.inr ⟨rfl, rfl, by omega⟩) G (by first | (simp only []; omega) | decide) (by first | (simp only []; omega) | decide) rfl dX7_isAsked_29
        · skip
          exact absurd c21 (by decide)
  · skip
    refine lv_if_eq (tgt := 28) hx hb dX7_isAsked_9 (by decide) (fun c9 => ?_) (fun c9 => ?_)
    · skip
      refine lv_iconst (v := (nI (0))) hx hb dX7_isAsked_28 (by decide) ?_
      exact RET (nI (0)) (mW cI b I J F G0) _ _ ls _ _ _ (Or.inr ⟨rfl, rfl, by omega⟩) G (by first | (simp only []; omega) | decide) (by first | (simp only []; omega) | decide) rfl dX7_isAsked_29
    · skip
      exact absurd c9 (by decide)
set_option maxHeartbeats 4000000 in
set_option maxRecDepth 100000 in
theorem c_X7_comes (l : Launch) (D : va_G) (cI cO cL : ClassId) (b : Nat → Nat) (I : Nat → Nat) (J : Nat → Int64) (F : Nat → Nat → Nat) (G0 : Nat → Nat → Int32) (kd hi wi : Nat) (lb wt : Int32) (h1 : I 1 ≤ 60) (hh : hi ≤ 40) (hw : wi ≤ 40) (hp : hi * wi ≤ 1600) : Ki l yX7_comes wsX7_comes { frames := 1, cells := 0, slots := 0, locals := 25 } D (TY cI cO cL) [.ref (b 0), .int (nI (kd)), .int (lb), .int (wt), .int (nI (hi)), .int (nI (wi))] (mW cI b I J F G0) (fun r w => (¬ (0 ≤ lb.toInt ∧ lb.toInt ≤ 7 ∧ 0 ≤ wt.toInt ∧ wt.toInt ≤ 1000) ∧ r = -1 ∧ w = mW cI b I J F G0) ∨ ((0 ≤ lb.toInt ∧ lb.toInt ≤ 7 ∧ 0 ≤ wt.toInt ∧ wt.toInt ≤ 1000) ∧ I 1 = 60 ∧ r = -2 ∧ w = mW cI b I J F G0) ∨ (∃ lb1 wt1 : Nat, lb = nI lb1 ∧ wt = nI wt1 ∧ lb1 ≤ 7 ∧ wt1 ≤ 1000 ∧ I 1 < 60 ∧ r = nI (I 1) ∧ w = mW cI b (va_up I 1 (I 1 + 1)) J (va_up (va_up (va_up (va_up (va_up (va_up F 0 (va_up (F 0) (I 1) kd)) 1 (va_up (F 1) (I 1) lb1)) 2 (va_up (F 2) (I 1) wt1)) 3 (va_up (F 3) (I 1) (hi * wi))) 4 (va_up (F 4) (I 1) hi)) 5 (va_up (F 5) (I 1) wi)) (va_up G0 0 (zr (1600 * I 1) 1600 (G0 0))))) := by
  refine Ki.mk (cc := cX7_comes) (maxL := 7) (rt := .int) (own := RX7) (by decide) rfl rfl (Nat.le_of_ble_eq_true rfl) ?_
  intro p e s m below meth c A Q ls C hname hA G hl RET
  obtain ⟨⟨hx, hb, hml, hown, hts⟩, hK, hN⟩ := id C
  have hl : lv_has ls 7 [(0, .ref (b 0)), (1, .int (nI (kd))), (2, .int (lb)), (3, .int (wt)), (4, .int (nI (hi))), (5, .int (nI (wi)))] := hl
  have hX7 : ∀ w ∈ u_ws RX7 TX7 30, w ∈ wsX7_comes := by decide +kernel
  refine lv_iload_n hx hb dX7_comes_0 rfl (lv_at hl 2 rfl) ?_
  refine lv_i2l hx hb dX7_comes_1 rfl ?_
  refine lv_lconst (v := 0) hx hb dX7_comes_2 (by decide) ?_
  refine lv_ldc2 (v := (7)) hx hb hown (hts (.constantLong RX7 100 (7)) (by decide +kernel)) dX7_comes_3 ?_
  refine r_ai G hA (r_rS (na := 3) (As := [.long (lb.toInt64), .long (0), .long ((7))]) (rest := []) C G (c_X7_in l D cI cO cL (mW cI b I J F G0) lb.toInt64 0 ((7)) ((lb).toInt) ((0)) ((7)) ((i2l_ti rfl)) ((by decide)) ((by decide))) gX7_comes_X7_in rfl (by decide +kernel) ⟨Nat.le_of_ble_eq_true rfl, Nat.le_of_ble_eq_true rfl⟩ rfl hl.1 rfl (Nat.le_of_ble_eq_true rfl) dX7_comes_6 ⟨by first | (simp only []; omega) | decide, by first | (simp only []; omega) | decide⟩) (fun r6 w6 H locs hp6 G => ?_)
  rcases hp6 with ⟨rfl, rfl, hi6⟩ | ⟨rfl, rfl, hi6⟩
  · skip
    refine lv_if_eq (tgt := 24) hx hb dX7_comes_9 (by decide) (fun c9 => ?_) (fun c9 => ?_)
    · skip
      exact absurd c9 (by decide)
    · skip
      refine lv_iload_n hx hb dX7_comes_12 rfl (lv_at hl 3 rfl) ?_
      refine lv_i2l hx hb dX7_comes_13 rfl ?_
      refine lv_lconst (v := 0) hx hb dX7_comes_14 (by decide) ?_
      refine lv_ldc2 (v := (1000)) hx hb hown (hts (.constantLong RX7 102 (1000)) (by decide +kernel)) dX7_comes_15 ?_
      refine r_ai G hA (r_rS (na := 3) (As := [.long (wt.toInt64), .long (0), .long ((1000))]) (rest := []) C G (c_X7_in l D cI cO cL (mW cI b I J F G0) wt.toInt64 0 ((1000)) ((wt).toInt) ((0)) ((1000)) ((i2l_ti rfl)) ((by decide)) ((by decide))) gX7_comes_X7_in rfl (by decide +kernel) ⟨Nat.le_of_ble_eq_true rfl, Nat.le_of_ble_eq_true rfl⟩ rfl hl.1 rfl (Nat.le_of_ble_eq_true rfl) dX7_comes_18 ⟨by first | (simp only []; omega) | decide, by first | (simp only []; omega) | decide⟩) (fun r18 w18 H locs hp18 G => ?_)
      rcases hp18 with ⟨rfl, rfl, hi18⟩ | ⟨rfl, rfl, hi18⟩
      · skip
        refine lv_if_ne (tgt := 26) hx hb dX7_comes_21 (by decide) (fun c21 => ?_) (fun c21 => ?_)
        · skip
          refine lv_aload_n hx hb dX7_comes_26 rfl (lv_at hl 0 rfl) ?_
          refine r_get (v := .int (nI (I 1))) C G hX7 0 rfl rfl 3 (by decide) (by decide +kernel) rfl dX7_comes_27 ?_
          refine lv_bipush (v := (nI (60))) hx hb dX7_comes_30 (by decide) ?_
          refine lv_icmp_ne (tgt := 38) hx hb dX7_comes_32 (by decide) (fun c32 => ?_) (fun c32 => ?_)
          · skip
            replace c32 : ¬ ((I 1 : Nat) : Int) = ((60 : Nat) : Int) := fun h => c32 ((cv_eq (nI_toInt (by omega)) (nI_toInt (by omega))).mpr h)
            obtain ⟨lb1, hlb1, elb1, rfl⟩ := nat_of (x := lb) (by omega)
            obtain ⟨wt1, hwt1, ewt1, rfl⟩ := nat_of (x := wt) (by omega)
            refine lv_aload_n hx hb dX7_comes_38 rfl (lv_at hl 0 rfl) ?_
            refine r_get (v := .ref (b 1)) C G hX7 0 rfl rfl 4 (by decide) (by decide +kernel) rfl dX7_comes_39 ?_
            refine lv_aload_n hx hb dX7_comes_42 rfl (lv_at hl 0 rfl) ?_
            refine r_get (v := .int (nI (I 1))) C G hX7 0 rfl rfl 3 (by decide) (by decide +kernel) rfl dX7_comes_43 ?_
            refine lv_iload_n hx hb dX7_comes_46 rfl (lv_at hl 1 rfl) ?_
            refine r_iast (ws' := mW cI b I J (va_up F 0 (va_up (F 0) (I 1) kd)) G0) C G 1 0 rfl rfl (I 1) rfl (by omega) (by omega) (nI_upd _ _ _) dX7_comes_47 rfl (fun H locs G => ?_)
            refine lv_aload_n hx hb dX7_comes_48 rfl (lv_at hl 0 rfl) ?_
            refine r_get (v := .ref (b 2)) C G hX7 0 rfl rfl 5 (by decide) (by decide +kernel) rfl dX7_comes_49 ?_
            refine lv_aload_n hx hb dX7_comes_52 rfl (lv_at hl 0 rfl) ?_
            refine r_get (v := .int (nI (I 1))) C G hX7 0 rfl rfl 3 (by decide) (by decide +kernel) rfl dX7_comes_53 ?_
            refine lv_iload_n hx hb dX7_comes_56 rfl (lv_at hl 2 rfl) ?_
            refine r_iast (ws' := mW cI b I J (va_up (va_up F 0 (va_up (F 0) (I 1) kd)) 1 (va_up (F 1) (I 1) lb1)) G0) C G 2 0 rfl rfl (I 1) rfl (by omega) (by omega) (nI_upd _ _ _) dX7_comes_57 rfl (fun H locs G => ?_)
            refine lv_aload_n hx hb dX7_comes_58 rfl (lv_at hl 0 rfl) ?_
            refine r_get (v := .ref (b 3)) C G hX7 0 rfl rfl 6 (by decide) (by decide +kernel) rfl dX7_comes_59 ?_
            refine lv_aload_n hx hb dX7_comes_62 rfl (lv_at hl 0 rfl) ?_
            refine r_get (v := .int (nI (I 1))) C G hX7 0 rfl rfl 3 (by decide) (by decide +kernel) rfl dX7_comes_63 ?_
            refine lv_iload_n hx hb dX7_comes_66 rfl (lv_at hl 3 rfl) ?_
            refine r_iast (ws' := mW cI b I J (va_up (va_up (va_up F 0 (va_up (F 0) (I 1) kd)) 1 (va_up (F 1) (I 1) lb1)) 2 (va_up (F 2) (I 1) wt1)) G0) C G 3 0 rfl rfl (I 1) rfl (by omega) (by omega) (nI_upd _ _ _) dX7_comes_67 rfl (fun H locs G => ?_)
            refine lv_aload_n hx hb dX7_comes_68 rfl (lv_at hl 0 rfl) ?_
            refine r_get (v := .ref (b 5)) C G hX7 0 rfl rfl 8 (by decide) (by decide +kernel) rfl dX7_comes_69 ?_
            refine lv_aload_n hx hb dX7_comes_72 rfl (lv_at hl 0 rfl) ?_
            refine r_get (v := .int (nI (I 1))) C G hX7 0 rfl rfl 3 (by decide) (by decide +kernel) rfl dX7_comes_73 ?_
            refine lv_iload hx hb dX7_comes_76 (lv_at hl 4 rfl) ?_
            refine r_iast (ws' := mW cI b I J (va_up (va_up (va_up (va_up F 0 (va_up (F 0) (I 1) kd)) 1 (va_up (F 1) (I 1) lb1)) 2 (va_up (F 2) (I 1) wt1)) 4 (va_up (F 4) (I 1) hi)) G0) C G 5 0 rfl rfl (I 1) rfl (by omega) (by omega) (nI_upd _ _ _) dX7_comes_78 rfl (fun H locs G => ?_)
            refine lv_aload_n hx hb dX7_comes_79 rfl (lv_at hl 0 rfl) ?_
            refine r_get (v := .ref (b 6)) C G hX7 0 rfl rfl 9 (by decide) (by decide +kernel) rfl dX7_comes_80 ?_
            refine lv_aload_n hx hb dX7_comes_83 rfl (lv_at hl 0 rfl) ?_
            refine r_get (v := .int (nI (I 1))) C G hX7 0 rfl rfl 3 (by decide) (by decide +kernel) rfl dX7_comes_84 ?_
            refine lv_iload hx hb dX7_comes_87 (lv_at hl 5 rfl) ?_
            refine r_iast (ws' := mW cI b I J (va_up (va_up (va_up (va_up (va_up F 0 (va_up (F 0) (I 1) kd)) 1 (va_up (F 1) (I 1) lb1)) 2 (va_up (F 2) (I 1) wt1)) 4 (va_up (F 4) (I 1) hi)) 5 (va_up (F 5) (I 1) wi)) G0) C G 6 0 rfl rfl (I 1) rfl (by omega) (by omega) (nI_upd _ _ _) dX7_comes_89 rfl (fun H locs G => ?_)
            refine lv_aload_n hx hb dX7_comes_90 rfl (lv_at hl 0 rfl) ?_
            refine r_get (v := .ref (b 4)) C G hX7 0 rfl rfl 7 (by decide) (by decide +kernel) rfl dX7_comes_91 ?_
            refine lv_aload_n hx hb dX7_comes_94 rfl (lv_at hl 0 rfl) ?_
            refine r_get (v := .int (nI (I 1))) C G hX7 0 rfl rfl 3 (by decide) (by decide +kernel) rfl dX7_comes_95 ?_
            refine lv_iload hx hb dX7_comes_98 (lv_at hl 4 rfl) ?_
            refine lv_iload hx hb dX7_comes_100 (lv_at hl 5 rfl) ?_
            refine r_imul hx hb dX7_comes_102 ?_
            refine r_iast (ws' := mW cI b I J (va_up (va_up (va_up (va_up (va_up (va_up F 0 (va_up (F 0) (I 1) kd)) 1 (va_up (F 1) (I 1) lb1)) 2 (va_up (F 2) (I 1) wt1)) 4 (va_up (F 4) (I 1) hi)) 5 (va_up (F 5) (I 1) wi)) 3 (va_up (F 3) (I 1) (hi * wi))) G0) C G 4 0 rfl rfl (I 1) rfl (by omega) (by omega) (nI_upd _ _ _) dX7_comes_103 rfl (fun H locs G => ?_)
            refine lv_iconst (v := (nI (0))) hx hb dX7_comes_104 (by decide) ?_
            refine lv_istore (lv' := [(6, .int (nI (0))), (0, .ref (b 0)), (1, .int (nI (kd))), (2, .int (nI (lb1))), (3, .int (nI (wt1))), (4, .int (nI (hi))), (5, .int (nI (wi)))]) hx hb dX7_comes_105 hl (by decide) rfl (fun ls hl => ?_)
            have lp107 : ∀ (fuel107 : Nat) (k : Nat) (hm : 1600 - k < fuel107) (hk : k ≤ 1600) (H : Heap) (locs : List Loc) (ls : Array Slot), Wd A s.heap D (mW cI b I J (va_up (va_up (va_up (va_up (va_up (va_up F 0 (va_up (F 0) (I 1) kd)) 1 (va_up (F 1) (I 1) lb1)) 2 (va_up (F 2) (I 1) wt1)) 3 (va_up (F 3) (I 1) (hi * wi))) 4 (va_up (F 4) (I 1) hi)) 5 (va_up (F 5) (I 1) wi)) (va_up G0 0 (zr (1600 * I 1) k (G0 0)))) H locs → lv_has ls 7 [(0, .ref (b 0)), (6, .int (nI (k)))] → W p l e ({ frames := 1, cells := 0, slots := 0, locals := 25 } : Room) s m ([.ref (b 0), .int (nI (kd)), .int (nI (lb1)), .int (nI (wt1)), .int (nI (hi)), .int (nI (wi))] : List Value).toArray below meth c H locs 0 0 Q (F0 m 107 ls []) := by
              intro fuel107
              induction fuel107 with
              | zero => intro k hm hk; exact absurd hm (by omega)
              | succ fuel107 ih107 =>
                intro k hm hk H locs ls G hl
                refine lv_iload hx hb dX7_comes_107 (lv_at hl 1 rfl) ?_
                refine lv_sipush (v := (nI (1600))) hx hb dX7_comes_109 (by decide) ?_
                refine lv_icmp_ge (tgt := 138) hx hb dX7_comes_112 (by decide) (fun c112 => ?_) (fun c112 => ?_)
                · skip
                  replace c112 : ((1600 : Nat) : Int) ≤ ((k : Nat) : Int) := (cv_le (nI_toInt (by omega)) (nI_toInt (by omega))).mp c112
                  obtain rfl : k = 1600 := by omega
                  refine lv_aload_n hx hb dX7_comes_138 rfl (lv_at hl 0 rfl) ?_
                  refine lv_dup hx hb dX7_comes_139 rfl ?_
                  refine r_get (v := .int (nI (I 1))) C G hX7 0 rfl rfl 3 (by decide) (by decide +kernel) rfl dX7_comes_140 ?_
                  refine lv_iconst (v := (nI (1))) hx hb dX7_comes_143 (by decide) ?_
                  refine r_iadd hx hb dX7_comes_144 ?_
                  refine r_put (ws' := mW cI b (va_up I 1 ((I 1) + 1)) J (va_up (va_up (va_up (va_up (va_up (va_up F 0 (va_up (F 0) (I 1) kd)) 1 (va_up (F 1) (I 1) lb1)) 2 (va_up (F 2) (I 1) wt1)) 3 (va_up (F 3) (I 1) (hi * wi))) 4 (va_up (F 4) (I 1) hi)) 5 (va_up (F 5) (I 1) wi)) (va_up G0 0 (zr (1600 * I 1) 1600 (G0 0)))) C G hX7 tyX7_ok nmX7 0 rfl rfl 3 (by decide) (by decide +kernel) rfl rfl rfl (Nat.le_of_ble_eq_true rfl) dX7_comes_145 rfl (fun H locs G => ?_)
                  refine lv_aload_n hx hb dX7_comes_148 rfl (lv_at hl 0 rfl) ?_
                  refine r_get (v := .int (nI ((I 1) + 1))) C G hX7 0 rfl rfl 3 (by decide) (by decide +kernel) rfl dX7_comes_149 ?_
                  refine lv_iconst (v := (nI (1))) hx hb dX7_comes_152 (by decide) ?_
                  refine r_isub hx hb (by omega) dX7_comes_153 ?_
                  exact RET (nI (((I 1) + 1) - 1)) (mW cI b (va_up I 1 ((I 1) + 1)) J (va_up (va_up (va_up (va_up (va_up (va_up F 0 (va_up (F 0) (I 1) kd)) 1 (va_up (F 1) (I 1) lb1)) 2 (va_up (F 2) (I 1) wt1)) 3 (va_up (F 3) (I 1) (hi * wi))) 4 (va_up (F 4) (I 1) hi)) 5 (va_up (F 5) (I 1) wi)) (va_up G0 0 (zr (1600 * I 1) 1600 (G0 0)))) _ _ ls _ _ _ (Or.inr (Or.inr ⟨lb1, wt1, rfl, rfl, by omega, by omega, by omega, by rw [Nat.add_sub_cancel], rfl⟩)) G (by first | (simp only []; omega) | decide) (by first | (simp only []; omega) | decide) rfl dX7_comes_154
                · skip
                  replace c112 : ((k : Nat) : Int) < ((1600 : Nat) : Int) := Int.not_le.mp (fun h => c112 ((cv_le (nI_toInt (by omega)) (nI_toInt (by omega))).mpr h))
                  refine lv_aload_n hx hb dX7_comes_115 rfl (lv_at hl 0 rfl) ?_
                  refine r_get (v := .ref (b 7)) C G hX7 0 rfl rfl 10 (by decide) (by decide +kernel) rfl dX7_comes_116 ?_
                  refine lv_sipush (v := (nI (1600))) hx hb dX7_comes_119 (by decide) ?_
                  refine lv_aload_n hx hb dX7_comes_122 rfl (lv_at hl 0 rfl) ?_
                  refine r_get (v := .int (nI (I 1))) C G hX7 0 rfl rfl 3 (by decide) (by decide +kernel) rfl dX7_comes_123 ?_
                  refine r_imul hx hb dX7_comes_126 ?_
                  refine lv_iload hx hb dX7_comes_127 (lv_at hl 1 rfl) ?_
                  refine r_iadd hx hb dX7_comes_129 ?_
                  refine lv_iconst (v := (nI (0))) hx hb dX7_comes_130 (by decide) ?_
                  refine r_iast (ws' := mW cI b I J (va_up (va_up (va_up (va_up (va_up (va_up F 0 (va_up (F 0) (I 1) kd)) 1 (va_up (F 1) (I 1) lb1)) 2 (va_up (F 2) (I 1) wt1)) 3 (va_up (F 3) (I 1) (hi * wi))) 4 (va_up (F 4) (I 1) hi)) 5 (va_up (F 5) (I 1) wi)) (va_up G0 0 (zr (1600 * I 1) (k + 1) (G0 0)))) C G 7 0 rfl rfl ((1600 * (I 1)) + k) rfl (by omega) (by omega) (zr_s _ _ _) dX7_comes_131 rfl (fun H locs G => ?_)
                  refine lv_iinc (v := nI (k + 1)) (lv' := [(6, .int (nI (k + 1))), (0, .ref (b 0))]) hx hb dX7_comes_132 hl (k := 1) rfl (inc_n _ 1) (by decide) rfl (fun ls hl => ?_)
                  refine lv_goto (tgt := 107) hx hb dX7_comes_135 (by decide) ?_
                  exact ih107 (k + 1) (by omega) (by omega) _ _ _ (G.eq (rfl)) (lv_sub hl [1, 0] rfl)
            exact lp107 1601 0 (by omega) (by omega) _ _ _ (G.eq (by rw [zr_0]; rfl)) (lv_sub hl [1, 0] rfl)
          · skip
            replace c32 : ((I 1 : Nat) : Int) = ((60 : Nat) : Int) := (cv_eq (nI_toInt (by omega)) (nI_toInt (by omega))).mp c32
            refine lv_bipush (v := ((-2))) hx hb dX7_comes_35 (by decide) ?_
            exact RET ((-2)) (mW cI b I J F G0) _ _ ls _ _ _ (Or.inr (Or.inl ⟨by omega, by omega, rfl, rfl⟩)) G (by first | (simp only []; omega) | decide) (by first | (simp only []; omega) | decide) rfl dX7_comes_37
        · skip
          exact absurd c21 (by decide)
      · skip
        refine lv_if_ne (tgt := 26) hx hb dX7_comes_21 (by decide) (fun c21 => ?_) (fun c21 => ?_)
        · skip
          exact absurd c21 (by decide)
        · skip
          refine lv_iconst (v := ((-1))) hx hb dX7_comes_24 (by decide) ?_
          exact RET ((-1)) (mW cI b I J F G0) _ _ ls _ _ _ (Or.inl ⟨by omega, rfl, rfl⟩) G (by first | (simp only []; omega) | decide) (by first | (simp only []; omega) | decide) rfl dX7_comes_25
  · skip
    refine lv_if_eq (tgt := 24) hx hb dX7_comes_9 (by decide) (fun c9 => ?_) (fun c9 => ?_)
    · skip
      refine lv_iconst (v := ((-1))) hx hb dX7_comes_24 (by decide) ?_
      exact RET ((-1)) (mW cI b I J F G0) _ _ ls _ _ _ (Or.inl ⟨by omega, rfl, rfl⟩) G (by first | (simp only []; omega) | decide) (by first | (simp only []; omega) | decide) rfl dX7_comes_25
    · skip
      exact absurd c9 (by decide)
end
section
set_option maxHeartbeats 4000000 in
set_option maxRecDepth 100000 in
theorem c_X7_row (l : Launch) (D : va_G) (cI cO cL : ClassId) (b : Nat → Nat) (I : Nat → Nat) (J : Nat → Int64) (F : Nat → Nat → Nat) (G0 : Nat → Nat → Int32) (kd lb wt : Int32) (h1 : I 1 ≤ 60) : Ki l yX7_row wsX7_row { frames := 2, cells := 0, slots := 0, locals := 51 } D (TY cI cO cL) [.ref (b 0), .int (kd), .int (lb), .int (wt)] (mW cI b I J F G0) (fun r w => (¬ ((kd.toInt = 0 ∨ kd.toInt = 2) ∧ 0 ≤ lb.toInt ∧ lb.toInt ≤ 7 ∧ 0 ≤ wt.toInt ∧ wt.toInt ≤ 1000) ∧ r = -1 ∧ w = mW cI b (va_up I 0 0) J F G0) ∨ (((kd.toInt = 0 ∨ kd.toInt = 2) ∧ 0 ≤ lb.toInt ∧ lb.toInt ≤ 7 ∧ 0 ≤ wt.toInt ∧ wt.toInt ≤ 1000) ∧ I 1 = 60 ∧ r = -2 ∧ w = mW cI b (va_up I 0 0) J F G0) ∨ (∃ kd1 lb1 wt1 : Nat, kd = nI kd1 ∧ lb = nI lb1 ∧ wt = nI wt1 ∧ (kd1 = 0 ∨ kd1 = 2) ∧ lb1 ≤ 7 ∧ wt1 ≤ 1000 ∧ I 1 < 60 ∧ r = nI (I 1) ∧ w = mW cI b (va_up (va_up I 0 0) 1 (I 1 + 1)) J (va_up (va_up (va_up (va_up (va_up (va_up F 0 (va_up (F 0) (I 1) kd1)) 1 (va_up (F 1) (I 1) lb1)) 2 (va_up (F 2) (I 1) wt1)) 3 (va_up (F 3) (I 1) (0 * 0))) 4 (va_up (F 4) (I 1) 0)) 5 (va_up (F 5) (I 1) 0)) (va_up G0 0 (zr (1600 * I 1) 1600 (G0 0))))) := by
  refine Ki.mk (cc := cX7_row) (maxL := 4) (rt := .int) (own := RX7) (by decide) rfl rfl (Nat.le_of_ble_eq_true rfl) ?_
  intro p e s m below meth c A Q ls C hname hA G hl RET
  obtain ⟨⟨hx, hb, hml, hown, hts⟩, hK, hN⟩ := id C
  have hl : lv_has ls 4 [(0, .ref (b 0)), (1, .int (kd)), (2, .int (lb)), (3, .int (wt))] := hl
  have hX7 : ∀ w ∈ u_ws RX7 TX7 30, w ∈ wsX7_row := by decide +kernel
  refine lv_aload_n hx hb dX7_row_0 rfl (lv_at hl 0 rfl) ?_
  refine lv_iconst (v := (nI (0))) hx hb dX7_row_1 (by decide) ?_
  refine r_put (ws' := mW cI b (va_up I 0 0) J F G0) C G hX7 tyX7_ok nmX7 0 rfl rfl 0 (by decide) (by decide +kernel) rfl rfl rfl (Nat.le_of_ble_eq_true rfl) dX7_row_2 rfl (fun H locs G => ?_)
  refine lv_iload_n hx hb dX7_row_5 rfl (lv_at hl 1 rfl) ?_
  refine lv_if_eq (tgt := 18) hx hb dX7_row_6 (by decide) (fun c6 => ?_) (fun c6 => ?_)
  · skip
    replace c6 : (kd).toInt = (0) := (cv_eq rfl (by decide)).mp c6
    obtain rfl : kd = nI 0 := eq_lit (by omega) (by omega)
    refine lv_aload_n hx hb dX7_row_18 rfl (lv_at hl 0 rfl) ?_
    refine lv_iload_n hx hb dX7_row_19 rfl (lv_at hl 1 rfl) ?_
    refine lv_iload_n hx hb dX7_row_20 rfl (lv_at hl 2 rfl) ?_
    refine lv_iload_n hx hb dX7_row_21 rfl (lv_at hl 3 rfl) ?_
    refine lv_iconst (v := (nI (0))) hx hb dX7_row_22 (by decide) ?_
    refine lv_iconst (v := (nI (0))) hx hb dX7_row_23 (by decide) ?_
    refine r_ai G hA (r_rV (na := 5) (As := [.int (nI (0)), .int (lb), .int (wt), .int (nI (0)), .int (nI (0))]) (rest := []) C G (c_X7_comes l D cI cO cL b (va_up I 0 0) J F G0 0 0 0 lb wt h1 (by omega) (by omega) (by decide)) gX7_row_X7_comes rfl (by decide +kernel) ⟨Nat.le_of_ble_eq_true rfl, Nat.le_of_ble_eq_true rfl⟩ 0 rfl rfl rfl hl.1 rfl (Nat.le_of_ble_eq_true rfl) dX7_row_24 ⟨by first | (simp only []; omega) | decide, by first | (simp only []; omega) | decide⟩) (fun r24 w24 H locs hp24 G => ?_)
    rcases hp24 with ⟨hb24, rfl, rfl⟩ | ⟨hb24, hf24, rfl, rfl⟩ | ⟨lb1, wt1, rfl, rfl, hlb, hwt, hlt, rfl, rfl⟩
    · skip
      exact RET ((-1)) (mW cI b (va_up I 0 0) J F G0) _ _ ls _ _ _ (Or.inl ⟨by omega, rfl, rfl⟩) G (by first | (simp only []; omega) | decide) (by first | (simp only []; omega) | decide) rfl dX7_row_27
    · skip
      exact RET ((-2)) (mW cI b (va_up I 0 0) J F G0) _ _ ls _ _ _ (Or.inr (Or.inl ⟨⟨by decide, by omega⟩, hf24, rfl, rfl⟩)) G (by first | (simp only []; omega) | decide) (by first | (simp only []; omega) | decide) rfl dX7_row_27
    · skip
      exact RET (nI (I 1)) (mW cI b (va_up (va_up I 0 0) 1 (I 1 + 1)) J (va_up (va_up (va_up (va_up (va_up (va_up F 0 (va_up (F 0) (I 1) 0)) 1 (va_up (F 1) (I 1) lb1)) 2 (va_up (F 2) (I 1) wt1)) 3 (va_up (F 3) (I 1) (0 * 0))) 4 (va_up (F 4) (I 1) 0)) 5 (va_up (F 5) (I 1) 0)) (va_up G0 0 (zr (1600 * (I 1)) 1600 (G0 0)))) _ _ ls _ _ _ (Or.inr (Or.inr ⟨0, lb1, wt1, rfl, rfl, rfl, by omega, hlb, hwt, hlt, rfl, rfl⟩)) G (by first | (simp only []; omega) | decide) (by first | (simp only []; omega) | decide) rfl dX7_row_27
  · skip
    replace c6 : ¬ (kd).toInt = (0) := fun h => c6 ((cv_eq rfl (by decide)).mpr h)
    refine lv_iload_n hx hb dX7_row_9 rfl (lv_at hl 1 rfl) ?_
    refine lv_iconst (v := (nI (2))) hx hb dX7_row_10 (by decide) ?_
    refine lv_icmp_eq (tgt := 18) hx hb dX7_row_11 (by decide) (fun c11 => ?_) (fun c11 => ?_)
    · skip
      replace c11 : (kd).toInt = ((2 : Nat) : Int) := (cv_eq rfl (nI_toInt (by omega))).mp c11
      obtain rfl : kd = nI 2 := eq_lit (by omega) (by omega)
      refine lv_aload_n hx hb dX7_row_18 rfl (lv_at hl 0 rfl) ?_
      refine lv_iload_n hx hb dX7_row_19 rfl (lv_at hl 1 rfl) ?_
      refine lv_iload_n hx hb dX7_row_20 rfl (lv_at hl 2 rfl) ?_
      refine lv_iload_n hx hb dX7_row_21 rfl (lv_at hl 3 rfl) ?_
      refine lv_iconst (v := (nI (0))) hx hb dX7_row_22 (by decide) ?_
      refine lv_iconst (v := (nI (0))) hx hb dX7_row_23 (by decide) ?_
      refine r_ai G hA (r_rV (na := 5) (As := [.int (nI (2)), .int (lb), .int (wt), .int (nI (0)), .int (nI (0))]) (rest := []) C G (c_X7_comes l D cI cO cL b (va_up I 0 0) J F G0 2 0 0 lb wt h1 (by omega) (by omega) (by decide)) gX7_row_X7_comes rfl (by decide +kernel) ⟨Nat.le_of_ble_eq_true rfl, Nat.le_of_ble_eq_true rfl⟩ 0 rfl rfl rfl hl.1 rfl (Nat.le_of_ble_eq_true rfl) dX7_row_24 ⟨by first | (simp only []; omega) | decide, by first | (simp only []; omega) | decide⟩) (fun r24 w24 H locs hp24 G => ?_)
      rcases hp24 with ⟨hb24, rfl, rfl⟩ | ⟨hb24, hf24, rfl, rfl⟩ | ⟨lb1, wt1, rfl, rfl, hlb, hwt, hlt, rfl, rfl⟩
      · skip
        exact RET ((-1)) (mW cI b (va_up I 0 0) J F G0) _ _ ls _ _ _ (Or.inl ⟨by omega, rfl, rfl⟩) G (by first | (simp only []; omega) | decide) (by first | (simp only []; omega) | decide) rfl dX7_row_27
      · skip
        exact RET ((-2)) (mW cI b (va_up I 0 0) J F G0) _ _ ls _ _ _ (Or.inr (Or.inl ⟨⟨by decide, by omega⟩, hf24, rfl, rfl⟩)) G (by first | (simp only []; omega) | decide) (by first | (simp only []; omega) | decide) rfl dX7_row_27
      · skip
        exact RET (nI (I 1)) (mW cI b (va_up (va_up I 0 0) 1 (I 1 + 1)) J (va_up (va_up (va_up (va_up (va_up (va_up F 0 (va_up (F 0) (I 1) 2)) 1 (va_up (F 1) (I 1) lb1)) 2 (va_up (F 2) (I 1) wt1)) 3 (va_up (F 3) (I 1) (0 * 0))) 4 (va_up (F 4) (I 1) 0)) 5 (va_up (F 5) (I 1) 0)) (va_up G0 0 (zr (1600 * (I 1)) 1600 (G0 0)))) _ _ ls _ _ _ (Or.inr (Or.inr ⟨2, lb1, wt1, rfl, rfl, rfl, by omega, hlb, hwt, hlt, rfl, rfl⟩)) G (by first | (simp only []; omega) | decide) (by first | (simp only []; omega) | decide) rfl dX7_row_27
    · skip
      replace c11 : ¬ (kd).toInt = ((2 : Nat) : Int) := fun h => c11 ((cv_eq rfl (nI_toInt (by omega))).mpr h)
      refine lv_iconst (v := ((-1))) hx hb dX7_row_14 (by decide) ?_
      refine lv_goto (tgt := 27) hx hb dX7_row_15 (by decide) ?_
      exact RET ((-1)) (mW cI b (va_up I 0 0) J F G0) _ _ ls _ _ _ (Or.inl ⟨by omega, rfl, rfl⟩) G (by first | (simp only []; omega) | decide) (by first | (simp only []; omega) | decide) rfl dX7_row_27
end

section
-- ===== PART A: goes FIRST, ahead of the names: the tables' words, and 'selects' of the private methods out of them =====
/-- a private method of a class that the tables say can be made, by its rows of tables_1 -/
def lw_okq (q : MethodName × Nat) : Prop := (q.1.cls ≠ "java/lang/invoke/MethodHandle" ∧ q.1.cls ≠ "java/lang/invoke/VarHandle") ∧ Cond.instantiable q.1.cls q.2 ∈ tables_1 ∧ Cond.privateMethod q.1 ∈ tables_1 ∧ Cond.instanceMethod q.1 ∈ tables_1
theorem lw_p0 : lw_okq (⟨"java/lang/Throwable", "fillInStackTrace", "(I)Ljava/lang/Throwable;"⟩, 6) := ⟨⟨by decide +kernel, by decide +kernel⟩, List.mem_of_getElem? (i := 270) (by decide +kernel), List.mem_of_getElem? (i := 268) (by decide +kernel), List.mem_of_getElem? (i := 269) (by decide +kernel)⟩
theorem lw_p1 : lw_okq (⟨"TableWright", "requireSpareColumn", "()V"⟩, 8) := ⟨⟨by decide +kernel, by decide +kernel⟩, List.mem_of_getElem? (i := 14) (by decide +kernel), List.mem_of_getElem? (i := 300) (by decide +kernel), List.mem_of_getElem? (i := 301) (by decide +kernel)⟩
theorem lw_p2 : lw_okq (⟨"TableWright", "requireNumberCell", "(III)V"⟩, 8) := ⟨⟨by decide +kernel, by decide +kernel⟩, List.mem_of_getElem? (i := 14) (by decide +kernel), List.mem_of_getElem? (i := 341) (by decide +kernel), List.mem_of_getElem? (i := 342) (by decide +kernel)⟩
theorem lw_p3 : lw_okq (⟨"TableWright", "requireRow", "(I)V"⟩, 8) := ⟨⟨by decide +kernel, by decide +kernel⟩, List.mem_of_getElem? (i := 14) (by decide +kernel), List.mem_of_getElem? (i := 345) (by decide +kernel), List.mem_of_getElem? (i := 346) (by decide +kernel)⟩
theorem lw_p4 : lw_okq (⟨"TableWright", "requireColumn", "(I)V"⟩, 8) := ⟨⟨by decide +kernel, by decide +kernel⟩, List.mem_of_getElem? (i := 14) (by decide +kernel), List.mem_of_getElem? (i := 365) (by decide +kernel), List.mem_of_getElem? (i := 366) (by decide +kernel)⟩
theorem lw_p5 : lw_okq (⟨"TableWright", "requireKind", "(II)V"⟩, 8) := ⟨⟨by decide +kernel, by decide +kernel⟩, List.mem_of_getElem? (i := 14) (by decide +kernel), List.mem_of_getElem? (i := 370) (by decide +kernel), List.mem_of_getElem? (i := 371) (by decide +kernel)⟩
theorem lw_p6 : lw_okq (⟨"TableWright", "refresh", "()V"⟩, 8) := ⟨⟨by decide +kernel, by decide +kernel⟩, List.mem_of_getElem? (i := 14) (by decide +kernel), List.mem_of_getElem? (i := 387) (by decide +kernel), List.mem_of_getElem? (i := 388) (by decide +kernel)⟩
theorem lw_p7 : lw_okq (⟨"TableWright$Sheet", "reckonHidden", "(I)V"⟩, 9) := ⟨⟨by decide +kernel, by decide +kernel⟩, List.mem_of_getElem? (i := 22) (by decide +kernel), List.mem_of_getElem? (i := 395) (by decide +kernel), List.mem_of_getElem? (i := 396) (by decide +kernel)⟩
theorem lw_p8 : lw_okq (⟨"TableWright$Sheet", "reckonNumbers", "(I)V"⟩, 9) := ⟨⟨by decide +kernel, by decide +kernel⟩, List.mem_of_getElem? (i := 22) (by decide +kernel), List.mem_of_getElem? (i := 399) (by decide +kernel), List.mem_of_getElem? (i := 400) (by decide +kernel)⟩
theorem lw_p9 : lw_okq (⟨"TableWright$Sheet", "measureText", "(I)V"⟩, 9) := ⟨⟨by decide +kernel, by decide +kernel⟩, List.mem_of_getElem? (i := 22) (by decide +kernel), List.mem_of_getElem? (i := 414) (by decide +kernel), List.mem_of_getElem? (i := 415) (by decide +kernel)⟩
theorem lw_p10 : lw_okq (⟨"TableWright$Sheet", "measureNumbers", "(I)V"⟩, 9) := ⟨⟨by decide +kernel, by decide +kernel⟩, List.mem_of_getElem? (i := 22) (by decide +kernel), List.mem_of_getElem? (i := 426) (by decide +kernel), List.mem_of_getElem? (i := 427) (by decide +kernel)⟩
theorem lw_p11 : lw_okq (⟨"TableWright$Layout", "isWidthFit", "(LTableWright$Sheet;I)Z"⟩, 14) := ⟨⟨by decide +kernel, by decide +kernel⟩, List.mem_of_getElem? (i := 126) (by decide +kernel), List.mem_of_getElem? (i := 441) (by decide +kernel), List.mem_of_getElem? (i := 442) (by decide +kernel)⟩
theorem lw_p12 : lw_okq (⟨"TableWright$Layout", "mostSpareColumn", "(LTableWright$Sheet;)I"⟩, 14) := ⟨⟨by decide +kernel, by decide +kernel⟩, List.mem_of_getElem? (i := 126) (by decide +kernel), List.mem_of_getElem? (i := 449) (by decide +kernel), List.mem_of_getElem? (i := 450) (by decide +kernel)⟩
theorem lw_p13 : lw_okq (⟨"TableWright$Layout", "areHeightsFit", "(LTableWright$Sheet;)Z"⟩, 14) := ⟨⟨by decide +kernel, by decide +kernel⟩, List.mem_of_getElem? (i := 126) (by decide +kernel), List.mem_of_getElem? (i := 453) (by decide +kernel), List.mem_of_getElem? (i := 454) (by decide +kernel)⟩
theorem lw_p14 : lw_okq (⟨"TableWright$Layout", "fillPage", "(LTableWright$Sheet;I)V"⟩, 14) := ⟨⟨by decide +kernel, by decide +kernel⟩, List.mem_of_getElem? (i := 126) (by decide +kernel), List.mem_of_getElem? (i := 463) (by decide +kernel), List.mem_of_getElem? (i := 464) (by decide +kernel)⟩
theorem lw_p15 : lw_okq (⟨"TableWright$Layout", "putWaitingNotes", "(LTableWright$Sheet;I)V"⟩, 14) := ⟨⟨by decide +kernel, by decide +kernel⟩, List.mem_of_getElem? (i := 126) (by decide +kernel), List.mem_of_getElem? (i := 467) (by decide +kernel), List.mem_of_getElem? (i := 468) (by decide +kernel)⟩
def lw_privs_1 : List (MethodName × Nat) := [(⟨"java/lang/Throwable", "fillInStackTrace", "(I)Ljava/lang/Throwable;"⟩, 6), (⟨"TableWright", "requireSpareColumn", "()V"⟩, 8), (⟨"TableWright", "requireNumberCell", "(III)V"⟩, 8), (⟨"TableWright", "requireRow", "(I)V"⟩, 8), (⟨"TableWright", "requireColumn", "(I)V"⟩, 8), (⟨"TableWright", "requireKind", "(II)V"⟩, 8), (⟨"TableWright", "refresh", "()V"⟩, 8), (⟨"TableWright$Sheet", "reckonHidden", "(I)V"⟩, 9), (⟨"TableWright$Sheet", "reckonNumbers", "(I)V"⟩, 9), (⟨"TableWright$Sheet", "measureText", "(I)V"⟩, 9), (⟨"TableWright$Sheet", "measureNumbers", "(I)V"⟩, 9), (⟨"TableWright$Layout", "isWidthFit", "(LTableWright$Sheet;I)Z"⟩, 14), (⟨"TableWright$Layout", "mostSpareColumn", "(LTableWright$Sheet;)I"⟩, 14), (⟨"TableWright$Layout", "areHeightsFit", "(LTableWright$Sheet;)Z"⟩, 14), (⟨"TableWright$Layout", "fillPage", "(LTableWright$Sheet;I)V"⟩, 14), (⟨"TableWright$Layout", "putWaitingNotes", "(LTableWright$Sheet;I)V"⟩, 14)]
theorem lw_r1 : ∀ q ∈ lw_privs_1, lw_okq q := List.forall_mem_cons.mpr ⟨lw_p0, List.forall_mem_cons.mpr ⟨lw_p1, List.forall_mem_cons.mpr ⟨lw_p2, List.forall_mem_cons.mpr ⟨lw_p3, List.forall_mem_cons.mpr ⟨lw_p4, List.forall_mem_cons.mpr ⟨lw_p5, List.forall_mem_cons.mpr ⟨lw_p6, List.forall_mem_cons.mpr ⟨lw_p7, List.forall_mem_cons.mpr ⟨lw_p8, List.forall_mem_cons.mpr ⟨lw_p9, List.forall_mem_cons.mpr ⟨lw_p10, List.forall_mem_cons.mpr ⟨lw_p11, List.forall_mem_cons.mpr ⟨lw_p12, List.forall_mem_cons.mpr ⟨lw_p13, List.forall_mem_cons.mpr ⟨lw_p14, List.forall_mem_cons.mpr ⟨lw_p15, fun _ h => absurd h List.not_mem_nil⟩⟩⟩⟩⟩⟩⟩⟩⟩⟩⟩⟩⟩⟩⟩⟩
theorem lw_p16 : lw_okq (⟨"TableWright$Layout", "hasRoomForNextRow", "(LTableWright$Sheet;I)Z"⟩, 14) := ⟨⟨by decide +kernel, by decide +kernel⟩, List.mem_of_getElem? (i := 126) (by decide +kernel), List.mem_of_getElem? (i := 471) (by decide +kernel), List.mem_of_getElem? (i := 472) (by decide +kernel)⟩
theorem lw_p17 : lw_okq (⟨"TableWright$Layout", "heightOfGroup", "(LTableWright$Sheet;I)I"⟩, 14) := ⟨⟨by decide +kernel, by decide +kernel⟩, List.mem_of_getElem? (i := 126) (by decide +kernel), List.mem_of_getElem? (i := 475) (by decide +kernel), List.mem_of_getElem? (i := 476) (by decide +kernel)⟩
theorem lw_p18 : lw_okq (⟨"TableWright$Layout", "putNextRow", "(I)V"⟩, 14) := ⟨⟨by decide +kernel, by decide +kernel⟩, List.mem_of_getElem? (i := 126) (by decide +kernel), List.mem_of_getElem? (i := 479) (by decide +kernel), List.mem_of_getElem? (i := 480) (by decide +kernel)⟩
theorem lw_p19 : lw_okq (⟨"TableWright", "factOfCell", "(III)I"⟩, 8) := ⟨⟨by decide +kernel, by decide +kernel⟩, List.mem_of_getElem? (i := 14) (by decide +kernel), List.mem_of_getElem? (i := 507) (by decide +kernel), List.mem_of_getElem? (i := 508) (by decide +kernel)⟩
theorem lw_p20 : lw_okq (⟨"TableWright", "factOfTable", "(I)I"⟩, 8) := ⟨⟨by decide +kernel, by decide +kernel⟩, List.mem_of_getElem? (i := 14) (by decide +kernel), List.mem_of_getElem? (i := 520) (by decide +kernel), List.mem_of_getElem? (i := 521) (by decide +kernel)⟩
theorem lw_p21 : lw_okq (⟨"TableWright", "pagesIn", "(II)I"⟩, 8) := ⟨⟨by decide +kernel, by decide +kernel⟩, List.mem_of_getElem? (i := 14) (by decide +kernel), List.mem_of_getElem? (i := 541) (by decide +kernel), List.mem_of_getElem? (i := 542) (by decide +kernel)⟩
theorem lw_p22 : lw_okq (⟨"TableWright", "layoutOfTrial", "()LTableWright$Layout;"⟩, 8) := ⟨⟨by decide +kernel, by decide +kernel⟩, List.mem_of_getElem? (i := 14) (by decide +kernel), List.mem_of_getElem? (i := 558) (by decide +kernel), List.mem_of_getElem? (i := 559) (by decide +kernel)⟩
theorem lw_p23 : lw_okq (⟨"TableWright", "isPageOther", "(LTableWright$Layout;LTableWright$Layout;I)Z"⟩, 8) := ⟨⟨by decide +kernel, by decide +kernel⟩, List.mem_of_getElem? (i := 14) (by decide +kernel), List.mem_of_getElem? (i := 563) (by decide +kernel), List.mem_of_getElem? (i := 564) (by decide +kernel)⟩
theorem lw_p24 : lw_okq (⟨"TableWright", "factOfColumn", "(II)I"⟩, 8) := ⟨⟨by decide +kernel, by decide +kernel⟩, List.mem_of_getElem? (i := 14) (by decide +kernel), List.mem_of_getElem? (i := 581) (by decide +kernel), List.mem_of_getElem? (i := 582) (by decide +kernel)⟩
theorem lw_p25 : lw_okq (⟨"TableWright", "digestWithRow", "(JI)J"⟩, 8) := ⟨⟨by decide +kernel, by decide +kernel⟩, List.mem_of_getElem? (i := 14) (by decide +kernel), List.mem_of_getElem? (i := 585) (by decide +kernel), List.mem_of_getElem? (i := 586) (by decide +kernel)⟩
theorem lw_p26 : lw_okq (⟨"TableWright", "factOfRow", "(II)I"⟩, 8) := ⟨⟨by decide +kernel, by decide +kernel⟩, List.mem_of_getElem? (i := 14) (by decide +kernel), List.mem_of_getElem? (i := 589) (by decide +kernel), List.mem_of_getElem? (i := 590) (by decide +kernel)⟩
theorem lw_p27 : lw_okq (⟨"TableWright", "digestWithPage", "(JI)J"⟩, 8) := ⟨⟨by decide +kernel, by decide +kernel⟩, List.mem_of_getElem? (i := 14) (by decide +kernel), List.mem_of_getElem? (i := 593) (by decide +kernel), List.mem_of_getElem? (i := 594) (by decide +kernel)⟩
theorem lw_p28 : lw_okq (⟨"TableWright", "factOfPage", "(II)I"⟩, 8) := ⟨⟨by decide +kernel, by decide +kernel⟩, List.mem_of_getElem? (i := 14) (by decide +kernel), List.mem_of_getElem? (i := 597) (by decide +kernel), List.mem_of_getElem? (i := 598) (by decide +kernel)⟩
theorem lw_p29 : lw_okq (⟨"TableWright", "requirePage", "(I)V"⟩, 8) := ⟨⟨by decide +kernel, by decide +kernel⟩, List.mem_of_getElem? (i := 14) (by decide +kernel), List.mem_of_getElem? (i := 627) (by decide +kernel), List.mem_of_getElem? (i := 628) (by decide +kernel)⟩
def lw_privs_2 : List (MethodName × Nat) := [(⟨"TableWright$Layout", "hasRoomForNextRow", "(LTableWright$Sheet;I)Z"⟩, 14), (⟨"TableWright$Layout", "heightOfGroup", "(LTableWright$Sheet;I)I"⟩, 14), (⟨"TableWright$Layout", "putNextRow", "(I)V"⟩, 14), (⟨"TableWright", "factOfCell", "(III)I"⟩, 8), (⟨"TableWright", "factOfTable", "(I)I"⟩, 8), (⟨"TableWright", "pagesIn", "(II)I"⟩, 8), (⟨"TableWright", "layoutOfTrial", "()LTableWright$Layout;"⟩, 8), (⟨"TableWright", "isPageOther", "(LTableWright$Layout;LTableWright$Layout;I)Z"⟩, 8), (⟨"TableWright", "factOfColumn", "(II)I"⟩, 8), (⟨"TableWright", "digestWithRow", "(JI)J"⟩, 8), (⟨"TableWright", "factOfRow", "(II)I"⟩, 8), (⟨"TableWright", "digestWithPage", "(JI)J"⟩, 8), (⟨"TableWright", "factOfPage", "(II)I"⟩, 8), (⟨"TableWright", "requirePage", "(I)V"⟩, 8)]
theorem lw_r2 : ∀ q ∈ lw_privs_2, lw_okq q := List.forall_mem_cons.mpr ⟨lw_p16, List.forall_mem_cons.mpr ⟨lw_p17, List.forall_mem_cons.mpr ⟨lw_p18, List.forall_mem_cons.mpr ⟨lw_p19, List.forall_mem_cons.mpr ⟨lw_p20, List.forall_mem_cons.mpr ⟨lw_p21, List.forall_mem_cons.mpr ⟨lw_p22, List.forall_mem_cons.mpr ⟨lw_p23, List.forall_mem_cons.mpr ⟨lw_p24, List.forall_mem_cons.mpr ⟨lw_p25, List.forall_mem_cons.mpr ⟨lw_p26, List.forall_mem_cons.mpr ⟨lw_p27, List.forall_mem_cons.mpr ⟨lw_p28, List.forall_mem_cons.mpr ⟨lw_p29, fun _ h => absurd h List.not_mem_nil⟩⟩⟩⟩⟩⟩⟩⟩⟩⟩⟩⟩⟩⟩
def lw_privs : List (MethodName × Nat) := lw_privs_1 ++ (lw_privs_2)
def lw_tbl : List Cond := k2_sels lw_privs ++ tables_1
theorem lw_privs_ok : ∀ q ∈ lw_privs, lw_okq q := by
  show ∀ q ∈ lw_privs_1 ++ (lw_privs_2), lw_okq q
  exact List.forall_mem_append.mpr ⟨lw_r1, lw_r2⟩
-- ===== end of PART A; then your names; then what follows =====
end
section
/-! ===== BEGIN words of one list among another's, by their places ===== -/
theorem goodIn_r {big : List Cond} (ws : List Cond) (ps : List Nat) (hp : ws = ps.filterMap (fun i => big[i]?)) (h : ws.all goodWord = true) : GoodIn big ws := by
  intro w hw
  have h1 := List.all_eq_true.mp h w hw
  rw [hp] at hw
  obtain ⟨i, -, hi⟩ := List.mem_filterMap.mp hw
  have hm : w ∈ big := by first | exact List.mem_of_getElem? hi | exact List.getElem?_mem hi
  exact ⟨hm, good_of_word h1⟩
theorem goodIn_app {big a b : List Cond} (ha : GoodIn big a) (hb : GoodIn big b) : GoodIn big (a ++ b) := fun w h => (List.mem_append.mp h).elim (ha w) (hb w)
theorem goodIn_ca {big a b : List Cond} {c : Cond} (ha : GoodIn big (c :: a)) (hb : GoodIn big b) : GoodIn big (c :: (a ++ b)) := fun w h => (List.mem_cons.mp h).elim (fun e => ha w (List.mem_cons.mpr (Or.inl e))) (fun h => (List.mem_append.mp h).elim (fun h => ha w (List.mem_cons.mpr (Or.inr h))) (hb w))
theorem goodIn_sub {big ws : List Cond} (hm : ∀ w ∈ ws, w ∈ big) (h : ws.all goodWord = true) : GoodIn big ws := fun w hw => ⟨hm w hw, good_of_word (List.all_eq_true.mp h w hw)⟩
/-! ===== END ===== -/

/-! ===== BEGIN exceptions that leave a method, and their catching by the caller (launches without stack traces) ===== -/
section VXA
/-! The laws vx_back, vx_callV, vx_callS, vx_callSW, vx_throw0, vx_throwS follow proofs of the library, with one case more: JvmDerived/Free/Laws.lean (Back.of_free), Shelf42/LK1.lean (callV, callS), Shelf/KitTraced.lean (throwNew0V, throwNewS). -/
/-- where a method has thrown q: the class by its name, the cell, what was written, the world -/
def vx_T (XC : String → State → State → Prop) (st : State) (q : Addr) (t : State) (mc ms : Nat) (free : Addr → Prop) : Prop :=
  ∃ (E : String) (ce : Cell) (L : List Loc), XC E st t ∧ t.heap[q]? = some ce ∧ ce.vm = .none ∧ st.vm.findClass E = some ce.cls ∧ st.WarmedH t.vm ∧ st.sameButNew ({ t with vm := st.vm } : State) L mc ms ∧ ∀ z ∈ L, free z.base
def vx_Q (Qc : Array Value → State → Outcome → State → Prop) (XC : String → State → State → Prop) (mc ms : Nat) (free : Addr → Prop) : Array Value → State → Outcome → State → Prop := fun a st o t =>
  (Qc a st o t ∧ ∃ L, FrameEnd st o t L mc ms ∧ ∀ q ∈ L, free q.base) ∨ ∃ q, o = .threw q ∧ vx_T XC st q t mc ms free
/-- a callee that returns or throws -/
def vx_Met (l : Launch) (y : MethodName) (ws : List Cond) (rm : Room) (Pc : Array Value → State → Prop) (Qc : Array Value → State → Outcome → State → Prop) (XC : String → State → State → Prop) (mc ms : Nat) (free : Addr → Prop) : Prop :=
  MetFree l y (headSpec ws rm) Pc (fun _ _ _ _ _ => True) (vx_Q Qc XC mc ms free)
def vx_Post (XC : String → State → State → Prop) (mc ms : Nat) (free : Addr → Prop) : Pt → Array Value → Addr → Pt → Prop := fun A a q B =>
  ∃ (g : JFrame) (mk : MethodId) (t : State) (L : List Loc) (E : String) (ce : Cell), B.U.heap = t.heap ∧ B.U.vm = t.vm ∧ XC E (A.U.calling g mk a) t ∧ t.heap[q]? = some ce ∧ ce.vm = .none ∧ A.U.vm.findClass E = some ce.cls ∧ B.locs = A.locs ++ L ∧ (∀ z ∈ L, free z.base) ∧ B.cells = A.cells + mc ∧ B.slots = A.slots + ms
def vx_Back (l : Launch) (R : Room) (p : Program) (e : Env) (below : List Frame) (s : State) (sargs : Array Value) (y : MethodName) (len W9 : Nat)
    (Pre : Pt → Array Value → Prop) (Post : Pt → Array Value → Option Value → Pt → Prop) (PostX : Pt → Array Value → Addr → Pt → Prop) : Prop :=
  ∀ (m : MethodId) (meth : Method) (c : Code) (A : Pt) (g : JFrame) (ig : Instr) (mk : MethodId) (a : Array Value),
    Stand p l e R s m sargs below meth c A.U A.locs A.cells A.slots → g.method = m → g.locals.size = c.maxLocals → decode c.code g.pc = .ok (ig, len) →
    2 * g.monitorRoom + (g.stack.map fun v => v.category).sum ≤ W9 → A.U.methodNamed? y = some mk → Pre A a →
    (∃ (v : Option Value) (B : Pt), Stand p l e R s m sargs below meth c B.U B.locs B.cells B.slots ∧ Post A a v B ∧
      Steps p.tables e below (doInvoke e (A.U.setTop g) [] mk a).1 (B.U.setTop { g with pc := g.pc + len, stack := v.toList ++ g.stack })) ∨
    (∃ (q : Addr) (B : Pt), Stand p l e R s m sargs below meth c B.U B.locs B.cells B.slots ∧ PostX A a q B ∧
      Steps p.tables e below (doInvoke e (A.U.setTop g) [] mk a).1 ((B.U.setTop g).pushFrame (.throwing q)))
section Payer
variable {l : Launch} {R : Room} {p : Program} {e : Env} {below : List Frame} {s : State} {sargs : Array Value} {y : MethodName} {len W9 : Nat}
theorem vx_back {ws : List Cond} {rm : Room} {Pc : Array Value → State → Prop} {Qc : Array Value → State → Outcome → State → Prop} {XC : String → State → State → Prop} {mc ms : Nat} {free : Addr → Prop} {bytes : ByteArray} {maxL : Nat} {ret : Option FieldType}
    (hM : vx_Met l y ws rm Pc Qc XC mc ms free) (hblind : FrameBlind Pc) (hrc : rm.cells = mc) (hrs : rm.slots = ms)
    (hframes : rm.frames + 1 ≤ R.frames) (hlocals : W9 + (maxL + 11) + rm.locals ≤ R.locals)
    (hws : ∀ w ∈ ws, ∀ a' U, s.WarmedH U.vm → w.before a' U = true) (hcode : Cond.code y bytes maxL ret ∈ ws) (hinit : ∀ a' U, s.WarmedH U.vm → (Cond.initialized y.cls).before a' U = true) :
    vx_Back l R p e below s sargs y len W9 (PreOf R mc ms Pc) (PostOf Qc mc ms free) (vx_Post XC mc ms free) := by
  intro m meth c A g ig mk a X hg hsize hdg hW hn hp
  have h1 : (headSpec ws rm).pre.before a A.U = true := atoms_intro fun w hw => hws w hw _ _ X.warmed
  have h2 : (Cond.code y bytes maxL ret).before a A.U = true := hws _ hcode _ _ X.warmed
  have h3 : (Cond.initialized y.cls).before a A.U = true := hinit _ _ X.warmed
  have h4 : A.cells + (headSpec ws rm).room.cells ≤ R.cells := by rw [show (headSpec ws rm).room.cells = mc from hrc]; exact hp.1
  have h5 : A.slots + (headSpec ws rm).room.slots ≤ R.slots := by rw [show (headSpec ws rm).room.slots = ms from hrs]; exact hp.2.1
  have hPc : Pc a (A.U.calling g mk a) := hblind _ _ _ _ hp.2.2
  obtain ⟨U, Ls, c0, s0⟩ := A
  dsimp only [Pt.U, Pt.locs, Pt.cells, Pt.slots] at h1 h2 h3 h4 h5 X hn hPc ⊢
  obtain ⟨methY, cY, hmY, hcY, -, hlY, -, -, -, -⟩ := Cond.code_spec hn h2
  obtain ⟨kY, hkY, -⟩ := className_of_methodNamed hn
  have hinitY : kY.init = .initialized := Cond.initialized_spec (findClass_of_methodNamed hn) hkY h3
  have h : At U g.method c below := by rw [hg]; exact X.here
  have hlocals9 : W9 + (maxL + 11) + (headSpec ws rm).room.locals ≤ R.locals := hlocals
  have happ : (headSpec ws rm).appliesLoose y e.platform (U.calling g mk a) = true :=
    Spec.appliesLoose_calling (g := g) h hdg hn hkY hinitY
      (X.room_calling (g := g) (R' := (headSpec ws rm).room) hsize hmY hcY hframes (by rw [hlY]; omega) h4 h5) h1
  obtain ⟨mid, hmid⟩ := h.above
  have hfr : (U.setTop g).frames = (.java g :: mid) ++ below := by rw [State.frames_setTop' g h.top, hmid]; rfl
  obtain ⟨o, s₂, hsteps, -, hend, hq⟩ := Steps.callFree hM p X.admits X.cas X.clock (acts := []) hfr happ hPc trivial
  have hq' : vx_Q Qc XC mc ms free a (U.calling g mk a) o s₂ := hq
  rw [State.frames_setTop' g h.top] at hend
  obtain ⟨g₀, hg0⟩ := Option.isSome_iff_exists.mp h.top
  obtain ⟨r, hr⟩ := State.topJava?_eq_some.mp hg0
  have hr' : (({ U with heap := s₂.heap, slotsUsed := s₂.slotsUsed } : State).setVm s₂.vm).frames = .java g₀ :: r := hr
  rcases hq' with ⟨hqc, L, hfe, hL⟩ | ⟨q, rfl, E, ce, L, hx, hce, hcv, hcl, hW₂, hsm, hL⟩
  · obtain ⟨⟨v, rfl⟩, hW₂, e2, q2, q3, q4, q5, q6⟩ := id hfe
    have e3 : s₂ = ({ (U.calling g mk a).setFrames s₂.frames with heap := s₂.heap, slotsUsed := s₂.slotsUsed } : State).setVm s₂.vm := by
      have : s₂ = ({ s₂ with vm := (U.calling g mk a).vm } : State).setVm s₂.vm := rfl
      rw [e2] at this
      exact this
    obtain ⟨c₂, i₂, len₂, hc₂, hd₂, hf₂⟩ := hend
    have hW' : U.WarmedH s₂.vm := hW₂
    have hcc : c₂ = c := by
      have h1 : s₂.code? g.method = U.code? g.method := by
        rw [State.code?_eq, State.code?_eq, hW'.alike.method?]
      exact Option.some.inj (hc₂.symm.trans (h1.trans h.code))
    subst hcc
    have hlen : len₂ = len := by rw [hdg] at hd₂; cases hd₂; rfl
    subst hlen
    have hs₂ : s₂ = (({ U with heap := s₂.heap, slotsUsed := s₂.slotsUsed } : State).setVm s₂.vm).setTop { g with pc := g.pc + len₂, stack := v.toList ++ g.stack } := by
      refine e3.trans ?_
      rw [hf₂, State.calling_eq h.top, State.setFrames_setFrames, State.setTop_of_frames _ hr', hr]
      rfl
    have hsame : U.sameButNew ({ U with heap := s₂.heap, slotsUsed := s₂.slotsUsed } : State) L mc ms := by
      refine ⟨?_, q2, q3, q4, q5, q6⟩
      obtain ⟨t, ht, -⟩ := State.frames_cons hr
      show ({ U with heap := s₂.heap, slotsUsed := s₂.slotsUsed } : State) = { U.setFrames U.frames with heap := s₂.heap, slotsUsed := s₂.slotsUsed }
      rw [State.setFrames_self ht]
    subst hg
    refine Or.inl ⟨v, ⟨(({ U with heap := s₂.heap, slotsUsed := s₂.slotsUsed } : State).setVm s₂.vm), Ls ++ L, c0 + mc, s0 + ms⟩,
      ⟨X.admits, X.cas, X.clock, X.frames, X.room, X.hears, X.method, X.code, (X.here.setHeapUsed s₂.heap s₂.slotsUsed).setVm hW'.alike, X.tail, State.WarmedH.trans X.warmed hW', X.limits, X.bytes, X.same.trans (hsame.setVm s.vm)⟩,
      ⟨g, mk, s₂, L, rfl, rfl, hqc, rfl, hL, rfl, rfl⟩, ?_⟩
    show Steps p.tables e below _ ((({ U with heap := s₂.heap, slotsUsed := s₂.slotsUsed } : State).setVm s₂.vm).setTop { g with pc := g.pc + len₂, stack := v.toList ++ g.stack })
    rw [← hs₂]
    exact hsteps
  · obtain ⟨e2, q2, q3, q4, q5, q6⟩ := id hsm
    have e3 : s₂ = ({ (U.calling g mk a).setFrames s₂.frames with heap := s₂.heap, slotsUsed := s₂.slotsUsed } : State).setVm s₂.vm := by
      have : s₂ = ({ s₂ with vm := (U.calling g mk a).vm } : State).setVm s₂.vm := rfl
      rw [e2] at this
      exact this
    have hf₂ : s₂.frames = .throwing q :: .java g :: U.frames.tail := hend
    have hW' : U.WarmedH s₂.vm := hW₂
    have hs₂ : s₂ = ((({ U with heap := s₂.heap, slotsUsed := s₂.slotsUsed } : State).setVm s₂.vm).setTop g).pushFrame (.throwing q) := by
      refine e3.trans ?_
      rw [hf₂, State.calling_eq h.top, State.setFrames_setFrames, State.pushFrame, State.frames_setTop _ hr', State.setTop_of_frames _ hr', State.setFrames_setFrames, hr]
      rfl
    have hsame : U.sameButNew ({ U with heap := s₂.heap, slotsUsed := s₂.slotsUsed } : State) L mc ms := by
      refine ⟨?_, q2, q3, q4, q5, q6⟩
      obtain ⟨t, ht, -⟩ := State.frames_cons hr
      show ({ U with heap := s₂.heap, slotsUsed := s₂.slotsUsed } : State) = { U.setFrames U.frames with heap := s₂.heap, slotsUsed := s₂.slotsUsed }
      rw [State.setFrames_self ht]
    subst hg
    refine Or.inr ⟨q, ⟨(({ U with heap := s₂.heap, slotsUsed := s₂.slotsUsed } : State).setVm s₂.vm), Ls ++ L, c0 + mc, s0 + ms⟩,
      ⟨X.admits, X.cas, X.clock, X.frames, X.room, X.hears, X.method, X.code, (X.here.setHeapUsed s₂.heap s₂.slotsUsed).setVm hW'.alike, X.tail, State.WarmedH.trans X.warmed hW', X.limits, X.bytes, X.same.trans (hsame.setVm s.vm)⟩,
      ⟨g, mk, s₂, L, E, ce, rfl, rfl, hx, hce, hcv, hcl, rfl, hL, rfl, rfl⟩, ?_⟩
    show Steps p.tables e below _ (((({ U with heap := s₂.heap, slotsUsed := s₂.slotsUsed } : State).setVm s₂.vm).setTop g).pushFrame (.throwing q))
    rw [← hs₂]
    exact hsteps
end Payer
section Calls
variable {p : Program} {l : Launch} {e : Env} {R : Room} {s : State} {m : MethodId} {args : Array Value} {below : List Frame} {meth : Method} {c : Code} {T : State} {locs : List Loc} {cells slots : Nat}
theorem vx_callV (X : Stand p l e R s m args below meth c T locs cells slots) (hexec : p.tables.exec = Jvm.exec) {own C : String} {index : Nat} {y : MethodName} {bytes : ByteArray} {maxL : Nat} {ret : Option FieldType}
    (hown : s.vm.findClass own = some m.cls) (hlink : (Cond.methodLink own index y).before args s = true) (hinst : (Cond.instanceMethod y).before args s = true) (hsel : (Cond.selects C y y).before args s = true)
    (hcode : (Cond.code y bytes maxL ret).before args s = true) (hy : y.cls ≠ "java/lang/invoke/MethodHandle" ∧ y.cls ≠ "java/lang/invoke/VarHandle")
    {W9 : Nat} {Pre : Pt → Array Value → Prop} {Post : Pt → Array Value → Option Value → Pt → Prop} {PostX : Pt → Array Value → Addr → Pt → Prop} (hK : vx_Back l R p e below s args y 3 W9 Pre Post PostX)
    {b : Addr} {cellB : Cell} (hcell : T.heap[b]? = some cellB) (hobj : cellB.vm.isStatics = false) (hcls : s.vm.findClass C = some cellB.cls)
    {g : JFrame} (hg : g.method = m) (hsize : g.locals.size = c.maxLocals) {argsL rest : List Value} (hlen : ∀ sig, parseMethodDescriptor y.desc = some sig → argsL.length = sig.parameters.length)
    (hstack : g.stack = argsL.reverse ++ .ref b :: rest) (hW : 2 * g.monitorRoom + (rest.map fun v => v.category).sum ≤ W9) (hdg : decode c.code g.pc = .ok (.invokevirtual index, 3))
    (hpre : ∀ vm₁, s.WarmedH vm₁ → Pre ⟨T.setVm vm₁, locs, cells, slots⟩ (Value.ref b :: argsL).toArray) :
    (∃ (v : Option Value) (vm₁ : Vm) (B : Pt), s.WarmedH vm₁ ∧ Stand p l e R s m args below meth c B.U B.locs B.cells B.slots ∧ Post ⟨T.setVm vm₁, locs, cells, slots⟩ (Value.ref b :: argsL).toArray v B ∧
      ∀ target, Steps p.tables e below (B.U.setTop { g with pc := g.pc + 3, stack := v.toList ++ rest }) target → Steps p.tables e below (T.setTop g) target) ∨
    (∃ (q : Addr) (vm₁ : Vm) (B : Pt), s.WarmedH vm₁ ∧ Stand p l e R s m args below meth c B.U B.locs B.cells B.slots ∧ PostX ⟨T.setVm vm₁, locs, cells, slots⟩ (Value.ref b :: argsL).toArray q B ∧
      Steps p.tables e below (T.setTop g) ((B.U.setTop { g with stack := rest }).pushFrame (.throwing q))) := by
  obtain ⟨mk, methM, hnamed, hmethM, hstM, habM⟩ := Cond.instanceMethod_spec hinst
  obtain ⟨methM', cM, hmethM', -, -, -, -, -, -, hsigM⟩ := Cond.code_spec hnamed hcode
  cases hmethM.symm.trans hmethM'
  obtain ⟨c2, r2, m2, q1, q2, q3, q4, kP, hkP, hkPi⟩ := Cond.selects_spec hsel
  cases hcls.symm.trans q1
  cases (State.methodFound?_of_named hnamed hy).symm.trans q2
  cases hnamed.symm.trans q3
  have hselP : selectMethod e.platform s.vm cellB.cls mk = .method mk := by rw [Launch.admits_selectMethod X.admits]; exact q4
  obtain ⟨vm₁, X₁, hstep₁⟩ := X.invokevirtual hexec hown hlink hnamed hmethM hstM hkP hkPi hy (a := b) (cell := cellB) hcell
    (fun z h => by rw [h] at hobj; cases hobj) hselP hmethM habM hkP hkPi (g := g) hg (argsL := argsL) (rest := rest) (hlen _ hsigM) hstack hdg
  rcases hK m meth c ⟨T.setVm vm₁, locs, cells, slots⟩ { g with stack := rest } (.invokevirtual index) mk (Value.ref b :: argsL).toArray X₁ hg hsize hdg hW (X₁.named hnamed) (hpre vm₁ X₁.warmed) with ⟨v, B, X', hpost, hsteps⟩ | ⟨q, B, X', hpost, hsteps⟩
  · exact Or.inl ⟨v, vm₁, B, X₁.warmed, X', hpost, fun target h => hstep₁ _ fun acts => by rw [doInvoke_state]; exact hsteps.trans h⟩
  · exact Or.inr ⟨q, vm₁, B, X₁.warmed, X', hpost, hstep₁ _ fun acts => by rw [doInvoke_state]; exact hsteps⟩
theorem vx_callS (X : Stand p l e R s m args below meth c T locs cells slots) (hexec : p.tables.exec = Jvm.exec) {own : String} {index : Nat} {y : MethodName} {bytes : ByteArray} {maxL : Nat} {ret : Option FieldType}
    (hown : s.vm.findClass own = some m.cls) (hlink : (Cond.methodLink own index y).before args s = true) (hstat : (Cond.static y).before args s = true) (hinit : (Cond.initialized y.cls).before args s = true)
    (hcode : (Cond.code y bytes maxL ret).before args s = true) (hy : y.cls ≠ "java/lang/invoke/MethodHandle" ∧ y.cls ≠ "java/lang/invoke/VarHandle")
    {W9 : Nat} {Pre : Pt → Array Value → Prop} {Post : Pt → Array Value → Option Value → Pt → Prop} {PostX : Pt → Array Value → Addr → Pt → Prop} (hK : vx_Back l R p e below s args y 3 W9 Pre Post PostX)
    {g : JFrame} (hg : g.method = m) (hsize : g.locals.size = c.maxLocals) {argsL rest : List Value} (hlen : ∀ sig, parseMethodDescriptor y.desc = some sig → argsL.length = sig.parameters.length)
    (hstack : g.stack = argsL.reverse ++ rest) (hW : 2 * g.monitorRoom + (rest.map fun v => v.category).sum ≤ W9) (hdg : decode c.code g.pc = .ok (.invokestatic index, 3))
    (hpre : ∀ vm₁, s.WarmedH vm₁ → Pre ⟨T.setVm vm₁, locs, cells, slots⟩ argsL.toArray) :
    (∃ (v : Option Value) (vm₁ : Vm) (B : Pt), s.WarmedH vm₁ ∧ Stand p l e R s m args below meth c B.U B.locs B.cells B.slots ∧ Post ⟨T.setVm vm₁, locs, cells, slots⟩ argsL.toArray v B ∧
      ∀ target, Steps p.tables e below (B.U.setTop { g with pc := g.pc + 3, stack := v.toList ++ rest }) target → Steps p.tables e below (T.setTop g) target) ∨
    (∃ (q : Addr) (vm₁ : Vm) (B : Pt), s.WarmedH vm₁ ∧ Stand p l e R s m args below meth c B.U B.locs B.cells B.slots ∧ PostX ⟨T.setVm vm₁, locs, cells, slots⟩ argsL.toArray q B ∧
      Steps p.tables e below (T.setTop g) ((B.U.setTop { g with stack := rest }).pushFrame (.throwing q))) := by
  obtain ⟨mk, hnamed⟩ := Cond.code_named hcode
  obtain ⟨methM, cM, hmethM, -, -, -, -, -, -, hsigM⟩ := Cond.code_spec hnamed hcode
  have hstatic : methM.isStatic = true := Cond.static_spec hnamed hmethM hstat
  obtain ⟨kP, hkP, -⟩ := className_of_methodNamed hnamed
  have hinitP : kP.init = .initialized := Cond.initialized_spec (findClass_of_methodNamed hnamed) hkP hinit
  obtain ⟨vm₁, X₁, hstep₁⟩ := X.invokestatic hexec hown hlink hnamed hmethM hstatic hkP hinitP hy (g := g) hg (argsL := argsL) (rest := rest) (hlen _ hsigM) hstack hdg
  rcases hK m meth c ⟨T.setVm vm₁, locs, cells, slots⟩ { g with stack := rest } (.invokestatic index) mk argsL.toArray X₁ hg hsize hdg hW (X₁.named hnamed) (hpre vm₁ X₁.warmed) with ⟨v, B, X', hpost, hsteps⟩ | ⟨q, B, X', hpost, hsteps⟩
  · exact Or.inl ⟨v, vm₁, B, X₁.warmed, X', hpost, fun target h => hstep₁ _ fun acts => by rw [doInvoke_state]; exact hsteps.trans h⟩
  · exact Or.inr ⟨q, vm₁, B, X₁.warmed, X', hpost, hstep₁ _ fun acts => by rw [doInvoke_state]; exact hsteps⟩
end Calls
theorem vx_cls {s : State} {T : State} {vm₁ : Vm} {E : String} {k : ClassId} (hW : s.WarmedH vm₁) (h : (T.setVm vm₁).vm.findClass E = some k) : s.vm.findClass E = some k := by
  have h1 : vm₁.findClass E = some k := h
  rw [hW.alike.findClass] at h1
  exact h1
/-- the method's frame g, with q thrown over it -/
def vx_W (p : Program) (l : Launch) (e : Env) (R : Room) (s : State) (m : MethodId) (args : Array Value) (below : List Frame) (meth : Method) (c : Code) (H : Heap) (locs : List Loc) (cells slots : Nat) (Q : State → Prop) (g : JFrame) (q : Addr) : Prop :=
  ∀ T : State, T.heap = H → Stand p l e R s m args below meth c T locs cells slots → ∃ t, Steps p.tables e below ((T.setTop g).pushFrame (.throwing q)) t ∧ Q t
def vx_Run (p : Program) (l : Launch) (e : Env) (R : Room) (s : State) (m : MethodId) (args : Array Value) (below : List Frame) (meth : Method) (c : Code) (H : Heap) (locs : List Loc) (cells slots mc ms : Nat) (g : JFrame) (rest : List Value) (Qa : State → Outcome → State → Prop) (XC : String → State → State → Prop) (free : Addr → Prop) : Prop :=
  ∀ T : State, T.heap = H → Stand p l e R s m args below meth c T locs cells slots →
    (∃ (v : Option Value) (st₀ t T' : State) (L : List Loc), st₀.heap = H ∧ Stand p l e R s m args below meth c T' (locs ++ L) (cells + mc) (slots + ms) ∧ (∀ q ∈ L, free q.base) ∧ T'.heap = t.heap ∧ T'.vm = t.vm ∧ Qa st₀ (.returned v) t ∧
      Goes p e below T g T' { g with pc := g.pc + 3, stack := v.toList ++ rest }) ∨
    (∃ (q : Addr) (st₀ t T' : State) (L : List Loc) (E : String) (ce : Cell), st₀.heap = H ∧ Stand p l e R s m args below meth c T' (locs ++ L) (cells + mc) (slots + ms) ∧ (∀ z ∈ L, free z.base) ∧ T'.heap = t.heap ∧ T'.vm = t.vm ∧ XC E st₀ t ∧ t.heap[q]? = some ce ∧ ce.vm = .none ∧ s.vm.findClass E = some ce.cls ∧
      Steps p.tables e below (T.setTop g) ((T'.setTop { g with stack := rest }).pushFrame (.throwing q)))
def vx_X {S : Type} (px : S → Prop) (B : String → S → State → Prop) (A : Nat → Prop) : String → State → State → Prop := fun E st t => ∃ u : S, px u ∧ B E u t ∧ va_F A st t
section Runs
variable {p : Program} {l : Launch} {e : Env} {R : Room} {s : State} {m : MethodId} {args : Array Value} {below : List Frame} {meth : Method} {c : Code} {H : Heap} {locs : List Loc} {cells slots : Nat}
variable {y : MethodName} {bytes cc : ByteArray} {maxL nL mc ms n index : Nat} {ret : Option FieldType} {ws : List Cond} {rm : Room} {Pc : Array Value → State → Prop} {Qc : Array Value → State → Outcome → State → Prop} {XC : String → State → State → Prop} {free : Addr → Prop} {Ts : List Cond} {own C : String} {b : Addr} {As rest : List Value} {g : JFrame}
theorem vx_callBack (cb : CallB R s args own index y bytes maxL ret ws rm mc ms n) (hM : vx_Met l y ws rm Pc Qc XC mc ms free) (hbl : FrameBlind Pc) : vx_Back l R p e below s args y 3 8 (PreOf R mc ms Pc) (PostOf Qc mc ms free) (vx_Post XC mc ms free) := by
  obtain ⟨hrc, hrs, hfr, hlo, hws, hcw, -, hini, -⟩ := cb
  exact vx_back (bytes := bytes) (maxL := maxL) (ret := ret) hM hbl hrc hrs hfr hlo hws hcw (fun a' U hW => word_at hW (Or.inl (by first | rfl | simp [Cond.onTables, Cond.keeps, Cond.steady])) hini)
theorem vx_runV (S : CallFix p m c cc nL s args Ts own) (hM : vx_Met l y ws rm Pc Qc XC mc ms free) (cw : CallW R s args own C index y bytes maxL ret ws rm mc ms n) (hp : PreV s H C b Pc As)
    (hg : g.method = m) (hn : As.length = n) (hsize : g.locals.size = nL) (hstack : g.stack = As.reverse ++ .ref b :: rest) (hW : 2 * g.monitorRoom + (rest.map fun v => v.category).sum ≤ 8) (hdg : decode cc g.pc = .ok (.invokevirtual index, 3)) (hf : cells + mc ≤ R.cells ∧ slots + ms ≤ R.slots) :
    vx_Run p l e R s m args below meth c H locs cells slots mc ms g rest (Qc (Value.ref b :: As).toArray) XC free := by
  have hK : vx_Back l R p e below s args y 3 8 (PreOf R mc ms Pc) (PostOf Qc mc ms free) (vx_Post XC mc ms free) := vx_callBack cw.1 hM hp.1
  obtain ⟨⟨-, -, -, -, -, -, hcode, -, hy, hlen, hl⟩, hin, hse⟩ := cw
  obtain ⟨hx, hb, hml, ho, -⟩ := S
  obtain ⟨-, ⟨cellB, hcB, hoB, hclB⟩, hPc⟩ := hp
  intro T hT X
  rcases vx_callV X hx (C := C) (bytes := bytes) (maxL := maxL) (ret := ret) ho hl hin hse hcode hy hK (by rw [hT]; exact hcB) hoB hclB hg (hsize.trans hml.symm) (argsL := As) (rest := rest) (fun sig h => hn.trans (hlen sig h)) hstack hW (by rw [hb]; exact hdg)
    (fun vm₁ hW₁ => ⟨hf.1, hf.2, hPc (T.setVm vm₁) hT hW₁⟩) with ⟨v, vm₁, ⟨U', l2, c2, s2⟩, hW₁, X', ⟨g', mk, t, L, e1, e2, hq, h1, hL, h2, h3⟩, st⟩ | ⟨q, vm₁, ⟨U', l2, c2, s2⟩, hW₁, X', ⟨g', mk, t, L, E, ce, e1, e2, hq, hce, hcv, hcl, h1, hL, h2, h3⟩, st⟩
  · dsimp only [Pt.U, Pt.locs, Pt.cells, Pt.slots] at X' e1 e2 h1 h2 h3 st
    subst h1; subst h2; subst h3
    exact Or.inl ⟨v, (T.setVm vm₁).calling g' mk (Value.ref b :: As).toArray, t, U', L, hT, X', hL, e1, e2, hq, st⟩
  · dsimp only [Pt.U, Pt.locs, Pt.cells, Pt.slots] at X' e1 e2 h1 h2 h3 st hcl
    subst h1; subst h2; subst h3
    exact Or.inr ⟨q, (T.setVm vm₁).calling g' mk (Value.ref b :: As).toArray, t, U', L, E, ce, hT, X', hL, e1, e2, hq, hce, hcv, vx_cls hW₁ hcl, st⟩
theorem vx_runS (S : CallFix p m c cc nL s args Ts own) (hM : vx_Met l y ws rm Pc Qc XC mc ms free) (cw : CallB R s args own index y bytes maxL ret ws rm mc ms n ∧ (Cond.static y).before args s = true) (hp : PreS s H Pc As)
    (hg : g.method = m) (hn : As.length = n) (hsize : g.locals.size = nL) (hstack : g.stack = As.reverse ++ rest) (hW : 2 * g.monitorRoom + (rest.map fun v => v.category).sum ≤ 8) (hdg : decode cc g.pc = .ok (.invokestatic index, 3)) (hf : cells + mc ≤ R.cells ∧ slots + ms ≤ R.slots) :
    vx_Run p l e R s m args below meth c H locs cells slots mc ms g rest (Qc As.toArray) XC free := by
  have hK : vx_Back l R p e below s args y 3 8 (PreOf R mc ms Pc) (PostOf Qc mc ms free) (vx_Post XC mc ms free) := vx_callBack cw.1 hM hp.1
  obtain ⟨⟨-, -, -, -, -, -, hcode, hini, hy, hlen, hl⟩, hstt⟩ := cw
  obtain ⟨hx, hb, hml, ho, -⟩ := S
  intro T hT X
  rcases vx_callS X hx (bytes := bytes) (maxL := maxL) (ret := ret) ho hl hstt hini hcode hy hK hg (hsize.trans hml.symm) (argsL := As) (rest := rest) (fun sig h => hn.trans (hlen sig h)) hstack hW (by rw [hb]; exact hdg)
    (fun vm₁ hW₁ => ⟨hf.1, hf.2, hp.2 (T.setVm vm₁) hT hW₁⟩) with ⟨v, vm₁, ⟨U', l2, c2, s2⟩, hW₁, X', ⟨g', mk, t, L, e1, e2, hq, h1, hL, h2, h3⟩, st⟩ | ⟨q, vm₁, ⟨U', l2, c2, s2⟩, hW₁, X', ⟨g', mk, t, L, E, ce, e1, e2, hq, hce, hcv, hcl, h1, hL, h2, h3⟩, st⟩
  · dsimp only [Pt.U, Pt.locs, Pt.cells, Pt.slots] at X' e1 e2 h1 h2 h3 st
    subst h1; subst h2; subst h3
    exact Or.inl ⟨v, (T.setVm vm₁).calling g' mk As.toArray, t, U', L, hT, X', hL, e1, e2, hq, st⟩
  · dsimp only [Pt.U, Pt.locs, Pt.cells, Pt.slots] at X' e1 e2 h1 h2 h3 st hcl
    subst h1; subst h2; subst h3
    exact Or.inr ⟨q, (T.setVm vm₁).calling g' mk As.toArray, t, U', L, E, ce, hT, X', hL, e1, e2, hq, hce, hcv, vx_cls hW₁ hcl, st⟩
end Runs
section Rows
variable {p : Program} {l : Launch} {e : Env} {R : Room} {s : State} {m : MethodId} {args : Array Value} {below : List Frame} {meth : Method} {c : Code} {H : Heap} {locs : List Loc} {cells slots : Nat} {Q : State → Prop}
variable {mc ms : Nat} {free : Addr → Prop} {A0 A1 : Nat → Prop} {H0 : Heap} {a : Array Value} {pc : Nat} {ls : Array Slot} {st0 rest : List Value}
theorem vx_keep {st₀ t T' : State} {L : List Loc} (h0 : st₀.heap = H) (e1 : T'.heap = t.heap) (hS : va_S A0 H0 H locs) (hA : ∀ q, q < H.size → A1 q → A0 q) (hf : ∀ q, free q → A0 q) (hL : ∀ q ∈ L, free q.base) (hF : va_F A1 st₀ t) :
    H.size ≤ T'.heap.size ∧ (∀ q : Nat, q < H.size → ¬ A1 q → T'.heap[q]? = H[q]?) ∧ va_S A0 H0 T'.heap (locs ++ L) := by
  obtain ⟨hz, hk⟩ := hF
  rw [h0] at hz hk
  exact ⟨by rw [e1]; exact hz, fun q h1 h2 => by rw [e1]; exact hk q h1 h2,
    ⟨Nat.le_trans hS.1 (by rw [e1]; exact hz), fun q h1 h2 => by rw [e1, hk q (Nat.lt_of_lt_of_le h1 hS.1) (fun z => h2 (hA q (Nat.lt_of_lt_of_le h1 hS.1) z))]; exact hS.2.1 q h1 h2, fun q hq => by
      rcases List.mem_append.mp hq with h | h
      · exact hS.2.2 q h
      · exact hf _ (hL q h)⟩⟩
theorem vx_calli {S SX : Type} {post : Int32 → S → Prop} {px : SX → Prop} {B : S → State → Prop} {BX : String → SX → State → Prop} {AX : Nat → Prop} (hr : vx_Run p l e R s m args below meth c H locs cells slots mc ms (F0 m pc ls st0) rest (va_Qi post B A1 a) (vx_X px BX AX) free) (hS : va_S A0 H0 H locs) (hA : ∀ q, q < H.size → A1 q → A0 q) (hf : ∀ q, free q → A0 q) (hAX : ∀ q, q < H.size → AX q → A0 q)
    (kx : ∀ (E : String) (ce : Cell) (q9 : Addr) (u : SX) (t : State) (H1 : Heap) (locs1 : List Loc), t.heap = H1 → s.vm.Alike t.vm → px u → BX E u t → H.size ≤ H1.size → (∀ q : Nat, q < H.size → ¬ AX q → H1[q]? = H[q]?) → va_S A0 H0 H1 locs1 → H1[q9]? = some ce → ce.vm = .none → s.vm.findClass E = some ce.cls → vx_W p l e R s m args below meth c H1 locs1 (cells + mc) (slots + ms) Q (F0 m pc ls rest) q9)
    (kk : ∀ (r : Int32) (u : S) (t : State) (H1 : Heap) (locs1 : List Loc), t.heap = H1 → s.vm.Alike t.vm → post r u → B u t → H.size ≤ H1.size → (∀ q : Nat, q < H.size → ¬ A1 q → H1[q]? = H[q]?) → va_S A0 H0 H1 locs1 → W p l e R s m args below meth c H1 locs1 (cells + mc) (slots + ms) Q (F0 m (pc + 3) ls (.int r :: rest))) : W p l e R s m args below meth c H locs cells slots Q (F0 m pc ls st0) := by
  intro T hT X
  rcases hr T hT X with ⟨v, st₀, t, T', L, h0, X', hL, e1, e2, ⟨⟨r, u, hv, hp, hb⟩, hF⟩, st⟩ | ⟨q, st₀, t, T', L, E, ce, h0, X', hL, e1, e2, ⟨u, hp, hb, hF⟩, hce, hcv, hcl, st⟩
  · cases hv
    obtain ⟨k1, k2, k3⟩ := vx_keep h0 e1 hS hA hf hL hF
    obtain ⟨t2, a1, b1⟩ := kk r u t T'.heap (locs ++ L) e1.symm (by rw [← e2]; exact X'.warmed.alike) hp hb k1 k2 k3 T' rfl X'
    exact ⟨t2, st t2 a1, b1⟩
  · obtain ⟨k1, k2, k3⟩ := vx_keep h0 e1 hS hAX hf hL hF
    obtain ⟨t2, a1, b1⟩ := kx E ce q u t T'.heap (locs ++ L) e1.symm (by rw [← e2]; exact X'.warmed.alike) hp hb k1 k2 k3 (by rw [e1]; exact hce) hcv hcl T' rfl X'
    exact ⟨t2, st.trans a1, b1⟩
theorem vx_calll {S SX : Type} {post : Int64 → S → Prop} {px : SX → Prop} {B : S → State → Prop} {BX : String → SX → State → Prop} {AX : Nat → Prop} (hr : vx_Run p l e R s m args below meth c H locs cells slots mc ms (F0 m pc ls st0) rest (va_Ql post B A1 a) (vx_X px BX AX) free) (hS : va_S A0 H0 H locs) (hA : ∀ q, q < H.size → A1 q → A0 q) (hf : ∀ q, free q → A0 q) (hAX : ∀ q, q < H.size → AX q → A0 q)
    (kx : ∀ (E : String) (ce : Cell) (q9 : Addr) (u : SX) (t : State) (H1 : Heap) (locs1 : List Loc), t.heap = H1 → s.vm.Alike t.vm → px u → BX E u t → H.size ≤ H1.size → (∀ q : Nat, q < H.size → ¬ AX q → H1[q]? = H[q]?) → va_S A0 H0 H1 locs1 → H1[q9]? = some ce → ce.vm = .none → s.vm.findClass E = some ce.cls → vx_W p l e R s m args below meth c H1 locs1 (cells + mc) (slots + ms) Q (F0 m pc ls rest) q9)
    (kk : ∀ (r : Int64) (u : S) (t : State) (H1 : Heap) (locs1 : List Loc), t.heap = H1 → s.vm.Alike t.vm → post r u → B u t → H.size ≤ H1.size → (∀ q : Nat, q < H.size → ¬ A1 q → H1[q]? = H[q]?) → va_S A0 H0 H1 locs1 → W p l e R s m args below meth c H1 locs1 (cells + mc) (slots + ms) Q (F0 m (pc + 3) ls (.long r :: rest))) : W p l e R s m args below meth c H locs cells slots Q (F0 m pc ls st0) := by
  intro T hT X
  rcases hr T hT X with ⟨v, st₀, t, T', L, h0, X', hL, e1, e2, ⟨⟨r, u, hv, hp, hb⟩, hF⟩, st⟩ | ⟨q, st₀, t, T', L, E, ce, h0, X', hL, e1, e2, ⟨u, hp, hb, hF⟩, hce, hcv, hcl, st⟩
  · cases hv
    obtain ⟨k1, k2, k3⟩ := vx_keep h0 e1 hS hA hf hL hF
    obtain ⟨t2, a1, b1⟩ := kk r u t T'.heap (locs ++ L) e1.symm (by rw [← e2]; exact X'.warmed.alike) hp hb k1 k2 k3 T' rfl X'
    exact ⟨t2, st t2 a1, b1⟩
  · obtain ⟨k1, k2, k3⟩ := vx_keep h0 e1 hS hAX hf hL hF
    obtain ⟨t2, a1, b1⟩ := kx E ce q u t T'.heap (locs ++ L) e1.symm (by rw [← e2]; exact X'.warmed.alike) hp hb k1 k2 k3 (by rw [e1]; exact hce) hcv hcl T' rfl X'
    exact ⟨t2, st.trans a1, b1⟩
theorem vx_callf {S SX : Type} {post : UInt32 → S → Prop} {px : SX → Prop} {B : S → State → Prop} {BX : String → SX → State → Prop} {AX : Nat → Prop} (hr : vx_Run p l e R s m args below meth c H locs cells slots mc ms (F0 m pc ls st0) rest (va_Qf post B A1 a) (vx_X px BX AX) free) (hS : va_S A0 H0 H locs) (hA : ∀ q, q < H.size → A1 q → A0 q) (hf : ∀ q, free q → A0 q) (hAX : ∀ q, q < H.size → AX q → A0 q)
    (kx : ∀ (E : String) (ce : Cell) (q9 : Addr) (u : SX) (t : State) (H1 : Heap) (locs1 : List Loc), t.heap = H1 → s.vm.Alike t.vm → px u → BX E u t → H.size ≤ H1.size → (∀ q : Nat, q < H.size → ¬ AX q → H1[q]? = H[q]?) → va_S A0 H0 H1 locs1 → H1[q9]? = some ce → ce.vm = .none → s.vm.findClass E = some ce.cls → vx_W p l e R s m args below meth c H1 locs1 (cells + mc) (slots + ms) Q (F0 m pc ls rest) q9)
    (kk : ∀ (r : UInt32) (u : S) (t : State) (H1 : Heap) (locs1 : List Loc), t.heap = H1 → s.vm.Alike t.vm → post r u → B u t → H.size ≤ H1.size → (∀ q : Nat, q < H.size → ¬ A1 q → H1[q]? = H[q]?) → va_S A0 H0 H1 locs1 → W p l e R s m args below meth c H1 locs1 (cells + mc) (slots + ms) Q (F0 m (pc + 3) ls (.float r :: rest))) : W p l e R s m args below meth c H locs cells slots Q (F0 m pc ls st0) := by
  intro T hT X
  rcases hr T hT X with ⟨v, st₀, t, T', L, h0, X', hL, e1, e2, ⟨⟨r, u, hv, hp, hb⟩, hF⟩, st⟩ | ⟨q, st₀, t, T', L, E, ce, h0, X', hL, e1, e2, ⟨u, hp, hb, hF⟩, hce, hcv, hcl, st⟩
  · cases hv
    obtain ⟨k1, k2, k3⟩ := vx_keep h0 e1 hS hA hf hL hF
    obtain ⟨t2, a1, b1⟩ := kk r u t T'.heap (locs ++ L) e1.symm (by rw [← e2]; exact X'.warmed.alike) hp hb k1 k2 k3 T' rfl X'
    exact ⟨t2, st t2 a1, b1⟩
  · obtain ⟨k1, k2, k3⟩ := vx_keep h0 e1 hS hAX hf hL hF
    obtain ⟨t2, a1, b1⟩ := kx E ce q u t T'.heap (locs ++ L) e1.symm (by rw [← e2]; exact X'.warmed.alike) hp hb k1 k2 k3 (by rw [e1]; exact hce) hcv hcl T' rfl X'
    exact ⟨t2, st.trans a1, b1⟩
theorem vx_calld {S SX : Type} {post : UInt64 → S → Prop} {px : SX → Prop} {B : S → State → Prop} {BX : String → SX → State → Prop} {AX : Nat → Prop} (hr : vx_Run p l e R s m args below meth c H locs cells slots mc ms (F0 m pc ls st0) rest (va_Qd post B A1 a) (vx_X px BX AX) free) (hS : va_S A0 H0 H locs) (hA : ∀ q, q < H.size → A1 q → A0 q) (hf : ∀ q, free q → A0 q) (hAX : ∀ q, q < H.size → AX q → A0 q)
    (kx : ∀ (E : String) (ce : Cell) (q9 : Addr) (u : SX) (t : State) (H1 : Heap) (locs1 : List Loc), t.heap = H1 → s.vm.Alike t.vm → px u → BX E u t → H.size ≤ H1.size → (∀ q : Nat, q < H.size → ¬ AX q → H1[q]? = H[q]?) → va_S A0 H0 H1 locs1 → H1[q9]? = some ce → ce.vm = .none → s.vm.findClass E = some ce.cls → vx_W p l e R s m args below meth c H1 locs1 (cells + mc) (slots + ms) Q (F0 m pc ls rest) q9)
    (kk : ∀ (r : UInt64) (u : S) (t : State) (H1 : Heap) (locs1 : List Loc), t.heap = H1 → s.vm.Alike t.vm → post r u → B u t → H.size ≤ H1.size → (∀ q : Nat, q < H.size → ¬ A1 q → H1[q]? = H[q]?) → va_S A0 H0 H1 locs1 → W p l e R s m args below meth c H1 locs1 (cells + mc) (slots + ms) Q (F0 m (pc + 3) ls (.double r :: rest))) : W p l e R s m args below meth c H locs cells slots Q (F0 m pc ls st0) := by
  intro T hT X
  rcases hr T hT X with ⟨v, st₀, t, T', L, h0, X', hL, e1, e2, ⟨⟨r, u, hv, hp, hb⟩, hF⟩, st⟩ | ⟨q, st₀, t, T', L, E, ce, h0, X', hL, e1, e2, ⟨u, hp, hb, hF⟩, hce, hcv, hcl, st⟩
  · cases hv
    obtain ⟨k1, k2, k3⟩ := vx_keep h0 e1 hS hA hf hL hF
    obtain ⟨t2, a1, b1⟩ := kk r u t T'.heap (locs ++ L) e1.symm (by rw [← e2]; exact X'.warmed.alike) hp hb k1 k2 k3 T' rfl X'
    exact ⟨t2, st t2 a1, b1⟩
  · obtain ⟨k1, k2, k3⟩ := vx_keep h0 e1 hS hAX hf hL hF
    obtain ⟨t2, a1, b1⟩ := kx E ce q u t T'.heap (locs ++ L) e1.symm (by rw [← e2]; exact X'.warmed.alike) hp hb k1 k2 k3 (by rw [e1]; exact hce) hcv hcl T' rfl X'
    exact ⟨t2, st.trans a1, b1⟩
theorem vx_callv {S SX : Type} {post : S → Prop} {px : SX → Prop} {B : S → State → Prop} {BX : String → SX → State → Prop} {AX : Nat → Prop} (hr : vx_Run p l e R s m args below meth c H locs cells slots mc ms (F0 m pc ls st0) rest (va_Qv post B A1 a) (vx_X px BX AX) free) (hS : va_S A0 H0 H locs) (hA : ∀ q, q < H.size → A1 q → A0 q) (hf : ∀ q, free q → A0 q) (hAX : ∀ q, q < H.size → AX q → A0 q)
    (kx : ∀ (E : String) (ce : Cell) (q9 : Addr) (u : SX) (t : State) (H1 : Heap) (locs1 : List Loc), t.heap = H1 → s.vm.Alike t.vm → px u → BX E u t → H.size ≤ H1.size → (∀ q : Nat, q < H.size → ¬ AX q → H1[q]? = H[q]?) → va_S A0 H0 H1 locs1 → H1[q9]? = some ce → ce.vm = .none → s.vm.findClass E = some ce.cls → vx_W p l e R s m args below meth c H1 locs1 (cells + mc) (slots + ms) Q (F0 m pc ls rest) q9)
    (kk : ∀ (u : S) (t : State) (H1 : Heap) (locs1 : List Loc), t.heap = H1 → s.vm.Alike t.vm → post u → B u t → H.size ≤ H1.size → (∀ q : Nat, q < H.size → ¬ A1 q → H1[q]? = H[q]?) → va_S A0 H0 H1 locs1 → W p l e R s m args below meth c H1 locs1 (cells + mc) (slots + ms) Q (F0 m (pc + 3) ls (rest))) : W p l e R s m args below meth c H locs cells slots Q (F0 m pc ls st0) := by
  intro T hT X
  rcases hr T hT X with ⟨v, st₀, t, T', L, h0, X', hL, e1, e2, ⟨⟨u, hv, hp, hb⟩, hF⟩, st⟩ | ⟨q, st₀, t, T', L, E, ce, h0, X', hL, e1, e2, ⟨u, hp, hb, hF⟩, hce, hcv, hcl, st⟩
  · cases hv
    obtain ⟨k1, k2, k3⟩ := vx_keep h0 e1 hS hA hf hL hF
    obtain ⟨t2, a1, b1⟩ := kk u t T'.heap (locs ++ L) e1.symm (by rw [← e2]; exact X'.warmed.alike) hp hb k1 k2 k3 T' rfl X'
    exact ⟨t2, st t2 a1, b1⟩
  · obtain ⟨k1, k2, k3⟩ := vx_keep h0 e1 hS hAX hf hL hF
    obtain ⟨t2, a1, b1⟩ := kx E ce q u t T'.heap (locs ++ L) e1.symm (by rw [← e2]; exact X'.warmed.alike) hp hb k1 k2 k3 (by rw [e1]; exact hce) hcv hcl T' rfl X'
    exact ⟨t2, st.trans a1, b1⟩
/-- caught by the row x of this method's table; the rows ahead don't take it -/
theorem vx_catch {own name : String} {E : String} {ce : Cell} {q : Addr} (hown : s.vm.findClass own = some m.cls) (pre : List ExceptionTableEntry) (x : ExceptionTableEntry) (suf : List ExceptionTableEntry) (hsplit : c.exceptionTable.toList = pre ++ x :: suf)
    (hpass : ∀ z ∈ pre, covers z pc = false ∨ (z.catchType ≠ 0 ∧ ∃ nm : String, (Cond.classLink own z.catchType nm).before args s = true ∧ va_Nc E nm s)) (hx : covers x pc = true) (h0 : x.catchType ≠ 0)
    (hlink : (Cond.classLink own x.catchType name).before args s = true) (hcast : (Cond.castable E name).before args s = true) (hcell : H[q]? = some ce) (hv : ce.vm = .none) (hcl : s.vm.findClass E = some ce.cls)
    (kk : W p l e R s m args below meth c H locs cells slots Q (F0 m x.handlerPc ls [.ref q])) : vx_W p l e R s m args below meth c H locs cells slots Q (F0 m pc ls rest) q := by
  intro T hT X
  have hpl : e.platform.magicAccessors = ({} : Platform).magicAccessors := by rw [X.admits.platform]
  obtain ⟨c3, c4, hc3, hc4, hasg⟩ := Cond.castable_spec hcast
  cases Option.some.inj (hc3.symm.trans hcl)
  obtain ⟨c5, hc5, hcl5⟩ := Cond.classLink_spec hown hlink e.platform hpl
  cases Option.some.inj (hc4.symm.trans hc5)
  obtain ⟨vm', X', st⟩ := X.thenCaughtThrough q (g := F0 m pc ls rest) rfl (Steps.refl _) (by rw [hT]; exact hcell) (by rw [hv]; rfl) (by obtain ⟨k9, h9, -⟩ := Vm.findClass_spec hcl; exact ⟨k9, h9⟩) pre x suf hsplit
    (fun z hz => by
      rcases hpass z hz with h | ⟨hz0, nm, hl1, hn1⟩
      · exact Or.inl h
      · obtain ⟨c6, hc6, hcl6⟩ := Cond.classLink_spec hown hl1 e.platform hpl
        obtain ⟨a8, b8, h1, h2, h3⟩ := hn1
        cases Option.some.inj (h1.symm.trans hcl)
        cases Option.some.inj (h2.symm.trans hc6)
        exact Or.inr ⟨hz0, _, hcl6, h3⟩) hx (Or.inr ⟨h0, c4, hcl5, hasg⟩)
  obtain ⟨t, a1, b1⟩ := kk (T.setVm vm') hT X'
  exact ⟨t, st.trans a1, b1⟩
end Rows
section Ends
variable {p : Program} {l : Launch} {e : Env} {R : Room} {s : State} {m : MethodId} {args : Array Value} {below : List Frame} {meth : Method} {c : Code} {H : Heap} {locs : List Loc} {cells slots : Nat} {Q : State → Prop}
variable {mc ms : Nat} {free : Addr → Prop} {A0 A1 : Nat → Prop} {H0 : Heap} {a : Array Value} {ls : Array Slot} {st0 rest : List Value}
variable {Qc : Array Value → State → Outcome → State → Prop} {XC : String → State → State → Prop}
/-- what a body that may throw owes at its end -/
def vx_MQ (below : List Frame) (Qc : Array Value → State → Outcome → State → Prop) (XC : String → State → State → Prop) (a : Array Value) (s : State) (mc ms : Nat) (free : Addr → Prop) : State → Prop := fun t =>
  ∃ o, t.status = .running ∧ Ended t below o ∧ vx_Q Qc XC mc ms free a s o t
theorem vx_ret {g : JFrame} {mc ms : Nat} (k : W p l e R s m args below meth c H locs cells slots (MQ below Qc args s mc ms free) g) : W p l e R s m args below meth c H locs cells slots (vx_MQ below Qc XC args s mc ms free) g := by
  intro T hT X
  obtain ⟨t, a1, o, b1, b2, b3, b4⟩ := k T hT X
  exact ⟨t, a1, o, b1, b2, Or.inl ⟨b3, b4⟩⟩
/-- not caught here: it goes on to the caller -/
theorem vx_widen {g : JFrame} {q : Addr} {k n : Nat} (h1 : cells ≤ k) (h2 : slots ≤ n) (kk : vx_W p l e R s m args below meth c H locs k n Q g q) : vx_W p l e R s m args below meth c H locs cells slots Q g q := fun T hT X => kk T hT (stand_widen X h1 h2)
theorem vx_out {pc : Nat} {E : String} {ce : Cell} {q : Addr} {mc ms : Nat} (hout : ∀ x ∈ c.exceptionTable.toList, covers x pc = false) (hlocks : meth.locks = false) (hcell : H[q]? = some ce) (hv : ce.vm = .none) (hcl : s.vm.findClass E = some ce.cls)
    (hx : ∀ t : State, t.heap = H → s.vm.Alike t.vm → XC E s t) (hf : ∀ z ∈ locs, free z.base) (hc : cells ≤ mc) (hs : slots ≤ ms) :
    vx_W p l e R s m args below meth c H locs cells slots (vx_MQ below Qc XC args s mc ms free) (F0 m pc ls rest) q := by
  intro T hT X
  obtain ⟨st1, hrun, hend, hW, hsm⟩ := X.leaveThrown q (g := F0 m pc ls rest) rfl rfl rfl hout hlocks
  have hcell9 : (T.setFrames (.throwing q :: below)).heap[q]? = some ce := by
    show T.heap[q]? = some ce
    rw [hT]; exact hcell
  exact ⟨_, st1, .threw q, hrun, hend, Or.inr ⟨q, rfl, E, ce, locs, hx _ hT hW.alike, hcell9, hv, hcl, hW, hsm.mono hc hs, hf⟩⟩
theorem vx_frame {U : State} {k n : Nat} (h : s.sameButNew ({ U with vm := s.vm } : State) locs k n) : s.heap.size ≤ U.heap.size ∧ ∀ q : Nat, q < s.heap.size → (∀ z ∈ locs, z.base ≠ q) → U.heap[q]? = s.heap[q]? := by
  obtain ⟨-, h2, -, -, -, h6⟩ := h
  refine ⟨h2, fun q hq hz => ?_⟩
  obtain ⟨c9, e1, e2, e3, e4⟩ := h6 q _ (Array.getElem?_eq_getElem hq)
  have hs : c9.slots = (s.heap[q]).slots := Array.ext_getElem? fun i => e4 i fun hm => hz _ hm rfl
  have h9 : c9 = s.heap[q] := by
    rw [hs] at e2
    exact e2
  have e5 : U.heap[q]? = some c9 := e1
  rw [e5, h9, Array.getElem?_eq_getElem hq]
/-- the words of a throw but the four that speak of the heap -/
def vx_no (w : Cond) : Bool := decide (w ≠ .isRef (.static Bundle.tN "UNASSIGNED_STACK" Bundle.steD)) && decide (w ≠ .isRef (.static Bundle.tN "SUPPRESSED_SENTINEL" Bundle.listD)) && decide (w ≠ .laysStatic Bundle.tN "UNASSIGNED_STACK" Bundle.steD) && decide (w ≠ .laysStatic Bundle.tN "SUPPRESSED_SENTINEL" Bundle.listD)
def vx_at0 (own : String) (ic : Nat) (X : String) (names : List String) : List Cond := (Bundle.ownAtoms0 own ic X names).filter vx_no
def vx_atS (own : String) (ic : Nat) (X : String) (names : List String) : List Cond := (Bundle.ownAtoms own ic X names).filter vx_no
/-- a word that the tables alone decide, or a good one -/
def vx_ot (w : Cond) : Bool := w.onTables || goodWord w
theorem vx_ot_at {args a' : Array Value} {s U : State} {w : Cond} (hW : s.WarmedH U.vm) (hvm : s.vm = U.vm) (hg : vx_ot w = true) (h : w.before args s = true) : w.before a' U = true := by
  simp only [vx_ot, Bool.or_eq_true] at hg
  rcases hg with hg | hg
  · exact va_tabs hg hvm h
  · exact word_at hW (good_of_word hg) h
/-- a list's words: the good ones out of the method's own list, the others by premises of their own -/
theorem vx_hat {args : Array Value} {s : State} {L B : List Cond} (h1 : ∀ w ∈ L.filter goodWord, w.before args s = true) (h2 : ∀ w ∈ L.filter (fun w => !goodWord w), w ∈ B) (h3 : ∀ w ∈ B, w.before args s = true) : ∀ w ∈ L, w.before args s = true := by
  intro w hw
  by_cases g : goodWord w = true
  · exact h1 w (List.mem_filter.mpr ⟨hw, g⟩)
  · refine h3 w (h2 w (List.mem_filter.mpr ⟨hw, ?_⟩))
    show (!goodWord w) = true
    cases hgw : goodWord w
    · rfl
    · exact absurd hgw g
theorem vx_c {args : Array Value} {s : State} {w : Cond} {B : List Cond} (h : w.before args s = true) (t : ∀ w ∈ B, w.before args s = true) : ∀ w' ∈ w :: B, w'.before args s = true := fun w' h' => (List.mem_cons.mp h').elim (fun e => by rw [e]; exact h) (t w')
theorem vx_n {args : Array Value} {s : State} : ∀ w ∈ ([] : List Cond), w.before args s = true := fun _ h => nomatch h
theorem vx_own {args : Array Value} {s : State} {L : List Cond} (h1 : ∀ w ∈ L.filter vx_no, w.before args s = true)
    (hU : (Cond.isRef (.static Bundle.tN "UNASSIGNED_STACK" Bundle.steD)).before args s = true) (hN : (Cond.isRef (.static Bundle.tN "SUPPRESSED_SENTINEL" Bundle.listD)).before args s = true)
    (lU : (Cond.laysStatic Bundle.tN "UNASSIGNED_STACK" Bundle.steD).before args s = true) (lN : (Cond.laysStatic Bundle.tN "SUPPRESSED_SENTINEL" Bundle.listD).before args s = true) : ∀ w ∈ L, w.before args s = true := by
  intro w hw
  by_cases e1 : w = .isRef (.static Bundle.tN "UNASSIGNED_STACK" Bundle.steD)
  · rw [e1]; exact hU
  · by_cases e2 : w = .isRef (.static Bundle.tN "SUPPRESSED_SENTINEL" Bundle.listD)
    · rw [e2]; exact hN
    · by_cases e3 : w = .laysStatic Bundle.tN "UNASSIGNED_STACK" Bundle.steD
      · rw [e3]; exact lU
      · by_cases e4 : w = .laysStatic Bundle.tN "SUPPRESSED_SENTINEL" Bundle.listD
        · rw [e4]; exact lN
        · exact h1 w (List.mem_filter.mpr ⟨hw, by unfold vx_no; rw [decide_eq_true e1, decide_eq_true e2, decide_eq_true e3, decide_eq_true e4]; rfl⟩)
/-- where a static field lies, its class's statics cell in H -/
def vx_L (C n d : String) (A : Nat → Prop) (U : State) (H : Heap) : Prop := ∃ (c : ClassId) (k : Class) (i : Nat) (f : Field) (a : Nat) (cell : Cell), U.vm.findClass C = some c ∧ U.fieldFound? C n d = some (c, k, i, f) ∧ f.isStatic = true ∧ k.statics = some a ∧ H[a]? = some cell ∧ cell.vm.isStatics = true ∧ cell.cls = c ∧ f.slot < cell.slots.size ∧ k.staticTypes[f.slot]? = some f.type ∧ ¬ A a
theorem vx_L.moved {C n d : String} {A : Nat → Prop} {u U : State} {H : Heap} (hvm : u.vm.Alike U.vm) (h : vx_L C n d A u H) : vx_L C n d A U H := by
  obtain ⟨c, k, i, f, a, cell, h1, h2, h3, h4, h5, h6, h7, h8, h9, h10⟩ := h
  obtain ⟨k', hi', he⟩ := State.fieldFound?_setVm hvm h2
  exact ⟨c, k', i, f, a, cell, by rw [hvm.findClass]; exact h1, hi', h3, by rw [he]; exact h4, h5, h6, h7, h8, by rw [he]; exact h9, h10⟩
theorem vx_L.kept {C n d : String} {A : Nat → Prop} {U : State} {H H1 : Heap} (h : vx_L C n d A U H) (hq : ∀ a : Nat, a < H.size → ¬ A a → H1[a]? = H[a]?) : vx_L C n d A U H1 := by
  obtain ⟨c, k, i, f, a, cell, h1, h2, h3, h4, h5, h6, h7, h8, h9, h10⟩ := h
  exact ⟨c, k, i, f, a, cell, h1, h2, h3, h4, by rw [hq a (Array.getElem?_eq_some_iff.mp h5).1 h10]; exact h5, h6, h7, h8, h9, h10⟩
theorem vx_L.narrow {C n d : String} {A B : Nat → Prop} {U : State} {H : Heap} (h : vx_L C n d A U H) (hAB : ∀ q, B q → A q) : vx_L C n d B U H := by
  obtain ⟨c, k, i, f, a, cell, h1, h2, h3, h4, h5, h6, h7, h8, h9, h10⟩ := h
  exact ⟨c, k, i, f, a, cell, h1, h2, h3, h4, h5, h6, h7, h8, h9, fun z => h10 (hAB _ z)⟩
theorem vx_L.word {C n d : String} {A : Nat → Prop} {s : State} {args : Array Value} (h : vx_L C n d A s s.heap) : (Cond.laysStatic C n d).before args s = true := by
  obtain ⟨c, k, i, f, a, cell, h1, h2, h3, h4, h5, h6, h7, h8, h9, -⟩ := h
  show (Cond.laysStatic C n d).holds args s none s [] = true
  exact Cond.laysStatic_of h1 h2 h3 h4 h5 h6 h7 h8 h9
/-- .. and what it holds: null or some reference -/
def vx_Zq (C n d : String) (A : Nat → Prop) (U : State) (H : Heap) : Prop := va_Zq C n d A U H ∧ vx_L C n d A U H
theorem vx_Zq.moved {C n d : String} {A : Nat → Prop} {u U : State} {H : Heap} (hvm : u.vm.Alike U.vm) (h : vx_Zq C n d A u H) : vx_Zq C n d A U H := ⟨va_Zq.moved hvm h.1, vx_L.moved hvm h.2⟩
theorem vx_Zq.kept {C n d : String} {A : Nat → Prop} {U : State} {H H1 : Heap} (h : vx_Zq C n d A U H) (hq : ∀ a : Nat, a < H.size → ¬ A a → H1[a]? = H[a]?) : vx_Zq C n d A U H1 := ⟨va_Zq.kept h.1 hq, vx_L.kept h.2 hq⟩
theorem vx_Zq.narrow {C n d : String} {A B : Nat → Prop} {U : State} {H : Heap} (h : vx_Zq C n d A U H) (hAB : ∀ q, B q → A q) : vx_Zq C n d B U H := ⟨va_Zq.narrow h.1 hAB, vx_L.narrow h.2 hAB⟩
theorem vx_Zqof {args : Array Value} {s : State} {C n d : String} {A : Nat → Prop} (hl : (Cond.laysStatic C n d).before args s = true) (hini : (Cond.initialized C).before args s = true) (h : (Cond.isRef (.static C n d)).before args s = true) (hA : ∀ a : Nat, a < s.heap.size → ¬ A a) : vx_Zq C n d A s s.heap := by
  refine ⟨va_Zqof hl hini h hA, ?_⟩
  obtain ⟨c, k, i, f, a, cell, h1, h2, h3, h4, h5, h6, h7, h8, h9⟩ := Cond.laysStatic_spec hl
  exact ⟨c, k, i, f, a, cell, h1, h2, h3, h4, h5, h6, h7, h8, h9, hA a (Array.getElem?_eq_some_iff.mp h5).1⟩
theorem vx_isRef {C n d : String} {v : Value} {A : Nat → Prop} {s : State} {args : Array Value} (h : va_Z C n d v A s s.heap) (hv : v.isRef = true) : (Cond.isRef (.static C n d)).before args s = true := by
  obtain ⟨cf, kf, fi, f, a, cell, h1, h2, h3, h4, h5, h6, h7, -⟩ := h
  have he : (Term.static C n d).eval args s none [] s = some v := by
    simp [Term.eval, State.fieldNamed?, h1, h2, h4, h5, h6, h7]
  simp only [Cond.before, Cond.holds, Cond.value, he]
  cases v <;> simp_all [Value.isRef]
theorem vx_isRefq {C n d : String} {A : Nat → Prop} {s : State} {args : Array Value} (h : va_Zq C n d A s s.heap) : (Cond.isRef (.static C n d)).before args s = true := by
  rcases h with h | ⟨t, h⟩
  · exact vx_isRef h rfl
  · exact vx_isRef h rfl
/-- the same frame, seen from here: as if the method were called anew in this heap -/
theorem vx_rebase {T : State} (X : Stand p l e R s m args below meth c T locs cells slots) {R' : Room} (hf : R'.frames ≤ R.frames) (hl : R'.locals ≤ R.locals) (hc : cells + R'.cells ≤ R.cells) (hs : slots + R'.slots ≤ R.slots) :
    Stand p l e R' ((T.setVm s.vm).setFrames (.invoking m args :: below)) m args below meth c T [] 0 0 := by
  have htop : (T.setVm s.vm).topJava?.isSome := X.here.top
  have hF : ((T.setVm s.vm).setFrames (.invoking m args :: below)).frames = .invoking m args :: below := State.frames_setFrames _ (State.cur_lt_of_top htop)
  obtain ⟨g₀, hg0⟩ := Option.isSome_iff_exists.mp htop
  obtain ⟨r, hr⟩ := State.topJava?_eq_some.mp hg0
  have hl9 : e.platform.stackLimits (T.setVm s.vm).me = e.platform.stackLimits s.me := X.limits
  have hb9 : (T.setVm s.vm).me.stackBytes = s.me.stackBytes := X.bytes
  refine ⟨X.admits, X.cas, X.clock, hF, ?_, X.hears, X.method, X.code, X.here, X.tail, X.warmed, ?_, ?_, ?_⟩
  · have h := X.room
    have hU : ((T.setVm s.vm).setFrames (.invoking m args :: below)).localsInUse = s.localsInUse := by
      rw [State.localsInUse_invoking hF (meth := meth) (c := c) X.method X.code, State.localsInUse_invoking X.frames X.method X.code]
    simp only [State.hasRoom, Bool.and_eq_true, decide_eq_true_eq] at h ⊢
    obtain ⟨⟨⟨⟨h1, h2, h3, h4, h5, h6⟩, h7⟩, h8⟩, h9⟩ := h
    rw [X.frames, List.length_cons] at h2 h3
    have q1 := X.heapSize
    have q2 := X.used
    simp only [hF, hU, List.length_cons, State.stackLimits_setFrames, State.stackBytes_setFrames, hl9, hb9]
    refine ⟨⟨⟨⟨by omega, by omega, by omega, by omega, by omega, h6⟩, ?_⟩, ?_⟩, X.book⟩
    · show T.heap.size + R'.cells ≤ e.platform.maxCells
      omega
    · show T.slotsUsed + R'.slots ≤ e.platform.maxSlots
      omega
  · rw [State.stackLimits_setFrames]; rfl
  · rw [State.stackBytes_setFrames]; rfl
  · refine ⟨?_, Nat.le_refl _, Nat.le_refl _, ?_, ?_, fun a c9 h9 => ⟨c9, h9, rfl, rfl, fun _ _ => rfl⟩⟩
    · obtain ⟨t, ht, -⟩ := State.frames_cons hr
      show T.setVm s.vm = { ((T.setVm s.vm).setFrames (.invoking m args :: below)).setFrames (T.setVm s.vm).frames with heap := T.heap, slotsUsed := T.slotsUsed }
      rw [State.setFrames_setFrames, State.setFrames_self ht]
      rfl
    · show T.slotsUsed = T.slotsUsed + ((T.heap.toList.drop T.heap.size).map (·.slots.size)).sum
      rw [List.drop_eq_nil_of_le (Nat.le_of_eq Array.length_toList)]
      rfl
    · show ((T.heap.toList.drop T.heap.size).map (·.slots.size)).sum ≤ 0
      rw [List.drop_eq_nil_of_le (Nat.le_of_eq Array.length_toList)]
      exact Nat.le_refl _
/-- 'throw new E()': new; dup; invokespecial; athrow -/
theorem vx_throw0 {cc : ByteArray} {pc : Nat} (hexec : p.tables.exec = Jvm.exec) (hb : c.code = cc) (hl : l.stackTraces = false) {own cls : String} {names : List String} {ik ic mc ms : Nat} {A : Nat → Prop}
    (hown : s.vm.findClass own = some m.cls) (hcls : Bundle.fit cls = true) (hnames : ∀ n ∈ names, Bundle.fit n = true)
    (hk : (Cond.classLink own ik cls).before args s = true) (hini : (Cond.initialized cls).before args s = true) (hat : ∀ w ∈ vx_at0 own ic cls names, w.before args s = true)
    (hgood : ∀ w ∈ Cond.classLink own ik cls :: Cond.initialized cls :: vx_at0 own ic cls names, vx_ot w = true)
    (hU : vx_Zq Bundle.tN "UNASSIGNED_STACK" Bundle.steD A s s.heap) (hN : vx_Zq Bundle.tN "SUPPRESSED_SENTINEL" Bundle.listD A s s.heap) (hS : va_S A s.heap H locs) (hsize : ls.size = c.maxLocals)
    (d0 : decode cc pc = .ok (.new ik, 3)) (d3 : decode cc (pc + 3) = .ok (.dup, 1)) (d4 : decode cc (pc + 4) = .ok (.invokespecial ic, 3)) (d7 : decode cc (pc + 7) = .ok (.athrow, 1))
    (hout : ∀ x ∈ c.exceptionTable.toList, covers x (pc + 7) = false)
    (hRframes : names.length + 3 < R.frames) (hRlocals : (rest.map fun v => v.category).sum + (13 * (names.length + 1) + 42) ≤ R.locals) (hRcells : cells + 1 ≤ R.cells) (hRslots : slots + 6 ≤ R.slots) (hlocks : meth.locks = false)
    (hx : ∀ t : State, s.vm.Alike t.vm → H.size ≤ t.heap.size → (∀ q : Nat, q < H.size → t.heap[q]? = H[q]?) → XC cls s t)
    (hf : ∀ z ∈ locs, free z.base) (hc : cells + 1 ≤ mc) (hs : slots + 6 ≤ ms) :
    W p l e R s m args below meth c H locs cells slots (vx_MQ below Qc XC args s mc ms free) (F0 m pc ls rest) := by
  intro T hT X
  have htr : e.platform.stackTraces = false := (show e.platform.stackTraces = l.stackTraces by rw [X.admits.platform]).trans hl
  have Y := vx_rebase X (R' := { frames := R.frames, locals := R.locals, cells := 1, slots := 6 }) (Nat.le_refl _) (Nat.le_refl _) hRcells hRslots
  obtain ⟨s', hA⟩ : ∃ z, z = (T.setVm s.vm).setFrames (.invoking m args :: below) := ⟨_, rfl⟩
  rw [← hA] at Y
  have hvm : s'.vm = s.vm := by rw [hA]; rfl
  have hhp : s'.heap = H := by rw [hA]; exact hT
  have hW0 : s.WarmedH s'.vm := by rw [hvm]; exact State.WarmedH.refl s
  have hat' : ∀ w ∈ vx_at0 own ic cls names, w.before args s' = true := fun w hw => vx_ot_at hW0 hvm.symm (hgood w (List.mem_cons_of_mem _ (List.mem_cons_of_mem _ hw))) (hat w hw)
  have hk' : (Cond.classLink own ik cls).before args s' = true := vx_ot_at hW0 hvm.symm (hgood _ List.mem_cons_self) hk
  have hini' : (Cond.initialized cls).before args s' = true := vx_ot_at hW0 hvm.symm (hgood _ (List.mem_cons_of_mem _ List.mem_cons_self)) hini
  have hU' : vx_Zq Bundle.tN "UNASSIGNED_STACK" Bundle.steD A s' s'.heap := by rw [hhp]; exact vx_Zq.moved hW0.alike (hU.kept hS.2.1)
  have hN' : vx_Zq Bundle.tN "SUPPRESSED_SENTINEL" Bundle.listD A s' s'.heap := by rw [hhp]; exact vx_Zq.moved hW0.alike (hN.kept hS.2.1)
  have h : ∀ w ∈ Bundle.ownAtoms0 own ic cls names, w.before args s' = true := vx_own hat' (vx_isRefq hU'.1) (vx_isRefq hN'.1) hU'.2.word hN'.2.word
  have hown' : s'.vm.findClass own = some m.cls := by rw [hvm]; exact hown
  have hins : (Cond.instantiable cls 6).before args s' = true := h _ (by simp [Bundle.ownAtoms0])
  obtain ⟨vm₁, cX, kX, hfX, hkX, -, -, X₁, st1⟩ := Y.newCold hexec (own := own) (C := cls) (index := ik) (n := 6) hown' hk' hins hini'
    (g := F0 m pc ls rest) rfl (by rw [hb]; exact d0) (Nat.le_refl _) (Nat.le_refl _)
  generalize hT1 : (T.setVm vm₁).pushCell { cls := cX, slots := kX.instanceTypes.map defaultValue, vm := .none } = T1 at X₁ st1
  have hcat : (Value.ref T.heap.size).category = 1 := rfl
  have hcellA : T1.heap[T.heap.size]? = some (freshCell cX kX) := by rw [← hT1]; exact State.heap_pushCell_size _ _
  have d3' : decode c.code (pc + 3) = .ok (.dup, 1) := by rw [hb]; exact d3
  obtain ⟨U, hsteps, hrun, hend, hW, hsame, ce, hce, hO⟩ := X₁.ctorThrow0 hexec htr (own := own) (cls := cls) (names := names) (ic := ic) hown' hcls hnames h (fun x hx => nomatch hx) hfX hkX hcellA (by rw [hhp, hT]; exact Nat.le_refl _)
    (g := { method := m, pc := pc + 4, locals := ls, stack := .ref T.heap.size :: .ref T.heap.size :: rest, locked := none }) rfl hsize rfl rfl (rest := rest) rfl
    (by rw [hb]; exact d4) (by rw [hb]; exact d7) hout hRframes (by simp only [List.map_cons, List.sum_cons, hcat]; omega) hlocks
  obtain ⟨f1, f2⟩ := vx_frame hsame
  rw [hhp] at f1 f2
  have hWs : s.WarmedH U.vm := State.WarmedH.trans hW0 hW
  have hcl : s.vm.findClass cls = some ce.cls := by
    have h9 := hO.cls
    rw [hvm] at h9
    exact h9
  have hall : s.sameButNew ({ U with vm := s.vm } : State) locs mc ms := by
    subst hA
    obtain ⟨e1, e2⟩ := hsame
    rw [State.setFrames_setFrames] at e1
    have h2 : (T.setVm s.vm).sameButNew ({ U with vm := s.vm } : State) [] (0 + 1) (0 + 6) := ⟨e1, e2⟩
    have h3 := X.same.trans h2
    rw [List.append_nil] at h3
    exact h3.mono hc hs
  refine ⟨U, ?_, .threw T.heap.size, hrun, hend, Or.inr ⟨T.heap.size, rfl, cls, ce, locs, hx U hWs.alike f1 (fun q hq => f2 q hq (fun z hz => nomatch hz)), hce, hO.vm, hcl, hWs, hall, hf⟩⟩
  refine st1 _ ?_
  show Steps p.tables e below (T1.setTop { method := m, pc := pc + 3, locals := ls, stack := .ref T.heap.size :: rest, locked := none }) _
  jvm_step X₁.here [X₁.here.top, hexec, d3', Value.category]
  exact hsteps
/-- 'throw new E("text")': new; dup; ldc; invokespecial; athrow -/
theorem vx_throwS {cc : ByteArray} {pc : Nat} (hexec : p.tables.exec = Jvm.exec) (hb : c.code = cc) (hl : l.stackTraces = false) {own cls text : String} {names : List String} {ik is ic mc ms sa : Nat} {A : Nat → Prop}
    (hown : s.vm.findClass own = some m.cls) (hcls : Bundle.fit cls = true) (hnames : ∀ n ∈ names, Bundle.fit n = true)
    (hk : (Cond.classLink own ik cls).before args s = true) (hini : (Cond.initialized cls).before args s = true) (hstr : vk_R own is text sa s) (hat : ∀ w ∈ vx_atS own ic cls names, w.before args s = true)
    (hgood : ∀ w ∈ Cond.classLink own ik cls :: Cond.initialized cls :: vx_atS own ic cls names, vx_ot w = true)
    (hU : vx_Zq Bundle.tN "UNASSIGNED_STACK" Bundle.steD A s s.heap) (hN : vx_Zq Bundle.tN "SUPPRESSED_SENTINEL" Bundle.listD A s s.heap) (hS : va_S A s.heap H locs) (hsize : ls.size = c.maxLocals)
    (d0 : decode cc pc = .ok (.new ik, 3)) (d3 : decode cc (pc + 3) = .ok (.dup, 1)) (d4 : decode cc (pc + 4) = .ok (.ldc is, 2)) (d6 : decode cc (pc + 6) = .ok (.invokespecial ic, 3)) (d9 : decode cc (pc + 9) = .ok (.athrow, 1))
    (hout : ∀ x ∈ c.exceptionTable.toList, covers x (pc + 9) = false)
    (hRframes : names.length + 3 < R.frames) (hRlocals : (rest.map fun v => v.category).sum + (13 * (names.length + 1) + 43) ≤ R.locals) (hRcells : cells + 1 ≤ R.cells) (hRslots : slots + 6 ≤ R.slots) (hlocks : meth.locks = false)
    (hx : ∀ t : State, s.vm.Alike t.vm → H.size ≤ t.heap.size → (∀ q : Nat, q < H.size → t.heap[q]? = H[q]?) → XC cls s t)
    (hf : ∀ z ∈ locs, free z.base) (hc : cells + 1 ≤ mc) (hs : slots + 6 ≤ ms) :
    W p l e R s m args below meth c H locs cells slots (vx_MQ below Qc XC args s mc ms free) (F0 m pc ls rest) := by
  intro T hT X
  have htr : e.platform.stackTraces = false := (show e.platform.stackTraces = l.stackTraces by rw [X.admits.platform]).trans hl
  have Y := vx_rebase X (R' := { frames := R.frames, locals := R.locals, cells := 1, slots := 6 }) (Nat.le_refl _) (Nat.le_refl _) hRcells hRslots
  obtain ⟨s', hA⟩ : ∃ z, z = (T.setVm s.vm).setFrames (.invoking m args :: below) := ⟨_, rfl⟩
  rw [← hA] at Y
  have hvm : s'.vm = s.vm := by rw [hA]; rfl
  have hhp : s'.heap = H := by rw [hA]; exact hT
  have hW0 : s.WarmedH s'.vm := by rw [hvm]; exact State.WarmedH.refl s
  have hat' : ∀ w ∈ vx_atS own ic cls names, w.before args s' = true := fun w hw => vx_ot_at hW0 hvm.symm (hgood w (List.mem_cons_of_mem _ (List.mem_cons_of_mem _ hw))) (hat w hw)
  have hk' : (Cond.classLink own ik cls).before args s' = true := vx_ot_at hW0 hvm.symm (hgood _ List.mem_cons_self) hk
  have hini' : (Cond.initialized cls).before args s' = true := vx_ot_at hW0 hvm.symm (hgood _ (List.mem_cons_of_mem _ List.mem_cons_self)) hini
  have hU' : vx_Zq Bundle.tN "UNASSIGNED_STACK" Bundle.steD A s' s'.heap := by rw [hhp]; exact vx_Zq.moved hW0.alike (hU.kept hS.2.1)
  have hN' : vx_Zq Bundle.tN "SUPPRESSED_SENTINEL" Bundle.listD A s' s'.heap := by rw [hhp]; exact vx_Zq.moved hW0.alike (hN.kept hS.2.1)
  have h : ∀ w ∈ Bundle.ownAtoms own ic cls names, w.before args s' = true := vx_own hat' (vx_isRefq hU'.1) (vx_isRefq hN'.1) hU'.2.word hN'.2.word
  have hown' : s'.vm.findClass own = some m.cls := by rw [hvm]; exact hown
  have hins : (Cond.instantiable cls 6).before args s' = true := h _ (by simp [Bundle.ownAtoms])
  obtain ⟨vm₁, cX, kX, hfX, hkX, -, -, X₁, st1⟩ := Y.newCold hexec (own := own) (C := cls) (index := ik) (n := 6) hown' hk' hins hini'
    (g := F0 m pc ls rest) rfl (by rw [hb]; exact d0) (Nat.le_refl _) (Nat.le_refl _)
  generalize hT1 : (T.setVm vm₁).pushCell { cls := cX, slots := kX.instanceTypes.map defaultValue, vm := .none } = T1 at X₁ st1
  have hcat : (Value.ref T.heap.size).category = 1 := rfl
  have hcellA : T1.heap[T.heap.size]? = some (freshCell cX kX) := by rw [← hT1]; exact State.heap_pushCell_size _ _
  have d3' : decode c.code (pc + 3) = .ok (.dup, 1) := by rw [hb]; exact d3
  have d4' : decode c.code (pc + 4) = .ok (.ldc is, 2) := by rw [hb]; exact d4
  have hstr' : vk_R own is text sa s' := vk_R.warm hW0 hstr
  obtain ⟨U, hsteps, hrun, hend, hW, hsame, ce, hce, hO⟩ := X₁.ctorThrowS hexec htr (own := own) (cls := cls) (names := names) (ic := ic) hown' hcls hnames h (fun x hx => nomatch hx) hfX hkX hcellA (by rw [hhp, hT]; exact Nat.le_refl _) (msg := .ref sa) rfl
    (g := { method := m, pc := pc + 6, locals := ls, stack := .ref sa :: .ref T.heap.size :: .ref T.heap.size :: rest, locked := none }) rfl hsize rfl rfl (rest := rest) rfl
    (by rw [hb]; exact d6) (by rw [hb]; exact d9) hout hRframes (by simp only [List.map_cons, List.sum_cons, hcat]; omega) hlocks
  obtain ⟨f1, f2⟩ := vx_frame hsame
  rw [hhp] at f1 f2
  have hWs : s.WarmedH U.vm := State.WarmedH.trans hW0 hW
  have hcl : s.vm.findClass cls = some ce.cls := by
    have h9 := hO.cls
    rw [hvm] at h9
    exact h9
  have hall : s.sameButNew ({ U with vm := s.vm } : State) locs mc ms := by
    subst hA
    obtain ⟨e1, e2⟩ := hsame
    rw [State.setFrames_setFrames] at e1
    have h2 : (T.setVm s.vm).sameButNew ({ U with vm := s.vm } : State) [] (0 + 1) (0 + 6) := ⟨e1, e2⟩
    have h3 := X.same.trans h2
    rw [List.append_nil] at h3
    exact h3.mono hc hs
  refine ⟨U, ?_, .threw T.heap.size, hrun, hend, Or.inr ⟨T.heap.size, rfl, cls, ce, locs, hx U hWs.alike f1 (fun q hq => f2 q hq (fun z hz => nomatch hz)), hce, hO.vm, hcl, hWs, hall, hf⟩⟩
  refine st1 _ ?_
  show Steps p.tables e below (T1.setTop { method := m, pc := pc + 3, locals := ls, stack := .ref T.heap.size :: rest, locked := none }) _
  jvm_step X₁.here [X₁.here.top, hexec, d3', Value.category]
  exact X₁.ldcString hexec (own := own) (text := text) (index := is) (a := sa) hown' hstr'.1 hstr'.2
    (g := { method := m, pc := pc + 4, locals := ls, stack := .ref T.heap.size :: .ref T.heap.size :: rest, locked := none }) rfl d4' _ hsteps
/-- 'throw new E("text")', the text by a wide index -/
theorem vx_throwSW {cc : ByteArray} {pc : Nat} (hexec : p.tables.exec = Jvm.exec) (hb : c.code = cc) (hl : l.stackTraces = false) {own cls text : String} {names : List String} {ik is ic mc ms sa : Nat} {A : Nat → Prop}
    (hown : s.vm.findClass own = some m.cls) (hcls : Bundle.fit cls = true) (hnames : ∀ n ∈ names, Bundle.fit n = true)
    (hk : (Cond.classLink own ik cls).before args s = true) (hini : (Cond.initialized cls).before args s = true) (hstr : vk_R own is text sa s) (hat : ∀ w ∈ vx_atS own ic cls names, w.before args s = true)
    (hgood : ∀ w ∈ Cond.classLink own ik cls :: Cond.initialized cls :: vx_atS own ic cls names, vx_ot w = true)
    (hU : vx_Zq Bundle.tN "UNASSIGNED_STACK" Bundle.steD A s s.heap) (hN : vx_Zq Bundle.tN "SUPPRESSED_SENTINEL" Bundle.listD A s s.heap) (hS : va_S A s.heap H locs) (hsize : ls.size = c.maxLocals)
    (d0 : decode cc pc = .ok (.new ik, 3)) (d3 : decode cc (pc + 3) = .ok (.dup, 1)) (d4 : decode cc (pc + 4) = .ok (.ldc_w is, 3)) (d7 : decode cc (pc + 7) = .ok (.invokespecial ic, 3)) (d10 : decode cc (pc + 10) = .ok (.athrow, 1))
    (hout : ∀ x ∈ c.exceptionTable.toList, covers x (pc + 10) = false)
    (hRframes : names.length + 3 < R.frames) (hRlocals : (rest.map fun v => v.category).sum + (13 * (names.length + 1) + 43) ≤ R.locals) (hRcells : cells + 1 ≤ R.cells) (hRslots : slots + 6 ≤ R.slots) (hlocks : meth.locks = false)
    (hx : ∀ t : State, s.vm.Alike t.vm → H.size ≤ t.heap.size → (∀ q : Nat, q < H.size → t.heap[q]? = H[q]?) → XC cls s t)
    (hf : ∀ z ∈ locs, free z.base) (hc : cells + 1 ≤ mc) (hs : slots + 6 ≤ ms) :
    W p l e R s m args below meth c H locs cells slots (vx_MQ below Qc XC args s mc ms free) (F0 m pc ls rest) := by
  intro T hT X
  have htr : e.platform.stackTraces = false := (show e.platform.stackTraces = l.stackTraces by rw [X.admits.platform]).trans hl
  have Y := vx_rebase X (R' := { frames := R.frames, locals := R.locals, cells := 1, slots := 6 }) (Nat.le_refl _) (Nat.le_refl _) hRcells hRslots
  obtain ⟨s', hA⟩ : ∃ z, z = (T.setVm s.vm).setFrames (.invoking m args :: below) := ⟨_, rfl⟩
  rw [← hA] at Y
  have hvm : s'.vm = s.vm := by rw [hA]; rfl
  have hhp : s'.heap = H := by rw [hA]; exact hT
  have hW0 : s.WarmedH s'.vm := by rw [hvm]; exact State.WarmedH.refl s
  have hat' : ∀ w ∈ vx_atS own ic cls names, w.before args s' = true := fun w hw => vx_ot_at hW0 hvm.symm (hgood w (List.mem_cons_of_mem _ (List.mem_cons_of_mem _ hw))) (hat w hw)
  have hk' : (Cond.classLink own ik cls).before args s' = true := vx_ot_at hW0 hvm.symm (hgood _ List.mem_cons_self) hk
  have hini' : (Cond.initialized cls).before args s' = true := vx_ot_at hW0 hvm.symm (hgood _ (List.mem_cons_of_mem _ List.mem_cons_self)) hini
  have hU' : vx_Zq Bundle.tN "UNASSIGNED_STACK" Bundle.steD A s' s'.heap := by rw [hhp]; exact vx_Zq.moved hW0.alike (hU.kept hS.2.1)
  have hN' : vx_Zq Bundle.tN "SUPPRESSED_SENTINEL" Bundle.listD A s' s'.heap := by rw [hhp]; exact vx_Zq.moved hW0.alike (hN.kept hS.2.1)
  have h : ∀ w ∈ Bundle.ownAtoms own ic cls names, w.before args s' = true := vx_own hat' (vx_isRefq hU'.1) (vx_isRefq hN'.1) hU'.2.word hN'.2.word
  have hown' : s'.vm.findClass own = some m.cls := by rw [hvm]; exact hown
  have hins : (Cond.instantiable cls 6).before args s' = true := h _ (by simp [Bundle.ownAtoms])
  obtain ⟨vm₁, cX, kX, hfX, hkX, -, -, X₁, st1⟩ := Y.newCold hexec (own := own) (C := cls) (index := ik) (n := 6) hown' hk' hins hini'
    (g := F0 m pc ls rest) rfl (by rw [hb]; exact d0) (Nat.le_refl _) (Nat.le_refl _)
  generalize hT1 : (T.setVm vm₁).pushCell { cls := cX, slots := kX.instanceTypes.map defaultValue, vm := .none } = T1 at X₁ st1
  have hcat : (Value.ref T.heap.size).category = 1 := rfl
  have hcellA : T1.heap[T.heap.size]? = some (freshCell cX kX) := by rw [← hT1]; exact State.heap_pushCell_size _ _
  have d3' : decode c.code (pc + 3) = .ok (.dup, 1) := by rw [hb]; exact d3
  have d4' : decode c.code (pc + 4) = .ok (.ldc_w is, 3) := by rw [hb]; exact d4
  have hstr' : vk_R own is text sa s' := vk_R.warm hW0 hstr
  obtain ⟨U, hsteps, hrun, hend, hW, hsame, ce, hce, hO⟩ := X₁.ctorThrowS hexec htr (own := own) (cls := cls) (names := names) (ic := ic) hown' hcls hnames h (fun x hx => nomatch hx) hfX hkX hcellA (by rw [hhp, hT]; exact Nat.le_refl _) (msg := .ref sa) rfl
    (g := { method := m, pc := pc + 7, locals := ls, stack := .ref sa :: .ref T.heap.size :: .ref T.heap.size :: rest, locked := none }) rfl hsize rfl rfl (rest := rest) rfl
    (by rw [hb]; exact d7) (by rw [hb]; exact d10) hout hRframes (by simp only [List.map_cons, List.sum_cons, hcat]; omega) hlocks
  obtain ⟨f1, f2⟩ := vx_frame hsame
  rw [hhp] at f1 f2
  have hWs : s.WarmedH U.vm := State.WarmedH.trans hW0 hW
  have hcl : s.vm.findClass cls = some ce.cls := by
    have h9 := hO.cls
    rw [hvm] at h9
    exact h9
  have hall : s.sameButNew ({ U with vm := s.vm } : State) locs mc ms := by
    subst hA
    obtain ⟨e1, e2⟩ := hsame
    rw [State.setFrames_setFrames] at e1
    have h2 : (T.setVm s.vm).sameButNew ({ U with vm := s.vm } : State) [] (0 + 1) (0 + 6) := ⟨e1, e2⟩
    have h3 := X.same.trans h2
    rw [List.append_nil] at h3
    exact h3.mono hc hs
  refine ⟨U, ?_, .threw T.heap.size, hrun, hend, Or.inr ⟨T.heap.size, rfl, cls, ce, locs, hx U hWs.alike f1 (fun q hq => f2 q hq (fun z hz => nomatch hz)), hce, hO.vm, hcl, hWs, hall, hf⟩⟩
  refine st1 _ ?_
  show Steps p.tables e below (T1.setTop { method := m, pc := pc + 3, locals := ls, stack := .ref T.heap.size :: rest, locked := none }) _
  jvm_step X₁.here [X₁.here.top, hexec, d3', Value.category]
  exact X₁.ldcStringW hexec (own := own) (text := text) (index := is) (a := sa) hown' hstr'.1 hstr'.2
    (g := { method := m, pc := pc + 4, locals := ls, stack := .ref T.heap.size :: .ref T.heap.size :: rest, locked := none }) rfl d4' _ hsteps
end Ends
section Bodies
variable {l : Launch}
theorem vx_ofW {y : MethodName} {ws ws' : List Cond} {rm : Room} {Pc : Array Value → State → Prop} {Qc : Array Value → State → Outcome → State → Prop} {XC : String → State → State → Prop} {mc ms : Nat} {free : Addr → Prop} {cc : ByteArray} {maxL : Nat} {ret : Option FieldType}
    (hy : plainName y.cls = true) (hw : ws = Cond.code y cc maxL ret :: ws')
    (body : ∀ p e s m args below meth c s₁, BodyLoose p l y (headSpec ws rm) cc maxL ret e s m args below meth c s₁ → c.maxLocals = maxL → (∀ x ∈ c.exceptionTable.toList, False) → Pc args s →
      W p l e (headSpec ws rm).room s m args below meth c s.heap [] 0 0 (vx_MQ below Qc XC args s mc ms free) (entryFrame m args maxL)) : vx_Met l y ws rm Pc Qc XC mc ms free := by
  refine MetFree.of_bodyS (code := cc) (maxLocals := maxL) (ret := ret) hy ?_ ?_
  · intro args s m h hn
    obtain ⟨meth, c, h1, h2, h3, h4, h5, h6, -, -⟩ := Cond.code_spec hn (atoms_spec (ws := ws) h _ (by rw [hw]; exact List.mem_cons_self))
    exact ⟨meth, c, h1, h2, h3, h4, h5, h6⟩
  · intro p e s m args below meth c s₁ B hml hP _
    have hh0 : s₁.heap = s.heap := by rw [B.state]; rfl
    have ht : ∀ x ∈ c.exceptionTable.toList, False := by
      obtain ⟨meth9, c9, h1, h2, -, -, -, -, h7, -⟩ := Cond.code_spec B.named (atoms_spec (ws := ws) B.pre _ (by rw [hw]; exact List.mem_cons_self))
      cases Option.some.inj (h1.symm.trans B.method)
      cases Option.some.inj (h2.symm.trans (Stand.of_body B).code)
      intro x hx
      rw [Array.isEmpty_iff.mp h7] at hx
      cases hx
    obtain ⟨t, a1, o, b1, b2, b3⟩ := body p e s m args below meth c s₁ B hml ht hP s₁ hh0 (Stand.of_body B)
    exact ⟨t, o, a1, b1, b2, b3⟩
/-- the table of a body with handlers -/
theorem vx_table {p : Program} {x y : MethodName} {S : Spec} {cc bytes : ByteArray} {maxL maxL' : Nat} {ret ret' : Option FieldType} {e : Env} {s s₁ : State} {m : MethodId} {args : Array Value} {below : List Frame} {meth : Method} {c : Code} {hh : List (Nat × Nat × Nat × Nat)}
    (B : BodyLoose p l y S cc maxL ret e s m args below meth c s₁) (h : (Cond.codeWith y bytes maxL' ret' hh).before args s = true) : c.exceptionTable.toList = tableOf hh := by
  obtain ⟨m9, meth9, c9, hn9, h1, h2, -, -, h6, -⟩ := Cond.codeWith_spec h
  cases Option.some.inj (hn9.symm.trans B.named)
  cases Option.some.inj (h1.symm.trans B.method)
  cases Option.some.inj (h2.symm.trans (Stand.of_body B).code)
  rw [← h6, table_eq]
end Bodies
end VXA
/-! ===== END ===== -/
/-! ===== BEGIN a static call of a method with an exception table ===== -/
section VXS
variable {p : Program} {l : Launch} {e : Env} {R : Room} {s : State} {m : MethodId} {args : Array Value} {below : List Frame} {meth : Method} {c : Code} {T : State} {H : Heap} {locs : List Loc} {cells slots : Nat}
abbrev vx_CSW (R : Room) (s : State) (args : Array Value) (own : String) (index : Nat) (y : MethodName) (bytes : ByteArray) (maxL : Nat) (ret : Option FieldType) (hh : List (Nat × Nat × Nat × Nat)) (ws : List Cond) (rm : Room) (mc ms n : Nat) : Prop :=
  (rm.cells = mc ∧ rm.slots = ms ∧ rm.frames + 1 ≤ R.frames ∧ 8 + (maxL + 11) + rm.locals ≤ R.locals ∧ (∀ w ∈ ws, ∀ (a' : Array Value) (U : State), s.WarmedH U.vm → w.before a' U = true) ∧ Cond.codeWith y bytes maxL ret hh ∈ ws) ∧
  (Cond.codeWith y bytes maxL ret hh).before args s = true ∧ (Cond.initialized y.cls).before args s = true ∧ (y.cls ≠ "java/lang/invoke/MethodHandle" ∧ y.cls ≠ "java/lang/invoke/VarHandle") ∧
  (∀ sig, parseMethodDescriptor y.desc = some sig → n = sig.parameters.length) ∧ (Cond.methodLink own index y).before args s = true ∧ (Cond.static y).before args s = true
theorem vx_cwSW {own : String} {index maxL mc ms : Nat} {y : MethodName} {bytes : ByteArray} {ret : Option FieldType} {hh : List (Nat × Nat × Nat × Nat)} {Ts ws ws' : List Cond} {rm : Room} (n : Nat) (ht : ∀ w ∈ Ts, w.before args s = true) (hT : GoodIn Ts (va_wsS own index y ws)) (hw : ws = Cond.codeWith y bytes maxL ret hh :: ws') (hrc : rm.cells = mc) (hrs : rm.slots = ms)
    (hd : y.cls ≠ "java/lang/invoke/MethodHandle" ∧ y.cls ≠ "java/lang/invoke/VarHandle" ∧ (parseMethodDescriptor y.desc).map (fun d => d.parameters.length) = some n) (hR : rm.frames + 1 ≤ R.frames ∧ 8 + (maxL + 11) + rm.locals ≤ R.locals) :
    vx_CSW R s args own index y bytes maxL ret hh ws rm mc ms n := by
  have ok : ∀ w ∈ va_wsS own index y ws, w.before args s = true := fun w h => ht w (hT w h).1
  have hG : GoodIn Ts ws := fun w h => hT w (by unfold va_wsS; exact List.mem_append_right _ h)
  have hc : Cond.codeWith y bytes maxL ret hh ∈ ws := by rw [hw]; exact List.mem_cons_self
  refine ⟨⟨hrc, hrs, hR.1, hR.2, pay_in ht hG, hc⟩, ht _ (hG _ hc).1, ok _ (by simp [va_wsS]), ⟨hd.1, hd.2.1⟩, fun sig h => ?_, ok _ (by simp [va_wsS]), ok _ (by simp [va_wsS])⟩
  have h2 := hd.2.2
  rw [h] at h2
  exact (Option.some.inj h2).symm
theorem vx_callSW (X : Stand p l e R s m args below meth c T locs cells slots) (hexec : p.tables.exec = Jvm.exec) {own : String} {index : Nat} {y : MethodName} {bytes : ByteArray} {maxL : Nat} {ret : Option FieldType} {hh : List (Nat × Nat × Nat × Nat)}
    (hown : s.vm.findClass own = some m.cls) (hlink : (Cond.methodLink own index y).before args s = true) (hstat : (Cond.static y).before args s = true) (hinit : (Cond.initialized y.cls).before args s = true)
    (hcode : (Cond.codeWith y bytes maxL ret hh).before args s = true) (hy : y.cls ≠ "java/lang/invoke/MethodHandle" ∧ y.cls ≠ "java/lang/invoke/VarHandle")
    {W9 : Nat} {Pre : Pt → Array Value → Prop} {Post : Pt → Array Value → Option Value → Pt → Prop} (hK : Back l R p e below s args y 3 W9 Pre Post)
    {g : JFrame} (hg : g.method = m) (hsize : g.locals.size = c.maxLocals) {argsL rest : List Value} (hlen : ∀ sig, parseMethodDescriptor y.desc = some sig → argsL.length = sig.parameters.length)
    (hstack : g.stack = argsL.reverse ++ rest) (hW : 2 * g.monitorRoom + (rest.map fun v => v.category).sum ≤ W9) (hdg : decode c.code g.pc = .ok (.invokestatic index, 3))
    (hpre : ∀ vm₁, s.WarmedH vm₁ → Pre ⟨T.setVm vm₁, locs, cells, slots⟩ argsL.toArray) :
    ∃ (v : Option Value) (vm₁ : Vm) (B : Pt), s.WarmedH vm₁ ∧ Stand p l e R s m args below meth c B.U B.locs B.cells B.slots ∧ Post ⟨T.setVm vm₁, locs, cells, slots⟩ argsL.toArray v B ∧
      ∀ target, Steps p.tables e below (B.U.setTop { g with pc := g.pc + 3, stack := v.toList ++ rest }) target → Steps p.tables e below (T.setTop g) target := by
  obtain ⟨mk, methM, cM, hnamed, hmethM, -, -, -, -, -, -, hsigM⟩ := Cond.codeWith_spec hcode
  have hstatic : methM.isStatic = true := Cond.static_spec hnamed hmethM hstat
  obtain ⟨kP, hkP, -⟩ := className_of_methodNamed hnamed
  have hinitP : kP.init = .initialized := Cond.initialized_spec (findClass_of_methodNamed hnamed) hkP hinit
  obtain ⟨vm₁, X₁, hstep₁⟩ := X.invokestatic hexec hown hlink hnamed hmethM hstatic hkP hinitP hy (g := g) hg (argsL := argsL) (rest := rest) (hlen _ hsigM) hstack hdg
  obtain ⟨v, B, X', hpost, hsteps⟩ := hK m meth c ⟨T.setVm vm₁, locs, cells, slots⟩ { g with stack := rest } (.invokestatic index) mk argsL.toArray X₁ hg hsize hdg hW (X₁.named hnamed) (hpre vm₁ X₁.warmed)
  exact ⟨v, vm₁, B, X₁.warmed, X', hpost, fun target h => hstep₁ _ fun acts => by rw [doInvoke_state]; exact hsteps.trans h⟩
theorem vx_runSW {y : MethodName} {bytes cc : ByteArray} {maxL nL mc ms n index : Nat} {ret : Option FieldType} {hh : List (Nat × Nat × Nat × Nat)} {ws : List Cond} {rm : Room} {Pc : Array Value → State → Prop} {Qc : Array Value → State → Outcome → State → Prop} {free : Addr → Prop} {Ts : List Cond} {own : String} {As rest : List Value} {g : JFrame}
    (S : CallFix p m c cc nL s args Ts own) (hM : Met l y ws rm Pc Qc mc ms free) (cw : vx_CSW R s args own index y bytes maxL ret hh ws rm mc ms n) (hp : PreS s H Pc As)
    (hg : g.method = m) (hn : As.length = n) (hsize : g.locals.size = nL) (hstack : g.stack = As.reverse ++ rest) (hW : 2 * g.monitorRoom + (rest.map fun v => v.category).sum ≤ 8) (hdg : decode cc g.pc = .ok (.invokestatic index, 3)) (hf : cells + mc ≤ R.cells ∧ slots + ms ≤ R.slots) :
    va_Run p l e R s m args below meth c H locs cells slots mc ms g rest (Qc As.toArray) (free) := by
  obtain ⟨⟨hrc, hrs, hfr, hlo, hws, hcw⟩, hcode, hini, hy, hlen, hl, hstt⟩ := cw
  have hK : Back l R p e below s args y 3 8 (PreOf R mc ms Pc) (PostOf Qc mc ms free) := va_backW (hh := hh) (bytes := bytes) (maxL := maxL) (ret := ret) hM hp.1 hrc hrs hfr hlo hws hcw (fun a' U hW => word_at hW (Or.inl (by first | rfl | simp [Cond.onTables, Cond.keeps, Cond.steady])) hini)
  obtain ⟨hx, hb, hml, ho, -⟩ := S
  intro T hT X
  obtain ⟨v, vm₁, ⟨U', l2, c2, s2⟩, hW₁, X', ⟨g', mk, t, L, e1, e2, hq, h1, hL, h2, h3⟩, st⟩ := vx_callSW X hx (hh := hh) (bytes := bytes) (maxL := maxL) (ret := ret) ho hl hstt hini hcode hy hK hg (hsize.trans hml.symm) (argsL := As) (rest := rest) (fun sig h => hn.trans (hlen sig h)) hstack hW (by rw [hb]; exact hdg)
    (fun vm₁ hW₁ => ⟨hf.1, hf.2, hp.2 (T.setVm vm₁) hT hW₁⟩)
  dsimp only [Pt.U, Pt.locs, Pt.cells, Pt.slots] at X' e1 e2 h1 h2 h3 st
  subst h1; subst h2; subst h3
  exact ⟨v, (T.setVm vm₁).calling g' mk As.toArray, t, U', L, hT, X', hL, e1, e2, hq, st⟩
/-- not caught here, past rows that name other classes: it goes on to the caller -/
theorem vx_outP {p : Program} {l : Launch} {e : Env} {R : Room} {s : State} {m : MethodId} {args : Array Value} {below : List Frame} {meth : Method} {c : Code} {H : Heap} {locs : List Loc} {cells slots : Nat} {free : Addr → Prop} {ls : Array Slot} {rest : List Value} {Qc : Array Value → State → Outcome → State → Prop} {XC : String → State → State → Prop}
    {pc : Nat} {own E : String} {ce : Cell} {q : Addr} {mc ms : Nat} (hown : s.vm.findClass own = some m.cls) (hlocks : meth.locks = false)
    (hpass : ∀ z ∈ c.exceptionTable.toList, covers z pc = false ∨ (z.catchType ≠ 0 ∧ ∃ nm : String, (Cond.classLink own z.catchType nm).before args s = true ∧ va_Nc E nm s)) (hcell : H[q]? = some ce) (hv : ce.vm = .none) (hcl : s.vm.findClass E = some ce.cls)
    (hx : ∀ t : State, t.heap = H → s.vm.Alike t.vm → XC E s t) (hf : ∀ z ∈ locs, free z.base) (hc : cells ≤ mc) (hs : slots ≤ ms) :
    vx_W p l e R s m args below meth c H locs cells slots (vx_MQ below Qc XC args s mc ms free) (F0 m pc ls rest) q := by
  intro T hT X
  have hpl : e.platform.magicAccessors = ({} : Platform).magicAccessors := by rw [X.admits.platform]
  obtain ⟨vm', hW', X', st⟩ := X.outThrough hlocks q (g := F0 m pc ls rest) rfl rfl rfl (cell := ce) (by rw [hT]; exact hcell) (by rw [hv]; rfl)
    (by obtain ⟨k9, h9, -⟩ := Vm.findClass_spec hcl; exact ⟨k9, h9⟩) (fun z hz => by
      rcases hpass z hz with h | ⟨hz0, nm, hl1, hn1⟩
      · exact Or.inl h
      · obtain ⟨c6, hc6, hcl6⟩ := Cond.classLink_spec hown hl1 e.platform hpl
        obtain ⟨a8, b8, h1, h2, h3⟩ := hn1
        cases Option.some.inj (h1.symm.trans hcl)
        cases Option.some.inj (h2.symm.trans hc6)
        exact Or.inr ⟨hz0, _, hcl6, h3⟩)
  obtain ⟨g₀, hfr⟩ := X'.frames_eq
  have hcell9 : ((T.setVm vm').setFrames (.throwing q :: below)).heap[q]? = some ce := by
    show T.heap[q]? = some ce
    rw [hT]; exact hcell
  have hend : Ended ((T.setVm vm').setFrames (.throwing q :: below)) below (.threw q) := State.frames_setFrames _ (State.cur_lt_of_frames hfr)
  refine ⟨(T.setVm vm').setFrames (.throwing q :: below), ?_, .threw q, X'.here.running, hend, Or.inr ⟨q, rfl, E, ce, locs, hx _ hT (X'.ends _).1.alike, hcell9, hv, hcl, (X'.ends _).1, (X'.ends _).2.mono hc hs, hf⟩⟩
  rw [X.pushThrowing_eq]
  exact st
/-- a thing of a world lies in the heap -/
theorem vx_lt {D : va_G} {cl : List vw_C} {ws : va_W} {H1 : Heap} (h : va_P D cl ws H1) {k : Nat} {q : Nat × va_E} (hk : ws[k]? = some q) : q.1 < H1.size := (h k q hk).lt
end VXS
/-! ===== END ===== -/
/-! ===== BEGIN methods with a table of their own: called by a name, returning or throwing ===== -/
section VXH
/-! vx_backW, vx_callVX, vx_callSX, vx_callVW, vx_runVW, vx_runVX, vx_runSX, vx_ofWH follow the same proofs as their sisters above (Free/Laws.lean, Shelf42/LK1.lean); vx_outP calls Shelf42/NT130.lean (outThrough). -/
section
variable {l : Launch} {R : Room} {p : Program} {e : Env} {below : List Frame} {s : State} {sargs : Array Value} {y : MethodName} {len W9 : Nat}
theorem vx_backW {ws : List Cond} {rm : Room} {Pc : Array Value → State → Prop} {Qc : Array Value → State → Outcome → State → Prop} {XC : String → State → State → Prop} {mc ms : Nat} {free : Addr → Prop} {bytes : ByteArray} {maxL : Nat} {ret : Option FieldType} {hh : List (Nat × Nat × Nat × Nat)}
    (hM : vx_Met l y ws rm Pc Qc XC mc ms free) (hblind : FrameBlind Pc) (hrc : rm.cells = mc) (hrs : rm.slots = ms)
    (hframes : rm.frames + 1 ≤ R.frames) (hlocals : W9 + (maxL + 11) + rm.locals ≤ R.locals)
    (hws : ∀ w ∈ ws, ∀ a' U, s.WarmedH U.vm → w.before a' U = true) (hcode : Cond.codeWith y bytes maxL ret hh ∈ ws) (hinit : ∀ a' U, s.WarmedH U.vm → (Cond.initialized y.cls).before a' U = true) :
    vx_Back l R p e below s sargs y len W9 (PreOf R mc ms Pc) (PostOf Qc mc ms free) (vx_Post XC mc ms free) := by
  intro m meth c A g ig mk a X hg hsize hdg hW hn hp
  have h1 : (headSpec ws rm).pre.before a A.U = true := atoms_intro fun w hw => hws w hw _ _ X.warmed
  have h2 : (Cond.codeWith y bytes maxL ret hh).before a A.U = true := hws _ hcode _ _ X.warmed
  have h3 : (Cond.initialized y.cls).before a A.U = true := hinit _ _ X.warmed
  have h4 : A.cells + (headSpec ws rm).room.cells ≤ R.cells := by rw [show (headSpec ws rm).room.cells = mc from hrc]; exact hp.1
  have h5 : A.slots + (headSpec ws rm).room.slots ≤ R.slots := by rw [show (headSpec ws rm).room.slots = ms from hrs]; exact hp.2.1
  have hPc : Pc a (A.U.calling g mk a) := hblind _ _ _ _ hp.2.2
  obtain ⟨U, Ls, c0, s0⟩ := A
  dsimp only [Pt.U, Pt.locs, Pt.cells, Pt.slots] at h1 h2 h3 h4 h5 X hn hPc ⊢
  obtain ⟨m9, methY, cY, hn9, hmY, hcY, -, hlY, -⟩ := Cond.codeWith_spec h2
  cases Option.some.inj (hn9.symm.trans hn)
  obtain ⟨kY, hkY, -⟩ := className_of_methodNamed hn
  have hinitY : kY.init = .initialized := Cond.initialized_spec (findClass_of_methodNamed hn) hkY h3
  have h : At U g.method c below := by rw [hg]; exact X.here
  have hlocals9 : W9 + (maxL + 11) + (headSpec ws rm).room.locals ≤ R.locals := hlocals
  have happ : (headSpec ws rm).appliesLoose y e.platform (U.calling g mk a) = true :=
    Spec.appliesLoose_calling (g := g) h hdg hn hkY hinitY
      (X.room_calling (g := g) (R' := (headSpec ws rm).room) hsize hmY hcY hframes (by rw [hlY]; omega) h4 h5) h1
  obtain ⟨mid, hmid⟩ := h.above
  have hfr : (U.setTop g).frames = (.java g :: mid) ++ below := by rw [State.frames_setTop' g h.top, hmid]; rfl
  obtain ⟨o, s₂, hsteps, -, hend, hq⟩ := Steps.callFree hM p X.admits X.cas X.clock (acts := []) hfr happ hPc trivial
  have hq' : vx_Q Qc XC mc ms free a (U.calling g mk a) o s₂ := hq
  rw [State.frames_setTop' g h.top] at hend
  obtain ⟨g₀, hg0⟩ := Option.isSome_iff_exists.mp h.top
  obtain ⟨r, hr⟩ := State.topJava?_eq_some.mp hg0
  have hr' : (({ U with heap := s₂.heap, slotsUsed := s₂.slotsUsed } : State).setVm s₂.vm).frames = .java g₀ :: r := hr
  rcases hq' with ⟨hqc, L, hfe, hL⟩ | ⟨q, rfl, E, ce, L, hx, hce, hcv, hcl, hW₂, hsm, hL⟩
  · obtain ⟨⟨v, rfl⟩, hW₂, e2, q2, q3, q4, q5, q6⟩ := id hfe
    have e3 : s₂ = ({ (U.calling g mk a).setFrames s₂.frames with heap := s₂.heap, slotsUsed := s₂.slotsUsed } : State).setVm s₂.vm := by
      have : s₂ = ({ s₂ with vm := (U.calling g mk a).vm } : State).setVm s₂.vm := rfl
      rw [e2] at this
      exact this
    obtain ⟨c₂, i₂, len₂, hc₂, hd₂, hf₂⟩ := hend
    have hW' : U.WarmedH s₂.vm := hW₂
    have hcc : c₂ = c := by
      have h1 : s₂.code? g.method = U.code? g.method := by
        rw [State.code?_eq, State.code?_eq, hW'.alike.method?]
      exact Option.some.inj (hc₂.symm.trans (h1.trans h.code))
    subst hcc
    have hlen : len₂ = len := by rw [hdg] at hd₂; cases hd₂; rfl
    subst hlen
    have hs₂ : s₂ = (({ U with heap := s₂.heap, slotsUsed := s₂.slotsUsed } : State).setVm s₂.vm).setTop { g with pc := g.pc + len₂, stack := v.toList ++ g.stack } := by
      refine e3.trans ?_
      rw [hf₂, State.calling_eq h.top, State.setFrames_setFrames, State.setTop_of_frames _ hr', hr]
      rfl
    have hsame : U.sameButNew ({ U with heap := s₂.heap, slotsUsed := s₂.slotsUsed } : State) L mc ms := by
      refine ⟨?_, q2, q3, q4, q5, q6⟩
      obtain ⟨t, ht, -⟩ := State.frames_cons hr
      show ({ U with heap := s₂.heap, slotsUsed := s₂.slotsUsed } : State) = { U.setFrames U.frames with heap := s₂.heap, slotsUsed := s₂.slotsUsed }
      rw [State.setFrames_self ht]
    subst hg
    refine Or.inl ⟨v, ⟨(({ U with heap := s₂.heap, slotsUsed := s₂.slotsUsed } : State).setVm s₂.vm), Ls ++ L, c0 + mc, s0 + ms⟩,
      ⟨X.admits, X.cas, X.clock, X.frames, X.room, X.hears, X.method, X.code, (X.here.setHeapUsed s₂.heap s₂.slotsUsed).setVm hW'.alike, X.tail, State.WarmedH.trans X.warmed hW', X.limits, X.bytes, X.same.trans (hsame.setVm s.vm)⟩,
      ⟨g, mk, s₂, L, rfl, rfl, hqc, rfl, hL, rfl, rfl⟩, ?_⟩
    show Steps p.tables e below _ ((({ U with heap := s₂.heap, slotsUsed := s₂.slotsUsed } : State).setVm s₂.vm).setTop { g with pc := g.pc + len₂, stack := v.toList ++ g.stack })
    rw [← hs₂]
    exact hsteps
  · obtain ⟨e2, q2, q3, q4, q5, q6⟩ := id hsm
    have e3 : s₂ = ({ (U.calling g mk a).setFrames s₂.frames with heap := s₂.heap, slotsUsed := s₂.slotsUsed } : State).setVm s₂.vm := by
      have : s₂ = ({ s₂ with vm := (U.calling g mk a).vm } : State).setVm s₂.vm := rfl
      rw [e2] at this
      exact this
    have hf₂ : s₂.frames = .throwing q :: .java g :: U.frames.tail := hend
    have hW' : U.WarmedH s₂.vm := hW₂
    have hs₂ : s₂ = ((({ U with heap := s₂.heap, slotsUsed := s₂.slotsUsed } : State).setVm s₂.vm).setTop g).pushFrame (.throwing q) := by
      refine e3.trans ?_
      rw [hf₂, State.calling_eq h.top, State.setFrames_setFrames, State.pushFrame, State.frames_setTop _ hr', State.setTop_of_frames _ hr', State.setFrames_setFrames, hr]
      rfl
    have hsame : U.sameButNew ({ U with heap := s₂.heap, slotsUsed := s₂.slotsUsed } : State) L mc ms := by
      refine ⟨?_, q2, q3, q4, q5, q6⟩
      obtain ⟨t, ht, -⟩ := State.frames_cons hr
      show ({ U with heap := s₂.heap, slotsUsed := s₂.slotsUsed } : State) = { U.setFrames U.frames with heap := s₂.heap, slotsUsed := s₂.slotsUsed }
      rw [State.setFrames_self ht]
    subst hg
    refine Or.inr ⟨q, ⟨(({ U with heap := s₂.heap, slotsUsed := s₂.slotsUsed } : State).setVm s₂.vm), Ls ++ L, c0 + mc, s0 + ms⟩,
      ⟨X.admits, X.cas, X.clock, X.frames, X.room, X.hears, X.method, X.code, (X.here.setHeapUsed s₂.heap s₂.slotsUsed).setVm hW'.alike, X.tail, State.WarmedH.trans X.warmed hW', X.limits, X.bytes, X.same.trans (hsame.setVm s.vm)⟩,
      ⟨g, mk, s₂, L, E, ce, rfl, rfl, hx, hce, hcv, hcl, rfl, hL, rfl, rfl⟩, ?_⟩
    show Steps p.tables e below _ (((({ U with heap := s₂.heap, slotsUsed := s₂.slotsUsed } : State).setVm s₂.vm).setTop g).pushFrame (.throwing q))
    rw [← hs₂]
    exact hsteps
end
variable {p : Program} {l : Launch} {e : Env} {R : Room} {s : State} {m : MethodId} {args : Array Value} {below : List Frame} {meth : Method} {c : Code} {T : State} {H : Heap} {locs : List Loc} {cells slots : Nat}
theorem vx_callVX (X : Stand p l e R s m args below meth c T locs cells slots) (hexec : p.tables.exec = Jvm.exec) {own C : String} {index : Nat} {y : MethodName} {bytes : ByteArray} {maxL : Nat} {ret : Option FieldType} {hh : List (Nat × Nat × Nat × Nat)}
    (hown : s.vm.findClass own = some m.cls) (hlink : (Cond.methodLink own index y).before args s = true) (hinst : (Cond.instanceMethod y).before args s = true) (hsel : (Cond.selects C y y).before args s = true)
    (hcode : (Cond.codeWith y bytes maxL ret hh).before args s = true) (hy : y.cls ≠ "java/lang/invoke/MethodHandle" ∧ y.cls ≠ "java/lang/invoke/VarHandle")
    {W9 : Nat} {Pre : Pt → Array Value → Prop} {Post : Pt → Array Value → Option Value → Pt → Prop} {PostX : Pt → Array Value → Addr → Pt → Prop} (hK : vx_Back l R p e below s args y 3 W9 Pre Post PostX)
    {b : Addr} {cellB : Cell} (hcell : T.heap[b]? = some cellB) (hobj : cellB.vm.isStatics = false) (hcls : s.vm.findClass C = some cellB.cls)
    {g : JFrame} (hg : g.method = m) (hsize : g.locals.size = c.maxLocals) {argsL rest : List Value} (hlen : ∀ sig, parseMethodDescriptor y.desc = some sig → argsL.length = sig.parameters.length)
    (hstack : g.stack = argsL.reverse ++ .ref b :: rest) (hW : 2 * g.monitorRoom + (rest.map fun v => v.category).sum ≤ W9) (hdg : decode c.code g.pc = .ok (.invokevirtual index, 3))
    (hpre : ∀ vm₁, s.WarmedH vm₁ → Pre ⟨T.setVm vm₁, locs, cells, slots⟩ (Value.ref b :: argsL).toArray) :
    (∃ (v : Option Value) (vm₁ : Vm) (B : Pt), s.WarmedH vm₁ ∧ Stand p l e R s m args below meth c B.U B.locs B.cells B.slots ∧ Post ⟨T.setVm vm₁, locs, cells, slots⟩ (Value.ref b :: argsL).toArray v B ∧
      ∀ target, Steps p.tables e below (B.U.setTop { g with pc := g.pc + 3, stack := v.toList ++ rest }) target → Steps p.tables e below (T.setTop g) target) ∨
    (∃ (q : Addr) (vm₁ : Vm) (B : Pt), s.WarmedH vm₁ ∧ Stand p l e R s m args below meth c B.U B.locs B.cells B.slots ∧ PostX ⟨T.setVm vm₁, locs, cells, slots⟩ (Value.ref b :: argsL).toArray q B ∧
      Steps p.tables e below (T.setTop g) ((B.U.setTop { g with stack := rest }).pushFrame (.throwing q))) := by
  obtain ⟨mk, methM, hnamed, hmethM, hstM, habM⟩ := Cond.instanceMethod_spec hinst
  obtain ⟨m8, methM', cM, hn8, hmethM', -, -, -, -, -, -, hsigM⟩ := Cond.codeWith_spec hcode
  cases Option.some.inj (hn8.symm.trans hnamed)
  cases hmethM.symm.trans hmethM'
  obtain ⟨c2, r2, m2, q1, q2, q3, q4, kP, hkP, hkPi⟩ := Cond.selects_spec hsel
  cases hcls.symm.trans q1
  cases (State.methodFound?_of_named hnamed hy).symm.trans q2
  cases hnamed.symm.trans q3
  have hselP : selectMethod e.platform s.vm cellB.cls mk = .method mk := by rw [Launch.admits_selectMethod X.admits]; exact q4
  obtain ⟨vm₁, X₁, hstep₁⟩ := X.invokevirtual hexec hown hlink hnamed hmethM hstM hkP hkPi hy (a := b) (cell := cellB) hcell
    (fun z h => by rw [h] at hobj; cases hobj) hselP hmethM habM hkP hkPi (g := g) hg (argsL := argsL) (rest := rest) (hlen _ hsigM) hstack hdg
  rcases hK m meth c ⟨T.setVm vm₁, locs, cells, slots⟩ { g with stack := rest } (.invokevirtual index) mk (Value.ref b :: argsL).toArray X₁ hg hsize hdg hW (X₁.named hnamed) (hpre vm₁ X₁.warmed) with ⟨v, B, X', hpost, hsteps⟩ | ⟨q, B, X', hpost, hsteps⟩
  · exact Or.inl ⟨v, vm₁, B, X₁.warmed, X', hpost, fun target h => hstep₁ _ fun acts => by rw [doInvoke_state]; exact hsteps.trans h⟩
  · exact Or.inr ⟨q, vm₁, B, X₁.warmed, X', hpost, hstep₁ _ fun acts => by rw [doInvoke_state]; exact hsteps⟩
theorem vx_callSX (X : Stand p l e R s m args below meth c T locs cells slots) (hexec : p.tables.exec = Jvm.exec) {own : String} {index : Nat} {y : MethodName} {bytes : ByteArray} {maxL : Nat} {ret : Option FieldType} {hh : List (Nat × Nat × Nat × Nat)}
    (hown : s.vm.findClass own = some m.cls) (hlink : (Cond.methodLink own index y).before args s = true) (hstat : (Cond.static y).before args s = true) (hinit : (Cond.initialized y.cls).before args s = true)
    (hcode : (Cond.codeWith y bytes maxL ret hh).before args s = true) (hy : y.cls ≠ "java/lang/invoke/MethodHandle" ∧ y.cls ≠ "java/lang/invoke/VarHandle")
    {W9 : Nat} {Pre : Pt → Array Value → Prop} {Post : Pt → Array Value → Option Value → Pt → Prop} {PostX : Pt → Array Value → Addr → Pt → Prop} (hK : vx_Back l R p e below s args y 3 W9 Pre Post PostX)
    {g : JFrame} (hg : g.method = m) (hsize : g.locals.size = c.maxLocals) {argsL rest : List Value} (hlen : ∀ sig, parseMethodDescriptor y.desc = some sig → argsL.length = sig.parameters.length)
    (hstack : g.stack = argsL.reverse ++ rest) (hW : 2 * g.monitorRoom + (rest.map fun v => v.category).sum ≤ W9) (hdg : decode c.code g.pc = .ok (.invokestatic index, 3))
    (hpre : ∀ vm₁, s.WarmedH vm₁ → Pre ⟨T.setVm vm₁, locs, cells, slots⟩ argsL.toArray) :
    (∃ (v : Option Value) (vm₁ : Vm) (B : Pt), s.WarmedH vm₁ ∧ Stand p l e R s m args below meth c B.U B.locs B.cells B.slots ∧ Post ⟨T.setVm vm₁, locs, cells, slots⟩ argsL.toArray v B ∧
      ∀ target, Steps p.tables e below (B.U.setTop { g with pc := g.pc + 3, stack := v.toList ++ rest }) target → Steps p.tables e below (T.setTop g) target) ∨
    (∃ (q : Addr) (vm₁ : Vm) (B : Pt), s.WarmedH vm₁ ∧ Stand p l e R s m args below meth c B.U B.locs B.cells B.slots ∧ PostX ⟨T.setVm vm₁, locs, cells, slots⟩ argsL.toArray q B ∧
      Steps p.tables e below (T.setTop g) ((B.U.setTop { g with stack := rest }).pushFrame (.throwing q))) := by
  obtain ⟨mk, methM, cM, hnamed, hmethM, -, -, -, -, -, -, hsigM⟩ := Cond.codeWith_spec hcode
  have hstatic : methM.isStatic = true := Cond.static_spec hnamed hmethM hstat
  obtain ⟨kP, hkP, -⟩ := className_of_methodNamed hnamed
  have hinitP : kP.init = .initialized := Cond.initialized_spec (findClass_of_methodNamed hnamed) hkP hinit
  obtain ⟨vm₁, X₁, hstep₁⟩ := X.invokestatic hexec hown hlink hnamed hmethM hstatic hkP hinitP hy (g := g) hg (argsL := argsL) (rest := rest) (hlen _ hsigM) hstack hdg
  rcases hK m meth c ⟨T.setVm vm₁, locs, cells, slots⟩ { g with stack := rest } (.invokestatic index) mk argsL.toArray X₁ hg hsize hdg hW (X₁.named hnamed) (hpre vm₁ X₁.warmed) with ⟨v, B, X', hpost, hsteps⟩ | ⟨q, B, X', hpost, hsteps⟩
  · exact Or.inl ⟨v, vm₁, B, X₁.warmed, X', hpost, fun target h => hstep₁ _ fun acts => by rw [doInvoke_state]; exact hsteps.trans h⟩
  · exact Or.inr ⟨q, vm₁, B, X₁.warmed, X', hpost, hstep₁ _ fun acts => by rw [doInvoke_state]; exact hsteps⟩
theorem vx_callVW (X : Stand p l e R s m args below meth c T locs cells slots) (hexec : p.tables.exec = Jvm.exec) {own C : String} {index : Nat} {y : MethodName} {bytes : ByteArray} {maxL : Nat} {ret : Option FieldType} {hh : List (Nat × Nat × Nat × Nat)}
    (hown : s.vm.findClass own = some m.cls) (hlink : (Cond.methodLink own index y).before args s = true) (hinst : (Cond.instanceMethod y).before args s = true) (hsel : (Cond.selects C y y).before args s = true)
    (hcode : (Cond.codeWith y bytes maxL ret hh).before args s = true) (hy : y.cls ≠ "java/lang/invoke/MethodHandle" ∧ y.cls ≠ "java/lang/invoke/VarHandle")
    {W9 : Nat} {Pre : Pt → Array Value → Prop} {Post : Pt → Array Value → Option Value → Pt → Prop} (hK : Back l R p e below s args y 3 W9 Pre Post)
    {b : Addr} {cellB : Cell} (hcell : T.heap[b]? = some cellB) (hobj : cellB.vm.isStatics = false) (hcls : s.vm.findClass C = some cellB.cls)
    {g : JFrame} (hg : g.method = m) (hsize : g.locals.size = c.maxLocals) {argsL rest : List Value} (hlen : ∀ sig, parseMethodDescriptor y.desc = some sig → argsL.length = sig.parameters.length)
    (hstack : g.stack = argsL.reverse ++ .ref b :: rest) (hW : 2 * g.monitorRoom + (rest.map fun v => v.category).sum ≤ W9) (hdg : decode c.code g.pc = .ok (.invokevirtual index, 3))
    (hpre : ∀ vm₁, s.WarmedH vm₁ → Pre ⟨T.setVm vm₁, locs, cells, slots⟩ (Value.ref b :: argsL).toArray) :
    ∃ (v : Option Value) (vm₁ : Vm) (B : Pt), s.WarmedH vm₁ ∧ Stand p l e R s m args below meth c B.U B.locs B.cells B.slots ∧ Post ⟨T.setVm vm₁, locs, cells, slots⟩ (Value.ref b :: argsL).toArray v B ∧
      ∀ target, Steps p.tables e below (B.U.setTop { g with pc := g.pc + 3, stack := v.toList ++ rest }) target → Steps p.tables e below (T.setTop g) target := by
  obtain ⟨mk, methM, hnamed, hmethM, hstM, habM⟩ := Cond.instanceMethod_spec hinst
  obtain ⟨m8, methM', cM, hn8, hmethM', -, -, -, -, -, -, hsigM⟩ := Cond.codeWith_spec hcode
  cases Option.some.inj (hn8.symm.trans hnamed)
  cases hmethM.symm.trans hmethM'
  obtain ⟨c2, r2, m2, q1, q2, q3, q4, kP, hkP, hkPi⟩ := Cond.selects_spec hsel
  cases hcls.symm.trans q1
  cases (State.methodFound?_of_named hnamed hy).symm.trans q2
  cases hnamed.symm.trans q3
  have hselP : selectMethod e.platform s.vm cellB.cls mk = .method mk := by rw [Launch.admits_selectMethod X.admits]; exact q4
  obtain ⟨vm₁, X₁, hstep₁⟩ := X.invokevirtual hexec hown hlink hnamed hmethM hstM hkP hkPi hy (a := b) (cell := cellB) hcell
    (fun z h => by rw [h] at hobj; cases hobj) hselP hmethM habM hkP hkPi (g := g) hg (argsL := argsL) (rest := rest) (hlen _ hsigM) hstack hdg
  obtain ⟨v, B, X', hpost, hsteps⟩ := hK m meth c ⟨T.setVm vm₁, locs, cells, slots⟩ { g with stack := rest } (.invokevirtual index) mk (Value.ref b :: argsL).toArray X₁ hg hsize hdg hW (X₁.named hnamed) (hpre vm₁ X₁.warmed)
  exact ⟨v, vm₁, B, X₁.warmed, X', hpost, fun target h => hstep₁ _ fun acts => by rw [doInvoke_state]; exact hsteps.trans h⟩
abbrev vx_CVW (R : Room) (s : State) (args : Array Value) (own C : String) (index : Nat) (y : MethodName) (bytes : ByteArray) (maxL : Nat) (ret : Option FieldType) (hh : List (Nat × Nat × Nat × Nat)) (ws : List Cond) (rm : Room) (mc ms n : Nat) : Prop :=
  (rm.cells = mc ∧ rm.slots = ms ∧ rm.frames + 1 ≤ R.frames ∧ 8 + (maxL + 11) + rm.locals ≤ R.locals ∧ (∀ w ∈ ws, ∀ (a' : Array Value) (U : State), s.WarmedH U.vm → w.before a' U = true) ∧ Cond.codeWith y bytes maxL ret hh ∈ ws) ∧
  (Cond.codeWith y bytes maxL ret hh).before args s = true ∧ (Cond.initialized y.cls).before args s = true ∧ (y.cls ≠ "java/lang/invoke/MethodHandle" ∧ y.cls ≠ "java/lang/invoke/VarHandle") ∧
  (∀ sig, parseMethodDescriptor y.desc = some sig → n = sig.parameters.length) ∧ (Cond.methodLink own index y).before args s = true ∧ (Cond.instanceMethod y).before args s = true ∧ (Cond.selects C y y).before args s = true
theorem vx_cwVW {own C : String} {index maxL mc ms : Nat} {y : MethodName} {bytes : ByteArray} {ret : Option FieldType} {hh : List (Nat × Nat × Nat × Nat)} {Ts ws ws' : List Cond} {rm : Room} (n : Nat) (ht : ∀ w ∈ Ts, w.before args s = true) (hT : GoodIn Ts (wsV own index C y ws)) (hw : ws = Cond.codeWith y bytes maxL ret hh :: ws') (hrc : rm.cells = mc) (hrs : rm.slots = ms)
    (hd : y.cls = C ∧ y.cls ≠ "java/lang/invoke/MethodHandle" ∧ y.cls ≠ "java/lang/invoke/VarHandle" ∧ (parseMethodDescriptor y.desc).map (fun d => d.parameters.length) = some n) (hR : rm.frames + 1 ≤ R.frames ∧ 8 + (maxL + 11) + rm.locals ≤ R.locals) :
    vx_CVW R s args own C index y bytes maxL ret hh ws rm mc ms n := by
  obtain ⟨hC, hd⟩ := hd
  subst hC
  have ok : ∀ w ∈ wsV own index y.cls y ws, w.before args s = true := fun w h => ht w (hT w h).1
  have hG : GoodIn Ts ws := fun w h => hT w (by unfold wsV; exact List.mem_append_right _ h)
  have hc : Cond.codeWith y bytes maxL ret hh ∈ ws := by rw [hw]; exact List.mem_cons_self
  refine ⟨⟨hrc, hrs, hR.1, hR.2, pay_in ht hG, hc⟩, ht _ (hG _ hc).1, ok _ (by simp [wsV]), ⟨hd.1, hd.2.1⟩, fun sig h => ?_, ok _ (by simp [wsV]), ok _ (by simp [wsV]), ok _ (by simp [wsV])⟩
  have h2 := hd.2.2
  rw [h] at h2
  exact (Option.some.inj h2).symm
theorem vx_runVW {y : MethodName} {bytes cc : ByteArray} {maxL nL mc ms n index : Nat} {ret : Option FieldType} {hh : List (Nat × Nat × Nat × Nat)} {ws : List Cond} {rm : Room} {Pc : Array Value → State → Prop} {Qc : Array Value → State → Outcome → State → Prop} {free : Addr → Prop} {Ts : List Cond} {own C : String} {b : Addr} {As rest : List Value} {g : JFrame}
    (S : CallFix p m c cc nL s args Ts own) (hM : Met l y ws rm Pc Qc mc ms free) (cw : vx_CVW R s args own C index y bytes maxL ret hh ws rm mc ms n) (hp : PreV s H C b Pc As)
    (hg : g.method = m) (hn : As.length = n) (hsize : g.locals.size = nL) (hstack : g.stack = As.reverse ++ .ref b :: rest) (hW : 2 * g.monitorRoom + (rest.map fun v => v.category).sum ≤ 8) (hdg : decode cc g.pc = .ok (.invokevirtual index, 3)) (hf : cells + mc ≤ R.cells ∧ slots + ms ≤ R.slots) :
    va_Run p l e R s m args below meth c H locs cells slots mc ms g rest (Qc (Value.ref b :: As).toArray) free := by
  obtain ⟨⟨hrc, hrs, hfr, hlo, hws, hcw⟩, hcode, hini, hy, hlen, hl, hin, hse⟩ := cw
  have hK : Back l R p e below s args y 3 8 (PreOf R mc ms Pc) (PostOf Qc mc ms free) := va_backW (hh := hh) (bytes := bytes) (maxL := maxL) (ret := ret) hM hp.1 hrc hrs hfr hlo hws hcw (fun a' U hW => word_at hW (Or.inl (by first | rfl | simp [Cond.onTables, Cond.keeps, Cond.steady])) hini)
  obtain ⟨hx, hb, hml, ho, -⟩ := S
  obtain ⟨-, ⟨cellB, hcB, hoB, hclB⟩, hPc⟩ := hp
  intro T hT X
  obtain ⟨v, vm₁, ⟨U', l2, c2, s2⟩, hW₁, X', ⟨g', mk, t, L, e1, e2, hq, h1, hL, h2, h3⟩, st⟩ := vx_callVW X hx (C := C) (hh := hh) (bytes := bytes) (maxL := maxL) (ret := ret) ho hl hin hse hcode hy hK (by rw [hT]; exact hcB) hoB hclB hg (hsize.trans hml.symm) (argsL := As) (rest := rest) (fun sig h => hn.trans (hlen sig h)) hstack hW (by rw [hb]; exact hdg)
    (fun vm₁ hW₁ => ⟨hf.1, hf.2, hPc (T.setVm vm₁) hT hW₁⟩)
  dsimp only [Pt.U, Pt.locs, Pt.cells, Pt.slots] at X' e1 e2 h1 h2 h3 st
  subst h1; subst h2; subst h3
  exact ⟨v, (T.setVm vm₁).calling g' mk (Value.ref b :: As).toArray, t, U', L, hT, X', hL, e1, e2, hq, st⟩
section
variable {y : MethodName} {bytes cc : ByteArray} {maxL nL mc ms n index : Nat} {ret : Option FieldType} {ws : List Cond} {rm : Room} {Pc : Array Value → State → Prop} {Qc : Array Value → State → Outcome → State → Prop} {XC : String → State → State → Prop} {free : Addr → Prop} {Ts : List Cond} {own C : String} {b : Addr} {As rest : List Value} {g : JFrame}
theorem vx_runVX {hh : List (Nat × Nat × Nat × Nat)} (S : CallFix p m c cc nL s args Ts own) (hM : vx_Met l y ws rm Pc Qc XC mc ms free) (cw : vx_CVW R s args own C index y bytes maxL ret hh ws rm mc ms n) (hp : PreV s H C b Pc As)
    (hg : g.method = m) (hn : As.length = n) (hsize : g.locals.size = nL) (hstack : g.stack = As.reverse ++ .ref b :: rest) (hW : 2 * g.monitorRoom + (rest.map fun v => v.category).sum ≤ 8) (hdg : decode cc g.pc = .ok (.invokevirtual index, 3)) (hf : cells + mc ≤ R.cells ∧ slots + ms ≤ R.slots) :
    vx_Run p l e R s m args below meth c H locs cells slots mc ms g rest (Qc (Value.ref b :: As).toArray) XC free := by
  obtain ⟨⟨hrc, hrs, hfr, hlo, hws, hcw⟩, hcode, hini, hy, hlen, hl, hin, hse⟩ := cw
  have hK : vx_Back l R p e below s args y 3 8 (PreOf R mc ms Pc) (PostOf Qc mc ms free) (vx_Post XC mc ms free) := vx_backW (hh := hh) (bytes := bytes) (maxL := maxL) (ret := ret) hM hp.1 hrc hrs hfr hlo hws hcw (fun a' U hW => word_at hW (Or.inl (by first | rfl | simp [Cond.onTables, Cond.keeps, Cond.steady])) hini)
  obtain ⟨hx, hb, hml, ho, -⟩ := S
  obtain ⟨-, ⟨cellB, hcB, hoB, hclB⟩, hPc⟩ := hp
  intro T hT X
  rcases vx_callVX X hx (C := C) (hh := hh) (bytes := bytes) (maxL := maxL) (ret := ret) ho hl hin hse hcode hy hK (by rw [hT]; exact hcB) hoB hclB hg (hsize.trans hml.symm) (argsL := As) (rest := rest) (fun sig h => hn.trans (hlen sig h)) hstack hW (by rw [hb]; exact hdg)
    (fun vm₁ hW₁ => ⟨hf.1, hf.2, hPc (T.setVm vm₁) hT hW₁⟩) with ⟨v, vm₁, ⟨U', l2, c2, s2⟩, hW₁, X', ⟨g', mk, t, L, e1, e2, hq, h1, hL, h2, h3⟩, st⟩ | ⟨q, vm₁, ⟨U', l2, c2, s2⟩, hW₁, X', ⟨g', mk, t, L, E, ce, e1, e2, hq, hce, hcv, hcl, h1, hL, h2, h3⟩, st⟩
  · dsimp only [Pt.U, Pt.locs, Pt.cells, Pt.slots] at X' e1 e2 h1 h2 h3 st
    subst h1; subst h2; subst h3
    exact Or.inl ⟨v, (T.setVm vm₁).calling g' mk (Value.ref b :: As).toArray, t, U', L, hT, X', hL, e1, e2, hq, st⟩
  · dsimp only [Pt.U, Pt.locs, Pt.cells, Pt.slots] at X' e1 e2 h1 h2 h3 st hcl
    subst h1; subst h2; subst h3
    exact Or.inr ⟨q, (T.setVm vm₁).calling g' mk (Value.ref b :: As).toArray, t, U', L, E, ce, hT, X', hL, e1, e2, hq, hce, hcv, vx_cls hW₁ hcl, st⟩
theorem vx_runSX {hh : List (Nat × Nat × Nat × Nat)} (S : CallFix p m c cc nL s args Ts own) (hM : vx_Met l y ws rm Pc Qc XC mc ms free) (cw : vx_CSW R s args own index y bytes maxL ret hh ws rm mc ms n) (hp : PreS s H Pc As)
    (hg : g.method = m) (hn : As.length = n) (hsize : g.locals.size = nL) (hstack : g.stack = As.reverse ++ rest) (hW : 2 * g.monitorRoom + (rest.map fun v => v.category).sum ≤ 8) (hdg : decode cc g.pc = .ok (.invokestatic index, 3)) (hf : cells + mc ≤ R.cells ∧ slots + ms ≤ R.slots) :
    vx_Run p l e R s m args below meth c H locs cells slots mc ms g rest (Qc As.toArray) XC free := by
  obtain ⟨⟨hrc, hrs, hfr, hlo, hws, hcw⟩, hcode, hini, hy, hlen, hl, hstt⟩ := cw
  have hK : vx_Back l R p e below s args y 3 8 (PreOf R mc ms Pc) (PostOf Qc mc ms free) (vx_Post XC mc ms free) := vx_backW (hh := hh) (bytes := bytes) (maxL := maxL) (ret := ret) hM hp.1 hrc hrs hfr hlo hws hcw (fun a' U hW => word_at hW (Or.inl (by first | rfl | simp [Cond.onTables, Cond.keeps, Cond.steady])) hini)
  obtain ⟨hx, hb, hml, ho, -⟩ := S
  intro T hT X
  rcases vx_callSX X hx (hh := hh) (bytes := bytes) (maxL := maxL) (ret := ret) ho hl hstt hini hcode hy hK hg (hsize.trans hml.symm) (argsL := As) (rest := rest) (fun sig h => hn.trans (hlen sig h)) hstack hW (by rw [hb]; exact hdg)
    (fun vm₁ hW₁ => ⟨hf.1, hf.2, hp.2 (T.setVm vm₁) hT hW₁⟩) with ⟨v, vm₁, ⟨U', l2, c2, s2⟩, hW₁, X', ⟨g', mk, t, L, e1, e2, hq, h1, hL, h2, h3⟩, st⟩ | ⟨q, vm₁, ⟨U', l2, c2, s2⟩, hW₁, X', ⟨g', mk, t, L, E, ce, e1, e2, hq, hce, hcv, hcl, h1, hL, h2, h3⟩, st⟩
  · dsimp only [Pt.U, Pt.locs, Pt.cells, Pt.slots] at X' e1 e2 h1 h2 h3 st
    subst h1; subst h2; subst h3
    exact Or.inl ⟨v, (T.setVm vm₁).calling g' mk As.toArray, t, U', L, hT, X', hL, e1, e2, hq, st⟩
  · dsimp only [Pt.U, Pt.locs, Pt.cells, Pt.slots] at X' e1 e2 h1 h2 h3 st hcl
    subst h1; subst h2; subst h3
    exact Or.inr ⟨q, (T.setVm vm₁).calling g' mk As.toArray, t, U', L, E, ce, hT, X', hL, e1, e2, hq, hce, hcv, vx_cls hW₁ hcl, st⟩
end
end VXH
theorem vx_ofWH {l : Launch} {y : MethodName} {ws ws' : List Cond} {rm : Room} {Pc : Array Value → State → Prop} {Qc : Array Value → State → Outcome → State → Prop} {XC : String → State → State → Prop} {mc ms : Nat} {free : Addr → Prop} {cc : ByteArray} {maxL : Nat} {ret : Option FieldType} {hh : List (Nat × Nat × Nat × Nat)}
    (hy : plainName y.cls = true) (hw : ws = Cond.codeWith y cc maxL ret hh :: ws')
    (body : ∀ p e s m args below meth c s₁, BodyLoose p l y (headSpec ws rm) cc maxL ret e s m args below meth c s₁ → c.maxLocals = maxL → Pc args s →
      W p l e (headSpec ws rm).room s m args below meth c s.heap [] 0 0 (vx_MQ below Qc XC args s mc ms free) (entryFrame m args maxL)) : vx_Met l y ws rm Pc Qc XC mc ms free := by
  refine MetFree.of_bodyS (code := cc) (maxLocals := maxL) (ret := ret) hy ?_ ?_
  · intro args s m h hn
    obtain ⟨m9, meth, c, hn9, h1, h2, h3, h4, -, h5, h6, -⟩ := Cond.codeWith_spec (atoms_spec (ws := ws) h _ (by rw [hw]; exact List.mem_cons_self))
    cases hn.symm.trans hn9
    exact ⟨meth, c, h1, h2, h3, h4, h5, h6⟩
  · intro p e s m args below meth c s₁ B hml hP _
    have hh0 : s₁.heap = s.heap := by rw [B.state]; rfl
    obtain ⟨t, a1, o, b1, b2, b3⟩ := body p e s m args below meth c s₁ B hml hP s₁ hh0 (Stand.of_body B)
    exact ⟨t, o, a1, b1, b2, b3⟩
/-! ===== END ===== -/
end
section
/-! ===== BEGIN printed: names, fields, word lists, decode rows ===== -/
def RX0 : String := "TableWright$Layout"
def TX0 : u_T := fun k => match k with
  | 0 => ("TableWright$Layout", "isFit", "Z", false)
  | 1 => ("TableWright$Layout", "room", "I", false)
  | 2 => ("TableWright$Layout", "widths", "[I", true)
  | 3 => ("TableWright$Layout", "heights", "[I", true)
  | 4 => ("TableWright$Layout", "rowPages", "[I", true)
  | 5 => ("TableWright$Layout", "notePages", "[I", true)
  | 6 => ("TableWright$Layout", "pageCount", "I", false)
  | 7 => ("TableWright$Layout", "firstRows", "[I", true)
  | 8 => ("TableWright$Layout", "rowsOn", "[I", true)
  | 9 => ("TableWright$Layout", "notesOn", "[I", true)
  | 10 => ("TableWright$Layout", "left", "[I", true)
  | 11 => ("TableWright$Layout", "lastRows", "[I", true)
  | 12 => ("TableWright$Layout", "nextRow", "I", false)
  | _ => ("TableWright$Layout", "nextNote", "I", false)
def tyX0 : Nat → FieldType := fun k => match k with
  | 0 => .boolean
  | 1 => .int
  | 2 => .array .int
  | 3 => .array .int
  | 4 => .array .int
  | 5 => .array .int
  | 6 => .int
  | 7 => .array .int
  | 8 => .array .int
  | 9 => .array .int
  | 10 => .array .int
  | 11 => .array .int
  | 12 => .int
  | _ => .int
abbrev wsX00 : List Cond := u_ws RX0 TX0 14
theorem nmX0 : ∀ a, a < 14 → ∀ b, b < 14 → a ≠ b → (TX0 a).2.1 ≠ (TX0 b).2.1 := by decide +kernel
theorem tyX0_ok : ∀ k, k < 14 → parseFieldDescriptor (TX0 k).2.2.1 = some (tyX0 k) := by decide +kernel
abbrev cX0_init : ByteArray := prog_2_method_1_code
def yX0_init : MethodName := ⟨RX0, "<init>", "()V"⟩
abbrev cX0_arrange : ByteArray := prog_2_method_2_code
def yX0_arrange : MethodName := ⟨RX0, "arrange", "(LTableWright$Sheet;II)V"⟩
abbrev cX0_pagesOrNone : ByteArray := prog_2_method_3_code
def yX0_pagesOrNone : MethodName := ⟨RX0, "pagesOrNone", "()I"⟩
abbrev cX0_tableWidth : ByteArray := prog_2_method_4_code
def yX0_tableWidth : MethodName := ⟨RX0, "tableWidth", "(LTableWright$Sheet;)I"⟩
abbrev cX0_heightOfRows : ByteArray := prog_2_method_5_code
def yX0_heightOfRows : MethodName := ⟨RX0, "heightOfRows", "(LTableWright$Sheet;)I"⟩
abbrev cX0_notesElsewhere : ByteArray := prog_2_method_6_code
def yX0_notesElsewhere : MethodName := ⟨RX0, "notesElsewhere", "(LTableWright$Sheet;)I"⟩
abbrev cX0_carriedOn : ByteArray := prog_2_method_7_code
def yX0_carriedOn : MethodName := ⟨RX0, "carriedOn", "(LTableWright$Sheet;II)I"⟩
abbrev cX0_readAloud : ByteArray := prog_2_method_8_code
def yX0_readAloud : MethodName := ⟨RX0, "readAloud", "(LTableWright$Sheet;I)I"⟩
abbrev cX0_shownCells : ByteArray := prog_2_method_9_code
def yX0_shownCells : MethodName := ⟨RX0, "shownCells", "(LTableWright$Sheet;I)I"⟩
abbrev cX0_heightOfCell : ByteArray := prog_2_method_10_code
def yX0_heightOfCell : MethodName := ⟨RX0, "heightOfCell", "(LTableWright$Sheet;II)I"⟩
abbrev cX0_isWidthFit : ByteArray := prog_2_method_11_code
def yX0_isWidthFit : MethodName := ⟨RX0, "isWidthFit", "(LTableWright$Sheet;I)Z"⟩
abbrev cX0_mostSpareColumn : ByteArray := prog_2_method_12_code
def yX0_mostSpareColumn : MethodName := ⟨RX0, "mostSpareColumn", "(LTableWright$Sheet;)I"⟩
abbrev cX0_areHeightsFit : ByteArray := prog_2_method_13_code
def yX0_areHeightsFit : MethodName := ⟨RX0, "areHeightsFit", "(LTableWright$Sheet;)Z"⟩
abbrev cX0_fillPage : ByteArray := prog_2_method_14_code
def yX0_fillPage : MethodName := ⟨RX0, "fillPage", "(LTableWright$Sheet;I)V"⟩
abbrev cX0_putWaitingNotes : ByteArray := prog_2_method_15_code
def yX0_putWaitingNotes : MethodName := ⟨RX0, "putWaitingNotes", "(LTableWright$Sheet;I)V"⟩
abbrev cX0_hasRoomForNextRow : ByteArray := prog_2_method_16_code
def yX0_hasRoomForNextRow : MethodName := ⟨RX0, "hasRoomForNextRow", "(LTableWright$Sheet;I)Z"⟩
abbrev cX0_heightOfGroup : ByteArray := prog_2_method_17_code
def yX0_heightOfGroup : MethodName := ⟨RX0, "heightOfGroup", "(LTableWright$Sheet;I)I"⟩
abbrev cX0_putNextRow : ByteArray := prog_2_method_18_code
def yX0_putNextRow : MethodName := ⟨RX0, "putNextRow", "(I)V"⟩
def RX1 : String := "TableWright$Row"
def TX1 : u_T := fun k => match k with
  | 0 => ("TableWright$Row", "values", "[I", true)
  | 1 => ("TableWright$Row", "lengths", "[I", true)
  | 2 => ("TableWright$Row", "words", "[I", true)
  | 3 => ("TableWright$Row", "isToSpan", "[Z", true)
  | 4 => ("TableWright$Row", "noteLines", "I", false)
  | 5 => ("TableWright$Row", "isKept", "Z", false)
  | 6 => ("TableWright$Row", "sums", "[I", true)
  | _ => ("TableWright$Row", "isHidden", "[Z", true)
def tyX1 : Nat → FieldType := fun k => match k with
  | 0 => .array .int
  | 1 => .array .int
  | 2 => .array .int
  | 3 => .array .boolean
  | 4 => .int
  | 5 => .boolean
  | 6 => .array .int
  | _ => .array .boolean
abbrev wsX10 : List Cond := u_ws RX1 TX1 8
theorem nmX1 : ∀ a, a < 8 → ∀ b, b < 8 → a ≠ b → (TX1 a).2.1 ≠ (TX1 b).2.1 := by decide +kernel
theorem tyX1_ok : ∀ k, k < 8 → parseFieldDescriptor (TX1 k).2.2.1 = some (tyX1 k) := by decide +kernel
abbrev cX1_init : ByteArray := prog_3_method_1_code
def yX1_init : MethodName := ⟨RX1, "<init>", "()V"⟩
abbrev cX1_clear : ByteArray := prog_3_method_2_code
def yX1_clear : MethodName := ⟨RX1, "clear", "()V"⟩
abbrev cX1_copyFrom : ByteArray := prog_3_method_3_code
def yX1_copyFrom : MethodName := ⟨RX1, "copyFrom", "(LTableWright$Row;)V"⟩
def RX2 : String := "TableWright$Setting"
def TX2 : u_T := fun k => match k with
  | 0 => ("TableWright$Setting", "upright", "LTableWright$Layout;", true)
  | 1 => ("TableWright$Setting", "turned", "LTableWright$Layout;", true)
  | _ => ("TableWright$Setting", "isTurned", "Z", false)
def tyX2 : Nat → FieldType := fun k => match k with
  | 0 => .object "TableWright$Layout"
  | 1 => .object "TableWright$Layout"
  | _ => .boolean
abbrev wsX20 : List Cond := u_ws RX2 TX2 3
theorem nmX2 : ∀ a, a < 3 → ∀ b, b < 3 → a ≠ b → (TX2 a).2.1 ≠ (TX2 b).2.1 := by decide +kernel
theorem tyX2_ok : ∀ k, k < 3 → parseFieldDescriptor (TX2 k).2.2.1 = some (tyX2 k) := by decide +kernel
abbrev cX2_init : ByteArray := prog_4_method_1_code
def yX2_init : MethodName := ⟨RX2, "<init>", "()V"⟩
abbrev cX2_arrange : ByteArray := prog_4_method_2_code
def yX2_arrange : MethodName := ⟨RX2, "arrange", "(LTableWright$Sheet;II)V"⟩
abbrev cX2_chosen : ByteArray := prog_4_method_3_code
def yX2_chosen : MethodName := ⟨RX2, "chosen", "()LTableWright$Layout;"⟩
def RX3 : String := "TableWright$Sheet"
def TX3 : u_T := fun k => match k with
  | 0 => ("TableWright$Sheet", "columnCount", "I", false)
  | 1 => ("TableWright$Sheet", "kinds", "[I", true)
  | 2 => ("TableWright$Sheet", "titles", "[I", true)
  | 3 => ("TableWright$Sheet", "firsts", "[I", true)
  | 4 => ("TableWright$Sheet", "seconds", "[I", true)
  | 5 => ("TableWright$Sheet", "rowCount", "I", false)
  | 6 => ("TableWright$Sheet", "rows", "[LTableWright$Row;", true)
  | 7 => ("TableWright$Sheet", "leasts", "[I", true)
  | _ => ("TableWright$Sheet", "bests", "[I", true)
def tyX3 : Nat → FieldType := fun k => match k with
  | 0 => .int
  | 1 => .array .int
  | 2 => .array .int
  | 3 => .array .int
  | 4 => .array .int
  | 5 => .int
  | 6 => .array (.object "TableWright$Row")
  | 7 => .array .int
  | _ => .array .int
abbrev wsX30 : List Cond := u_ws RX3 TX3 9
theorem nmX3 : ∀ a, a < 9 → ∀ b, b < 9 → a ≠ b → (TX3 a).2.1 ≠ (TX3 b).2.1 := by decide +kernel
theorem tyX3_ok : ∀ k, k < 9 → parseFieldDescriptor (TX3 k).2.2.1 = some (tyX3 k) := by decide +kernel
abbrev cX3_init : ByteArray := prog_5_method_1_code
def yX3_init : MethodName := ⟨RX3, "<init>", "()V"⟩
abbrev cX3_addColumn : ByteArray := prog_5_method_2_code
def yX3_addColumn : MethodName := ⟨RX3, "addColumn", "(II)I"⟩
abbrev cX3_addRow : ByteArray := prog_5_method_3_code
def yX3_addRow : MethodName := ⟨RX3, "addRow", "()I"⟩
abbrev cX3_copyFrom : ByteArray := prog_5_method_5_code
def yX3_copyFrom : MethodName := ⟨RX3, "copyFrom", "(LTableWright$Sheet;)V"⟩
abbrev cX3_sumUpTo : ByteArray := prog_5_method_6_code
def yX3_sumUpTo : MethodName := ⟨RX3, "sumUpTo", "(II)I"⟩
abbrev cX3_linesOfNotes : ByteArray := prog_5_method_7_code
def yX3_linesOfNotes : MethodName := ⟨RX3, "linesOfNotes", "()I"⟩
abbrev cX3_isSpanning : ByteArray := prog_5_method_8_code
def yX3_isSpanning : MethodName := ⟨RX3, "isSpanning", "(II)Z"⟩
abbrev cX3_reckon : ByteArray := prog_5_method_9_code
def yX3_reckon : MethodName := ⟨RX3, "reckon", "()V"⟩
abbrev cX3_reckonHidden : ByteArray := prog_5_method_10_code
def yX3_reckonHidden : MethodName := ⟨RX3, "reckonHidden", "(I)V"⟩
abbrev cX3_reckonNumbers : ByteArray := prog_5_method_11_code
def yX3_reckonNumbers : MethodName := ⟨RX3, "reckonNumbers", "(I)V"⟩
abbrev cX3_resultOf : ByteArray := prog_5_method_12_code
def yX3_resultOf : MethodName := ⟨RX3, "resultOf", "(IJJ)I"⟩
abbrev cX3_measureText : ByteArray := prog_5_method_13_code
def yX3_measureText : MethodName := ⟨RX3, "measureText", "(I)V"⟩
abbrev cX3_measureNumbers : ByteArray := prog_5_method_14_code
def yX3_measureNumbers : MethodName := ⟨RX3, "measureNumbers", "(I)V"⟩
abbrev cX3_sizeOf : ByteArray := prog_5_method_15_code
def yX3_sizeOf : MethodName := ⟨RX3, "sizeOf", "(I)I"⟩
def RX4 : String := "TableWright"
def TX4 : u_T := fun k => match k with
  | 0 => ("TableWright", "sheet", "LTableWright$Sheet;", true)
  | 1 => ("TableWright", "setting", "LTableWright$Setting;", true)
  | 2 => ("TableWright", "wide", "I", false)
  | 3 => ("TableWright", "high", "I", false)
  | 4 => ("TableWright", "isStale", "Z", false)
  | 5 => ("TableWright", "trialSheet", "LTableWright$Sheet;", true)
  | 6 => ("TableWright", "trialSetting", "LTableWright$Setting;", true)
  | _ => ("TableWright", "probe", "LTableWright$Layout;", true)
def tyX4 : Nat → FieldType := fun k => match k with
  | 0 => .object "TableWright$Sheet"
  | 1 => .object "TableWright$Setting"
  | 2 => .int
  | 3 => .int
  | 4 => .boolean
  | 5 => .object "TableWright$Sheet"
  | 6 => .object "TableWright$Setting"
  | _ => .object "TableWright$Layout"
abbrev wsX40 : List Cond := u_ws RX4 TX4 8
theorem nmX4 : ∀ a, a < 8 → ∀ b, b < 8 → a ≠ b → (TX4 a).2.1 ≠ (TX4 b).2.1 := by decide +kernel
theorem tyX4_ok : ∀ k, k < 8 → parseFieldDescriptor (TX4 k).2.2.1 = some (tyX4 k) := by decide +kernel
abbrev cX4_init : ByteArray := prog_1_method_1_code
def yX4_init : MethodName := ⟨RX4, "<init>", "()V"⟩
abbrev cX4_column : ByteArray := prog_1_method_2_code
def yX4_column : MethodName := ⟨RX4, "column", "(ZI)I"⟩
abbrev cX4_row : ByteArray := prog_1_method_4_code
def yX4_row : MethodName := ⟨RX4, "row", "()I"⟩
abbrev cX4_number : ByteArray := prog_1_method_6_code
def yX4_number : MethodName := ⟨RX4, "number", "(III)I"⟩
abbrev cX4_text : ByteArray := prog_1_method_7_code
def yX4_text : MethodName := ⟨RX4, "text", "(IIII)I"⟩
abbrev cX4_span : ByteArray := prog_1_method_8_code
def yX4_span : MethodName := ⟨RX4, "span", "(IIZ)Z"⟩
abbrev cX4_note : ByteArray := prog_1_method_9_code
def yX4_note : MethodName := ⟨RX4, "note", "(II)I"⟩
abbrev cX4_keep : ByteArray := prog_1_method_10_code
def yX4_keep : MethodName := ⟨RX4, "keep", "(IZ)Z"⟩
abbrev cX4_paper : ByteArray := prog_1_method_11_code
def yX4_paper : MethodName := ⟨RX4, "paper", "(II)I"⟩
abbrev cX4_cell : ByteArray := prog_1_method_12_code
def yX4_cell : MethodName := ⟨RX4, "cell", "(III)I"⟩
abbrev cX4_ofColumn : ByteArray := prog_1_method_13_code
def yX4_ofColumn : MethodName := ⟨RX4, "ofColumn", "(II)I"⟩
abbrev cX4_ofRow : ByteArray := prog_1_method_14_code
def yX4_ofRow : MethodName := ⟨RX4, "ofRow", "(II)I"⟩
abbrev cX4_ofPage : ByteArray := prog_1_method_15_code
def yX4_ofPage : MethodName := ⟨RX4, "ofPage", "(II)I"⟩
abbrev cX4_carried : ByteArray := prog_1_method_16_code
def yX4_carried : MethodName := ⟨RX4, "carried", "(II)I"⟩
abbrev cX4_many : ByteArray := prog_1_method_17_code
def yX4_many : MethodName := ⟨RX4, "many", "(I)I"⟩
abbrev cX4_pagesWith : ByteArray := prog_1_method_19_code
def yX4_pagesWith : MethodName := ⟨RX4, "pagesWith", "(IIZ)I"⟩
abbrev cX4_changedBy : ByteArray := prog_1_method_20_code
def yX4_changedBy : MethodName := ⟨RX4, "changedBy", "(III)I"⟩
abbrev cX4_digest : ByteArray := prog_1_method_22_code
def yX4_digest : MethodName := ⟨RX4, "digest", "()J"⟩
abbrev cX4_requireRange : ByteArray := prog_1_method_23_code
def yX4_requireRange : MethodName := ⟨RX4, "requireRange", "(III)V"⟩
abbrev cX4_requireRow : ByteArray := prog_1_method_24_code
def yX4_requireRow : MethodName := ⟨RX4, "requireRow", "(I)V"⟩
abbrev cX4_requireColumn : ByteArray := prog_1_method_25_code
def yX4_requireColumn : MethodName := ⟨RX4, "requireColumn", "(I)V"⟩
abbrev cX4_requirePage : ByteArray := prog_1_method_26_code
def yX4_requirePage : MethodName := ⟨RX4, "requirePage", "(I)V"⟩
abbrev cX4_requireKind : ByteArray := prog_1_method_27_code
def yX4_requireKind : MethodName := ⟨RX4, "requireKind", "(II)V"⟩
abbrev cX4_requireSpareColumn : ByteArray := prog_1_method_29_code
def yX4_requireSpareColumn : MethodName := ⟨RX4, "requireSpareColumn", "()V"⟩
abbrev cX4_requireNumberCell : ByteArray := prog_1_method_30_code
def yX4_requireNumberCell : MethodName := ⟨RX4, "requireNumberCell", "(III)V"⟩
abbrev cX4_refresh : ByteArray := prog_1_method_31_code
def yX4_refresh : MethodName := ⟨RX4, "refresh", "()V"⟩
abbrev cX4_layoutOfTrial : ByteArray := prog_1_method_32_code
def yX4_layoutOfTrial : MethodName := ⟨RX4, "layoutOfTrial", "()LTableWright$Layout;"⟩
abbrev cX4_pagesIn : ByteArray := prog_1_method_33_code
def yX4_pagesIn : MethodName := ⟨RX4, "pagesIn", "(II)I"⟩
abbrev cX4_isPageOther : ByteArray := prog_1_method_34_code
def yX4_isPageOther : MethodName := ⟨RX4, "isPageOther", "(LTableWright$Layout;LTableWright$Layout;I)Z"⟩
abbrev cX4_factOfTable : ByteArray := prog_1_method_35_code
def yX4_factOfTable : MethodName := ⟨RX4, "factOfTable", "(I)I"⟩
abbrev cX4_factOfColumn : ByteArray := prog_1_method_36_code
def yX4_factOfColumn : MethodName := ⟨RX4, "factOfColumn", "(II)I"⟩
abbrev cX4_factOfRow : ByteArray := prog_1_method_37_code
def yX4_factOfRow : MethodName := ⟨RX4, "factOfRow", "(II)I"⟩
abbrev cX4_factOfCell : ByteArray := prog_1_method_38_code
def yX4_factOfCell : MethodName := ⟨RX4, "factOfCell", "(III)I"⟩
abbrev cX4_factOfPage : ByteArray := prog_1_method_39_code
def yX4_factOfPage : MethodName := ⟨RX4, "factOfPage", "(II)I"⟩
abbrev cX4_digestWith : ByteArray := prog_1_method_40_code
def yX4_digestWith : MethodName := ⟨RX4, "digestWith", "(JI)J"⟩
abbrev cX4_digestWithRow : ByteArray := prog_1_method_41_code
def yX4_digestWithRow : MethodName := ⟨RX4, "digestWithRow", "(JI)J"⟩
abbrev cX4_digestWithPage : ByteArray := prog_1_method_42_code
def yX4_digestWithPage : MethodName := ⟨RX4, "digestWithPage", "(JI)J"⟩
def RX5 : String := "TableWrightModel$Column"
def TX5 : u_T := fun k => match k with
  | _ => ("", "", "", false)
def tyX5 : Nat → FieldType := fun k => match k with
  | _ => .int
abbrev wsX50 : List Cond := u_ws RX5 TX5 0
theorem nmX5 : ∀ a, a < 0 → ∀ b, b < 0 → a ≠ b → (TX5 a).2.1 ≠ (TX5 b).2.1 := by decide +kernel
theorem tyX5_ok : ∀ k, k < 0 → parseFieldDescriptor (TX5 k).2.2.1 = some (tyX5 k) := by decide +kernel
def RX6 : String := "TableWrightModel$Layout"
def TX6 : u_T := fun k => match k with
  | _ => ("", "", "", false)
def tyX6 : Nat → FieldType := fun k => match k with
  | _ => .int
abbrev wsX60 : List Cond := u_ws RX6 TX6 0
theorem nmX6 : ∀ a, a < 0 → ∀ b, b < 0 → a ≠ b → (TX6 a).2.1 ≠ (TX6 b).2.1 := by decide +kernel
theorem tyX6_ok : ∀ k, k < 0 → parseFieldDescriptor (TX6 k).2.2.1 = some (tyX6 k) := by decide +kernel
def RX7 : String := "TableWrightModel$Page"
def TX7 : u_T := fun k => match k with
  | _ => ("", "", "", false)
def tyX7 : Nat → FieldType := fun k => match k with
  | _ => .int
abbrev wsX70 : List Cond := u_ws RX7 TX7 0
theorem nmX7 : ∀ a, a < 0 → ∀ b, b < 0 → a ≠ b → (TX7 a).2.1 ≠ (TX7 b).2.1 := by decide +kernel
theorem tyX7_ok : ∀ k, k < 0 → parseFieldDescriptor (TX7 k).2.2.1 = some (tyX7 k) := by decide +kernel
def RX8 : String := "TableWrightModel$Row"
def TX8 : u_T := fun k => match k with
  | _ => ("", "", "", false)
def tyX8 : Nat → FieldType := fun k => match k with
  | _ => .int
abbrev wsX80 : List Cond := u_ws RX8 TX8 0
theorem nmX8 : ∀ a, a < 0 → ∀ b, b < 0 → a ≠ b → (TX8 a).2.1 ≠ (TX8 b).2.1 := by decide +kernel
theorem tyX8_ok : ∀ k, k < 0 → parseFieldDescriptor (TX8 k).2.2.1 = some (tyX8 k) := by decide +kernel
def RX9 : String := "TableWrightModel$Table"
def TX9 : u_T := fun k => match k with
  | _ => ("", "", "", false)
def tyX9 : Nat → FieldType := fun k => match k with
  | _ => .int
abbrev wsX90 : List Cond := u_ws RX9 TX9 0
theorem nmX9 : ∀ a, a < 0 → ∀ b, b < 0 → a ≠ b → (TX9 a).2.1 ≠ (TX9 b).2.1 := by decide +kernel
theorem tyX9_ok : ∀ k, k < 0 → parseFieldDescriptor (TX9 k).2.2.1 = some (tyX9 k) := by decide +kernel
def RX10 : String := "TableWrightModel"
def TX10 : u_T := fun k => match k with
  | _ => ("", "", "", false)
def tyX10 : Nat → FieldType := fun k => match k with
  | _ => .int
abbrev wsX100 : List Cond := u_ws RX10 TX10 0
theorem nmX10 : ∀ a, a < 0 → ∀ b, b < 0 → a ≠ b → (TX10 a).2.1 ≠ (TX10 b).2.1 := by decide +kernel
theorem tyX10_ok : ∀ k, k < 0 → parseFieldDescriptor (TX10 k).2.2.1 = some (tyX10 k) := by decide +kernel
def RJx145de : String := "java/io/Serializable"
def TJx145de : u_T := fun k => match k with
  | _ => ("", "", "", false)
def tyJx145de : Nat → FieldType := fun k => match k with
  | _ => .int
abbrev wsJx145de0 : List Cond := u_ws RJx145de TJx145de 0
theorem nmJx145de : ∀ a, a < 0 → ∀ b, b < 0 → a ≠ b → (TJx145de a).2.1 ≠ (TJx145de b).2.1 := by decide +kernel
theorem tyJx145de_ok : ∀ k, k < 0 → parseFieldDescriptor (TJx145de k).2.2.1 = some (tyJx145de k) := by decide +kernel
def RJ9 : String := "java/lang/Math"
def TJ9 : u_T := fun k => match k with
  | _ => ("", "", "", false)
def tyJ9 : Nat → FieldType := fun k => match k with
  | _ => .int
abbrev wsJ90 : List Cond := u_ws RJ9 TJ9 0
theorem nmJ9 : ∀ a, a < 0 → ∀ b, b < 0 → a ≠ b → (TJ9 a).2.1 ≠ (TJ9 b).2.1 := by decide +kernel
theorem tyJ9_ok : ∀ k, k < 0 → parseFieldDescriptor (TJ9 k).2.2.1 = some (tyJ9 k) := by decide +kernel
abbrev cJ9_max_7cf53 : ByteArray := prog_17_method_65_code
def yJ9_max_7cf53 : MethodName := ⟨RJ9, "max", "(II)I"⟩
abbrev cJ9_max_f86c9 : ByteArray := prog_17_method_66_code
def yJ9_max_f86c9 : MethodName := ⟨RJ9, "max", "(JJ)J"⟩
abbrev cJ9_min_7cf53 : ByteArray := prog_17_method_69_code
def yJ9_min_7cf53 : MethodName := ⟨RJ9, "min", "(II)I"⟩
abbrev cJ9_min_f86c9 : ByteArray := prog_17_method_70_code
def yJ9_min_f86c9 : MethodName := ⟨RJ9, "min", "(JJ)J"⟩
def RJ0 : String := "java/lang/String"
def TJ0 : u_T := fun k => match k with
  | _ => ("", "", "", false)
def tyJ0 : Nat → FieldType := fun k => match k with
  | _ => .int
abbrev wsJ00 : List Cond := u_ws RJ0 TJ0 0
theorem nmJ0 : ∀ a, a < 0 → ∀ b, b < 0 → a ≠ b → (TJ0 a).2.1 ≠ (TJ0 b).2.1 := by decide +kernel
theorem tyJ0_ok : ∀ k, k < 0 → parseFieldDescriptor (TJ0 k).2.2.1 = some (tyJ0 k) := by decide +kernel
def RL : String := "TableWrightLaw"
abbrev cL_below : ByteArray := method_2_code
def yL_below : MethodName := ⟨RL, "below", "(II)I"⟩
abbrev cL_cell : ByteArray := method_3_code
def yL_cell : MethodName := ⟨RL, "cell", "([II)I"⟩
abbrev cL_law : ByteArray := code
def yL_law : MethodName := ⟨RL, "law", "([I)Z"⟩
abbrev cL_isLaid : ByteArray := method_5_code
def yL_isLaid : MethodName := ⟨RL, "isLaid", "(LTableWright;II[I[Z)Z"⟩
abbrev cL_isTogether : ByteArray := method_6_code
def yL_isTogether : MethodName := ⟨RL, "isTogether", "(LTableWright;III[I[Z)Z"⟩
def wsX0_init : List Cond := .code yX0_init cX0_init 1 none :: ([.methodLink RX0 3 objectInit, .instanceMethod objectInit, .code objectInit ⟨#[0xb1]⟩ 1 none, .arrayClass .int, .fieldLink RX0 9 "TableWright$Layout" "widths" "[I", .fieldLink RX0 15 "TableWright$Layout" "heights" "[I", .fieldLink RX0 18 "TableWright$Layout" "rowPages" "[I", .fieldLink RX0 21 "TableWright$Layout" "notePages" "[I", .fieldLink RX0 24 "TableWright$Layout" "firstRows" "[I", .fieldLink RX0 27 "TableWright$Layout" "rowsOn" "[I", .fieldLink RX0 30 "TableWright$Layout" "notesOn" "[I", .fieldLink RX0 33 "TableWright$Layout" "left" "[I", .fieldLink RX0 36 "TableWright$Layout" "lastRows" "[I"] ++ wsX00)
def wsX0_tableWidth : List Cond := .code yX0_tableWidth cX0_tableWidth 4 (some .int) :: ([.fieldLink RX0 9 "TableWright$Layout" "widths" "[I"] ++ wsX30 ++ wsX00)
def wsX0_mostSpareColumn : List Cond := .code yX0_mostSpareColumn cX0_mostSpareColumn 6 (some .int) :: ([.fieldLink RX0 9 "TableWright$Layout" "widths" "[I"] ++ wsX30 ++ wsX00)
def wsX0_isWidthFit : List Cond := .code yX0_isWidthFit cX0_isWidthFit 5 (some .boolean) :: ([.fieldLink RX0 9 "TableWright$Layout" "widths" "[I", .methodLink RX0 112 yX0_tableWidth, .instanceMethod yX0_tableWidth, .selects RX0 yX0_tableWidth yX0_tableWidth, .initialized RX0, .code yX0_tableWidth cX0_tableWidth 4 (some .int), .methodLink RX0 116 yX0_mostSpareColumn, .instanceMethod yX0_mostSpareColumn, .selects RX0 yX0_mostSpareColumn yX0_mostSpareColumn, .code yX0_mostSpareColumn cX0_mostSpareColumn 6 (some .int)] ++ wsX30 ++ wsX00)
def wsX3_isSpanning : List Cond := .code yX3_isSpanning cX3_isSpanning 3 (some .boolean) :: ([.fieldLink RX3 37 "TableWright$Sheet" "columnCount" "I", .fieldLink RX3 26 "TableWright$Sheet" "rows" "[LTableWright$Row;"] ++ wsX30 ++ wsX10)
def wsX0_heightOfCell : List Cond := .code yX0_heightOfCell cX0_heightOfCell 6 (some .int) :: ([.fieldLink RX0 9 "TableWright$Layout" "widths" "[I", .methodLink RX0 104 Lib.Math.max.name, .static Lib.Math.max.name, .initialized "java/lang/Math", .code Lib.Math.max.name Lib.Math.max.code 2 (some .int), .methodLink RX0 97 yX3_isSpanning, .instanceMethod yX3_isSpanning, .selects RX3 yX3_isSpanning yX3_isSpanning, .initialized RX3, .code yX3_isSpanning cX3_isSpanning 3 (some .boolean), .fieldLink RX3 37 "TableWright$Sheet" "columnCount" "I", .fieldLink RX3 26 "TableWright$Sheet" "rows" "[LTableWright$Row;"] ++ wsX30 ++ wsX10 ++ wsX00)
def wsX0_areHeightsFit : List Cond := .code yX0_areHeightsFit cX0_areHeightsFit 5 (some .boolean) :: ([.methodLink RX0 104 Lib.Math.max.name, .static Lib.Math.max.name, .initialized "java/lang/Math", .code Lib.Math.max.name Lib.Math.max.code 2 (some .int), .fieldLink RX0 39 "TableWright$Layout" "room" "I", .fieldLink RX0 15 "TableWright$Layout" "heights" "[I", .methodLink RX0 122 yX0_heightOfCell, .instanceMethod yX0_heightOfCell, .selects RX0 yX0_heightOfCell yX0_heightOfCell, .initialized RX0, .code yX0_heightOfCell cX0_heightOfCell 6 (some .int), .fieldLink RX0 9 "TableWright$Layout" "widths" "[I", .methodLink RX0 97 yX3_isSpanning, .instanceMethod yX3_isSpanning, .selects RX3 yX3_isSpanning yX3_isSpanning, .initialized RX3, .code yX3_isSpanning cX3_isSpanning 3 (some .boolean), .fieldLink RX3 37 "TableWright$Sheet" "columnCount" "I", .fieldLink RX3 26 "TableWright$Sheet" "rows" "[LTableWright$Row;"] ++ wsX30 ++ wsX00 ++ wsX10)
def wsX0_putWaitingNotes : List Cond := .code yX0_putWaitingNotes cX0_putWaitingNotes 4 none :: ([.fieldLink RX0 61 "TableWright$Layout" "nextNote" "I", .fieldLink RX0 58 "TableWright$Layout" "nextRow" "I", .fieldLink RX0 33 "TableWright$Layout" "left" "[I", .fieldLink RX0 21 "TableWright$Layout" "notePages" "[I", .fieldLink RX0 30 "TableWright$Layout" "notesOn" "[I"] ++ wsX00 ++ wsX30 ++ wsX10)
def wsX0_heightOfGroup : List Cond := .code yX0_heightOfGroup cX0_heightOfGroup 5 (some .int) :: ([.fieldLink RX0 15 "TableWright$Layout" "heights" "[I"] ++ wsX00 ++ wsX30 ++ wsX10)
def wsX0_hasRoomForNextRow : List Cond := .code yX0_hasRoomForNextRow cX0_hasRoomForNextRow 5 (some .boolean) :: ([.fieldLink RX0 15 "TableWright$Layout" "heights" "[I", .fieldLink RX0 58 "TableWright$Layout" "nextRow" "I", .fieldLink RX0 33 "TableWright$Layout" "left" "[I", .fieldLink RX0 27 "TableWright$Layout" "rowsOn" "[I", .fieldLink RX0 39 "TableWright$Layout" "room" "I", .methodLink RX0 142 yX0_heightOfGroup, .instanceMethod yX0_heightOfGroup, .selects RX0 yX0_heightOfGroup yX0_heightOfGroup, .initialized RX0, .code yX0_heightOfGroup cX0_heightOfGroup 5 (some .int)] ++ wsX00 ++ wsX30 ++ wsX10)
def wsX0_putNextRow : List Cond := .code yX0_putNextRow cX0_putNextRow 2 none :: ([.fieldLink RX0 27 "TableWright$Layout" "rowsOn" "[I", .fieldLink RX0 24 "TableWright$Layout" "firstRows" "[I", .fieldLink RX0 58 "TableWright$Layout" "nextRow" "I", .fieldLink RX0 18 "TableWright$Layout" "rowPages" "[I", .fieldLink RX0 33 "TableWright$Layout" "left" "[I", .fieldLink RX0 15 "TableWright$Layout" "heights" "[I"] ++ wsX00)
def wsX0_fillPage_r1 : List Cond := [Cond.fieldLink RX0 24 "TableWright$Layout" "firstRows" "[I", Cond.fieldLink RX0 27 "TableWright$Layout" "rowsOn" "[I", Cond.fieldLink RX0 30 "TableWright$Layout" "notesOn" "[I", Cond.fieldLink RX0 33 "TableWright$Layout" "left" "[I", Cond.fieldLink RX0 39 "TableWright$Layout" "room" "I", Cond.fieldLink RX0 58 "TableWright$Layout" "nextRow" "I", Cond.fieldLink RX0 61 "TableWright$Layout" "nextNote" "I", Cond.fieldLink RX0 36 "TableWright$Layout" "lastRows" "[I", Cond.methodLink RX0 126 yX0_putWaitingNotes, Cond.instanceMethod yX0_putWaitingNotes, Cond.selects RX0 yX0_putWaitingNotes yX0_putWaitingNotes, Cond.initialized RX0, Cond.code yX0_putWaitingNotes cX0_putWaitingNotes 4 none, Cond.fieldLink RX0 21 "TableWright$Layout" "notePages" "[I", Cond.methodLink RX0 129 yX0_hasRoomForNextRow, Cond.instanceMethod yX0_hasRoomForNextRow, Cond.selects RX0 yX0_hasRoomForNextRow yX0_hasRoomForNextRow, Cond.code yX0_hasRoomForNextRow cX0_hasRoomForNextRow 5 (some .boolean), Cond.fieldLink RX0 15 "TableWright$Layout" "heights" "[I", Cond.methodLink RX0 142 yX0_heightOfGroup, Cond.instanceMethod yX0_heightOfGroup, Cond.selects RX0 yX0_heightOfGroup yX0_heightOfGroup, Cond.code yX0_heightOfGroup cX0_heightOfGroup 5 (some .int), Cond.methodLink RX0 132 yX0_putNextRow]
def wsX0_fillPage_r2 : List Cond := [Cond.instanceMethod yX0_putNextRow, Cond.selects RX0 yX0_putNextRow yX0_putNextRow, Cond.code yX0_putNextRow cX0_putNextRow 2 none, Cond.fieldLink RX0 18 "TableWright$Layout" "rowPages" "[I"]
def wsX0_fillPage : List Cond := .code yX0_fillPage cX0_fillPage 4 none :: ((wsX0_fillPage_r1 ++ wsX0_fillPage_r2) ++ wsX00 ++ wsX30 ++ wsX10)
def wsX0_arrange_r1 : List Cond := [Cond.fieldLink RX0 39 "TableWright$Layout" "room" "I", Cond.fieldLink RX0 51 "TableWright$Layout" "isFit" "Z", Cond.fieldLink RX0 55 "TableWright$Layout" "pageCount" "I", Cond.fieldLink RX0 58 "TableWright$Layout" "nextRow" "I", Cond.fieldLink RX0 61 "TableWright$Layout" "nextNote" "I", Cond.methodLink RX0 43 yX0_isWidthFit, Cond.instanceMethod yX0_isWidthFit, Cond.selects RX0 yX0_isWidthFit yX0_isWidthFit, Cond.initialized RX0, Cond.code yX0_isWidthFit cX0_isWidthFit 5 (some .boolean), Cond.fieldLink RX0 9 "TableWright$Layout" "widths" "[I", Cond.methodLink RX0 112 yX0_tableWidth, Cond.instanceMethod yX0_tableWidth, Cond.selects RX0 yX0_tableWidth yX0_tableWidth, Cond.code yX0_tableWidth cX0_tableWidth 4 (some .int), Cond.methodLink RX0 116 yX0_mostSpareColumn, Cond.instanceMethod yX0_mostSpareColumn, Cond.selects RX0 yX0_mostSpareColumn yX0_mostSpareColumn, Cond.code yX0_mostSpareColumn cX0_mostSpareColumn 6 (some .int), Cond.methodLink RX0 47 yX0_areHeightsFit, Cond.instanceMethod yX0_areHeightsFit, Cond.selects RX0 yX0_areHeightsFit yX0_areHeightsFit, Cond.code yX0_areHeightsFit cX0_areHeightsFit 5 (some .boolean), Cond.methodLink RX0 104 Lib.Math.max.name]
def wsX0_arrange_r2 : List Cond := [Cond.static Lib.Math.max.name, Cond.initialized "java/lang/Math", Cond.code Lib.Math.max.name Lib.Math.max.code 2 (some .int), Cond.fieldLink RX0 15 "TableWright$Layout" "heights" "[I", Cond.methodLink RX0 122 yX0_heightOfCell, Cond.instanceMethod yX0_heightOfCell, Cond.selects RX0 yX0_heightOfCell yX0_heightOfCell, Cond.code yX0_heightOfCell cX0_heightOfCell 6 (some .int), Cond.methodLink RX0 97 yX3_isSpanning, Cond.instanceMethod yX3_isSpanning, Cond.selects RX3 yX3_isSpanning yX3_isSpanning, Cond.initialized RX3, Cond.code yX3_isSpanning cX3_isSpanning 3 (some .boolean), Cond.fieldLink RX3 37 "TableWright$Sheet" "columnCount" "I", Cond.fieldLink RX3 26 "TableWright$Sheet" "rows" "[LTableWright$Row;", Cond.methodLink RX0 69 yX0_fillPage, Cond.instanceMethod yX0_fillPage, Cond.selects RX0 yX0_fillPage yX0_fillPage, Cond.code yX0_fillPage cX0_fillPage 4 none, Cond.fieldLink RX0 24 "TableWright$Layout" "firstRows" "[I", Cond.fieldLink RX0 27 "TableWright$Layout" "rowsOn" "[I", Cond.fieldLink RX0 30 "TableWright$Layout" "notesOn" "[I", Cond.fieldLink RX0 33 "TableWright$Layout" "left" "[I", Cond.fieldLink RX0 36 "TableWright$Layout" "lastRows" "[I"]
def wsX0_arrange_r3 : List Cond := [Cond.methodLink RX0 126 yX0_putWaitingNotes, Cond.instanceMethod yX0_putWaitingNotes, Cond.selects RX0 yX0_putWaitingNotes yX0_putWaitingNotes, Cond.code yX0_putWaitingNotes cX0_putWaitingNotes 4 none, Cond.fieldLink RX0 21 "TableWright$Layout" "notePages" "[I", Cond.methodLink RX0 129 yX0_hasRoomForNextRow, Cond.instanceMethod yX0_hasRoomForNextRow, Cond.selects RX0 yX0_hasRoomForNextRow yX0_hasRoomForNextRow, Cond.code yX0_hasRoomForNextRow cX0_hasRoomForNextRow 5 (some .boolean), Cond.methodLink RX0 142 yX0_heightOfGroup, Cond.instanceMethod yX0_heightOfGroup, Cond.selects RX0 yX0_heightOfGroup yX0_heightOfGroup, Cond.code yX0_heightOfGroup cX0_heightOfGroup 5 (some .int), Cond.methodLink RX0 132 yX0_putNextRow, Cond.instanceMethod yX0_putNextRow, Cond.selects RX0 yX0_putNextRow yX0_putNextRow, Cond.code yX0_putNextRow cX0_putNextRow 2 none, Cond.fieldLink RX0 18 "TableWright$Layout" "rowPages" "[I"]
def wsX0_arrange : List Cond := .code yX0_arrange cX0_arrange 4 none :: ((wsX0_arrange_r1 ++ (wsX0_arrange_r2 ++ wsX0_arrange_r3)) ++ wsX00 ++ wsX30 ++ wsX10)
def wsX0_pagesOrNone : List Cond := .code yX0_pagesOrNone cX0_pagesOrNone 1 (some .int) :: ([.fieldLink RX0 51 "TableWright$Layout" "isFit" "Z", .fieldLink RX0 55 "TableWright$Layout" "pageCount" "I"] ++ wsX00)
def wsX0_heightOfRows : List Cond := .code yX0_heightOfRows cX0_heightOfRows 4 (some .int) :: ([.fieldLink RX0 15 "TableWright$Layout" "heights" "[I"] ++ wsX30 ++ wsX00)
def wsX0_notesElsewhere : List Cond := .code yX0_notesElsewhere cX0_notesElsewhere 4 (some .int) :: ([.fieldLink RX0 21 "TableWright$Layout" "notePages" "[I", .fieldLink RX0 18 "TableWright$Layout" "rowPages" "[I"] ++ wsX30 ++ wsX00)
def wsX3_sumUpTo : List Cond := .code yX3_sumUpTo cX3_sumUpTo 3 (some .int) :: ([.fieldLink RX3 9 "TableWright$Sheet" "kinds" "[I", .fieldLink RX3 26 "TableWright$Sheet" "rows" "[LTableWright$Row;"] ++ wsX30 ++ wsX10)
def wsX0_carriedOn : List Cond := .code yX0_carriedOn cX0_carriedOn 4 (some .int) :: ([.fieldLink RX0 36 "TableWright$Layout" "lastRows" "[I", .methodLink RX0 76 yX3_sumUpTo, .instanceMethod yX3_sumUpTo, .selects RX3 yX3_sumUpTo yX3_sumUpTo, .initialized RX3, .code yX3_sumUpTo cX3_sumUpTo 3 (some .int), .fieldLink RX3 9 "TableWright$Sheet" "kinds" "[I", .fieldLink RX3 26 "TableWright$Sheet" "rows" "[LTableWright$Row;"] ++ wsX00 ++ wsX30 ++ wsX10)
def wsX0_shownCells : List Cond := .code yX0_shownCells cX0_shownCells 4 (some .int) :: ([] ++ wsX30 ++ wsX10)
def wsX0_readAloud : List Cond := .code yX0_readAloud cX0_readAloud 5 (some .int) :: ([.fieldLink RX0 30 "TableWright$Layout" "notesOn" "[I", .fieldLink RX0 18 "TableWright$Layout" "rowPages" "[I", .methodLink RX0 83 yX0_shownCells, .static yX0_shownCells, .initialized RX0, .code yX0_shownCells cX0_shownCells 4 (some .int)] ++ wsX30 ++ wsX00 ++ wsX10)
def wsX1_init : List Cond := .code yX1_init cX1_init 1 none :: ([.methodLink RX1 3 objectInit, .instanceMethod objectInit, .code objectInit ⟨#[0xb1]⟩ 1 none, .arrayClass .int, .fieldLink RX1 9 "TableWright$Row" "values" "[I", .fieldLink RX1 15 "TableWright$Row" "lengths" "[I", .fieldLink RX1 18 "TableWright$Row" "words" "[I", .arrayClass .boolean, .fieldLink RX1 21 "TableWright$Row" "isToSpan" "[Z", .fieldLink RX1 25 "TableWright$Row" "sums" "[I", .fieldLink RX1 28 "TableWright$Row" "isHidden" "[Z"] ++ wsX10)
def wsX1_clear : List Cond := .code yX1_clear cX1_clear 2 none :: ([.fieldLink RX1 9 "TableWright$Row" "values" "[I", .fieldLink RX1 15 "TableWright$Row" "lengths" "[I", .fieldLink RX1 18 "TableWright$Row" "words" "[I", .fieldLink RX1 21 "TableWright$Row" "isToSpan" "[Z", .fieldLink RX1 31 "TableWright$Row" "noteLines" "I", .fieldLink RX1 35 "TableWright$Row" "isKept" "Z"] ++ wsX10)
def wsX1_copyFrom : List Cond := .code yX1_copyFrom cX1_copyFrom 3 none :: ([.fieldLink RX1 9 "TableWright$Row" "values" "[I", .fieldLink RX1 15 "TableWright$Row" "lengths" "[I", .fieldLink RX1 18 "TableWright$Row" "words" "[I", .fieldLink RX1 21 "TableWright$Row" "isToSpan" "[Z", .fieldLink RX1 31 "TableWright$Row" "noteLines" "I", .fieldLink RX1 35 "TableWright$Row" "isKept" "Z"] ++ wsX10)
def wsX2_init : List Cond := .code yX2_init cX2_init 1 none :: ([.methodLink RX2 1 objectInit, .instanceMethod objectInit, .code objectInit ⟨#[0xb1]⟩ 1 none, .classLink RX2 7 RX0, .instantiable RX0 14, .initialized RX0, .fieldLink RX2 10 "TableWright$Setting" "upright" "LTableWright$Layout;", .fieldLink RX2 16 "TableWright$Setting" "turned" "LTableWright$Layout;", .instanceMethod yX0_init, .code yX0_init cX0_init 1 none, .methodLink RX0 3 objectInit, .arrayClass .int, .fieldLink RX0 9 "TableWright$Layout" "widths" "[I", .fieldLink RX0 15 "TableWright$Layout" "heights" "[I", .fieldLink RX0 18 "TableWright$Layout" "rowPages" "[I", .fieldLink RX0 21 "TableWright$Layout" "notePages" "[I", .fieldLink RX0 24 "TableWright$Layout" "firstRows" "[I", .fieldLink RX0 27 "TableWright$Layout" "rowsOn" "[I", .fieldLink RX0 30 "TableWright$Layout" "notesOn" "[I", .fieldLink RX0 33 "TableWright$Layout" "left" "[I", .fieldLink RX0 36 "TableWright$Layout" "lastRows" "[I"] ++ wsX00 ++ wsX20)
def wsX2_arrange_r1 : List Cond := [Cond.fieldLink RX2 10 "TableWright$Setting" "upright" "LTableWright$Layout;", Cond.fieldLink RX2 16 "TableWright$Setting" "turned" "LTableWright$Layout;", Cond.fieldLink RX2 31 "TableWright$Setting" "isTurned" "Z", Cond.methodLink RX2 19 yX0_arrange, Cond.instanceMethod yX0_arrange, Cond.selects RX0 yX0_arrange yX0_arrange, Cond.initialized RX0, Cond.code yX0_arrange cX0_arrange 4 none, Cond.fieldLink RX0 39 "TableWright$Layout" "room" "I", Cond.fieldLink RX0 51 "TableWright$Layout" "isFit" "Z", Cond.fieldLink RX0 55 "TableWright$Layout" "pageCount" "I", Cond.fieldLink RX0 58 "TableWright$Layout" "nextRow" "I", Cond.fieldLink RX0 61 "TableWright$Layout" "nextNote" "I", Cond.methodLink RX0 43 yX0_isWidthFit, Cond.instanceMethod yX0_isWidthFit, Cond.selects RX0 yX0_isWidthFit yX0_isWidthFit, Cond.code yX0_isWidthFit cX0_isWidthFit 5 (some .boolean), Cond.fieldLink RX0 9 "TableWright$Layout" "widths" "[I", Cond.methodLink RX0 112 yX0_tableWidth, Cond.instanceMethod yX0_tableWidth, Cond.selects RX0 yX0_tableWidth yX0_tableWidth, Cond.code yX0_tableWidth cX0_tableWidth 4 (some .int), Cond.methodLink RX0 116 yX0_mostSpareColumn, Cond.instanceMethod yX0_mostSpareColumn]
def wsX2_arrange_r2 : List Cond := [Cond.selects RX0 yX0_mostSpareColumn yX0_mostSpareColumn, Cond.code yX0_mostSpareColumn cX0_mostSpareColumn 6 (some .int), Cond.methodLink RX0 47 yX0_areHeightsFit, Cond.instanceMethod yX0_areHeightsFit, Cond.selects RX0 yX0_areHeightsFit yX0_areHeightsFit, Cond.code yX0_areHeightsFit cX0_areHeightsFit 5 (some .boolean), Cond.methodLink RX0 104 Lib.Math.max.name, Cond.static Lib.Math.max.name, Cond.initialized "java/lang/Math", Cond.code Lib.Math.max.name Lib.Math.max.code 2 (some .int), Cond.fieldLink RX0 15 "TableWright$Layout" "heights" "[I", Cond.methodLink RX0 122 yX0_heightOfCell, Cond.instanceMethod yX0_heightOfCell, Cond.selects RX0 yX0_heightOfCell yX0_heightOfCell, Cond.code yX0_heightOfCell cX0_heightOfCell 6 (some .int), Cond.methodLink RX0 97 yX3_isSpanning, Cond.instanceMethod yX3_isSpanning, Cond.selects RX3 yX3_isSpanning yX3_isSpanning, Cond.initialized RX3, Cond.code yX3_isSpanning cX3_isSpanning 3 (some .boolean), Cond.fieldLink RX3 37 "TableWright$Sheet" "columnCount" "I", Cond.fieldLink RX3 26 "TableWright$Sheet" "rows" "[LTableWright$Row;", Cond.methodLink RX0 69 yX0_fillPage, Cond.instanceMethod yX0_fillPage]
def wsX2_arrange_r3 : List Cond := [Cond.selects RX0 yX0_fillPage yX0_fillPage, Cond.code yX0_fillPage cX0_fillPage 4 none, Cond.fieldLink RX0 24 "TableWright$Layout" "firstRows" "[I", Cond.fieldLink RX0 27 "TableWright$Layout" "rowsOn" "[I", Cond.fieldLink RX0 30 "TableWright$Layout" "notesOn" "[I", Cond.fieldLink RX0 33 "TableWright$Layout" "left" "[I", Cond.fieldLink RX0 36 "TableWright$Layout" "lastRows" "[I", Cond.methodLink RX0 126 yX0_putWaitingNotes, Cond.instanceMethod yX0_putWaitingNotes, Cond.selects RX0 yX0_putWaitingNotes yX0_putWaitingNotes, Cond.code yX0_putWaitingNotes cX0_putWaitingNotes 4 none, Cond.fieldLink RX0 21 "TableWright$Layout" "notePages" "[I", Cond.methodLink RX0 129 yX0_hasRoomForNextRow, Cond.instanceMethod yX0_hasRoomForNextRow, Cond.selects RX0 yX0_hasRoomForNextRow yX0_hasRoomForNextRow, Cond.code yX0_hasRoomForNextRow cX0_hasRoomForNextRow 5 (some .boolean), Cond.methodLink RX0 142 yX0_heightOfGroup, Cond.instanceMethod yX0_heightOfGroup, Cond.selects RX0 yX0_heightOfGroup yX0_heightOfGroup, Cond.code yX0_heightOfGroup cX0_heightOfGroup 5 (some .int), Cond.methodLink RX0 132 yX0_putNextRow, Cond.instanceMethod yX0_putNextRow, Cond.selects RX0 yX0_putNextRow yX0_putNextRow, Cond.code yX0_putNextRow cX0_putNextRow 2 none]
def wsX2_arrange_r4 : List Cond := [Cond.fieldLink RX0 18 "TableWright$Layout" "rowPages" "[I"]
def wsX2_arrange : List Cond := .code yX2_arrange cX2_arrange 5 none :: ((wsX2_arrange_r1 ++ (wsX2_arrange_r2 ++ (wsX2_arrange_r3 ++ wsX2_arrange_r4))) ++ wsX20 ++ wsX00 ++ wsX30 ++ wsX10)
def wsX2_chosen : List Cond := .code yX2_chosen cX2_chosen 1 (some (.object "TableWright$Layout")) :: ([.fieldLink RX2 31 "TableWright$Setting" "isTurned" "Z", .fieldLink RX2 16 "TableWright$Setting" "turned" "LTableWright$Layout;", .fieldLink RX2 10 "TableWright$Setting" "upright" "LTableWright$Layout;"] ++ wsX20)
def wsX3_init : List Cond := .code yX3_init cX3_init 2 none :: ([.methodLink RX3 3 objectInit, .instanceMethod objectInit, .code objectInit ⟨#[0xb1]⟩ 1 none, .arrayClass .int, .fieldLink RX3 9 "TableWright$Sheet" "kinds" "[I", .fieldLink RX3 15 "TableWright$Sheet" "titles" "[I", .fieldLink RX3 18 "TableWright$Sheet" "firsts" "[I", .fieldLink RX3 21 "TableWright$Sheet" "seconds" "[I", .classLink RX3 24 RX1, .fieldLink RX3 26 "TableWright$Sheet" "rows" "[LTableWright$Row;", .fieldLink RX3 30 "TableWright$Sheet" "leasts" "[I", .fieldLink RX3 33 "TableWright$Sheet" "bests" "[I", .instantiable RX1 8, .initialized RX1, .instanceMethod yX1_init, .code yX1_init cX1_init 1 none, .methodLink RX1 3 objectInit, .fieldLink RX1 9 "TableWright$Row" "values" "[I", .fieldLink RX1 15 "TableWright$Row" "lengths" "[I", .fieldLink RX1 18 "TableWright$Row" "words" "[I", .arrayClass .boolean, .fieldLink RX1 21 "TableWright$Row" "isToSpan" "[Z", .fieldLink RX1 25 "TableWright$Row" "sums" "[I", .fieldLink RX1 28 "TableWright$Row" "isHidden" "[Z"] ++ wsX30 ++ wsX10)
def wsX3_addColumn : List Cond := .code yX3_addColumn cX3_addColumn 4 (some .int) :: ([.fieldLink RX3 37 "TableWright$Sheet" "columnCount" "I", .fieldLink RX3 9 "TableWright$Sheet" "kinds" "[I", .fieldLink RX3 15 "TableWright$Sheet" "titles" "[I"] ++ wsX30)
def wsX3_addRow : List Cond := .code yX3_addRow cX3_addRow 1 (some .int) :: ([.fieldLink RX3 26 "TableWright$Sheet" "rows" "[LTableWright$Row;", .fieldLink RX3 41 "TableWright$Sheet" "rowCount" "I", .methodLink RX3 44 yX1_clear, .instanceMethod yX1_clear, .selects RX1 yX1_clear yX1_clear, .initialized RX1, .code yX1_clear cX1_clear 2 none, .fieldLink RX1 9 "TableWright$Row" "values" "[I", .fieldLink RX1 15 "TableWright$Row" "lengths" "[I", .fieldLink RX1 18 "TableWright$Row" "words" "[I", .fieldLink RX1 21 "TableWright$Row" "isToSpan" "[Z", .fieldLink RX1 31 "TableWright$Row" "noteLines" "I", .fieldLink RX1 35 "TableWright$Row" "isKept" "Z"] ++ wsX30 ++ wsX10)
def wsX3_copyFrom : List Cond := .code yX3_copyFrom cX3_copyFrom 3 none :: ([.fieldLink RX3 37 "TableWright$Sheet" "columnCount" "I", .fieldLink RX3 9 "TableWright$Sheet" "kinds" "[I", .fieldLink RX3 15 "TableWright$Sheet" "titles" "[I", .fieldLink RX3 18 "TableWright$Sheet" "firsts" "[I", .fieldLink RX3 21 "TableWright$Sheet" "seconds" "[I", .fieldLink RX3 41 "TableWright$Sheet" "rowCount" "I", .fieldLink RX3 26 "TableWright$Sheet" "rows" "[LTableWright$Row;", .methodLink RX3 47 yX1_copyFrom, .instanceMethod yX1_copyFrom, .selects RX1 yX1_copyFrom yX1_copyFrom, .initialized RX1, .code yX1_copyFrom cX1_copyFrom 3 none, .fieldLink RX1 9 "TableWright$Row" "values" "[I", .fieldLink RX1 15 "TableWright$Row" "lengths" "[I", .fieldLink RX1 18 "TableWright$Row" "words" "[I", .fieldLink RX1 21 "TableWright$Row" "isToSpan" "[Z", .fieldLink RX1 31 "TableWright$Row" "noteLines" "I", .fieldLink RX1 35 "TableWright$Row" "isKept" "Z"] ++ wsX30 ++ wsX10)
def wsX3_linesOfNotes : List Cond := .code yX3_linesOfNotes cX3_linesOfNotes 3 (some .int) :: ([.fieldLink RX3 41 "TableWright$Sheet" "rowCount" "I", .fieldLink RX3 26 "TableWright$Sheet" "rows" "[LTableWright$Row;"] ++ wsX30 ++ wsX10)
def wsX3_reckonHidden : List Cond := .code yX3_reckonHidden cX3_reckonHidden 5 none :: ([.fieldLink RX3 9 "TableWright$Sheet" "kinds" "[I", .fieldLink RX3 41 "TableWright$Sheet" "rowCount" "I", .fieldLink RX3 26 "TableWright$Sheet" "rows" "[LTableWright$Row;"] ++ wsX30 ++ wsX10)
def wsX3_resultOf : List Cond := .code yX3_resultOf cX3_resultOf 7 (some .int) :: ([.constantLong RX3 84 (-99999), .constantLong RX3 86 (99999), .methodLink RX3 88 Lib.MathLoose.min_long.x, .static Lib.MathLoose.min_long.x, .initialized "java/lang/Math", .code Lib.MathLoose.min_long.x Lib.MathLoose.min_long.code 4 (some .long), .methodLink RX3 94 Lib.MathLoose.max_long.x, .static Lib.MathLoose.max_long.x, .code Lib.MathLoose.max_long.x Lib.MathLoose.max_long.code 4 (some .long)])
def wsX3_reckonNumbers : List Cond := .code yX3_reckonNumbers cX3_reckonNumbers 9 none :: ([.fieldLink RX3 41 "TableWright$Sheet" "rowCount" "I", .fieldLink RX3 26 "TableWright$Sheet" "rows" "[LTableWright$Row;", .fieldLink RX3 9 "TableWright$Sheet" "kinds" "[I", .fieldLink RX3 18 "TableWright$Sheet" "firsts" "[I", .fieldLink RX3 21 "TableWright$Sheet" "seconds" "[I", .methodLink RX3 80 yX3_resultOf, .static yX3_resultOf, .initialized RX3, .code yX3_resultOf cX3_resultOf 7 (some .int), .constantLong RX3 84 (-99999), .constantLong RX3 86 (99999), .methodLink RX3 88 Lib.MathLoose.min_long.x, .static Lib.MathLoose.min_long.x, .initialized "java/lang/Math", .code Lib.MathLoose.min_long.x Lib.MathLoose.min_long.code 4 (some .long), .methodLink RX3 94 Lib.MathLoose.max_long.x, .static Lib.MathLoose.max_long.x, .code Lib.MathLoose.max_long.x Lib.MathLoose.max_long.code 4 (some .long)] ++ wsX30 ++ wsX10)
def wsX3_measureText : List Cond := .code yX3_measureText cX3_measureText 5 none :: ([.fieldLink RX3 15 "TableWright$Sheet" "titles" "[I", .fieldLink RX3 41 "TableWright$Sheet" "rowCount" "I", .fieldLink RX3 26 "TableWright$Sheet" "rows" "[LTableWright$Row;", .methodLink RX3 104 Lib.Math.max.name, .static Lib.Math.max.name, .initialized "java/lang/Math", .code Lib.Math.max.name Lib.Math.max.code 2 (some .int), .fieldLink RX3 30 "TableWright$Sheet" "leasts" "[I", .fieldLink RX3 33 "TableWright$Sheet" "bests" "[I", .methodLink RX3 110 Lib.Math.min.name, .static Lib.Math.min.name, .code Lib.Math.min.name Lib.Math.min.code 2 (some .int), .methodLink RX3 97 yX3_isSpanning, .instanceMethod yX3_isSpanning, .selects RX3 yX3_isSpanning yX3_isSpanning, .initialized RX3, .code yX3_isSpanning cX3_isSpanning 3 (some .boolean), .fieldLink RX3 37 "TableWright$Sheet" "columnCount" "I"] ++ wsX30 ++ wsX10)
def wsX3_sizeOf : List Cond := .code yX3_sizeOf cX3_sizeOf 3 (some .int) :: ([])
def wsX3_measureNumbers : List Cond := .code yX3_measureNumbers cX3_measureNumbers 4 none :: ([.fieldLink RX3 15 "TableWright$Sheet" "titles" "[I", .fieldLink RX3 41 "TableWright$Sheet" "rowCount" "I", .fieldLink RX3 26 "TableWright$Sheet" "rows" "[LTableWright$Row;", .methodLink RX3 104 Lib.Math.max.name, .static Lib.Math.max.name, .initialized "java/lang/Math", .code Lib.Math.max.name Lib.Math.max.code 2 (some .int), .fieldLink RX3 30 "TableWright$Sheet" "leasts" "[I", .fieldLink RX3 33 "TableWright$Sheet" "bests" "[I", .methodLink RX3 112 yX3_sizeOf, .static yX3_sizeOf, .initialized RX3, .code yX3_sizeOf cX3_sizeOf 3 (some .int)] ++ wsX30 ++ wsX10)
def wsX3_reckon_r1 : List Cond := [Cond.fieldLink RX3 37 "TableWright$Sheet" "columnCount" "I", Cond.fieldLink RX3 9 "TableWright$Sheet" "kinds" "[I", Cond.methodLink RX3 61 yX3_reckonHidden, Cond.instanceMethod yX3_reckonHidden, Cond.selects RX3 yX3_reckonHidden yX3_reckonHidden, Cond.initialized RX3, Cond.code yX3_reckonHidden cX3_reckonHidden 5 none, Cond.fieldLink RX3 41 "TableWright$Sheet" "rowCount" "I", Cond.fieldLink RX3 26 "TableWright$Sheet" "rows" "[LTableWright$Row;", Cond.methodLink RX3 65 yX3_reckonNumbers, Cond.instanceMethod yX3_reckonNumbers, Cond.selects RX3 yX3_reckonNumbers yX3_reckonNumbers, Cond.code yX3_reckonNumbers cX3_reckonNumbers 9 none, Cond.fieldLink RX3 18 "TableWright$Sheet" "firsts" "[I", Cond.fieldLink RX3 21 "TableWright$Sheet" "seconds" "[I", Cond.methodLink RX3 80 yX3_resultOf, Cond.static yX3_resultOf, Cond.code yX3_resultOf cX3_resultOf 7 (some .int), Cond.constantLong RX3 84 (-99999), Cond.constantLong RX3 86 (99999), Cond.methodLink RX3 88 Lib.MathLoose.min_long.x, Cond.static Lib.MathLoose.min_long.x, Cond.initialized "java/lang/Math", Cond.code Lib.MathLoose.min_long.x Lib.MathLoose.min_long.code 4 (some .long)]
def wsX3_reckon_r2 : List Cond := [Cond.methodLink RX3 94 Lib.MathLoose.max_long.x, Cond.static Lib.MathLoose.max_long.x, Cond.code Lib.MathLoose.max_long.x Lib.MathLoose.max_long.code 4 (some .long), Cond.methodLink RX3 68 yX3_measureText, Cond.instanceMethod yX3_measureText, Cond.selects RX3 yX3_measureText yX3_measureText, Cond.code yX3_measureText cX3_measureText 5 none, Cond.fieldLink RX3 15 "TableWright$Sheet" "titles" "[I", Cond.methodLink RX3 104 Lib.Math.max.name, Cond.static Lib.Math.max.name, Cond.code Lib.Math.max.name Lib.Math.max.code 2 (some .int), Cond.fieldLink RX3 30 "TableWright$Sheet" "leasts" "[I", Cond.fieldLink RX3 33 "TableWright$Sheet" "bests" "[I", Cond.methodLink RX3 110 Lib.Math.min.name, Cond.static Lib.Math.min.name, Cond.code Lib.Math.min.name Lib.Math.min.code 2 (some .int), Cond.methodLink RX3 97 yX3_isSpanning, Cond.instanceMethod yX3_isSpanning, Cond.selects RX3 yX3_isSpanning yX3_isSpanning, Cond.code yX3_isSpanning cX3_isSpanning 3 (some .boolean), Cond.methodLink RX3 71 yX3_measureNumbers, Cond.instanceMethod yX3_measureNumbers, Cond.selects RX3 yX3_measureNumbers yX3_measureNumbers, Cond.code yX3_measureNumbers cX3_measureNumbers 4 none]
def wsX3_reckon_r3 : List Cond := [Cond.methodLink RX3 112 yX3_sizeOf, Cond.static yX3_sizeOf, Cond.code yX3_sizeOf cX3_sizeOf 3 (some .int)]
def wsX3_reckon : List Cond := .code yX3_reckon cX3_reckon 2 none :: ((wsX3_reckon_r1 ++ (wsX3_reckon_r2 ++ wsX3_reckon_r3)) ++ wsX30 ++ wsX10)
def wsX4_init_r1 : List Cond := [Cond.methodLink RX4 3 objectInit, Cond.instanceMethod objectInit, Cond.code objectInit ⟨#[0xb1]⟩ 1 none, Cond.classLink RX4 9 RX3, Cond.instantiable RX3 9, Cond.initialized RX3, Cond.fieldLink RX4 12 "TableWright" "sheet" "LTableWright$Sheet;", Cond.classLink RX4 16 RX2, Cond.instantiable RX2 3, Cond.initialized RX2, Cond.fieldLink RX4 19 "TableWright" "setting" "LTableWright$Setting;", Cond.fieldLink RX4 23 "TableWright" "wide" "I", Cond.fieldLink RX4 27 "TableWright" "high" "I", Cond.fieldLink RX4 30 "TableWright" "isStale" "Z", Cond.fieldLink RX4 34 "TableWright" "trialSheet" "LTableWright$Sheet;", Cond.fieldLink RX4 37 "TableWright" "trialSetting" "LTableWright$Setting;", Cond.classLink RX4 40 RX0, Cond.instantiable RX0 14, Cond.initialized RX0, Cond.fieldLink RX4 43 "TableWright" "probe" "LTableWright$Layout;", Cond.methodLink RX4 11 yX3_init, Cond.instanceMethod yX3_init, Cond.code yX3_init cX3_init 2 none, Cond.methodLink RX3 3 objectInit]
def wsX4_init_r2 : List Cond := [Cond.arrayClass .int, Cond.fieldLink RX3 9 "TableWright$Sheet" "kinds" "[I", Cond.fieldLink RX3 15 "TableWright$Sheet" "titles" "[I", Cond.fieldLink RX3 18 "TableWright$Sheet" "firsts" "[I", Cond.fieldLink RX3 21 "TableWright$Sheet" "seconds" "[I", Cond.classLink RX3 24 RX1, Cond.fieldLink RX3 26 "TableWright$Sheet" "rows" "[LTableWright$Row;", Cond.fieldLink RX3 30 "TableWright$Sheet" "leasts" "[I", Cond.fieldLink RX3 33 "TableWright$Sheet" "bests" "[I", Cond.instantiable RX1 8, Cond.initialized RX1, Cond.instanceMethod yX1_init, Cond.code yX1_init cX1_init 1 none, Cond.methodLink RX1 3 objectInit, Cond.fieldLink RX1 9 "TableWright$Row" "values" "[I", Cond.fieldLink RX1 15 "TableWright$Row" "lengths" "[I", Cond.fieldLink RX1 18 "TableWright$Row" "words" "[I", Cond.arrayClass .boolean, Cond.fieldLink RX1 21 "TableWright$Row" "isToSpan" "[Z", Cond.fieldLink RX1 25 "TableWright$Row" "sums" "[I", Cond.fieldLink RX1 28 "TableWright$Row" "isHidden" "[Z", Cond.instanceMethod yX2_init, Cond.code yX2_init cX2_init 1 none, Cond.methodLink RX2 1 objectInit]
def wsX4_init_r3 : List Cond := [Cond.classLink RX2 7 RX0, Cond.fieldLink RX2 10 "TableWright$Setting" "upright" "LTableWright$Layout;", Cond.fieldLink RX2 16 "TableWright$Setting" "turned" "LTableWright$Layout;", Cond.instanceMethod yX0_init, Cond.code yX0_init cX0_init 1 none, Cond.methodLink RX0 3 objectInit, Cond.fieldLink RX0 9 "TableWright$Layout" "widths" "[I", Cond.fieldLink RX0 15 "TableWright$Layout" "heights" "[I", Cond.fieldLink RX0 18 "TableWright$Layout" "rowPages" "[I", Cond.fieldLink RX0 21 "TableWright$Layout" "notePages" "[I", Cond.fieldLink RX0 24 "TableWright$Layout" "firstRows" "[I", Cond.fieldLink RX0 27 "TableWright$Layout" "rowsOn" "[I", Cond.fieldLink RX0 30 "TableWright$Layout" "notesOn" "[I", Cond.fieldLink RX0 33 "TableWright$Layout" "left" "[I", Cond.fieldLink RX0 36 "TableWright$Layout" "lastRows" "[I"]
def wsX4_init : List Cond := .code yX4_init cX4_init 1 none :: ((wsX4_init_r1 ++ (wsX4_init_r2 ++ wsX4_init_r3)) ++ wsX30 ++ wsX40 ++ wsX20 ++ wsX00 ++ wsX10)
def wsX4_requireRange : List Cond := .code yX4_requireRange cX4_requireRange 3 none :: ([.classLink RX4 122 "java/lang/IllegalArgumentException", .initialized "java/lang/IllegalArgumentException"] ++ (vx_atS RX4 126 "java/lang/IllegalArgumentException" ["java/lang/RuntimeException", "java/lang/Exception"]).filter goodWord)
def wsX4_requireSpareColumn : List Cond := .code yX4_requireSpareColumn cX4_requireSpareColumn 1 none :: ([.classLink RX4 75 "java/lang/IllegalStateException", .initialized "java/lang/IllegalStateException", .fieldLink RX4 12 "TableWright" "sheet" "LTableWright$Sheet;"] ++ wsX40 ++ wsX30 ++ (vx_atS RX4 79 "java/lang/IllegalStateException" ["java/lang/RuntimeException", "java/lang/Exception"]).filter goodWord)
def wsX4_column : List Cond := .code yX4_column cX4_column 3 (some .int) :: ([.fieldLink RX4 30 "TableWright" "isStale" "Z", .fieldLink RX4 12 "TableWright" "sheet" "LTableWright$Sheet;", .methodLink RX4 47 yX4_requireRange, .static yX4_requireRange, .initialized RX4, .code yX4_requireRange cX4_requireRange 3 none, .classLink RX4 122 "java/lang/IllegalArgumentException", .initialized "java/lang/IllegalArgumentException", .methodLink RX4 51 yX4_requireSpareColumn, .instanceMethod yX4_requireSpareColumn, .selects RX4 yX4_requireSpareColumn yX4_requireSpareColumn, .code yX4_requireSpareColumn cX4_requireSpareColumn 1 none, .classLink RX4 75 "java/lang/IllegalStateException", .initialized "java/lang/IllegalStateException", .methodLink RX4 54 yX3_addColumn, .instanceMethod yX3_addColumn, .selects RX3 yX3_addColumn yX3_addColumn, .initialized RX3, .code yX3_addColumn cX3_addColumn 4 (some .int), .fieldLink RX3 37 "TableWright$Sheet" "columnCount" "I", .fieldLink RX3 9 "TableWright$Sheet" "kinds" "[I", .fieldLink RX3 15 "TableWright$Sheet" "titles" "[I"] ++ wsX40 ++ wsX30 ++ (vx_atS RX4 126 "java/lang/IllegalArgumentException" ["java/lang/RuntimeException", "java/lang/Exception"]).filter goodWord ++ (vx_atS RX4 79 "java/lang/IllegalStateException" ["java/lang/RuntimeException", "java/lang/Exception"]).filter goodWord)
def wsX4_row : List Cond := .code yX4_row cX4_row 1 (some .int) :: ([.classLink RX4 75 "java/lang/IllegalStateException", .initialized "java/lang/IllegalStateException", .fieldLink RX4 12 "TableWright" "sheet" "LTableWright$Sheet;", .fieldLink RX4 30 "TableWright" "isStale" "Z", .methodLink RX4 82 yX3_addRow, .instanceMethod yX3_addRow, .selects RX3 yX3_addRow yX3_addRow, .initialized RX3, .code yX3_addRow cX3_addRow 1 (some .int), .fieldLink RX3 26 "TableWright$Sheet" "rows" "[LTableWright$Row;", .fieldLink RX3 41 "TableWright$Sheet" "rowCount" "I", .methodLink RX3 44 yX1_clear, .instanceMethod yX1_clear, .selects RX1 yX1_clear yX1_clear, .initialized RX1, .code yX1_clear cX1_clear 2 none, .fieldLink RX1 9 "TableWright$Row" "values" "[I", .fieldLink RX1 15 "TableWright$Row" "lengths" "[I", .fieldLink RX1 18 "TableWright$Row" "words" "[I", .fieldLink RX1 21 "TableWright$Row" "isToSpan" "[Z", .fieldLink RX1 31 "TableWright$Row" "noteLines" "I", .fieldLink RX1 35 "TableWright$Row" "isKept" "Z"] ++ wsX40 ++ wsX30 ++ wsX10 ++ (vx_atS RX4 79 "java/lang/IllegalStateException" ["java/lang/RuntimeException", "java/lang/Exception"]).filter goodWord)
def wsX4_requireRow : List Cond := .code yX4_requireRow cX4_requireRow 2 none :: ([.classLink RX4 211 "java/lang/IndexOutOfBoundsException", .initialized "java/lang/IndexOutOfBoundsException", .fieldLink RX4 12 "TableWright" "sheet" "LTableWright$Sheet;"] ++ wsX40 ++ wsX30 ++ (vx_atS RX4 215 "java/lang/IndexOutOfBoundsException" ["java/lang/RuntimeException", "java/lang/Exception"]).filter goodWord)
def wsX4_requireColumn : List Cond := .code yX4_requireColumn cX4_requireColumn 2 none :: ([.classLink RX4 211 "java/lang/IndexOutOfBoundsException", .initialized "java/lang/IndexOutOfBoundsException", .fieldLink RX4 12 "TableWright" "sheet" "LTableWright$Sheet;"] ++ wsX40 ++ wsX30 ++ (vx_atS RX4 215 "java/lang/IndexOutOfBoundsException" ["java/lang/RuntimeException", "java/lang/Exception"]).filter goodWord)
def wsX4_requireKind : List Cond := .code yX4_requireKind cX4_requireKind 3 none :: ([.classLink RX4 122 "java/lang/IllegalArgumentException", .initialized "java/lang/IllegalArgumentException", .fieldLink RX4 12 "TableWright" "sheet" "LTableWright$Sheet;"] ++ wsX40 ++ wsX30 ++ (vx_atS RX4 126 "java/lang/IllegalArgumentException" ["java/lang/RuntimeException", "java/lang/Exception"]).filter goodWord)
def wsX4_requireNumberCell : List Cond := .code yX4_requireNumberCell cX4_requireNumberCell 4 none :: ([.methodLink RX4 86 yX4_requireRow, .instanceMethod yX4_requireRow, .selects RX4 yX4_requireRow yX4_requireRow, .initialized RX4, .code yX4_requireRow cX4_requireRow 2 none, .classLink RX4 211 "java/lang/IndexOutOfBoundsException", .initialized "java/lang/IndexOutOfBoundsException", .fieldLink RX4 12 "TableWright" "sheet" "LTableWright$Sheet;", .methodLink RX4 58 yX4_requireColumn, .instanceMethod yX4_requireColumn, .selects RX4 yX4_requireColumn yX4_requireColumn, .code yX4_requireColumn cX4_requireColumn 2 none, .methodLink RX4 104 yX4_requireKind, .instanceMethod yX4_requireKind, .selects RX4 yX4_requireKind yX4_requireKind, .code yX4_requireKind cX4_requireKind 3 none, .classLink RX4 122 "java/lang/IllegalArgumentException", .initialized "java/lang/IllegalArgumentException", .methodLink RX4 47 yX4_requireRange, .static yX4_requireRange, .code yX4_requireRange cX4_requireRange 3 none] ++ wsX40 ++ wsX30 ++ (vx_atS RX4 215 "java/lang/IndexOutOfBoundsException" ["java/lang/RuntimeException", "java/lang/Exception"]).filter goodWord ++ (vx_atS RX4 126 "java/lang/IllegalArgumentException" ["java/lang/RuntimeException", "java/lang/Exception"]).filter goodWord)
def wsX4_number_r1 : List Cond := [Cond.fieldLink RX4 30 "TableWright" "isStale" "Z", Cond.fieldLink RX4 12 "TableWright" "sheet" "LTableWright$Sheet;", Cond.methodLink RX4 92 yX4_requireNumberCell, Cond.instanceMethod yX4_requireNumberCell, Cond.selects RX4 yX4_requireNumberCell yX4_requireNumberCell, Cond.initialized RX4, Cond.code yX4_requireNumberCell cX4_requireNumberCell 4 none, Cond.methodLink RX4 86 yX4_requireRow, Cond.instanceMethod yX4_requireRow, Cond.selects RX4 yX4_requireRow yX4_requireRow, Cond.code yX4_requireRow cX4_requireRow 2 none, Cond.classLink RX4 211 "java/lang/IndexOutOfBoundsException", Cond.initialized "java/lang/IndexOutOfBoundsException", Cond.methodLink RX4 58 yX4_requireColumn, Cond.instanceMethod yX4_requireColumn, Cond.selects RX4 yX4_requireColumn yX4_requireColumn, Cond.code yX4_requireColumn cX4_requireColumn 2 none, Cond.methodLink RX4 104 yX4_requireKind, Cond.instanceMethod yX4_requireKind, Cond.selects RX4 yX4_requireKind yX4_requireKind, Cond.code yX4_requireKind cX4_requireKind 3 none, Cond.classLink RX4 122 "java/lang/IllegalArgumentException", Cond.initialized "java/lang/IllegalArgumentException", Cond.methodLink RX4 47 yX4_requireRange]
def wsX4_number_r2 : List Cond := [Cond.static yX4_requireRange, Cond.code yX4_requireRange cX4_requireRange 3 none]
def wsX4_number : List Cond := .code yX4_number cX4_number 5 (some .int) :: ((wsX4_number_r1 ++ wsX4_number_r2) ++ wsX40 ++ wsX30 ++ wsX10 ++ (vx_atS RX4 215 "java/lang/IndexOutOfBoundsException" ["java/lang/RuntimeException", "java/lang/Exception"]).filter goodWord ++ (vx_atS RX4 126 "java/lang/IllegalArgumentException" ["java/lang/RuntimeException", "java/lang/Exception"]).filter goodWord)
def wsX4_text_r1 : List Cond := [Cond.methodLink RX4 108 Lib.Math.min.name, Cond.static Lib.Math.min.name, Cond.initialized "java/lang/Math", Cond.code Lib.Math.min.name Lib.Math.min.code 2 (some .int), Cond.fieldLink RX4 30 "TableWright" "isStale" "Z", Cond.fieldLink RX4 12 "TableWright" "sheet" "LTableWright$Sheet;", Cond.methodLink RX4 86 yX4_requireRow, Cond.instanceMethod yX4_requireRow, Cond.selects RX4 yX4_requireRow yX4_requireRow, Cond.initialized RX4, Cond.code yX4_requireRow cX4_requireRow 2 none, Cond.classLink RX4 211 "java/lang/IndexOutOfBoundsException", Cond.initialized "java/lang/IndexOutOfBoundsException", Cond.methodLink RX4 58 yX4_requireColumn, Cond.instanceMethod yX4_requireColumn, Cond.selects RX4 yX4_requireColumn yX4_requireColumn, Cond.code yX4_requireColumn cX4_requireColumn 2 none, Cond.methodLink RX4 104 yX4_requireKind, Cond.instanceMethod yX4_requireKind, Cond.selects RX4 yX4_requireKind yX4_requireKind, Cond.code yX4_requireKind cX4_requireKind 3 none, Cond.classLink RX4 122 "java/lang/IllegalArgumentException", Cond.initialized "java/lang/IllegalArgumentException", Cond.methodLink RX4 47 yX4_requireRange]
def wsX4_text_r2 : List Cond := [Cond.static yX4_requireRange, Cond.code yX4_requireRange cX4_requireRange 3 none]
def wsX4_text : List Cond := .code yX4_text cX4_text 6 (some .int) :: ((wsX4_text_r1 ++ wsX4_text_r2) ++ wsX40 ++ wsX30 ++ wsX10 ++ (vx_atS RX4 215 "java/lang/IndexOutOfBoundsException" ["java/lang/RuntimeException", "java/lang/Exception"]).filter goodWord ++ (vx_atS RX4 126 "java/lang/IllegalArgumentException" ["java/lang/RuntimeException", "java/lang/Exception"]).filter goodWord)
def wsX4_refresh_r1 : List Cond := [Cond.fieldLink RX4 30 "TableWright" "isStale" "Z", Cond.fieldLink RX4 12 "TableWright" "sheet" "LTableWright$Sheet;", Cond.fieldLink RX4 19 "TableWright" "setting" "LTableWright$Setting;", Cond.fieldLink RX4 23 "TableWright" "wide" "I", Cond.fieldLink RX4 27 "TableWright" "high" "I", Cond.methodLink RX4 229 yX3_reckon, Cond.instanceMethod yX3_reckon, Cond.selects RX3 yX3_reckon yX3_reckon, Cond.initialized RX3, Cond.code yX3_reckon cX3_reckon 2 none, Cond.fieldLink RX3 37 "TableWright$Sheet" "columnCount" "I", Cond.fieldLink RX3 9 "TableWright$Sheet" "kinds" "[I", Cond.methodLink RX3 61 yX3_reckonHidden, Cond.instanceMethod yX3_reckonHidden, Cond.selects RX3 yX3_reckonHidden yX3_reckonHidden, Cond.code yX3_reckonHidden cX3_reckonHidden 5 none, Cond.fieldLink RX3 41 "TableWright$Sheet" "rowCount" "I", Cond.fieldLink RX3 26 "TableWright$Sheet" "rows" "[LTableWright$Row;", Cond.methodLink RX3 65 yX3_reckonNumbers, Cond.instanceMethod yX3_reckonNumbers, Cond.selects RX3 yX3_reckonNumbers yX3_reckonNumbers, Cond.code yX3_reckonNumbers cX3_reckonNumbers 9 none, Cond.fieldLink RX3 18 "TableWright$Sheet" "firsts" "[I", Cond.fieldLink RX3 21 "TableWright$Sheet" "seconds" "[I"]
def wsX4_refresh_r2 : List Cond := [Cond.methodLink RX3 80 yX3_resultOf, Cond.static yX3_resultOf, Cond.code yX3_resultOf cX3_resultOf 7 (some .int), Cond.constantLong RX3 84 (-99999), Cond.constantLong RX3 86 (99999), Cond.methodLink RX3 88 Lib.MathLoose.min_long.x, Cond.static Lib.MathLoose.min_long.x, Cond.initialized "java/lang/Math", Cond.code Lib.MathLoose.min_long.x Lib.MathLoose.min_long.code 4 (some .long), Cond.methodLink RX3 94 Lib.MathLoose.max_long.x, Cond.static Lib.MathLoose.max_long.x, Cond.code Lib.MathLoose.max_long.x Lib.MathLoose.max_long.code 4 (some .long), Cond.methodLink RX3 68 yX3_measureText, Cond.instanceMethod yX3_measureText, Cond.selects RX3 yX3_measureText yX3_measureText, Cond.code yX3_measureText cX3_measureText 5 none, Cond.fieldLink RX3 15 "TableWright$Sheet" "titles" "[I", Cond.methodLink RX3 104 Lib.Math.max.name, Cond.static Lib.Math.max.name, Cond.code Lib.Math.max.name Lib.Math.max.code 2 (some .int), Cond.fieldLink RX3 30 "TableWright$Sheet" "leasts" "[I", Cond.fieldLink RX3 33 "TableWright$Sheet" "bests" "[I", Cond.methodLink RX3 110 Lib.Math.min.name, Cond.static Lib.Math.min.name]
def wsX4_refresh_r3 : List Cond := [Cond.code Lib.Math.min.name Lib.Math.min.code 2 (some .int), Cond.methodLink RX3 97 yX3_isSpanning, Cond.instanceMethod yX3_isSpanning, Cond.selects RX3 yX3_isSpanning yX3_isSpanning, Cond.code yX3_isSpanning cX3_isSpanning 3 (some .boolean), Cond.methodLink RX3 71 yX3_measureNumbers, Cond.instanceMethod yX3_measureNumbers, Cond.selects RX3 yX3_measureNumbers yX3_measureNumbers, Cond.code yX3_measureNumbers cX3_measureNumbers 4 none, Cond.methodLink RX3 112 yX3_sizeOf, Cond.static yX3_sizeOf, Cond.code yX3_sizeOf cX3_sizeOf 3 (some .int), Cond.methodLink RX4 232 yX2_arrange, Cond.instanceMethod yX2_arrange, Cond.selects RX2 yX2_arrange yX2_arrange, Cond.initialized RX2, Cond.code yX2_arrange cX2_arrange 5 none, Cond.fieldLink RX2 10 "TableWright$Setting" "upright" "LTableWright$Layout;", Cond.fieldLink RX2 16 "TableWright$Setting" "turned" "LTableWright$Layout;", Cond.fieldLink RX2 31 "TableWright$Setting" "isTurned" "Z", Cond.methodLink RX2 19 yX0_arrange, Cond.instanceMethod yX0_arrange, Cond.selects RX0 yX0_arrange yX0_arrange, Cond.initialized RX0]
def wsX4_refresh_r4 : List Cond := [Cond.code yX0_arrange cX0_arrange 4 none, Cond.fieldLink RX0 39 "TableWright$Layout" "room" "I", Cond.fieldLink RX0 51 "TableWright$Layout" "isFit" "Z", Cond.fieldLink RX0 55 "TableWright$Layout" "pageCount" "I", Cond.fieldLink RX0 58 "TableWright$Layout" "nextRow" "I", Cond.fieldLink RX0 61 "TableWright$Layout" "nextNote" "I", Cond.methodLink RX0 43 yX0_isWidthFit, Cond.instanceMethod yX0_isWidthFit, Cond.selects RX0 yX0_isWidthFit yX0_isWidthFit, Cond.code yX0_isWidthFit cX0_isWidthFit 5 (some .boolean), Cond.fieldLink RX0 9 "TableWright$Layout" "widths" "[I", Cond.methodLink RX0 112 yX0_tableWidth, Cond.instanceMethod yX0_tableWidth, Cond.selects RX0 yX0_tableWidth yX0_tableWidth, Cond.code yX0_tableWidth cX0_tableWidth 4 (some .int), Cond.methodLink RX0 116 yX0_mostSpareColumn, Cond.instanceMethod yX0_mostSpareColumn, Cond.selects RX0 yX0_mostSpareColumn yX0_mostSpareColumn, Cond.code yX0_mostSpareColumn cX0_mostSpareColumn 6 (some .int), Cond.methodLink RX0 47 yX0_areHeightsFit, Cond.instanceMethod yX0_areHeightsFit, Cond.selects RX0 yX0_areHeightsFit yX0_areHeightsFit, Cond.code yX0_areHeightsFit cX0_areHeightsFit 5 (some .boolean), Cond.methodLink RX0 104 Lib.Math.max.name]
def wsX4_refresh_r5 : List Cond := [Cond.fieldLink RX0 15 "TableWright$Layout" "heights" "[I", Cond.methodLink RX0 122 yX0_heightOfCell, Cond.instanceMethod yX0_heightOfCell, Cond.selects RX0 yX0_heightOfCell yX0_heightOfCell, Cond.code yX0_heightOfCell cX0_heightOfCell 6 (some .int), Cond.methodLink RX0 97 yX3_isSpanning, Cond.methodLink RX0 69 yX0_fillPage, Cond.instanceMethod yX0_fillPage, Cond.selects RX0 yX0_fillPage yX0_fillPage, Cond.code yX0_fillPage cX0_fillPage 4 none, Cond.fieldLink RX0 24 "TableWright$Layout" "firstRows" "[I", Cond.fieldLink RX0 27 "TableWright$Layout" "rowsOn" "[I", Cond.fieldLink RX0 30 "TableWright$Layout" "notesOn" "[I", Cond.fieldLink RX0 33 "TableWright$Layout" "left" "[I", Cond.fieldLink RX0 36 "TableWright$Layout" "lastRows" "[I", Cond.methodLink RX0 126 yX0_putWaitingNotes, Cond.instanceMethod yX0_putWaitingNotes, Cond.selects RX0 yX0_putWaitingNotes yX0_putWaitingNotes, Cond.code yX0_putWaitingNotes cX0_putWaitingNotes 4 none, Cond.fieldLink RX0 21 "TableWright$Layout" "notePages" "[I", Cond.methodLink RX0 129 yX0_hasRoomForNextRow, Cond.instanceMethod yX0_hasRoomForNextRow, Cond.selects RX0 yX0_hasRoomForNextRow yX0_hasRoomForNextRow, Cond.code yX0_hasRoomForNextRow cX0_hasRoomForNextRow 5 (some .boolean)]
def wsX4_refresh_r6 : List Cond := [Cond.methodLink RX0 142 yX0_heightOfGroup, Cond.instanceMethod yX0_heightOfGroup, Cond.selects RX0 yX0_heightOfGroup yX0_heightOfGroup, Cond.code yX0_heightOfGroup cX0_heightOfGroup 5 (some .int), Cond.methodLink RX0 132 yX0_putNextRow, Cond.instanceMethod yX0_putNextRow, Cond.selects RX0 yX0_putNextRow yX0_putNextRow, Cond.code yX0_putNextRow cX0_putNextRow 2 none, Cond.fieldLink RX0 18 "TableWright$Layout" "rowPages" "[I"]
def wsX4_refresh : List Cond := .code yX4_refresh cX4_refresh 1 none :: ((wsX4_refresh_r1 ++ (wsX4_refresh_r2 ++ (wsX4_refresh_r3 ++ (wsX4_refresh_r4 ++ (wsX4_refresh_r5 ++ wsX4_refresh_r6))))) ++ wsX40 ++ wsX30 ++ wsX10 ++ wsX20 ++ wsX00)
def wsX4_span_r1 : List Cond := [Cond.classLink RX4 122 "java/lang/IllegalArgumentException", Cond.initialized "java/lang/IllegalArgumentException", Cond.fieldLink RX4 12 "TableWright" "sheet" "LTableWright$Sheet;", Cond.fieldLink RX4 30 "TableWright" "isStale" "Z", Cond.methodLink RX4 86 yX4_requireRow, Cond.instanceMethod yX4_requireRow, Cond.selects RX4 yX4_requireRow yX4_requireRow, Cond.initialized RX4, Cond.code yX4_requireRow cX4_requireRow 2 none, Cond.classLink RX4 211 "java/lang/IndexOutOfBoundsException", Cond.initialized "java/lang/IndexOutOfBoundsException", Cond.methodLink RX4 58 yX4_requireColumn, Cond.instanceMethod yX4_requireColumn, Cond.selects RX4 yX4_requireColumn yX4_requireColumn, Cond.code yX4_requireColumn cX4_requireColumn 2 none, Cond.methodLink RX4 104 yX4_requireKind, Cond.instanceMethod yX4_requireKind, Cond.selects RX4 yX4_requireKind yX4_requireKind, Cond.code yX4_requireKind cX4_requireKind 3 none, Cond.methodLink RX4 131 yX4_refresh, Cond.instanceMethod yX4_refresh, Cond.selects RX4 yX4_refresh yX4_refresh, Cond.code yX4_refresh cX4_refresh 1 none, Cond.fieldLink RX4 19 "TableWright" "setting" "LTableWright$Setting;"]
def wsX4_span_r2 : List Cond := [Cond.fieldLink RX4 23 "TableWright" "wide" "I", Cond.fieldLink RX4 27 "TableWright" "high" "I", Cond.methodLink RX4 229 yX3_reckon, Cond.instanceMethod yX3_reckon, Cond.selects RX3 yX3_reckon yX3_reckon, Cond.initialized RX3, Cond.code yX3_reckon cX3_reckon 2 none, Cond.fieldLink RX3 37 "TableWright$Sheet" "columnCount" "I", Cond.fieldLink RX3 9 "TableWright$Sheet" "kinds" "[I", Cond.methodLink RX3 61 yX3_reckonHidden, Cond.instanceMethod yX3_reckonHidden, Cond.selects RX3 yX3_reckonHidden yX3_reckonHidden, Cond.code yX3_reckonHidden cX3_reckonHidden 5 none, Cond.fieldLink RX3 41 "TableWright$Sheet" "rowCount" "I", Cond.fieldLink RX3 26 "TableWright$Sheet" "rows" "[LTableWright$Row;", Cond.methodLink RX3 65 yX3_reckonNumbers, Cond.instanceMethod yX3_reckonNumbers, Cond.selects RX3 yX3_reckonNumbers yX3_reckonNumbers, Cond.code yX3_reckonNumbers cX3_reckonNumbers 9 none, Cond.fieldLink RX3 18 "TableWright$Sheet" "firsts" "[I", Cond.fieldLink RX3 21 "TableWright$Sheet" "seconds" "[I", Cond.methodLink RX3 80 yX3_resultOf, Cond.static yX3_resultOf, Cond.code yX3_resultOf cX3_resultOf 7 (some .int)]
def wsX4_span_r3 : List Cond := [Cond.constantLong RX3 84 (-99999), Cond.constantLong RX3 86 (99999), Cond.methodLink RX3 88 Lib.MathLoose.min_long.x, Cond.static Lib.MathLoose.min_long.x, Cond.initialized "java/lang/Math", Cond.code Lib.MathLoose.min_long.x Lib.MathLoose.min_long.code 4 (some .long), Cond.methodLink RX3 94 Lib.MathLoose.max_long.x, Cond.static Lib.MathLoose.max_long.x, Cond.code Lib.MathLoose.max_long.x Lib.MathLoose.max_long.code 4 (some .long), Cond.methodLink RX3 68 yX3_measureText, Cond.instanceMethod yX3_measureText, Cond.selects RX3 yX3_measureText yX3_measureText, Cond.code yX3_measureText cX3_measureText 5 none, Cond.fieldLink RX3 15 "TableWright$Sheet" "titles" "[I", Cond.methodLink RX3 104 Lib.Math.max.name, Cond.static Lib.Math.max.name, Cond.code Lib.Math.max.name Lib.Math.max.code 2 (some .int), Cond.fieldLink RX3 30 "TableWright$Sheet" "leasts" "[I", Cond.fieldLink RX3 33 "TableWright$Sheet" "bests" "[I", Cond.methodLink RX3 110 Lib.Math.min.name, Cond.static Lib.Math.min.name, Cond.code Lib.Math.min.name Lib.Math.min.code 2 (some .int), Cond.methodLink RX3 97 yX3_isSpanning, Cond.instanceMethod yX3_isSpanning]
def wsX4_span_r4 : List Cond := [Cond.selects RX3 yX3_isSpanning yX3_isSpanning, Cond.code yX3_isSpanning cX3_isSpanning 3 (some .boolean), Cond.methodLink RX3 71 yX3_measureNumbers, Cond.instanceMethod yX3_measureNumbers, Cond.selects RX3 yX3_measureNumbers yX3_measureNumbers, Cond.code yX3_measureNumbers cX3_measureNumbers 4 none, Cond.methodLink RX3 112 yX3_sizeOf, Cond.static yX3_sizeOf, Cond.code yX3_sizeOf cX3_sizeOf 3 (some .int), Cond.methodLink RX4 232 yX2_arrange, Cond.instanceMethod yX2_arrange, Cond.selects RX2 yX2_arrange yX2_arrange, Cond.initialized RX2, Cond.code yX2_arrange cX2_arrange 5 none, Cond.fieldLink RX2 10 "TableWright$Setting" "upright" "LTableWright$Layout;", Cond.fieldLink RX2 16 "TableWright$Setting" "turned" "LTableWright$Layout;", Cond.fieldLink RX2 31 "TableWright$Setting" "isTurned" "Z", Cond.methodLink RX2 19 yX0_arrange, Cond.instanceMethod yX0_arrange, Cond.selects RX0 yX0_arrange yX0_arrange, Cond.initialized RX0, Cond.code yX0_arrange cX0_arrange 4 none, Cond.fieldLink RX0 39 "TableWright$Layout" "room" "I", Cond.fieldLink RX0 51 "TableWright$Layout" "isFit" "Z"]
def wsX4_span_r5 : List Cond := [Cond.fieldLink RX0 55 "TableWright$Layout" "pageCount" "I", Cond.fieldLink RX0 58 "TableWright$Layout" "nextRow" "I", Cond.fieldLink RX0 61 "TableWright$Layout" "nextNote" "I", Cond.methodLink RX0 43 yX0_isWidthFit, Cond.instanceMethod yX0_isWidthFit, Cond.selects RX0 yX0_isWidthFit yX0_isWidthFit, Cond.code yX0_isWidthFit cX0_isWidthFit 5 (some .boolean), Cond.fieldLink RX0 9 "TableWright$Layout" "widths" "[I", Cond.methodLink RX0 112 yX0_tableWidth, Cond.instanceMethod yX0_tableWidth, Cond.selects RX0 yX0_tableWidth yX0_tableWidth, Cond.code yX0_tableWidth cX0_tableWidth 4 (some .int), Cond.methodLink RX0 116 yX0_mostSpareColumn, Cond.instanceMethod yX0_mostSpareColumn, Cond.selects RX0 yX0_mostSpareColumn yX0_mostSpareColumn, Cond.code yX0_mostSpareColumn cX0_mostSpareColumn 6 (some .int), Cond.methodLink RX0 47 yX0_areHeightsFit, Cond.instanceMethod yX0_areHeightsFit, Cond.selects RX0 yX0_areHeightsFit yX0_areHeightsFit, Cond.code yX0_areHeightsFit cX0_areHeightsFit 5 (some .boolean), Cond.methodLink RX0 104 Lib.Math.max.name, Cond.fieldLink RX0 15 "TableWright$Layout" "heights" "[I", Cond.methodLink RX0 122 yX0_heightOfCell, Cond.instanceMethod yX0_heightOfCell]
def wsX4_span_r6 : List Cond := [Cond.selects RX0 yX0_heightOfCell yX0_heightOfCell, Cond.code yX0_heightOfCell cX0_heightOfCell 6 (some .int), Cond.methodLink RX0 97 yX3_isSpanning, Cond.methodLink RX0 69 yX0_fillPage, Cond.instanceMethod yX0_fillPage, Cond.selects RX0 yX0_fillPage yX0_fillPage, Cond.code yX0_fillPage cX0_fillPage 4 none, Cond.fieldLink RX0 24 "TableWright$Layout" "firstRows" "[I", Cond.fieldLink RX0 27 "TableWright$Layout" "rowsOn" "[I", Cond.fieldLink RX0 30 "TableWright$Layout" "notesOn" "[I", Cond.fieldLink RX0 33 "TableWright$Layout" "left" "[I", Cond.fieldLink RX0 36 "TableWright$Layout" "lastRows" "[I", Cond.methodLink RX0 126 yX0_putWaitingNotes, Cond.instanceMethod yX0_putWaitingNotes, Cond.selects RX0 yX0_putWaitingNotes yX0_putWaitingNotes, Cond.code yX0_putWaitingNotes cX0_putWaitingNotes 4 none, Cond.fieldLink RX0 21 "TableWright$Layout" "notePages" "[I", Cond.methodLink RX0 129 yX0_hasRoomForNextRow, Cond.instanceMethod yX0_hasRoomForNextRow, Cond.selects RX0 yX0_hasRoomForNextRow yX0_hasRoomForNextRow, Cond.code yX0_hasRoomForNextRow cX0_hasRoomForNextRow 5 (some .boolean), Cond.methodLink RX0 142 yX0_heightOfGroup, Cond.instanceMethod yX0_heightOfGroup, Cond.selects RX0 yX0_heightOfGroup yX0_heightOfGroup]
def wsX4_span_r7 : List Cond := [Cond.code yX0_heightOfGroup cX0_heightOfGroup 5 (some .int), Cond.methodLink RX0 132 yX0_putNextRow, Cond.instanceMethod yX0_putNextRow, Cond.selects RX0 yX0_putNextRow yX0_putNextRow, Cond.code yX0_putNextRow cX0_putNextRow 2 none, Cond.fieldLink RX0 18 "TableWright$Layout" "rowPages" "[I"]
def wsX4_span : List Cond := .code yX4_span cX4_span 4 (some .boolean) :: ((wsX4_span_r1 ++ (wsX4_span_r2 ++ (wsX4_span_r3 ++ (wsX4_span_r4 ++ (wsX4_span_r5 ++ (wsX4_span_r6 ++ wsX4_span_r7)))))) ++ wsX40 ++ wsX30 ++ wsX10 ++ wsX20 ++ wsX00 ++ (vx_atS RX4 126 "java/lang/IllegalArgumentException" ["java/lang/RuntimeException", "java/lang/Exception"]).filter goodWord ++ (vx_atS RX4 215 "java/lang/IndexOutOfBoundsException" ["java/lang/RuntimeException", "java/lang/Exception"]).filter goodWord)
def wsX4_note : List Cond := .code yX4_note cX4_note 4 (some .int) :: ([.fieldLink RX4 30 "TableWright" "isStale" "Z", .fieldLink RX4 12 "TableWright" "sheet" "LTableWright$Sheet;", .methodLink RX4 86 yX4_requireRow, .instanceMethod yX4_requireRow, .selects RX4 yX4_requireRow yX4_requireRow, .initialized RX4, .code yX4_requireRow cX4_requireRow 2 none, .classLink RX4 211 "java/lang/IndexOutOfBoundsException", .initialized "java/lang/IndexOutOfBoundsException", .methodLink RX4 47 yX4_requireRange, .static yX4_requireRange, .code yX4_requireRange cX4_requireRange 3 none, .classLink RX4 122 "java/lang/IllegalArgumentException", .initialized "java/lang/IllegalArgumentException"] ++ wsX40 ++ wsX30 ++ wsX10 ++ (vx_atS RX4 215 "java/lang/IndexOutOfBoundsException" ["java/lang/RuntimeException", "java/lang/Exception"]).filter goodWord ++ (vx_atS RX4 126 "java/lang/IllegalArgumentException" ["java/lang/RuntimeException", "java/lang/Exception"]).filter goodWord)
def wsX4_keep : List Cond := .code yX4_keep cX4_keep 4 (some .boolean) :: ([.fieldLink RX4 30 "TableWright" "isStale" "Z", .fieldLink RX4 12 "TableWright" "sheet" "LTableWright$Sheet;", .methodLink RX4 86 yX4_requireRow, .instanceMethod yX4_requireRow, .selects RX4 yX4_requireRow yX4_requireRow, .initialized RX4, .code yX4_requireRow cX4_requireRow 2 none, .classLink RX4 211 "java/lang/IndexOutOfBoundsException", .initialized "java/lang/IndexOutOfBoundsException"] ++ wsX40 ++ wsX30 ++ wsX10 ++ (vx_atS RX4 215 "java/lang/IndexOutOfBoundsException" ["java/lang/RuntimeException", "java/lang/Exception"]).filter goodWord)
def wsX4_paper_r1 : List Cond := [Cond.fieldLink RX4 30 "TableWright" "isStale" "Z", Cond.fieldLink RX4 23 "TableWright" "wide" "I", Cond.fieldLink RX4 27 "TableWright" "high" "I", Cond.fieldLink RX4 19 "TableWright" "setting" "LTableWright$Setting;", Cond.methodLink RX4 47 yX4_requireRange, Cond.static yX4_requireRange, Cond.initialized RX4, Cond.code yX4_requireRange cX4_requireRange 3 none, Cond.classLink RX4 122 "java/lang/IllegalArgumentException", Cond.initialized "java/lang/IllegalArgumentException", Cond.methodLink RX4 131 yX4_refresh, Cond.instanceMethod yX4_refresh, Cond.selects RX4 yX4_refresh yX4_refresh, Cond.code yX4_refresh cX4_refresh 1 none, Cond.fieldLink RX4 12 "TableWright" "sheet" "LTableWright$Sheet;", Cond.methodLink RX4 229 yX3_reckon, Cond.instanceMethod yX3_reckon, Cond.selects RX3 yX3_reckon yX3_reckon, Cond.initialized RX3, Cond.code yX3_reckon cX3_reckon 2 none, Cond.fieldLink RX3 37 "TableWright$Sheet" "columnCount" "I", Cond.fieldLink RX3 9 "TableWright$Sheet" "kinds" "[I", Cond.methodLink RX3 61 yX3_reckonHidden, Cond.instanceMethod yX3_reckonHidden]
def wsX4_paper_r2 : List Cond := [Cond.selects RX3 yX3_reckonHidden yX3_reckonHidden, Cond.code yX3_reckonHidden cX3_reckonHidden 5 none, Cond.fieldLink RX3 41 "TableWright$Sheet" "rowCount" "I", Cond.fieldLink RX3 26 "TableWright$Sheet" "rows" "[LTableWright$Row;", Cond.methodLink RX3 65 yX3_reckonNumbers, Cond.instanceMethod yX3_reckonNumbers, Cond.selects RX3 yX3_reckonNumbers yX3_reckonNumbers, Cond.code yX3_reckonNumbers cX3_reckonNumbers 9 none, Cond.fieldLink RX3 18 "TableWright$Sheet" "firsts" "[I", Cond.fieldLink RX3 21 "TableWright$Sheet" "seconds" "[I", Cond.methodLink RX3 80 yX3_resultOf, Cond.static yX3_resultOf, Cond.code yX3_resultOf cX3_resultOf 7 (some .int), Cond.constantLong RX3 84 (-99999), Cond.constantLong RX3 86 (99999), Cond.methodLink RX3 88 Lib.MathLoose.min_long.x, Cond.static Lib.MathLoose.min_long.x, Cond.initialized "java/lang/Math", Cond.code Lib.MathLoose.min_long.x Lib.MathLoose.min_long.code 4 (some .long), Cond.methodLink RX3 94 Lib.MathLoose.max_long.x, Cond.static Lib.MathLoose.max_long.x, Cond.code Lib.MathLoose.max_long.x Lib.MathLoose.max_long.code 4 (some .long), Cond.methodLink RX3 68 yX3_measureText, Cond.instanceMethod yX3_measureText]
def wsX4_paper_r3 : List Cond := [Cond.selects RX3 yX3_measureText yX3_measureText, Cond.code yX3_measureText cX3_measureText 5 none, Cond.fieldLink RX3 15 "TableWright$Sheet" "titles" "[I", Cond.methodLink RX3 104 Lib.Math.max.name, Cond.static Lib.Math.max.name, Cond.code Lib.Math.max.name Lib.Math.max.code 2 (some .int), Cond.fieldLink RX3 30 "TableWright$Sheet" "leasts" "[I", Cond.fieldLink RX3 33 "TableWright$Sheet" "bests" "[I", Cond.methodLink RX3 110 Lib.Math.min.name, Cond.static Lib.Math.min.name, Cond.code Lib.Math.min.name Lib.Math.min.code 2 (some .int), Cond.methodLink RX3 97 yX3_isSpanning, Cond.instanceMethod yX3_isSpanning, Cond.selects RX3 yX3_isSpanning yX3_isSpanning, Cond.code yX3_isSpanning cX3_isSpanning 3 (some .boolean), Cond.methodLink RX3 71 yX3_measureNumbers, Cond.instanceMethod yX3_measureNumbers, Cond.selects RX3 yX3_measureNumbers yX3_measureNumbers, Cond.code yX3_measureNumbers cX3_measureNumbers 4 none, Cond.methodLink RX3 112 yX3_sizeOf, Cond.static yX3_sizeOf, Cond.code yX3_sizeOf cX3_sizeOf 3 (some .int), Cond.methodLink RX4 232 yX2_arrange, Cond.instanceMethod yX2_arrange]
def wsX4_paper_r4 : List Cond := [Cond.selects RX2 yX2_arrange yX2_arrange, Cond.initialized RX2, Cond.code yX2_arrange cX2_arrange 5 none, Cond.fieldLink RX2 10 "TableWright$Setting" "upright" "LTableWright$Layout;", Cond.fieldLink RX2 16 "TableWright$Setting" "turned" "LTableWright$Layout;", Cond.fieldLink RX2 31 "TableWright$Setting" "isTurned" "Z", Cond.methodLink RX2 19 yX0_arrange, Cond.instanceMethod yX0_arrange, Cond.selects RX0 yX0_arrange yX0_arrange, Cond.initialized RX0, Cond.code yX0_arrange cX0_arrange 4 none, Cond.fieldLink RX0 39 "TableWright$Layout" "room" "I", Cond.fieldLink RX0 51 "TableWright$Layout" "isFit" "Z", Cond.fieldLink RX0 55 "TableWright$Layout" "pageCount" "I", Cond.fieldLink RX0 58 "TableWright$Layout" "nextRow" "I", Cond.fieldLink RX0 61 "TableWright$Layout" "nextNote" "I", Cond.methodLink RX0 43 yX0_isWidthFit, Cond.instanceMethod yX0_isWidthFit, Cond.selects RX0 yX0_isWidthFit yX0_isWidthFit, Cond.code yX0_isWidthFit cX0_isWidthFit 5 (some .boolean), Cond.fieldLink RX0 9 "TableWright$Layout" "widths" "[I", Cond.methodLink RX0 112 yX0_tableWidth, Cond.instanceMethod yX0_tableWidth, Cond.selects RX0 yX0_tableWidth yX0_tableWidth]
def wsX4_paper_r5 : List Cond := [Cond.code yX0_tableWidth cX0_tableWidth 4 (some .int), Cond.methodLink RX0 116 yX0_mostSpareColumn, Cond.instanceMethod yX0_mostSpareColumn, Cond.selects RX0 yX0_mostSpareColumn yX0_mostSpareColumn, Cond.code yX0_mostSpareColumn cX0_mostSpareColumn 6 (some .int), Cond.methodLink RX0 47 yX0_areHeightsFit, Cond.instanceMethod yX0_areHeightsFit, Cond.selects RX0 yX0_areHeightsFit yX0_areHeightsFit, Cond.code yX0_areHeightsFit cX0_areHeightsFit 5 (some .boolean), Cond.methodLink RX0 104 Lib.Math.max.name, Cond.fieldLink RX0 15 "TableWright$Layout" "heights" "[I", Cond.methodLink RX0 122 yX0_heightOfCell, Cond.instanceMethod yX0_heightOfCell, Cond.selects RX0 yX0_heightOfCell yX0_heightOfCell, Cond.code yX0_heightOfCell cX0_heightOfCell 6 (some .int), Cond.methodLink RX0 97 yX3_isSpanning, Cond.methodLink RX0 69 yX0_fillPage, Cond.instanceMethod yX0_fillPage, Cond.selects RX0 yX0_fillPage yX0_fillPage, Cond.code yX0_fillPage cX0_fillPage 4 none, Cond.fieldLink RX0 24 "TableWright$Layout" "firstRows" "[I", Cond.fieldLink RX0 27 "TableWright$Layout" "rowsOn" "[I", Cond.fieldLink RX0 30 "TableWright$Layout" "notesOn" "[I", Cond.fieldLink RX0 33 "TableWright$Layout" "left" "[I"]
def wsX4_paper_r6 : List Cond := [Cond.fieldLink RX0 36 "TableWright$Layout" "lastRows" "[I", Cond.methodLink RX0 126 yX0_putWaitingNotes, Cond.instanceMethod yX0_putWaitingNotes, Cond.selects RX0 yX0_putWaitingNotes yX0_putWaitingNotes, Cond.code yX0_putWaitingNotes cX0_putWaitingNotes 4 none, Cond.fieldLink RX0 21 "TableWright$Layout" "notePages" "[I", Cond.methodLink RX0 129 yX0_hasRoomForNextRow, Cond.instanceMethod yX0_hasRoomForNextRow, Cond.selects RX0 yX0_hasRoomForNextRow yX0_hasRoomForNextRow, Cond.code yX0_hasRoomForNextRow cX0_hasRoomForNextRow 5 (some .boolean), Cond.methodLink RX0 142 yX0_heightOfGroup, Cond.instanceMethod yX0_heightOfGroup, Cond.selects RX0 yX0_heightOfGroup yX0_heightOfGroup, Cond.code yX0_heightOfGroup cX0_heightOfGroup 5 (some .int), Cond.methodLink RX0 132 yX0_putNextRow, Cond.instanceMethod yX0_putNextRow, Cond.selects RX0 yX0_putNextRow yX0_putNextRow, Cond.code yX0_putNextRow cX0_putNextRow 2 none, Cond.fieldLink RX0 18 "TableWright$Layout" "rowPages" "[I", Cond.methodLink RX4 143 yX2_chosen, Cond.instanceMethod yX2_chosen, Cond.selects RX2 yX2_chosen yX2_chosen, Cond.code yX2_chosen cX2_chosen 1 (some (.object "TableWright$Layout")), Cond.methodLink RX4 147 yX0_pagesOrNone]
def wsX4_paper_r7 : List Cond := [Cond.instanceMethod yX0_pagesOrNone, Cond.selects RX0 yX0_pagesOrNone yX0_pagesOrNone, Cond.code yX0_pagesOrNone cX0_pagesOrNone 1 (some .int)]
def wsX4_paper : List Cond := .code yX4_paper cX4_paper 3 (some .int) :: ((wsX4_paper_r1 ++ (wsX4_paper_r2 ++ (wsX4_paper_r3 ++ (wsX4_paper_r4 ++ (wsX4_paper_r5 ++ (wsX4_paper_r6 ++ wsX4_paper_r7)))))) ++ wsX40 ++ wsX30 ++ wsX10 ++ wsX20 ++ wsX00 ++ (vx_atS RX4 126 "java/lang/IllegalArgumentException" ["java/lang/RuntimeException", "java/lang/Exception"]).filter goodWord)
def wsX4_factOfCell_r1 : List Cond := [Cond.fieldLink RX4 19 "TableWright" "setting" "LTableWright$Setting;", Cond.fieldLink RX4 12 "TableWright" "sheet" "LTableWright$Sheet;", Cond.methodLink RX4 143 yX2_chosen, Cond.instanceMethod yX2_chosen, Cond.selects RX2 yX2_chosen yX2_chosen, Cond.initialized RX2, Cond.code yX2_chosen cX2_chosen 1 (some (.object "TableWright$Layout")), Cond.fieldLink RX2 31 "TableWright$Setting" "isTurned" "Z", Cond.fieldLink RX2 16 "TableWright$Setting" "turned" "LTableWright$Layout;", Cond.fieldLink RX2 10 "TableWright$Setting" "upright" "LTableWright$Layout;", Cond.methodLink RX4 283 yX0_heightOfCell, Cond.instanceMethod yX0_heightOfCell, Cond.selects RX0 yX0_heightOfCell yX0_heightOfCell, Cond.initialized RX0, Cond.code yX0_heightOfCell cX0_heightOfCell 6 (some .int), Cond.fieldLink RX0 9 "TableWright$Layout" "widths" "[I", Cond.methodLink RX0 104 Lib.Math.max.name, Cond.static Lib.Math.max.name, Cond.initialized "java/lang/Math", Cond.code Lib.Math.max.name Lib.Math.max.code 2 (some .int), Cond.methodLink RX0 97 yX3_isSpanning, Cond.instanceMethod yX3_isSpanning, Cond.selects RX3 yX3_isSpanning yX3_isSpanning, Cond.initialized RX3]
def wsX4_factOfCell_r2 : List Cond := [Cond.code yX3_isSpanning cX3_isSpanning 3 (some .boolean), Cond.fieldLink RX3 37 "TableWright$Sheet" "columnCount" "I", Cond.fieldLink RX3 26 "TableWright$Sheet" "rows" "[LTableWright$Row;", Cond.methodLink RX4 271 yX3_sumUpTo, Cond.instanceMethod yX3_sumUpTo, Cond.selects RX3 yX3_sumUpTo yX3_sumUpTo, Cond.code yX3_sumUpTo cX3_sumUpTo 3 (some .int), Cond.fieldLink RX3 9 "TableWright$Sheet" "kinds" "[I"]
def wsX4_factOfCell : List Cond := .code yX4_factOfCell cX4_factOfCell 6 (some .int) :: ((wsX4_factOfCell_r1 ++ wsX4_factOfCell_r2) ++ wsX40 ++ wsX30 ++ wsX10 ++ wsX00 ++ wsX20)
def wsX4_cell_r1 : List Cond := [Cond.methodLink RX4 86 yX4_requireRow, Cond.instanceMethod yX4_requireRow, Cond.selects RX4 yX4_requireRow yX4_requireRow, Cond.initialized RX4, Cond.code yX4_requireRow cX4_requireRow 2 none, Cond.classLink RX4 211 "java/lang/IndexOutOfBoundsException", Cond.initialized "java/lang/IndexOutOfBoundsException", Cond.fieldLink RX4 12 "TableWright" "sheet" "LTableWright$Sheet;", Cond.methodLink RX4 58 yX4_requireColumn, Cond.instanceMethod yX4_requireColumn, Cond.selects RX4 yX4_requireColumn yX4_requireColumn, Cond.code yX4_requireColumn cX4_requireColumn 2 none, Cond.methodLink RX4 47 yX4_requireRange, Cond.static yX4_requireRange, Cond.code yX4_requireRange cX4_requireRange 3 none, Cond.classLink RX4 122 "java/lang/IllegalArgumentException", Cond.initialized "java/lang/IllegalArgumentException", Cond.methodLink RX4 131 yX4_refresh, Cond.instanceMethod yX4_refresh, Cond.selects RX4 yX4_refresh yX4_refresh, Cond.code yX4_refresh cX4_refresh 1 none, Cond.fieldLink RX4 30 "TableWright" "isStale" "Z", Cond.fieldLink RX4 19 "TableWright" "setting" "LTableWright$Setting;", Cond.fieldLink RX4 23 "TableWright" "wide" "I"]
def wsX4_cell_r2 : List Cond := [Cond.fieldLink RX4 27 "TableWright" "high" "I", Cond.methodLink RX4 229 yX3_reckon, Cond.instanceMethod yX3_reckon, Cond.selects RX3 yX3_reckon yX3_reckon, Cond.initialized RX3, Cond.code yX3_reckon cX3_reckon 2 none, Cond.fieldLink RX3 37 "TableWright$Sheet" "columnCount" "I", Cond.fieldLink RX3 9 "TableWright$Sheet" "kinds" "[I", Cond.methodLink RX3 61 yX3_reckonHidden, Cond.instanceMethod yX3_reckonHidden, Cond.selects RX3 yX3_reckonHidden yX3_reckonHidden, Cond.code yX3_reckonHidden cX3_reckonHidden 5 none, Cond.fieldLink RX3 41 "TableWright$Sheet" "rowCount" "I", Cond.fieldLink RX3 26 "TableWright$Sheet" "rows" "[LTableWright$Row;", Cond.methodLink RX3 65 yX3_reckonNumbers, Cond.instanceMethod yX3_reckonNumbers, Cond.selects RX3 yX3_reckonNumbers yX3_reckonNumbers, Cond.code yX3_reckonNumbers cX3_reckonNumbers 9 none, Cond.fieldLink RX3 18 "TableWright$Sheet" "firsts" "[I", Cond.fieldLink RX3 21 "TableWright$Sheet" "seconds" "[I", Cond.methodLink RX3 80 yX3_resultOf, Cond.static yX3_resultOf, Cond.code yX3_resultOf cX3_resultOf 7 (some .int), Cond.constantLong RX3 84 (-99999)]
def wsX4_cell_r3 : List Cond := [Cond.constantLong RX3 86 (99999), Cond.methodLink RX3 88 Lib.MathLoose.min_long.x, Cond.static Lib.MathLoose.min_long.x, Cond.initialized "java/lang/Math", Cond.code Lib.MathLoose.min_long.x Lib.MathLoose.min_long.code 4 (some .long), Cond.methodLink RX3 94 Lib.MathLoose.max_long.x, Cond.static Lib.MathLoose.max_long.x, Cond.code Lib.MathLoose.max_long.x Lib.MathLoose.max_long.code 4 (some .long), Cond.methodLink RX3 68 yX3_measureText, Cond.instanceMethod yX3_measureText, Cond.selects RX3 yX3_measureText yX3_measureText, Cond.code yX3_measureText cX3_measureText 5 none, Cond.fieldLink RX3 15 "TableWright$Sheet" "titles" "[I", Cond.methodLink RX3 104 Lib.Math.max.name, Cond.static Lib.Math.max.name, Cond.code Lib.Math.max.name Lib.Math.max.code 2 (some .int), Cond.fieldLink RX3 30 "TableWright$Sheet" "leasts" "[I", Cond.fieldLink RX3 33 "TableWright$Sheet" "bests" "[I", Cond.methodLink RX3 110 Lib.Math.min.name, Cond.static Lib.Math.min.name, Cond.code Lib.Math.min.name Lib.Math.min.code 2 (some .int), Cond.methodLink RX3 97 yX3_isSpanning, Cond.instanceMethod yX3_isSpanning, Cond.selects RX3 yX3_isSpanning yX3_isSpanning]
def wsX4_cell_r4 : List Cond := [Cond.code yX3_isSpanning cX3_isSpanning 3 (some .boolean), Cond.methodLink RX3 71 yX3_measureNumbers, Cond.instanceMethod yX3_measureNumbers, Cond.selects RX3 yX3_measureNumbers yX3_measureNumbers, Cond.code yX3_measureNumbers cX3_measureNumbers 4 none, Cond.methodLink RX3 112 yX3_sizeOf, Cond.static yX3_sizeOf, Cond.code yX3_sizeOf cX3_sizeOf 3 (some .int), Cond.methodLink RX4 232 yX2_arrange, Cond.instanceMethod yX2_arrange, Cond.selects RX2 yX2_arrange yX2_arrange, Cond.initialized RX2, Cond.code yX2_arrange cX2_arrange 5 none, Cond.fieldLink RX2 10 "TableWright$Setting" "upright" "LTableWright$Layout;", Cond.fieldLink RX2 16 "TableWright$Setting" "turned" "LTableWright$Layout;", Cond.fieldLink RX2 31 "TableWright$Setting" "isTurned" "Z", Cond.methodLink RX2 19 yX0_arrange, Cond.instanceMethod yX0_arrange, Cond.selects RX0 yX0_arrange yX0_arrange, Cond.initialized RX0, Cond.code yX0_arrange cX0_arrange 4 none, Cond.fieldLink RX0 39 "TableWright$Layout" "room" "I", Cond.fieldLink RX0 51 "TableWright$Layout" "isFit" "Z", Cond.fieldLink RX0 55 "TableWright$Layout" "pageCount" "I"]
def wsX4_cell_r5 : List Cond := [Cond.fieldLink RX0 58 "TableWright$Layout" "nextRow" "I", Cond.fieldLink RX0 61 "TableWright$Layout" "nextNote" "I", Cond.methodLink RX0 43 yX0_isWidthFit, Cond.instanceMethod yX0_isWidthFit, Cond.selects RX0 yX0_isWidthFit yX0_isWidthFit, Cond.code yX0_isWidthFit cX0_isWidthFit 5 (some .boolean), Cond.fieldLink RX0 9 "TableWright$Layout" "widths" "[I", Cond.methodLink RX0 112 yX0_tableWidth, Cond.instanceMethod yX0_tableWidth, Cond.selects RX0 yX0_tableWidth yX0_tableWidth, Cond.code yX0_tableWidth cX0_tableWidth 4 (some .int), Cond.methodLink RX0 116 yX0_mostSpareColumn, Cond.instanceMethod yX0_mostSpareColumn, Cond.selects RX0 yX0_mostSpareColumn yX0_mostSpareColumn, Cond.code yX0_mostSpareColumn cX0_mostSpareColumn 6 (some .int), Cond.methodLink RX0 47 yX0_areHeightsFit, Cond.instanceMethod yX0_areHeightsFit, Cond.selects RX0 yX0_areHeightsFit yX0_areHeightsFit, Cond.code yX0_areHeightsFit cX0_areHeightsFit 5 (some .boolean), Cond.methodLink RX0 104 Lib.Math.max.name, Cond.fieldLink RX0 15 "TableWright$Layout" "heights" "[I", Cond.methodLink RX0 122 yX0_heightOfCell, Cond.instanceMethod yX0_heightOfCell, Cond.selects RX0 yX0_heightOfCell yX0_heightOfCell]
def wsX4_cell_r6 : List Cond := [Cond.code yX0_heightOfCell cX0_heightOfCell 6 (some .int), Cond.methodLink RX0 97 yX3_isSpanning, Cond.methodLink RX0 69 yX0_fillPage, Cond.instanceMethod yX0_fillPage, Cond.selects RX0 yX0_fillPage yX0_fillPage, Cond.code yX0_fillPage cX0_fillPage 4 none, Cond.fieldLink RX0 24 "TableWright$Layout" "firstRows" "[I", Cond.fieldLink RX0 27 "TableWright$Layout" "rowsOn" "[I", Cond.fieldLink RX0 30 "TableWright$Layout" "notesOn" "[I", Cond.fieldLink RX0 33 "TableWright$Layout" "left" "[I", Cond.fieldLink RX0 36 "TableWright$Layout" "lastRows" "[I", Cond.methodLink RX0 126 yX0_putWaitingNotes, Cond.instanceMethod yX0_putWaitingNotes, Cond.selects RX0 yX0_putWaitingNotes yX0_putWaitingNotes, Cond.code yX0_putWaitingNotes cX0_putWaitingNotes 4 none, Cond.fieldLink RX0 21 "TableWright$Layout" "notePages" "[I", Cond.methodLink RX0 129 yX0_hasRoomForNextRow, Cond.instanceMethod yX0_hasRoomForNextRow, Cond.selects RX0 yX0_hasRoomForNextRow yX0_hasRoomForNextRow, Cond.code yX0_hasRoomForNextRow cX0_hasRoomForNextRow 5 (some .boolean), Cond.methodLink RX0 142 yX0_heightOfGroup, Cond.instanceMethod yX0_heightOfGroup, Cond.selects RX0 yX0_heightOfGroup yX0_heightOfGroup, Cond.code yX0_heightOfGroup cX0_heightOfGroup 5 (some .int)]
def wsX4_cell_r7 : List Cond := [Cond.methodLink RX0 132 yX0_putNextRow, Cond.instanceMethod yX0_putNextRow, Cond.selects RX0 yX0_putNextRow yX0_putNextRow, Cond.code yX0_putNextRow cX0_putNextRow 2 none, Cond.fieldLink RX0 18 "TableWright$Layout" "rowPages" "[I", Cond.methodLink RX4 150 yX4_factOfCell, Cond.instanceMethod yX4_factOfCell, Cond.selects RX4 yX4_factOfCell yX4_factOfCell, Cond.code yX4_factOfCell cX4_factOfCell 6 (some .int), Cond.methodLink RX4 143 yX2_chosen, Cond.instanceMethod yX2_chosen, Cond.selects RX2 yX2_chosen yX2_chosen, Cond.code yX2_chosen cX2_chosen 1 (some (.object "TableWright$Layout")), Cond.methodLink RX4 283 yX0_heightOfCell, Cond.methodLink RX4 271 yX3_sumUpTo, Cond.instanceMethod yX3_sumUpTo, Cond.selects RX3 yX3_sumUpTo yX3_sumUpTo, Cond.code yX3_sumUpTo cX3_sumUpTo 3 (some .int)]
def wsX4_cell : List Cond := .code yX4_cell cX4_cell 4 (some .int) :: ((wsX4_cell_r1 ++ (wsX4_cell_r2 ++ (wsX4_cell_r3 ++ (wsX4_cell_r4 ++ (wsX4_cell_r5 ++ (wsX4_cell_r6 ++ wsX4_cell_r7)))))) ++ wsX40 ++ wsX30 ++ wsX10 ++ wsX20 ++ wsX00 ++ (vx_atS RX4 215 "java/lang/IndexOutOfBoundsException" ["java/lang/RuntimeException", "java/lang/Exception"]).filter goodWord ++ (vx_atS RX4 126 "java/lang/IllegalArgumentException" ["java/lang/RuntimeException", "java/lang/Exception"]).filter goodWord)
def wsX4_factOfColumn : List Cond := .code yX4_factOfColumn cX4_factOfColumn 4 (some .int) :: ([.fieldLink RX4 19 "TableWright" "setting" "LTableWright$Setting;", .fieldLink RX4 12 "TableWright" "sheet" "LTableWright$Sheet;", .methodLink RX4 143 yX2_chosen, .instanceMethod yX2_chosen, .selects RX2 yX2_chosen yX2_chosen, .initialized RX2, .code yX2_chosen cX2_chosen 1 (some (.object "TableWright$Layout")), .fieldLink RX2 31 "TableWright$Setting" "isTurned" "Z", .fieldLink RX2 16 "TableWright$Setting" "turned" "LTableWright$Layout;", .fieldLink RX2 10 "TableWright$Setting" "upright" "LTableWright$Layout;", .methodLink RX4 271 yX3_sumUpTo, .instanceMethod yX3_sumUpTo, .selects RX3 yX3_sumUpTo yX3_sumUpTo, .initialized RX3, .code yX3_sumUpTo cX3_sumUpTo 3 (some .int), .fieldLink RX3 9 "TableWright$Sheet" "kinds" "[I", .fieldLink RX3 26 "TableWright$Sheet" "rows" "[LTableWright$Row;"] ++ wsX40 ++ wsX30 ++ wsX00 ++ wsX20 ++ wsX10)
def wsX4_ofColumn_r1 : List Cond := [Cond.methodLink RX4 58 yX4_requireColumn, Cond.instanceMethod yX4_requireColumn, Cond.selects RX4 yX4_requireColumn yX4_requireColumn, Cond.initialized RX4, Cond.code yX4_requireColumn cX4_requireColumn 2 none, Cond.classLink RX4 211 "java/lang/IndexOutOfBoundsException", Cond.initialized "java/lang/IndexOutOfBoundsException", Cond.fieldLink RX4 12 "TableWright" "sheet" "LTableWright$Sheet;", Cond.methodLink RX4 47 yX4_requireRange, Cond.static yX4_requireRange, Cond.code yX4_requireRange cX4_requireRange 3 none, Cond.classLink RX4 122 "java/lang/IllegalArgumentException", Cond.initialized "java/lang/IllegalArgumentException", Cond.methodLink RX4 131 yX4_refresh, Cond.instanceMethod yX4_refresh, Cond.selects RX4 yX4_refresh yX4_refresh, Cond.code yX4_refresh cX4_refresh 1 none, Cond.fieldLink RX4 30 "TableWright" "isStale" "Z", Cond.fieldLink RX4 19 "TableWright" "setting" "LTableWright$Setting;", Cond.fieldLink RX4 23 "TableWright" "wide" "I", Cond.fieldLink RX4 27 "TableWright" "high" "I", Cond.methodLink RX4 229 yX3_reckon, Cond.instanceMethod yX3_reckon, Cond.selects RX3 yX3_reckon yX3_reckon]
def wsX4_ofColumn_r2 : List Cond := [Cond.initialized RX3, Cond.code yX3_reckon cX3_reckon 2 none, Cond.fieldLink RX3 37 "TableWright$Sheet" "columnCount" "I", Cond.fieldLink RX3 9 "TableWright$Sheet" "kinds" "[I", Cond.methodLink RX3 61 yX3_reckonHidden, Cond.instanceMethod yX3_reckonHidden, Cond.selects RX3 yX3_reckonHidden yX3_reckonHidden, Cond.code yX3_reckonHidden cX3_reckonHidden 5 none, Cond.fieldLink RX3 41 "TableWright$Sheet" "rowCount" "I", Cond.fieldLink RX3 26 "TableWright$Sheet" "rows" "[LTableWright$Row;", Cond.methodLink RX3 65 yX3_reckonNumbers, Cond.instanceMethod yX3_reckonNumbers, Cond.selects RX3 yX3_reckonNumbers yX3_reckonNumbers, Cond.code yX3_reckonNumbers cX3_reckonNumbers 9 none, Cond.fieldLink RX3 18 "TableWright$Sheet" "firsts" "[I", Cond.fieldLink RX3 21 "TableWright$Sheet" "seconds" "[I", Cond.methodLink RX3 80 yX3_resultOf, Cond.static yX3_resultOf, Cond.code yX3_resultOf cX3_resultOf 7 (some .int), Cond.constantLong RX3 84 (-99999), Cond.constantLong RX3 86 (99999), Cond.methodLink RX3 88 Lib.MathLoose.min_long.x, Cond.static Lib.MathLoose.min_long.x, Cond.initialized "java/lang/Math"]
def wsX4_ofColumn_r3 : List Cond := [Cond.code Lib.MathLoose.min_long.x Lib.MathLoose.min_long.code 4 (some .long), Cond.methodLink RX3 94 Lib.MathLoose.max_long.x, Cond.static Lib.MathLoose.max_long.x, Cond.code Lib.MathLoose.max_long.x Lib.MathLoose.max_long.code 4 (some .long), Cond.methodLink RX3 68 yX3_measureText, Cond.instanceMethod yX3_measureText, Cond.selects RX3 yX3_measureText yX3_measureText, Cond.code yX3_measureText cX3_measureText 5 none, Cond.fieldLink RX3 15 "TableWright$Sheet" "titles" "[I", Cond.methodLink RX3 104 Lib.Math.max.name, Cond.static Lib.Math.max.name, Cond.code Lib.Math.max.name Lib.Math.max.code 2 (some .int), Cond.fieldLink RX3 30 "TableWright$Sheet" "leasts" "[I", Cond.fieldLink RX3 33 "TableWright$Sheet" "bests" "[I", Cond.methodLink RX3 110 Lib.Math.min.name, Cond.static Lib.Math.min.name, Cond.code Lib.Math.min.name Lib.Math.min.code 2 (some .int), Cond.methodLink RX3 97 yX3_isSpanning, Cond.instanceMethod yX3_isSpanning, Cond.selects RX3 yX3_isSpanning yX3_isSpanning, Cond.code yX3_isSpanning cX3_isSpanning 3 (some .boolean), Cond.methodLink RX3 71 yX3_measureNumbers, Cond.instanceMethod yX3_measureNumbers, Cond.selects RX3 yX3_measureNumbers yX3_measureNumbers]
def wsX4_ofColumn_r4 : List Cond := [Cond.code yX3_measureNumbers cX3_measureNumbers 4 none, Cond.methodLink RX3 112 yX3_sizeOf, Cond.static yX3_sizeOf, Cond.code yX3_sizeOf cX3_sizeOf 3 (some .int), Cond.methodLink RX4 232 yX2_arrange, Cond.instanceMethod yX2_arrange, Cond.selects RX2 yX2_arrange yX2_arrange, Cond.initialized RX2, Cond.code yX2_arrange cX2_arrange 5 none, Cond.fieldLink RX2 10 "TableWright$Setting" "upright" "LTableWright$Layout;", Cond.fieldLink RX2 16 "TableWright$Setting" "turned" "LTableWright$Layout;", Cond.fieldLink RX2 31 "TableWright$Setting" "isTurned" "Z", Cond.methodLink RX2 19 yX0_arrange, Cond.instanceMethod yX0_arrange, Cond.selects RX0 yX0_arrange yX0_arrange, Cond.initialized RX0, Cond.code yX0_arrange cX0_arrange 4 none, Cond.fieldLink RX0 39 "TableWright$Layout" "room" "I", Cond.fieldLink RX0 51 "TableWright$Layout" "isFit" "Z", Cond.fieldLink RX0 55 "TableWright$Layout" "pageCount" "I", Cond.fieldLink RX0 58 "TableWright$Layout" "nextRow" "I", Cond.fieldLink RX0 61 "TableWright$Layout" "nextNote" "I", Cond.methodLink RX0 43 yX0_isWidthFit, Cond.instanceMethod yX0_isWidthFit]
def wsX4_ofColumn_r5 : List Cond := [Cond.selects RX0 yX0_isWidthFit yX0_isWidthFit, Cond.code yX0_isWidthFit cX0_isWidthFit 5 (some .boolean), Cond.fieldLink RX0 9 "TableWright$Layout" "widths" "[I", Cond.methodLink RX0 112 yX0_tableWidth, Cond.instanceMethod yX0_tableWidth, Cond.selects RX0 yX0_tableWidth yX0_tableWidth, Cond.code yX0_tableWidth cX0_tableWidth 4 (some .int), Cond.methodLink RX0 116 yX0_mostSpareColumn, Cond.instanceMethod yX0_mostSpareColumn, Cond.selects RX0 yX0_mostSpareColumn yX0_mostSpareColumn, Cond.code yX0_mostSpareColumn cX0_mostSpareColumn 6 (some .int), Cond.methodLink RX0 47 yX0_areHeightsFit, Cond.instanceMethod yX0_areHeightsFit, Cond.selects RX0 yX0_areHeightsFit yX0_areHeightsFit, Cond.code yX0_areHeightsFit cX0_areHeightsFit 5 (some .boolean), Cond.methodLink RX0 104 Lib.Math.max.name, Cond.fieldLink RX0 15 "TableWright$Layout" "heights" "[I", Cond.methodLink RX0 122 yX0_heightOfCell, Cond.instanceMethod yX0_heightOfCell, Cond.selects RX0 yX0_heightOfCell yX0_heightOfCell, Cond.code yX0_heightOfCell cX0_heightOfCell 6 (some .int), Cond.methodLink RX0 97 yX3_isSpanning, Cond.methodLink RX0 69 yX0_fillPage, Cond.instanceMethod yX0_fillPage]
def wsX4_ofColumn_r6 : List Cond := [Cond.selects RX0 yX0_fillPage yX0_fillPage, Cond.code yX0_fillPage cX0_fillPage 4 none, Cond.fieldLink RX0 24 "TableWright$Layout" "firstRows" "[I", Cond.fieldLink RX0 27 "TableWright$Layout" "rowsOn" "[I", Cond.fieldLink RX0 30 "TableWright$Layout" "notesOn" "[I", Cond.fieldLink RX0 33 "TableWright$Layout" "left" "[I", Cond.fieldLink RX0 36 "TableWright$Layout" "lastRows" "[I", Cond.methodLink RX0 126 yX0_putWaitingNotes, Cond.instanceMethod yX0_putWaitingNotes, Cond.selects RX0 yX0_putWaitingNotes yX0_putWaitingNotes, Cond.code yX0_putWaitingNotes cX0_putWaitingNotes 4 none, Cond.fieldLink RX0 21 "TableWright$Layout" "notePages" "[I", Cond.methodLink RX0 129 yX0_hasRoomForNextRow, Cond.instanceMethod yX0_hasRoomForNextRow, Cond.selects RX0 yX0_hasRoomForNextRow yX0_hasRoomForNextRow, Cond.code yX0_hasRoomForNextRow cX0_hasRoomForNextRow 5 (some .boolean), Cond.methodLink RX0 142 yX0_heightOfGroup, Cond.instanceMethod yX0_heightOfGroup, Cond.selects RX0 yX0_heightOfGroup yX0_heightOfGroup, Cond.code yX0_heightOfGroup cX0_heightOfGroup 5 (some .int), Cond.methodLink RX0 132 yX0_putNextRow, Cond.instanceMethod yX0_putNextRow, Cond.selects RX0 yX0_putNextRow yX0_putNextRow, Cond.code yX0_putNextRow cX0_putNextRow 2 none]
def wsX4_ofColumn_r7 : List Cond := [Cond.fieldLink RX0 18 "TableWright$Layout" "rowPages" "[I", Cond.methodLink RX4 154 yX4_factOfColumn, Cond.instanceMethod yX4_factOfColumn, Cond.selects RX4 yX4_factOfColumn yX4_factOfColumn, Cond.code yX4_factOfColumn cX4_factOfColumn 4 (some .int), Cond.methodLink RX4 143 yX2_chosen, Cond.instanceMethod yX2_chosen, Cond.selects RX2 yX2_chosen yX2_chosen, Cond.code yX2_chosen cX2_chosen 1 (some (.object "TableWright$Layout")), Cond.methodLink RX4 271 yX3_sumUpTo, Cond.instanceMethod yX3_sumUpTo, Cond.selects RX3 yX3_sumUpTo yX3_sumUpTo, Cond.code yX3_sumUpTo cX3_sumUpTo 3 (some .int)]
def wsX4_ofColumn : List Cond := .code yX4_ofColumn cX4_ofColumn 3 (some .int) :: ((wsX4_ofColumn_r1 ++ (wsX4_ofColumn_r2 ++ (wsX4_ofColumn_r3 ++ (wsX4_ofColumn_r4 ++ (wsX4_ofColumn_r5 ++ (wsX4_ofColumn_r6 ++ wsX4_ofColumn_r7)))))) ++ wsX40 ++ wsX30 ++ wsX10 ++ wsX20 ++ wsX00 ++ (vx_atS RX4 215 "java/lang/IndexOutOfBoundsException" ["java/lang/RuntimeException", "java/lang/Exception"]).filter goodWord ++ (vx_atS RX4 126 "java/lang/IllegalArgumentException" ["java/lang/RuntimeException", "java/lang/Exception"]).filter goodWord)
def wsX4_factOfRow : List Cond := .code yX4_factOfRow cX4_factOfRow 4 (some .int) :: ([.fieldLink RX4 19 "TableWright" "setting" "LTableWright$Setting;", .methodLink RX4 143 yX2_chosen, .instanceMethod yX2_chosen, .selects RX2 yX2_chosen yX2_chosen, .initialized RX2, .code yX2_chosen cX2_chosen 1 (some (.object "TableWright$Layout")), .fieldLink RX2 31 "TableWright$Setting" "isTurned" "Z", .fieldLink RX2 16 "TableWright$Setting" "turned" "LTableWright$Layout;", .fieldLink RX2 10 "TableWright$Setting" "upright" "LTableWright$Layout;"] ++ wsX40 ++ wsX00 ++ wsX20)
def wsX4_ofRow_r1 : List Cond := [Cond.methodLink RX4 86 yX4_requireRow, Cond.instanceMethod yX4_requireRow, Cond.selects RX4 yX4_requireRow yX4_requireRow, Cond.initialized RX4, Cond.code yX4_requireRow cX4_requireRow 2 none, Cond.classLink RX4 211 "java/lang/IndexOutOfBoundsException", Cond.initialized "java/lang/IndexOutOfBoundsException", Cond.fieldLink RX4 12 "TableWright" "sheet" "LTableWright$Sheet;", Cond.methodLink RX4 47 yX4_requireRange, Cond.static yX4_requireRange, Cond.code yX4_requireRange cX4_requireRange 3 none, Cond.classLink RX4 122 "java/lang/IllegalArgumentException", Cond.initialized "java/lang/IllegalArgumentException", Cond.methodLink RX4 131 yX4_refresh, Cond.instanceMethod yX4_refresh, Cond.selects RX4 yX4_refresh yX4_refresh, Cond.code yX4_refresh cX4_refresh 1 none, Cond.fieldLink RX4 30 "TableWright" "isStale" "Z", Cond.fieldLink RX4 19 "TableWright" "setting" "LTableWright$Setting;", Cond.fieldLink RX4 23 "TableWright" "wide" "I", Cond.fieldLink RX4 27 "TableWright" "high" "I", Cond.methodLink RX4 229 yX3_reckon, Cond.instanceMethod yX3_reckon, Cond.selects RX3 yX3_reckon yX3_reckon]
def wsX4_ofRow_r2 : List Cond := [Cond.initialized RX3, Cond.code yX3_reckon cX3_reckon 2 none, Cond.fieldLink RX3 37 "TableWright$Sheet" "columnCount" "I", Cond.fieldLink RX3 9 "TableWright$Sheet" "kinds" "[I", Cond.methodLink RX3 61 yX3_reckonHidden, Cond.instanceMethod yX3_reckonHidden, Cond.selects RX3 yX3_reckonHidden yX3_reckonHidden, Cond.code yX3_reckonHidden cX3_reckonHidden 5 none, Cond.fieldLink RX3 41 "TableWright$Sheet" "rowCount" "I", Cond.fieldLink RX3 26 "TableWright$Sheet" "rows" "[LTableWright$Row;", Cond.methodLink RX3 65 yX3_reckonNumbers, Cond.instanceMethod yX3_reckonNumbers, Cond.selects RX3 yX3_reckonNumbers yX3_reckonNumbers, Cond.code yX3_reckonNumbers cX3_reckonNumbers 9 none, Cond.fieldLink RX3 18 "TableWright$Sheet" "firsts" "[I", Cond.fieldLink RX3 21 "TableWright$Sheet" "seconds" "[I", Cond.methodLink RX3 80 yX3_resultOf, Cond.static yX3_resultOf, Cond.code yX3_resultOf cX3_resultOf 7 (some .int), Cond.constantLong RX3 84 (-99999), Cond.constantLong RX3 86 (99999), Cond.methodLink RX3 88 Lib.MathLoose.min_long.x, Cond.static Lib.MathLoose.min_long.x, Cond.initialized "java/lang/Math"]
def wsX4_ofRow_r3 : List Cond := [Cond.code Lib.MathLoose.min_long.x Lib.MathLoose.min_long.code 4 (some .long), Cond.methodLink RX3 94 Lib.MathLoose.max_long.x, Cond.static Lib.MathLoose.max_long.x, Cond.code Lib.MathLoose.max_long.x Lib.MathLoose.max_long.code 4 (some .long), Cond.methodLink RX3 68 yX3_measureText, Cond.instanceMethod yX3_measureText, Cond.selects RX3 yX3_measureText yX3_measureText, Cond.code yX3_measureText cX3_measureText 5 none, Cond.fieldLink RX3 15 "TableWright$Sheet" "titles" "[I", Cond.methodLink RX3 104 Lib.Math.max.name, Cond.static Lib.Math.max.name, Cond.code Lib.Math.max.name Lib.Math.max.code 2 (some .int), Cond.fieldLink RX3 30 "TableWright$Sheet" "leasts" "[I", Cond.fieldLink RX3 33 "TableWright$Sheet" "bests" "[I", Cond.methodLink RX3 110 Lib.Math.min.name, Cond.static Lib.Math.min.name, Cond.code Lib.Math.min.name Lib.Math.min.code 2 (some .int), Cond.methodLink RX3 97 yX3_isSpanning, Cond.instanceMethod yX3_isSpanning, Cond.selects RX3 yX3_isSpanning yX3_isSpanning, Cond.code yX3_isSpanning cX3_isSpanning 3 (some .boolean), Cond.methodLink RX3 71 yX3_measureNumbers, Cond.instanceMethod yX3_measureNumbers, Cond.selects RX3 yX3_measureNumbers yX3_measureNumbers]
def wsX4_ofRow_r4 : List Cond := [Cond.code yX3_measureNumbers cX3_measureNumbers 4 none, Cond.methodLink RX3 112 yX3_sizeOf, Cond.static yX3_sizeOf, Cond.code yX3_sizeOf cX3_sizeOf 3 (some .int), Cond.methodLink RX4 232 yX2_arrange, Cond.instanceMethod yX2_arrange, Cond.selects RX2 yX2_arrange yX2_arrange, Cond.initialized RX2, Cond.code yX2_arrange cX2_arrange 5 none, Cond.fieldLink RX2 10 "TableWright$Setting" "upright" "LTableWright$Layout;", Cond.fieldLink RX2 16 "TableWright$Setting" "turned" "LTableWright$Layout;", Cond.fieldLink RX2 31 "TableWright$Setting" "isTurned" "Z", Cond.methodLink RX2 19 yX0_arrange, Cond.instanceMethod yX0_arrange, Cond.selects RX0 yX0_arrange yX0_arrange, Cond.initialized RX0, Cond.code yX0_arrange cX0_arrange 4 none, Cond.fieldLink RX0 39 "TableWright$Layout" "room" "I", Cond.fieldLink RX0 51 "TableWright$Layout" "isFit" "Z", Cond.fieldLink RX0 55 "TableWright$Layout" "pageCount" "I", Cond.fieldLink RX0 58 "TableWright$Layout" "nextRow" "I", Cond.fieldLink RX0 61 "TableWright$Layout" "nextNote" "I", Cond.methodLink RX0 43 yX0_isWidthFit, Cond.instanceMethod yX0_isWidthFit]
def wsX4_ofRow_r5 : List Cond := [Cond.selects RX0 yX0_isWidthFit yX0_isWidthFit, Cond.code yX0_isWidthFit cX0_isWidthFit 5 (some .boolean), Cond.fieldLink RX0 9 "TableWright$Layout" "widths" "[I", Cond.methodLink RX0 112 yX0_tableWidth, Cond.instanceMethod yX0_tableWidth, Cond.selects RX0 yX0_tableWidth yX0_tableWidth, Cond.code yX0_tableWidth cX0_tableWidth 4 (some .int), Cond.methodLink RX0 116 yX0_mostSpareColumn, Cond.instanceMethod yX0_mostSpareColumn, Cond.selects RX0 yX0_mostSpareColumn yX0_mostSpareColumn, Cond.code yX0_mostSpareColumn cX0_mostSpareColumn 6 (some .int), Cond.methodLink RX0 47 yX0_areHeightsFit, Cond.instanceMethod yX0_areHeightsFit, Cond.selects RX0 yX0_areHeightsFit yX0_areHeightsFit, Cond.code yX0_areHeightsFit cX0_areHeightsFit 5 (some .boolean), Cond.methodLink RX0 104 Lib.Math.max.name, Cond.fieldLink RX0 15 "TableWright$Layout" "heights" "[I", Cond.methodLink RX0 122 yX0_heightOfCell, Cond.instanceMethod yX0_heightOfCell, Cond.selects RX0 yX0_heightOfCell yX0_heightOfCell, Cond.code yX0_heightOfCell cX0_heightOfCell 6 (some .int), Cond.methodLink RX0 97 yX3_isSpanning, Cond.methodLink RX0 69 yX0_fillPage, Cond.instanceMethod yX0_fillPage]
def wsX4_ofRow_r6 : List Cond := [Cond.selects RX0 yX0_fillPage yX0_fillPage, Cond.code yX0_fillPage cX0_fillPage 4 none, Cond.fieldLink RX0 24 "TableWright$Layout" "firstRows" "[I", Cond.fieldLink RX0 27 "TableWright$Layout" "rowsOn" "[I", Cond.fieldLink RX0 30 "TableWright$Layout" "notesOn" "[I", Cond.fieldLink RX0 33 "TableWright$Layout" "left" "[I", Cond.fieldLink RX0 36 "TableWright$Layout" "lastRows" "[I", Cond.methodLink RX0 126 yX0_putWaitingNotes, Cond.instanceMethod yX0_putWaitingNotes, Cond.selects RX0 yX0_putWaitingNotes yX0_putWaitingNotes, Cond.code yX0_putWaitingNotes cX0_putWaitingNotes 4 none, Cond.fieldLink RX0 21 "TableWright$Layout" "notePages" "[I", Cond.methodLink RX0 129 yX0_hasRoomForNextRow, Cond.instanceMethod yX0_hasRoomForNextRow, Cond.selects RX0 yX0_hasRoomForNextRow yX0_hasRoomForNextRow, Cond.code yX0_hasRoomForNextRow cX0_hasRoomForNextRow 5 (some .boolean), Cond.methodLink RX0 142 yX0_heightOfGroup, Cond.instanceMethod yX0_heightOfGroup, Cond.selects RX0 yX0_heightOfGroup yX0_heightOfGroup, Cond.code yX0_heightOfGroup cX0_heightOfGroup 5 (some .int), Cond.methodLink RX0 132 yX0_putNextRow, Cond.instanceMethod yX0_putNextRow, Cond.selects RX0 yX0_putNextRow yX0_putNextRow, Cond.code yX0_putNextRow cX0_putNextRow 2 none]
def wsX4_ofRow_r7 : List Cond := [Cond.fieldLink RX0 18 "TableWright$Layout" "rowPages" "[I", Cond.methodLink RX4 157 yX4_factOfRow, Cond.instanceMethod yX4_factOfRow, Cond.selects RX4 yX4_factOfRow yX4_factOfRow, Cond.code yX4_factOfRow cX4_factOfRow 4 (some .int), Cond.methodLink RX4 143 yX2_chosen, Cond.instanceMethod yX2_chosen, Cond.selects RX2 yX2_chosen yX2_chosen, Cond.code yX2_chosen cX2_chosen 1 (some (.object "TableWright$Layout"))]
def wsX4_ofRow : List Cond := .code yX4_ofRow cX4_ofRow 3 (some .int) :: ((wsX4_ofRow_r1 ++ (wsX4_ofRow_r2 ++ (wsX4_ofRow_r3 ++ (wsX4_ofRow_r4 ++ (wsX4_ofRow_r5 ++ (wsX4_ofRow_r6 ++ wsX4_ofRow_r7)))))) ++ wsX40 ++ wsX30 ++ wsX10 ++ wsX20 ++ wsX00 ++ (vx_atS RX4 215 "java/lang/IndexOutOfBoundsException" ["java/lang/RuntimeException", "java/lang/Exception"]).filter goodWord ++ (vx_atS RX4 126 "java/lang/IllegalArgumentException" ["java/lang/RuntimeException", "java/lang/Exception"]).filter goodWord)
def wsX4_requirePage : List Cond := .code yX4_requirePage cX4_requirePage 2 none :: ([.classLink RX4 211 "java/lang/IndexOutOfBoundsException", .initialized "java/lang/IndexOutOfBoundsException", .fieldLink RX4 19 "TableWright" "setting" "LTableWright$Setting;", .methodLink RX4 143 yX2_chosen, .instanceMethod yX2_chosen, .selects RX2 yX2_chosen yX2_chosen, .initialized RX2, .code yX2_chosen cX2_chosen 1 (some (.object "TableWright$Layout")), .fieldLink RX2 31 "TableWright$Setting" "isTurned" "Z", .fieldLink RX2 16 "TableWright$Setting" "turned" "LTableWright$Layout;", .fieldLink RX2 10 "TableWright$Setting" "upright" "LTableWright$Layout;"] ++ wsX40 ++ wsX00 ++ wsX20 ++ (vx_atS RX4 215 "java/lang/IndexOutOfBoundsException" ["java/lang/RuntimeException", "java/lang/Exception"]).filter goodWord)
def wsX4_factOfPage : List Cond := .code yX4_factOfPage cX4_factOfPage 4 (some .int) :: ([.fieldLink RX4 19 "TableWright" "setting" "LTableWright$Setting;", .fieldLink RX4 12 "TableWright" "sheet" "LTableWright$Sheet;", .methodLink RX4 143 yX2_chosen, .instanceMethod yX2_chosen, .selects RX2 yX2_chosen yX2_chosen, .initialized RX2, .code yX2_chosen cX2_chosen 1 (some (.object "TableWright$Layout")), .fieldLink RX2 31 "TableWright$Setting" "isTurned" "Z", .fieldLink RX2 16 "TableWright$Setting" "turned" "LTableWright$Layout;", .fieldLink RX2 10 "TableWright$Setting" "upright" "LTableWright$Layout;", .methodLink RX4 289 yX0_readAloud, .instanceMethod yX0_readAloud, .selects RX0 yX0_readAloud yX0_readAloud, .initialized RX0, .code yX0_readAloud cX0_readAloud 5 (some .int), .fieldLink RX0 30 "TableWright$Layout" "notesOn" "[I", .fieldLink RX0 18 "TableWright$Layout" "rowPages" "[I", .methodLink RX0 83 yX0_shownCells, .static yX0_shownCells, .code yX0_shownCells cX0_shownCells 4 (some .int)] ++ wsX40 ++ wsX00 ++ wsX20 ++ wsX30 ++ wsX10)
def wsX4_ofPage_r1 : List Cond := [Cond.methodLink RX4 131 yX4_refresh, Cond.instanceMethod yX4_refresh, Cond.selects RX4 yX4_refresh yX4_refresh, Cond.initialized RX4, Cond.code yX4_refresh cX4_refresh 1 none, Cond.fieldLink RX4 30 "TableWright" "isStale" "Z", Cond.fieldLink RX4 12 "TableWright" "sheet" "LTableWright$Sheet;", Cond.fieldLink RX4 19 "TableWright" "setting" "LTableWright$Setting;", Cond.fieldLink RX4 23 "TableWright" "wide" "I", Cond.fieldLink RX4 27 "TableWright" "high" "I", Cond.methodLink RX4 229 yX3_reckon, Cond.instanceMethod yX3_reckon, Cond.selects RX3 yX3_reckon yX3_reckon, Cond.initialized RX3, Cond.code yX3_reckon cX3_reckon 2 none, Cond.fieldLink RX3 37 "TableWright$Sheet" "columnCount" "I", Cond.fieldLink RX3 9 "TableWright$Sheet" "kinds" "[I", Cond.methodLink RX3 61 yX3_reckonHidden, Cond.instanceMethod yX3_reckonHidden, Cond.selects RX3 yX3_reckonHidden yX3_reckonHidden, Cond.code yX3_reckonHidden cX3_reckonHidden 5 none, Cond.fieldLink RX3 41 "TableWright$Sheet" "rowCount" "I", Cond.fieldLink RX3 26 "TableWright$Sheet" "rows" "[LTableWright$Row;", Cond.methodLink RX3 65 yX3_reckonNumbers]
def wsX4_ofPage_r2 : List Cond := [Cond.instanceMethod yX3_reckonNumbers, Cond.selects RX3 yX3_reckonNumbers yX3_reckonNumbers, Cond.code yX3_reckonNumbers cX3_reckonNumbers 9 none, Cond.fieldLink RX3 18 "TableWright$Sheet" "firsts" "[I", Cond.fieldLink RX3 21 "TableWright$Sheet" "seconds" "[I", Cond.methodLink RX3 80 yX3_resultOf, Cond.static yX3_resultOf, Cond.code yX3_resultOf cX3_resultOf 7 (some .int), Cond.constantLong RX3 84 (-99999), Cond.constantLong RX3 86 (99999), Cond.methodLink RX3 88 Lib.MathLoose.min_long.x, Cond.static Lib.MathLoose.min_long.x, Cond.initialized "java/lang/Math", Cond.code Lib.MathLoose.min_long.x Lib.MathLoose.min_long.code 4 (some .long), Cond.methodLink RX3 94 Lib.MathLoose.max_long.x, Cond.static Lib.MathLoose.max_long.x, Cond.code Lib.MathLoose.max_long.x Lib.MathLoose.max_long.code 4 (some .long), Cond.methodLink RX3 68 yX3_measureText, Cond.instanceMethod yX3_measureText, Cond.selects RX3 yX3_measureText yX3_measureText, Cond.code yX3_measureText cX3_measureText 5 none, Cond.fieldLink RX3 15 "TableWright$Sheet" "titles" "[I", Cond.methodLink RX3 104 Lib.Math.max.name, Cond.static Lib.Math.max.name]
def wsX4_ofPage_r3 : List Cond := [Cond.code Lib.Math.max.name Lib.Math.max.code 2 (some .int), Cond.fieldLink RX3 30 "TableWright$Sheet" "leasts" "[I", Cond.fieldLink RX3 33 "TableWright$Sheet" "bests" "[I", Cond.methodLink RX3 110 Lib.Math.min.name, Cond.static Lib.Math.min.name, Cond.code Lib.Math.min.name Lib.Math.min.code 2 (some .int), Cond.methodLink RX3 97 yX3_isSpanning, Cond.instanceMethod yX3_isSpanning, Cond.selects RX3 yX3_isSpanning yX3_isSpanning, Cond.code yX3_isSpanning cX3_isSpanning 3 (some .boolean), Cond.methodLink RX3 71 yX3_measureNumbers, Cond.instanceMethod yX3_measureNumbers, Cond.selects RX3 yX3_measureNumbers yX3_measureNumbers, Cond.code yX3_measureNumbers cX3_measureNumbers 4 none, Cond.methodLink RX3 112 yX3_sizeOf, Cond.static yX3_sizeOf, Cond.code yX3_sizeOf cX3_sizeOf 3 (some .int), Cond.methodLink RX4 232 yX2_arrange, Cond.instanceMethod yX2_arrange, Cond.selects RX2 yX2_arrange yX2_arrange, Cond.initialized RX2, Cond.code yX2_arrange cX2_arrange 5 none, Cond.fieldLink RX2 10 "TableWright$Setting" "upright" "LTableWright$Layout;", Cond.fieldLink RX2 16 "TableWright$Setting" "turned" "LTableWright$Layout;"]
def wsX4_ofPage_r4 : List Cond := [Cond.fieldLink RX2 31 "TableWright$Setting" "isTurned" "Z", Cond.methodLink RX2 19 yX0_arrange, Cond.instanceMethod yX0_arrange, Cond.selects RX0 yX0_arrange yX0_arrange, Cond.initialized RX0, Cond.code yX0_arrange cX0_arrange 4 none, Cond.fieldLink RX0 39 "TableWright$Layout" "room" "I", Cond.fieldLink RX0 51 "TableWright$Layout" "isFit" "Z", Cond.fieldLink RX0 55 "TableWright$Layout" "pageCount" "I", Cond.fieldLink RX0 58 "TableWright$Layout" "nextRow" "I", Cond.fieldLink RX0 61 "TableWright$Layout" "nextNote" "I", Cond.methodLink RX0 43 yX0_isWidthFit, Cond.instanceMethod yX0_isWidthFit, Cond.selects RX0 yX0_isWidthFit yX0_isWidthFit, Cond.code yX0_isWidthFit cX0_isWidthFit 5 (some .boolean), Cond.fieldLink RX0 9 "TableWright$Layout" "widths" "[I", Cond.methodLink RX0 112 yX0_tableWidth, Cond.instanceMethod yX0_tableWidth, Cond.selects RX0 yX0_tableWidth yX0_tableWidth, Cond.code yX0_tableWidth cX0_tableWidth 4 (some .int), Cond.methodLink RX0 116 yX0_mostSpareColumn, Cond.instanceMethod yX0_mostSpareColumn, Cond.selects RX0 yX0_mostSpareColumn yX0_mostSpareColumn, Cond.code yX0_mostSpareColumn cX0_mostSpareColumn 6 (some .int)]
def wsX4_ofPage_r5 : List Cond := [Cond.methodLink RX0 47 yX0_areHeightsFit, Cond.instanceMethod yX0_areHeightsFit, Cond.selects RX0 yX0_areHeightsFit yX0_areHeightsFit, Cond.code yX0_areHeightsFit cX0_areHeightsFit 5 (some .boolean), Cond.methodLink RX0 104 Lib.Math.max.name, Cond.fieldLink RX0 15 "TableWright$Layout" "heights" "[I", Cond.methodLink RX0 122 yX0_heightOfCell, Cond.instanceMethod yX0_heightOfCell, Cond.selects RX0 yX0_heightOfCell yX0_heightOfCell, Cond.code yX0_heightOfCell cX0_heightOfCell 6 (some .int), Cond.methodLink RX0 97 yX3_isSpanning, Cond.methodLink RX0 69 yX0_fillPage, Cond.instanceMethod yX0_fillPage, Cond.selects RX0 yX0_fillPage yX0_fillPage, Cond.code yX0_fillPage cX0_fillPage 4 none, Cond.fieldLink RX0 24 "TableWright$Layout" "firstRows" "[I", Cond.fieldLink RX0 27 "TableWright$Layout" "rowsOn" "[I", Cond.fieldLink RX0 30 "TableWright$Layout" "notesOn" "[I", Cond.fieldLink RX0 33 "TableWright$Layout" "left" "[I", Cond.fieldLink RX0 36 "TableWright$Layout" "lastRows" "[I", Cond.methodLink RX0 126 yX0_putWaitingNotes, Cond.instanceMethod yX0_putWaitingNotes, Cond.selects RX0 yX0_putWaitingNotes yX0_putWaitingNotes, Cond.code yX0_putWaitingNotes cX0_putWaitingNotes 4 none]
def wsX4_ofPage_r6 : List Cond := [Cond.fieldLink RX0 21 "TableWright$Layout" "notePages" "[I", Cond.methodLink RX0 129 yX0_hasRoomForNextRow, Cond.instanceMethod yX0_hasRoomForNextRow, Cond.selects RX0 yX0_hasRoomForNextRow yX0_hasRoomForNextRow, Cond.code yX0_hasRoomForNextRow cX0_hasRoomForNextRow 5 (some .boolean), Cond.methodLink RX0 142 yX0_heightOfGroup, Cond.instanceMethod yX0_heightOfGroup, Cond.selects RX0 yX0_heightOfGroup yX0_heightOfGroup, Cond.code yX0_heightOfGroup cX0_heightOfGroup 5 (some .int), Cond.methodLink RX0 132 yX0_putNextRow, Cond.instanceMethod yX0_putNextRow, Cond.selects RX0 yX0_putNextRow yX0_putNextRow, Cond.code yX0_putNextRow cX0_putNextRow 2 none, Cond.fieldLink RX0 18 "TableWright$Layout" "rowPages" "[I", Cond.methodLink RX4 160 yX4_requirePage, Cond.instanceMethod yX4_requirePage, Cond.selects RX4 yX4_requirePage yX4_requirePage, Cond.code yX4_requirePage cX4_requirePage 2 none, Cond.classLink RX4 211 "java/lang/IndexOutOfBoundsException", Cond.initialized "java/lang/IndexOutOfBoundsException", Cond.methodLink RX4 143 yX2_chosen, Cond.instanceMethod yX2_chosen, Cond.selects RX2 yX2_chosen yX2_chosen, Cond.code yX2_chosen cX2_chosen 1 (some (.object "TableWright$Layout"))]
def wsX4_ofPage_r7 : List Cond := [Cond.methodLink RX4 47 yX4_requireRange, Cond.static yX4_requireRange, Cond.code yX4_requireRange cX4_requireRange 3 none, Cond.classLink RX4 122 "java/lang/IllegalArgumentException", Cond.initialized "java/lang/IllegalArgumentException", Cond.methodLink RX4 163 yX4_factOfPage, Cond.instanceMethod yX4_factOfPage, Cond.selects RX4 yX4_factOfPage yX4_factOfPage, Cond.code yX4_factOfPage cX4_factOfPage 4 (some .int), Cond.methodLink RX4 289 yX0_readAloud, Cond.instanceMethod yX0_readAloud, Cond.selects RX0 yX0_readAloud yX0_readAloud, Cond.code yX0_readAloud cX0_readAloud 5 (some .int), Cond.methodLink RX0 83 yX0_shownCells, Cond.static yX0_shownCells, Cond.code yX0_shownCells cX0_shownCells 4 (some .int)]
def wsX4_ofPage : List Cond := .code yX4_ofPage cX4_ofPage 3 (some .int) :: ((wsX4_ofPage_r1 ++ (wsX4_ofPage_r2 ++ (wsX4_ofPage_r3 ++ (wsX4_ofPage_r4 ++ (wsX4_ofPage_r5 ++ (wsX4_ofPage_r6 ++ wsX4_ofPage_r7)))))) ++ wsX40 ++ wsX30 ++ wsX10 ++ wsX20 ++ wsX00 ++ (vx_atS RX4 215 "java/lang/IndexOutOfBoundsException" ["java/lang/RuntimeException", "java/lang/Exception"]).filter goodWord ++ (vx_atS RX4 126 "java/lang/IllegalArgumentException" ["java/lang/RuntimeException", "java/lang/Exception"]).filter goodWord)
def wsX4_carried_r1 : List Cond := [Cond.fieldLink RX4 19 "TableWright" "setting" "LTableWright$Setting;", Cond.fieldLink RX4 12 "TableWright" "sheet" "LTableWright$Sheet;", Cond.methodLink RX4 131 yX4_refresh, Cond.instanceMethod yX4_refresh, Cond.selects RX4 yX4_refresh yX4_refresh, Cond.initialized RX4, Cond.code yX4_refresh cX4_refresh 1 none, Cond.fieldLink RX4 30 "TableWright" "isStale" "Z", Cond.fieldLink RX4 23 "TableWright" "wide" "I", Cond.fieldLink RX4 27 "TableWright" "high" "I", Cond.methodLink RX4 229 yX3_reckon, Cond.instanceMethod yX3_reckon, Cond.selects RX3 yX3_reckon yX3_reckon, Cond.initialized RX3, Cond.code yX3_reckon cX3_reckon 2 none, Cond.fieldLink RX3 37 "TableWright$Sheet" "columnCount" "I", Cond.fieldLink RX3 9 "TableWright$Sheet" "kinds" "[I", Cond.methodLink RX3 61 yX3_reckonHidden, Cond.instanceMethod yX3_reckonHidden, Cond.selects RX3 yX3_reckonHidden yX3_reckonHidden, Cond.code yX3_reckonHidden cX3_reckonHidden 5 none, Cond.fieldLink RX3 41 "TableWright$Sheet" "rowCount" "I", Cond.fieldLink RX3 26 "TableWright$Sheet" "rows" "[LTableWright$Row;", Cond.methodLink RX3 65 yX3_reckonNumbers]
def wsX4_carried_r2 : List Cond := [Cond.instanceMethod yX3_reckonNumbers, Cond.selects RX3 yX3_reckonNumbers yX3_reckonNumbers, Cond.code yX3_reckonNumbers cX3_reckonNumbers 9 none, Cond.fieldLink RX3 18 "TableWright$Sheet" "firsts" "[I", Cond.fieldLink RX3 21 "TableWright$Sheet" "seconds" "[I", Cond.methodLink RX3 80 yX3_resultOf, Cond.static yX3_resultOf, Cond.code yX3_resultOf cX3_resultOf 7 (some .int), Cond.constantLong RX3 84 (-99999), Cond.constantLong RX3 86 (99999), Cond.methodLink RX3 88 Lib.MathLoose.min_long.x, Cond.static Lib.MathLoose.min_long.x, Cond.initialized "java/lang/Math", Cond.code Lib.MathLoose.min_long.x Lib.MathLoose.min_long.code 4 (some .long), Cond.methodLink RX3 94 Lib.MathLoose.max_long.x, Cond.static Lib.MathLoose.max_long.x, Cond.code Lib.MathLoose.max_long.x Lib.MathLoose.max_long.code 4 (some .long), Cond.methodLink RX3 68 yX3_measureText, Cond.instanceMethod yX3_measureText, Cond.selects RX3 yX3_measureText yX3_measureText, Cond.code yX3_measureText cX3_measureText 5 none, Cond.fieldLink RX3 15 "TableWright$Sheet" "titles" "[I", Cond.methodLink RX3 104 Lib.Math.max.name, Cond.static Lib.Math.max.name]
def wsX4_carried_r3 : List Cond := [Cond.code Lib.Math.max.name Lib.Math.max.code 2 (some .int), Cond.fieldLink RX3 30 "TableWright$Sheet" "leasts" "[I", Cond.fieldLink RX3 33 "TableWright$Sheet" "bests" "[I", Cond.methodLink RX3 110 Lib.Math.min.name, Cond.static Lib.Math.min.name, Cond.code Lib.Math.min.name Lib.Math.min.code 2 (some .int), Cond.methodLink RX3 97 yX3_isSpanning, Cond.instanceMethod yX3_isSpanning, Cond.selects RX3 yX3_isSpanning yX3_isSpanning, Cond.code yX3_isSpanning cX3_isSpanning 3 (some .boolean), Cond.methodLink RX3 71 yX3_measureNumbers, Cond.instanceMethod yX3_measureNumbers, Cond.selects RX3 yX3_measureNumbers yX3_measureNumbers, Cond.code yX3_measureNumbers cX3_measureNumbers 4 none, Cond.methodLink RX3 112 yX3_sizeOf, Cond.static yX3_sizeOf, Cond.code yX3_sizeOf cX3_sizeOf 3 (some .int), Cond.methodLink RX4 232 yX2_arrange, Cond.instanceMethod yX2_arrange, Cond.selects RX2 yX2_arrange yX2_arrange, Cond.initialized RX2, Cond.code yX2_arrange cX2_arrange 5 none, Cond.fieldLink RX2 10 "TableWright$Setting" "upright" "LTableWright$Layout;", Cond.fieldLink RX2 16 "TableWright$Setting" "turned" "LTableWright$Layout;"]
def wsX4_carried_r4 : List Cond := [Cond.fieldLink RX2 31 "TableWright$Setting" "isTurned" "Z", Cond.methodLink RX2 19 yX0_arrange, Cond.instanceMethod yX0_arrange, Cond.selects RX0 yX0_arrange yX0_arrange, Cond.initialized RX0, Cond.code yX0_arrange cX0_arrange 4 none, Cond.fieldLink RX0 39 "TableWright$Layout" "room" "I", Cond.fieldLink RX0 51 "TableWright$Layout" "isFit" "Z", Cond.fieldLink RX0 55 "TableWright$Layout" "pageCount" "I", Cond.fieldLink RX0 58 "TableWright$Layout" "nextRow" "I", Cond.fieldLink RX0 61 "TableWright$Layout" "nextNote" "I", Cond.methodLink RX0 43 yX0_isWidthFit, Cond.instanceMethod yX0_isWidthFit, Cond.selects RX0 yX0_isWidthFit yX0_isWidthFit, Cond.code yX0_isWidthFit cX0_isWidthFit 5 (some .boolean), Cond.fieldLink RX0 9 "TableWright$Layout" "widths" "[I", Cond.methodLink RX0 112 yX0_tableWidth, Cond.instanceMethod yX0_tableWidth, Cond.selects RX0 yX0_tableWidth yX0_tableWidth, Cond.code yX0_tableWidth cX0_tableWidth 4 (some .int), Cond.methodLink RX0 116 yX0_mostSpareColumn, Cond.instanceMethod yX0_mostSpareColumn, Cond.selects RX0 yX0_mostSpareColumn yX0_mostSpareColumn, Cond.code yX0_mostSpareColumn cX0_mostSpareColumn 6 (some .int)]
def wsX4_carried_r5 : List Cond := [Cond.methodLink RX0 47 yX0_areHeightsFit, Cond.instanceMethod yX0_areHeightsFit, Cond.selects RX0 yX0_areHeightsFit yX0_areHeightsFit, Cond.code yX0_areHeightsFit cX0_areHeightsFit 5 (some .boolean), Cond.methodLink RX0 104 Lib.Math.max.name, Cond.fieldLink RX0 15 "TableWright$Layout" "heights" "[I", Cond.methodLink RX0 122 yX0_heightOfCell, Cond.instanceMethod yX0_heightOfCell, Cond.selects RX0 yX0_heightOfCell yX0_heightOfCell, Cond.code yX0_heightOfCell cX0_heightOfCell 6 (some .int), Cond.methodLink RX0 97 yX3_isSpanning, Cond.methodLink RX0 69 yX0_fillPage, Cond.instanceMethod yX0_fillPage, Cond.selects RX0 yX0_fillPage yX0_fillPage, Cond.code yX0_fillPage cX0_fillPage 4 none, Cond.fieldLink RX0 24 "TableWright$Layout" "firstRows" "[I", Cond.fieldLink RX0 27 "TableWright$Layout" "rowsOn" "[I", Cond.fieldLink RX0 30 "TableWright$Layout" "notesOn" "[I", Cond.fieldLink RX0 33 "TableWright$Layout" "left" "[I", Cond.fieldLink RX0 36 "TableWright$Layout" "lastRows" "[I", Cond.methodLink RX0 126 yX0_putWaitingNotes, Cond.instanceMethod yX0_putWaitingNotes, Cond.selects RX0 yX0_putWaitingNotes yX0_putWaitingNotes, Cond.code yX0_putWaitingNotes cX0_putWaitingNotes 4 none]
def wsX4_carried_r6 : List Cond := [Cond.fieldLink RX0 21 "TableWright$Layout" "notePages" "[I", Cond.methodLink RX0 129 yX0_hasRoomForNextRow, Cond.instanceMethod yX0_hasRoomForNextRow, Cond.selects RX0 yX0_hasRoomForNextRow yX0_hasRoomForNextRow, Cond.code yX0_hasRoomForNextRow cX0_hasRoomForNextRow 5 (some .boolean), Cond.methodLink RX0 142 yX0_heightOfGroup, Cond.instanceMethod yX0_heightOfGroup, Cond.selects RX0 yX0_heightOfGroup yX0_heightOfGroup, Cond.code yX0_heightOfGroup cX0_heightOfGroup 5 (some .int), Cond.methodLink RX0 132 yX0_putNextRow, Cond.instanceMethod yX0_putNextRow, Cond.selects RX0 yX0_putNextRow yX0_putNextRow, Cond.code yX0_putNextRow cX0_putNextRow 2 none, Cond.fieldLink RX0 18 "TableWright$Layout" "rowPages" "[I", Cond.methodLink RX4 160 yX4_requirePage, Cond.instanceMethod yX4_requirePage, Cond.selects RX4 yX4_requirePage yX4_requirePage, Cond.code yX4_requirePage cX4_requirePage 2 none, Cond.classLink RX4 211 "java/lang/IndexOutOfBoundsException", Cond.initialized "java/lang/IndexOutOfBoundsException", Cond.methodLink RX4 143 yX2_chosen, Cond.instanceMethod yX2_chosen, Cond.selects RX2 yX2_chosen yX2_chosen, Cond.code yX2_chosen cX2_chosen 1 (some (.object "TableWright$Layout"))]
def wsX4_carried_r7 : List Cond := [Cond.methodLink RX4 58 yX4_requireColumn, Cond.instanceMethod yX4_requireColumn, Cond.selects RX4 yX4_requireColumn yX4_requireColumn, Cond.code yX4_requireColumn cX4_requireColumn 2 none, Cond.methodLink RX4 166 yX0_carriedOn, Cond.instanceMethod yX0_carriedOn, Cond.selects RX0 yX0_carriedOn yX0_carriedOn, Cond.code yX0_carriedOn cX0_carriedOn 4 (some .int), Cond.methodLink RX0 76 yX3_sumUpTo, Cond.instanceMethod yX3_sumUpTo, Cond.selects RX3 yX3_sumUpTo yX3_sumUpTo, Cond.code yX3_sumUpTo cX3_sumUpTo 3 (some .int)]
def wsX4_carried : List Cond := .code yX4_carried cX4_carried 3 (some .int) :: ((wsX4_carried_r1 ++ (wsX4_carried_r2 ++ (wsX4_carried_r3 ++ (wsX4_carried_r4 ++ (wsX4_carried_r5 ++ (wsX4_carried_r6 ++ wsX4_carried_r7)))))) ++ wsX40 ++ wsX30 ++ wsX10 ++ wsX20 ++ wsX00 ++ (vx_atS RX4 215 "java/lang/IndexOutOfBoundsException" ["java/lang/RuntimeException", "java/lang/Exception"]).filter goodWord)
def wsX4_factOfTable_r1 : List Cond := [Cond.fieldLink RX4 19 "TableWright" "setting" "LTableWright$Setting;", Cond.fieldLink RX4 12 "TableWright" "sheet" "LTableWright$Sheet;", Cond.methodLink RX4 143 yX2_chosen, Cond.instanceMethod yX2_chosen, Cond.selects RX2 yX2_chosen yX2_chosen, Cond.initialized RX2, Cond.code yX2_chosen cX2_chosen 1 (some (.object "TableWright$Layout")), Cond.fieldLink RX2 31 "TableWright$Setting" "isTurned" "Z", Cond.fieldLink RX2 16 "TableWright$Setting" "turned" "LTableWright$Layout;", Cond.fieldLink RX2 10 "TableWright$Setting" "upright" "LTableWright$Layout;", Cond.methodLink RX4 147 yX0_pagesOrNone, Cond.instanceMethod yX0_pagesOrNone, Cond.selects RX0 yX0_pagesOrNone yX0_pagesOrNone, Cond.initialized RX0, Cond.code yX0_pagesOrNone cX0_pagesOrNone 1 (some .int), Cond.fieldLink RX0 51 "TableWright$Layout" "isFit" "Z", Cond.fieldLink RX0 55 "TableWright$Layout" "pageCount" "I", Cond.methodLink RX4 249 yX0_tableWidth, Cond.instanceMethod yX0_tableWidth, Cond.selects RX0 yX0_tableWidth yX0_tableWidth, Cond.code yX0_tableWidth cX0_tableWidth 4 (some .int), Cond.fieldLink RX0 9 "TableWright$Layout" "widths" "[I", Cond.methodLink RX4 253 yX0_heightOfRows, Cond.instanceMethod yX0_heightOfRows]
def wsX4_factOfTable_r2 : List Cond := [Cond.selects RX0 yX0_heightOfRows yX0_heightOfRows, Cond.code yX0_heightOfRows cX0_heightOfRows 4 (some .int), Cond.fieldLink RX0 15 "TableWright$Layout" "heights" "[I", Cond.methodLink RX4 256 yX3_linesOfNotes, Cond.instanceMethod yX3_linesOfNotes, Cond.selects RX3 yX3_linesOfNotes yX3_linesOfNotes, Cond.initialized RX3, Cond.code yX3_linesOfNotes cX3_linesOfNotes 3 (some .int), Cond.fieldLink RX3 41 "TableWright$Sheet" "rowCount" "I", Cond.fieldLink RX3 26 "TableWright$Sheet" "rows" "[LTableWright$Row;", Cond.methodLink RX4 259 yX0_notesElsewhere, Cond.instanceMethod yX0_notesElsewhere, Cond.selects RX0 yX0_notesElsewhere yX0_notesElsewhere, Cond.code yX0_notesElsewhere cX0_notesElsewhere 4 (some .int), Cond.fieldLink RX0 21 "TableWright$Layout" "notePages" "[I", Cond.fieldLink RX0 18 "TableWright$Layout" "rowPages" "[I"]
def wsX4_factOfTable : List Cond := .code yX4_factOfTable cX4_factOfTable 3 (some .int) :: ((wsX4_factOfTable_r1 ++ wsX4_factOfTable_r2) ++ wsX40 ++ wsX30 ++ wsX00 ++ wsX20 ++ wsX10)
def wsX4_many_r1 : List Cond := [Cond.methodLink RX4 47 yX4_requireRange, Cond.static yX4_requireRange, Cond.initialized RX4, Cond.code yX4_requireRange cX4_requireRange 3 none, Cond.classLink RX4 122 "java/lang/IllegalArgumentException", Cond.initialized "java/lang/IllegalArgumentException", Cond.methodLink RX4 131 yX4_refresh, Cond.instanceMethod yX4_refresh, Cond.selects RX4 yX4_refresh yX4_refresh, Cond.code yX4_refresh cX4_refresh 1 none, Cond.fieldLink RX4 30 "TableWright" "isStale" "Z", Cond.fieldLink RX4 12 "TableWright" "sheet" "LTableWright$Sheet;", Cond.fieldLink RX4 19 "TableWright" "setting" "LTableWright$Setting;", Cond.fieldLink RX4 23 "TableWright" "wide" "I", Cond.fieldLink RX4 27 "TableWright" "high" "I", Cond.methodLink RX4 229 yX3_reckon, Cond.instanceMethod yX3_reckon, Cond.selects RX3 yX3_reckon yX3_reckon, Cond.initialized RX3, Cond.code yX3_reckon cX3_reckon 2 none, Cond.fieldLink RX3 37 "TableWright$Sheet" "columnCount" "I", Cond.fieldLink RX3 9 "TableWright$Sheet" "kinds" "[I", Cond.methodLink RX3 61 yX3_reckonHidden, Cond.instanceMethod yX3_reckonHidden]
def wsX4_many_r2 : List Cond := [Cond.selects RX3 yX3_reckonHidden yX3_reckonHidden, Cond.code yX3_reckonHidden cX3_reckonHidden 5 none, Cond.fieldLink RX3 41 "TableWright$Sheet" "rowCount" "I", Cond.fieldLink RX3 26 "TableWright$Sheet" "rows" "[LTableWright$Row;", Cond.methodLink RX3 65 yX3_reckonNumbers, Cond.instanceMethod yX3_reckonNumbers, Cond.selects RX3 yX3_reckonNumbers yX3_reckonNumbers, Cond.code yX3_reckonNumbers cX3_reckonNumbers 9 none, Cond.fieldLink RX3 18 "TableWright$Sheet" "firsts" "[I", Cond.fieldLink RX3 21 "TableWright$Sheet" "seconds" "[I", Cond.methodLink RX3 80 yX3_resultOf, Cond.static yX3_resultOf, Cond.code yX3_resultOf cX3_resultOf 7 (some .int), Cond.constantLong RX3 84 (-99999), Cond.constantLong RX3 86 (99999), Cond.methodLink RX3 88 Lib.MathLoose.min_long.x, Cond.static Lib.MathLoose.min_long.x, Cond.initialized "java/lang/Math", Cond.code Lib.MathLoose.min_long.x Lib.MathLoose.min_long.code 4 (some .long), Cond.methodLink RX3 94 Lib.MathLoose.max_long.x, Cond.static Lib.MathLoose.max_long.x, Cond.code Lib.MathLoose.max_long.x Lib.MathLoose.max_long.code 4 (some .long), Cond.methodLink RX3 68 yX3_measureText, Cond.instanceMethod yX3_measureText]
def wsX4_many_r3 : List Cond := [Cond.selects RX3 yX3_measureText yX3_measureText, Cond.code yX3_measureText cX3_measureText 5 none, Cond.fieldLink RX3 15 "TableWright$Sheet" "titles" "[I", Cond.methodLink RX3 104 Lib.Math.max.name, Cond.static Lib.Math.max.name, Cond.code Lib.Math.max.name Lib.Math.max.code 2 (some .int), Cond.fieldLink RX3 30 "TableWright$Sheet" "leasts" "[I", Cond.fieldLink RX3 33 "TableWright$Sheet" "bests" "[I", Cond.methodLink RX3 110 Lib.Math.min.name, Cond.static Lib.Math.min.name, Cond.code Lib.Math.min.name Lib.Math.min.code 2 (some .int), Cond.methodLink RX3 97 yX3_isSpanning, Cond.instanceMethod yX3_isSpanning, Cond.selects RX3 yX3_isSpanning yX3_isSpanning, Cond.code yX3_isSpanning cX3_isSpanning 3 (some .boolean), Cond.methodLink RX3 71 yX3_measureNumbers, Cond.instanceMethod yX3_measureNumbers, Cond.selects RX3 yX3_measureNumbers yX3_measureNumbers, Cond.code yX3_measureNumbers cX3_measureNumbers 4 none, Cond.methodLink RX3 112 yX3_sizeOf, Cond.static yX3_sizeOf, Cond.code yX3_sizeOf cX3_sizeOf 3 (some .int), Cond.methodLink RX4 232 yX2_arrange, Cond.instanceMethod yX2_arrange]
def wsX4_many_r4 : List Cond := [Cond.selects RX2 yX2_arrange yX2_arrange, Cond.initialized RX2, Cond.code yX2_arrange cX2_arrange 5 none, Cond.fieldLink RX2 10 "TableWright$Setting" "upright" "LTableWright$Layout;", Cond.fieldLink RX2 16 "TableWright$Setting" "turned" "LTableWright$Layout;", Cond.fieldLink RX2 31 "TableWright$Setting" "isTurned" "Z", Cond.methodLink RX2 19 yX0_arrange, Cond.instanceMethod yX0_arrange, Cond.selects RX0 yX0_arrange yX0_arrange, Cond.initialized RX0, Cond.code yX0_arrange cX0_arrange 4 none, Cond.fieldLink RX0 39 "TableWright$Layout" "room" "I", Cond.fieldLink RX0 51 "TableWright$Layout" "isFit" "Z", Cond.fieldLink RX0 55 "TableWright$Layout" "pageCount" "I", Cond.fieldLink RX0 58 "TableWright$Layout" "nextRow" "I", Cond.fieldLink RX0 61 "TableWright$Layout" "nextNote" "I", Cond.methodLink RX0 43 yX0_isWidthFit, Cond.instanceMethod yX0_isWidthFit, Cond.selects RX0 yX0_isWidthFit yX0_isWidthFit, Cond.code yX0_isWidthFit cX0_isWidthFit 5 (some .boolean), Cond.fieldLink RX0 9 "TableWright$Layout" "widths" "[I", Cond.methodLink RX0 112 yX0_tableWidth, Cond.instanceMethod yX0_tableWidth, Cond.selects RX0 yX0_tableWidth yX0_tableWidth]
def wsX4_many_r5 : List Cond := [Cond.code yX0_tableWidth cX0_tableWidth 4 (some .int), Cond.methodLink RX0 116 yX0_mostSpareColumn, Cond.instanceMethod yX0_mostSpareColumn, Cond.selects RX0 yX0_mostSpareColumn yX0_mostSpareColumn, Cond.code yX0_mostSpareColumn cX0_mostSpareColumn 6 (some .int), Cond.methodLink RX0 47 yX0_areHeightsFit, Cond.instanceMethod yX0_areHeightsFit, Cond.selects RX0 yX0_areHeightsFit yX0_areHeightsFit, Cond.code yX0_areHeightsFit cX0_areHeightsFit 5 (some .boolean), Cond.methodLink RX0 104 Lib.Math.max.name, Cond.fieldLink RX0 15 "TableWright$Layout" "heights" "[I", Cond.methodLink RX0 122 yX0_heightOfCell, Cond.instanceMethod yX0_heightOfCell, Cond.selects RX0 yX0_heightOfCell yX0_heightOfCell, Cond.code yX0_heightOfCell cX0_heightOfCell 6 (some .int), Cond.methodLink RX0 97 yX3_isSpanning, Cond.methodLink RX0 69 yX0_fillPage, Cond.instanceMethod yX0_fillPage, Cond.selects RX0 yX0_fillPage yX0_fillPage, Cond.code yX0_fillPage cX0_fillPage 4 none, Cond.fieldLink RX0 24 "TableWright$Layout" "firstRows" "[I", Cond.fieldLink RX0 27 "TableWright$Layout" "rowsOn" "[I", Cond.fieldLink RX0 30 "TableWright$Layout" "notesOn" "[I", Cond.fieldLink RX0 33 "TableWright$Layout" "left" "[I"]
def wsX4_many_r6 : List Cond := [Cond.fieldLink RX0 36 "TableWright$Layout" "lastRows" "[I", Cond.methodLink RX0 126 yX0_putWaitingNotes, Cond.instanceMethod yX0_putWaitingNotes, Cond.selects RX0 yX0_putWaitingNotes yX0_putWaitingNotes, Cond.code yX0_putWaitingNotes cX0_putWaitingNotes 4 none, Cond.fieldLink RX0 21 "TableWright$Layout" "notePages" "[I", Cond.methodLink RX0 129 yX0_hasRoomForNextRow, Cond.instanceMethod yX0_hasRoomForNextRow, Cond.selects RX0 yX0_hasRoomForNextRow yX0_hasRoomForNextRow, Cond.code yX0_hasRoomForNextRow cX0_hasRoomForNextRow 5 (some .boolean), Cond.methodLink RX0 142 yX0_heightOfGroup, Cond.instanceMethod yX0_heightOfGroup, Cond.selects RX0 yX0_heightOfGroup yX0_heightOfGroup, Cond.code yX0_heightOfGroup cX0_heightOfGroup 5 (some .int), Cond.methodLink RX0 132 yX0_putNextRow, Cond.instanceMethod yX0_putNextRow, Cond.selects RX0 yX0_putNextRow yX0_putNextRow, Cond.code yX0_putNextRow cX0_putNextRow 2 none, Cond.fieldLink RX0 18 "TableWright$Layout" "rowPages" "[I", Cond.methodLink RX4 170 yX4_factOfTable, Cond.instanceMethod yX4_factOfTable, Cond.selects RX4 yX4_factOfTable yX4_factOfTable, Cond.code yX4_factOfTable cX4_factOfTable 3 (some .int), Cond.methodLink RX4 143 yX2_chosen]
def wsX4_many_r7 : List Cond := [Cond.instanceMethod yX2_chosen, Cond.selects RX2 yX2_chosen yX2_chosen, Cond.code yX2_chosen cX2_chosen 1 (some (.object "TableWright$Layout")), Cond.methodLink RX4 147 yX0_pagesOrNone, Cond.instanceMethod yX0_pagesOrNone, Cond.selects RX0 yX0_pagesOrNone yX0_pagesOrNone, Cond.code yX0_pagesOrNone cX0_pagesOrNone 1 (some .int), Cond.methodLink RX4 249 yX0_tableWidth, Cond.methodLink RX4 253 yX0_heightOfRows, Cond.instanceMethod yX0_heightOfRows, Cond.selects RX0 yX0_heightOfRows yX0_heightOfRows, Cond.code yX0_heightOfRows cX0_heightOfRows 4 (some .int), Cond.methodLink RX4 256 yX3_linesOfNotes, Cond.instanceMethod yX3_linesOfNotes, Cond.selects RX3 yX3_linesOfNotes yX3_linesOfNotes, Cond.code yX3_linesOfNotes cX3_linesOfNotes 3 (some .int), Cond.methodLink RX4 259 yX0_notesElsewhere, Cond.instanceMethod yX0_notesElsewhere, Cond.selects RX0 yX0_notesElsewhere yX0_notesElsewhere, Cond.code yX0_notesElsewhere cX0_notesElsewhere 4 (some .int)]
def wsX4_many : List Cond := .code yX4_many cX4_many 2 (some .int) :: ((wsX4_many_r1 ++ (wsX4_many_r2 ++ (wsX4_many_r3 ++ (wsX4_many_r4 ++ (wsX4_many_r5 ++ (wsX4_many_r6 ++ wsX4_many_r7)))))) ++ wsX40 ++ wsX30 ++ wsX10 ++ wsX20 ++ wsX00 ++ (vx_atS RX4 126 "java/lang/IllegalArgumentException" ["java/lang/RuntimeException", "java/lang/Exception"]).filter goodWord)
def wsX4_pagesIn_r1 : List Cond := [Cond.fieldLink RX4 43 "TableWright" "probe" "LTableWright$Layout;", Cond.fieldLink RX4 12 "TableWright" "sheet" "LTableWright$Sheet;", Cond.methodLink RX4 236 yX0_arrange, Cond.instanceMethod yX0_arrange, Cond.selects RX0 yX0_arrange yX0_arrange, Cond.initialized RX0, Cond.code yX0_arrange cX0_arrange 4 none, Cond.fieldLink RX0 39 "TableWright$Layout" "room" "I", Cond.fieldLink RX0 51 "TableWright$Layout" "isFit" "Z", Cond.fieldLink RX0 55 "TableWright$Layout" "pageCount" "I", Cond.fieldLink RX0 58 "TableWright$Layout" "nextRow" "I", Cond.fieldLink RX0 61 "TableWright$Layout" "nextNote" "I", Cond.methodLink RX0 43 yX0_isWidthFit, Cond.instanceMethod yX0_isWidthFit, Cond.selects RX0 yX0_isWidthFit yX0_isWidthFit, Cond.code yX0_isWidthFit cX0_isWidthFit 5 (some .boolean), Cond.fieldLink RX0 9 "TableWright$Layout" "widths" "[I", Cond.methodLink RX0 112 yX0_tableWidth, Cond.instanceMethod yX0_tableWidth, Cond.selects RX0 yX0_tableWidth yX0_tableWidth, Cond.code yX0_tableWidth cX0_tableWidth 4 (some .int), Cond.methodLink RX0 116 yX0_mostSpareColumn, Cond.instanceMethod yX0_mostSpareColumn, Cond.selects RX0 yX0_mostSpareColumn yX0_mostSpareColumn]
def wsX4_pagesIn_r2 : List Cond := [Cond.code yX0_mostSpareColumn cX0_mostSpareColumn 6 (some .int), Cond.methodLink RX0 47 yX0_areHeightsFit, Cond.instanceMethod yX0_areHeightsFit, Cond.selects RX0 yX0_areHeightsFit yX0_areHeightsFit, Cond.code yX0_areHeightsFit cX0_areHeightsFit 5 (some .boolean), Cond.methodLink RX0 104 Lib.Math.max.name, Cond.static Lib.Math.max.name, Cond.initialized "java/lang/Math", Cond.code Lib.Math.max.name Lib.Math.max.code 2 (some .int), Cond.fieldLink RX0 15 "TableWright$Layout" "heights" "[I", Cond.methodLink RX0 122 yX0_heightOfCell, Cond.instanceMethod yX0_heightOfCell, Cond.selects RX0 yX0_heightOfCell yX0_heightOfCell, Cond.code yX0_heightOfCell cX0_heightOfCell 6 (some .int), Cond.methodLink RX0 97 yX3_isSpanning, Cond.instanceMethod yX3_isSpanning, Cond.selects RX3 yX3_isSpanning yX3_isSpanning, Cond.initialized RX3, Cond.code yX3_isSpanning cX3_isSpanning 3 (some .boolean), Cond.fieldLink RX3 37 "TableWright$Sheet" "columnCount" "I", Cond.fieldLink RX3 26 "TableWright$Sheet" "rows" "[LTableWright$Row;", Cond.methodLink RX0 69 yX0_fillPage, Cond.instanceMethod yX0_fillPage, Cond.selects RX0 yX0_fillPage yX0_fillPage]
def wsX4_pagesIn_r3 : List Cond := [Cond.code yX0_fillPage cX0_fillPage 4 none, Cond.fieldLink RX0 24 "TableWright$Layout" "firstRows" "[I", Cond.fieldLink RX0 27 "TableWright$Layout" "rowsOn" "[I", Cond.fieldLink RX0 30 "TableWright$Layout" "notesOn" "[I", Cond.fieldLink RX0 33 "TableWright$Layout" "left" "[I", Cond.fieldLink RX0 36 "TableWright$Layout" "lastRows" "[I", Cond.methodLink RX0 126 yX0_putWaitingNotes, Cond.instanceMethod yX0_putWaitingNotes, Cond.selects RX0 yX0_putWaitingNotes yX0_putWaitingNotes, Cond.code yX0_putWaitingNotes cX0_putWaitingNotes 4 none, Cond.fieldLink RX0 21 "TableWright$Layout" "notePages" "[I", Cond.methodLink RX0 129 yX0_hasRoomForNextRow, Cond.instanceMethod yX0_hasRoomForNextRow, Cond.selects RX0 yX0_hasRoomForNextRow yX0_hasRoomForNextRow, Cond.code yX0_hasRoomForNextRow cX0_hasRoomForNextRow 5 (some .boolean), Cond.methodLink RX0 142 yX0_heightOfGroup, Cond.instanceMethod yX0_heightOfGroup, Cond.selects RX0 yX0_heightOfGroup yX0_heightOfGroup, Cond.code yX0_heightOfGroup cX0_heightOfGroup 5 (some .int), Cond.methodLink RX0 132 yX0_putNextRow, Cond.instanceMethod yX0_putNextRow, Cond.selects RX0 yX0_putNextRow yX0_putNextRow, Cond.code yX0_putNextRow cX0_putNextRow 2 none, Cond.fieldLink RX0 18 "TableWright$Layout" "rowPages" "[I"]
def wsX4_pagesIn_r4 : List Cond := [Cond.methodLink RX4 147 yX0_pagesOrNone, Cond.instanceMethod yX0_pagesOrNone, Cond.selects RX0 yX0_pagesOrNone yX0_pagesOrNone, Cond.code yX0_pagesOrNone cX0_pagesOrNone 1 (some .int)]
def wsX4_pagesIn : List Cond := .code yX4_pagesIn cX4_pagesIn 3 (some .int) :: ((wsX4_pagesIn_r1 ++ (wsX4_pagesIn_r2 ++ (wsX4_pagesIn_r3 ++ wsX4_pagesIn_r4))) ++ wsX40 ++ wsX00 ++ wsX30 ++ wsX10)
def wsX4_pagesWith_r1 : List Cond := [Cond.methodLink RX4 47 yX4_requireRange, Cond.static yX4_requireRange, Cond.initialized RX4, Cond.code yX4_requireRange cX4_requireRange 3 none, Cond.classLink RX4 122 "java/lang/IllegalArgumentException", Cond.initialized "java/lang/IllegalArgumentException", Cond.methodLink RX4 131 yX4_refresh, Cond.instanceMethod yX4_refresh, Cond.selects RX4 yX4_refresh yX4_refresh, Cond.code yX4_refresh cX4_refresh 1 none, Cond.fieldLink RX4 30 "TableWright" "isStale" "Z", Cond.fieldLink RX4 12 "TableWright" "sheet" "LTableWright$Sheet;", Cond.fieldLink RX4 19 "TableWright" "setting" "LTableWright$Setting;", Cond.fieldLink RX4 23 "TableWright" "wide" "I", Cond.fieldLink RX4 27 "TableWright" "high" "I", Cond.methodLink RX4 229 yX3_reckon, Cond.instanceMethod yX3_reckon, Cond.selects RX3 yX3_reckon yX3_reckon, Cond.initialized RX3, Cond.code yX3_reckon cX3_reckon 2 none, Cond.fieldLink RX3 37 "TableWright$Sheet" "columnCount" "I", Cond.fieldLink RX3 9 "TableWright$Sheet" "kinds" "[I", Cond.methodLink RX3 61 yX3_reckonHidden, Cond.instanceMethod yX3_reckonHidden]
def wsX4_pagesWith_r2 : List Cond := [Cond.selects RX3 yX3_reckonHidden yX3_reckonHidden, Cond.code yX3_reckonHidden cX3_reckonHidden 5 none, Cond.fieldLink RX3 41 "TableWright$Sheet" "rowCount" "I", Cond.fieldLink RX3 26 "TableWright$Sheet" "rows" "[LTableWright$Row;", Cond.methodLink RX3 65 yX3_reckonNumbers, Cond.instanceMethod yX3_reckonNumbers, Cond.selects RX3 yX3_reckonNumbers yX3_reckonNumbers, Cond.code yX3_reckonNumbers cX3_reckonNumbers 9 none, Cond.fieldLink RX3 18 "TableWright$Sheet" "firsts" "[I", Cond.fieldLink RX3 21 "TableWright$Sheet" "seconds" "[I", Cond.methodLink RX3 80 yX3_resultOf, Cond.static yX3_resultOf, Cond.code yX3_resultOf cX3_resultOf 7 (some .int), Cond.constantLong RX3 84 (-99999), Cond.constantLong RX3 86 (99999), Cond.methodLink RX3 88 Lib.MathLoose.min_long.x, Cond.static Lib.MathLoose.min_long.x, Cond.initialized "java/lang/Math", Cond.code Lib.MathLoose.min_long.x Lib.MathLoose.min_long.code 4 (some .long), Cond.methodLink RX3 94 Lib.MathLoose.max_long.x, Cond.static Lib.MathLoose.max_long.x, Cond.code Lib.MathLoose.max_long.x Lib.MathLoose.max_long.code 4 (some .long), Cond.methodLink RX3 68 yX3_measureText, Cond.instanceMethod yX3_measureText]
def wsX4_pagesWith_r3 : List Cond := [Cond.selects RX3 yX3_measureText yX3_measureText, Cond.code yX3_measureText cX3_measureText 5 none, Cond.fieldLink RX3 15 "TableWright$Sheet" "titles" "[I", Cond.methodLink RX3 104 Lib.Math.max.name, Cond.static Lib.Math.max.name, Cond.code Lib.Math.max.name Lib.Math.max.code 2 (some .int), Cond.fieldLink RX3 30 "TableWright$Sheet" "leasts" "[I", Cond.fieldLink RX3 33 "TableWright$Sheet" "bests" "[I", Cond.methodLink RX3 110 Lib.Math.min.name, Cond.static Lib.Math.min.name, Cond.code Lib.Math.min.name Lib.Math.min.code 2 (some .int), Cond.methodLink RX3 97 yX3_isSpanning, Cond.instanceMethod yX3_isSpanning, Cond.selects RX3 yX3_isSpanning yX3_isSpanning, Cond.code yX3_isSpanning cX3_isSpanning 3 (some .boolean), Cond.methodLink RX3 71 yX3_measureNumbers, Cond.instanceMethod yX3_measureNumbers, Cond.selects RX3 yX3_measureNumbers yX3_measureNumbers, Cond.code yX3_measureNumbers cX3_measureNumbers 4 none, Cond.methodLink RX3 112 yX3_sizeOf, Cond.static yX3_sizeOf, Cond.code yX3_sizeOf cX3_sizeOf 3 (some .int), Cond.methodLink RX4 232 yX2_arrange, Cond.instanceMethod yX2_arrange]
def wsX4_pagesWith_r4 : List Cond := [Cond.selects RX2 yX2_arrange yX2_arrange, Cond.initialized RX2, Cond.code yX2_arrange cX2_arrange 5 none, Cond.fieldLink RX2 10 "TableWright$Setting" "upright" "LTableWright$Layout;", Cond.fieldLink RX2 16 "TableWright$Setting" "turned" "LTableWright$Layout;", Cond.fieldLink RX2 31 "TableWright$Setting" "isTurned" "Z", Cond.methodLink RX2 19 yX0_arrange, Cond.instanceMethod yX0_arrange, Cond.selects RX0 yX0_arrange yX0_arrange, Cond.initialized RX0, Cond.code yX0_arrange cX0_arrange 4 none, Cond.fieldLink RX0 39 "TableWright$Layout" "room" "I", Cond.fieldLink RX0 51 "TableWright$Layout" "isFit" "Z", Cond.fieldLink RX0 55 "TableWright$Layout" "pageCount" "I", Cond.fieldLink RX0 58 "TableWright$Layout" "nextRow" "I", Cond.fieldLink RX0 61 "TableWright$Layout" "nextNote" "I", Cond.methodLink RX0 43 yX0_isWidthFit, Cond.instanceMethod yX0_isWidthFit, Cond.selects RX0 yX0_isWidthFit yX0_isWidthFit, Cond.code yX0_isWidthFit cX0_isWidthFit 5 (some .boolean), Cond.fieldLink RX0 9 "TableWright$Layout" "widths" "[I", Cond.methodLink RX0 112 yX0_tableWidth, Cond.instanceMethod yX0_tableWidth, Cond.selects RX0 yX0_tableWidth yX0_tableWidth]
def wsX4_pagesWith_r5 : List Cond := [Cond.code yX0_tableWidth cX0_tableWidth 4 (some .int), Cond.methodLink RX0 116 yX0_mostSpareColumn, Cond.instanceMethod yX0_mostSpareColumn, Cond.selects RX0 yX0_mostSpareColumn yX0_mostSpareColumn, Cond.code yX0_mostSpareColumn cX0_mostSpareColumn 6 (some .int), Cond.methodLink RX0 47 yX0_areHeightsFit, Cond.instanceMethod yX0_areHeightsFit, Cond.selects RX0 yX0_areHeightsFit yX0_areHeightsFit, Cond.code yX0_areHeightsFit cX0_areHeightsFit 5 (some .boolean), Cond.methodLink RX0 104 Lib.Math.max.name, Cond.fieldLink RX0 15 "TableWright$Layout" "heights" "[I", Cond.methodLink RX0 122 yX0_heightOfCell, Cond.instanceMethod yX0_heightOfCell, Cond.selects RX0 yX0_heightOfCell yX0_heightOfCell, Cond.code yX0_heightOfCell cX0_heightOfCell 6 (some .int), Cond.methodLink RX0 97 yX3_isSpanning, Cond.methodLink RX0 69 yX0_fillPage, Cond.instanceMethod yX0_fillPage, Cond.selects RX0 yX0_fillPage yX0_fillPage, Cond.code yX0_fillPage cX0_fillPage 4 none, Cond.fieldLink RX0 24 "TableWright$Layout" "firstRows" "[I", Cond.fieldLink RX0 27 "TableWright$Layout" "rowsOn" "[I", Cond.fieldLink RX0 30 "TableWright$Layout" "notesOn" "[I", Cond.fieldLink RX0 33 "TableWright$Layout" "left" "[I"]
def wsX4_pagesWith_r6 : List Cond := [Cond.fieldLink RX0 36 "TableWright$Layout" "lastRows" "[I", Cond.methodLink RX0 126 yX0_putWaitingNotes, Cond.instanceMethod yX0_putWaitingNotes, Cond.selects RX0 yX0_putWaitingNotes yX0_putWaitingNotes, Cond.code yX0_putWaitingNotes cX0_putWaitingNotes 4 none, Cond.fieldLink RX0 21 "TableWright$Layout" "notePages" "[I", Cond.methodLink RX0 129 yX0_hasRoomForNextRow, Cond.instanceMethod yX0_hasRoomForNextRow, Cond.selects RX0 yX0_hasRoomForNextRow yX0_hasRoomForNextRow, Cond.code yX0_hasRoomForNextRow cX0_hasRoomForNextRow 5 (some .boolean), Cond.methodLink RX0 142 yX0_heightOfGroup, Cond.instanceMethod yX0_heightOfGroup, Cond.selects RX0 yX0_heightOfGroup yX0_heightOfGroup, Cond.code yX0_heightOfGroup cX0_heightOfGroup 5 (some .int), Cond.methodLink RX0 132 yX0_putNextRow, Cond.instanceMethod yX0_putNextRow, Cond.selects RX0 yX0_putNextRow yX0_putNextRow, Cond.code yX0_putNextRow cX0_putNextRow 2 none, Cond.fieldLink RX0 18 "TableWright$Layout" "rowPages" "[I", Cond.methodLink RX4 180 yX4_pagesIn, Cond.instanceMethod yX4_pagesIn, Cond.selects RX4 yX4_pagesIn yX4_pagesIn, Cond.code yX4_pagesIn cX4_pagesIn 3 (some .int), Cond.fieldLink RX4 43 "TableWright" "probe" "LTableWright$Layout;"]
def wsX4_pagesWith_r7 : List Cond := [Cond.methodLink RX4 236 yX0_arrange, Cond.methodLink RX4 147 yX0_pagesOrNone, Cond.instanceMethod yX0_pagesOrNone, Cond.selects RX0 yX0_pagesOrNone yX0_pagesOrNone, Cond.code yX0_pagesOrNone cX0_pagesOrNone 1 (some .int)]
def wsX4_pagesWith : List Cond := .code yX4_pagesWith cX4_pagesWith 4 (some .int) :: ((wsX4_pagesWith_r1 ++ (wsX4_pagesWith_r2 ++ (wsX4_pagesWith_r3 ++ (wsX4_pagesWith_r4 ++ (wsX4_pagesWith_r5 ++ (wsX4_pagesWith_r6 ++ wsX4_pagesWith_r7)))))) ++ wsX40 ++ wsX30 ++ wsX10 ++ wsX20 ++ wsX00 ++ (vx_atS RX4 126 "java/lang/IllegalArgumentException" ["java/lang/RuntimeException", "java/lang/Exception"]).filter goodWord)
def wsX4_layoutOfTrial_r1 : List Cond := [Cond.fieldLink RX4 34 "TableWright" "trialSheet" "LTableWright$Sheet;", Cond.fieldLink RX4 37 "TableWright" "trialSetting" "LTableWright$Setting;", Cond.fieldLink RX4 23 "TableWright" "wide" "I", Cond.fieldLink RX4 27 "TableWright" "high" "I", Cond.methodLink RX4 229 yX3_reckon, Cond.instanceMethod yX3_reckon, Cond.selects RX3 yX3_reckon yX3_reckon, Cond.initialized RX3, Cond.code yX3_reckon cX3_reckon 2 none, Cond.fieldLink RX3 37 "TableWright$Sheet" "columnCount" "I", Cond.fieldLink RX3 9 "TableWright$Sheet" "kinds" "[I", Cond.methodLink RX3 61 yX3_reckonHidden, Cond.instanceMethod yX3_reckonHidden, Cond.selects RX3 yX3_reckonHidden yX3_reckonHidden, Cond.code yX3_reckonHidden cX3_reckonHidden 5 none, Cond.fieldLink RX3 41 "TableWright$Sheet" "rowCount" "I", Cond.fieldLink RX3 26 "TableWright$Sheet" "rows" "[LTableWright$Row;", Cond.methodLink RX3 65 yX3_reckonNumbers, Cond.instanceMethod yX3_reckonNumbers, Cond.selects RX3 yX3_reckonNumbers yX3_reckonNumbers, Cond.code yX3_reckonNumbers cX3_reckonNumbers 9 none, Cond.fieldLink RX3 18 "TableWright$Sheet" "firsts" "[I", Cond.fieldLink RX3 21 "TableWright$Sheet" "seconds" "[I", Cond.methodLink RX3 80 yX3_resultOf]
def wsX4_layoutOfTrial_r2 : List Cond := [Cond.static yX3_resultOf, Cond.code yX3_resultOf cX3_resultOf 7 (some .int), Cond.constantLong RX3 84 (-99999), Cond.constantLong RX3 86 (99999), Cond.methodLink RX3 88 Lib.MathLoose.min_long.x, Cond.static Lib.MathLoose.min_long.x, Cond.initialized "java/lang/Math", Cond.code Lib.MathLoose.min_long.x Lib.MathLoose.min_long.code 4 (some .long), Cond.methodLink RX3 94 Lib.MathLoose.max_long.x, Cond.static Lib.MathLoose.max_long.x, Cond.code Lib.MathLoose.max_long.x Lib.MathLoose.max_long.code 4 (some .long), Cond.methodLink RX3 68 yX3_measureText, Cond.instanceMethod yX3_measureText, Cond.selects RX3 yX3_measureText yX3_measureText, Cond.code yX3_measureText cX3_measureText 5 none, Cond.fieldLink RX3 15 "TableWright$Sheet" "titles" "[I", Cond.methodLink RX3 104 Lib.Math.max.name, Cond.static Lib.Math.max.name, Cond.code Lib.Math.max.name Lib.Math.max.code 2 (some .int), Cond.fieldLink RX3 30 "TableWright$Sheet" "leasts" "[I", Cond.fieldLink RX3 33 "TableWright$Sheet" "bests" "[I", Cond.methodLink RX3 110 Lib.Math.min.name, Cond.static Lib.Math.min.name, Cond.code Lib.Math.min.name Lib.Math.min.code 2 (some .int)]
def wsX4_layoutOfTrial_r3 : List Cond := [Cond.methodLink RX3 97 yX3_isSpanning, Cond.instanceMethod yX3_isSpanning, Cond.selects RX3 yX3_isSpanning yX3_isSpanning, Cond.code yX3_isSpanning cX3_isSpanning 3 (some .boolean), Cond.methodLink RX3 71 yX3_measureNumbers, Cond.instanceMethod yX3_measureNumbers, Cond.selects RX3 yX3_measureNumbers yX3_measureNumbers, Cond.code yX3_measureNumbers cX3_measureNumbers 4 none, Cond.methodLink RX3 112 yX3_sizeOf, Cond.static yX3_sizeOf, Cond.code yX3_sizeOf cX3_sizeOf 3 (some .int), Cond.methodLink RX4 232 yX2_arrange, Cond.instanceMethod yX2_arrange, Cond.selects RX2 yX2_arrange yX2_arrange, Cond.initialized RX2, Cond.code yX2_arrange cX2_arrange 5 none, Cond.fieldLink RX2 10 "TableWright$Setting" "upright" "LTableWright$Layout;", Cond.fieldLink RX2 16 "TableWright$Setting" "turned" "LTableWright$Layout;", Cond.fieldLink RX2 31 "TableWright$Setting" "isTurned" "Z", Cond.methodLink RX2 19 yX0_arrange, Cond.instanceMethod yX0_arrange, Cond.selects RX0 yX0_arrange yX0_arrange, Cond.initialized RX0, Cond.code yX0_arrange cX0_arrange 4 none]
def wsX4_layoutOfTrial_r4 : List Cond := [Cond.fieldLink RX0 39 "TableWright$Layout" "room" "I", Cond.fieldLink RX0 51 "TableWright$Layout" "isFit" "Z", Cond.fieldLink RX0 55 "TableWright$Layout" "pageCount" "I", Cond.fieldLink RX0 58 "TableWright$Layout" "nextRow" "I", Cond.fieldLink RX0 61 "TableWright$Layout" "nextNote" "I", Cond.methodLink RX0 43 yX0_isWidthFit, Cond.instanceMethod yX0_isWidthFit, Cond.selects RX0 yX0_isWidthFit yX0_isWidthFit, Cond.code yX0_isWidthFit cX0_isWidthFit 5 (some .boolean), Cond.fieldLink RX0 9 "TableWright$Layout" "widths" "[I", Cond.methodLink RX0 112 yX0_tableWidth, Cond.instanceMethod yX0_tableWidth, Cond.selects RX0 yX0_tableWidth yX0_tableWidth, Cond.code yX0_tableWidth cX0_tableWidth 4 (some .int), Cond.methodLink RX0 116 yX0_mostSpareColumn, Cond.instanceMethod yX0_mostSpareColumn, Cond.selects RX0 yX0_mostSpareColumn yX0_mostSpareColumn, Cond.code yX0_mostSpareColumn cX0_mostSpareColumn 6 (some .int), Cond.methodLink RX0 47 yX0_areHeightsFit, Cond.instanceMethod yX0_areHeightsFit, Cond.selects RX0 yX0_areHeightsFit yX0_areHeightsFit, Cond.code yX0_areHeightsFit cX0_areHeightsFit 5 (some .boolean), Cond.methodLink RX0 104 Lib.Math.max.name, Cond.fieldLink RX0 15 "TableWright$Layout" "heights" "[I"]
def wsX4_layoutOfTrial_r5 : List Cond := [Cond.methodLink RX0 122 yX0_heightOfCell, Cond.instanceMethod yX0_heightOfCell, Cond.selects RX0 yX0_heightOfCell yX0_heightOfCell, Cond.code yX0_heightOfCell cX0_heightOfCell 6 (some .int), Cond.methodLink RX0 97 yX3_isSpanning, Cond.methodLink RX0 69 yX0_fillPage, Cond.instanceMethod yX0_fillPage, Cond.selects RX0 yX0_fillPage yX0_fillPage, Cond.code yX0_fillPage cX0_fillPage 4 none, Cond.fieldLink RX0 24 "TableWright$Layout" "firstRows" "[I", Cond.fieldLink RX0 27 "TableWright$Layout" "rowsOn" "[I", Cond.fieldLink RX0 30 "TableWright$Layout" "notesOn" "[I", Cond.fieldLink RX0 33 "TableWright$Layout" "left" "[I", Cond.fieldLink RX0 36 "TableWright$Layout" "lastRows" "[I", Cond.methodLink RX0 126 yX0_putWaitingNotes, Cond.instanceMethod yX0_putWaitingNotes, Cond.selects RX0 yX0_putWaitingNotes yX0_putWaitingNotes, Cond.code yX0_putWaitingNotes cX0_putWaitingNotes 4 none, Cond.fieldLink RX0 21 "TableWright$Layout" "notePages" "[I", Cond.methodLink RX0 129 yX0_hasRoomForNextRow, Cond.instanceMethod yX0_hasRoomForNextRow, Cond.selects RX0 yX0_hasRoomForNextRow yX0_hasRoomForNextRow, Cond.code yX0_hasRoomForNextRow cX0_hasRoomForNextRow 5 (some .boolean), Cond.methodLink RX0 142 yX0_heightOfGroup]
def wsX4_layoutOfTrial_r6 : List Cond := [Cond.instanceMethod yX0_heightOfGroup, Cond.selects RX0 yX0_heightOfGroup yX0_heightOfGroup, Cond.code yX0_heightOfGroup cX0_heightOfGroup 5 (some .int), Cond.methodLink RX0 132 yX0_putNextRow, Cond.instanceMethod yX0_putNextRow, Cond.selects RX0 yX0_putNextRow yX0_putNextRow, Cond.code yX0_putNextRow cX0_putNextRow 2 none, Cond.fieldLink RX0 18 "TableWright$Layout" "rowPages" "[I", Cond.methodLink RX4 143 yX2_chosen, Cond.instanceMethod yX2_chosen, Cond.selects RX2 yX2_chosen yX2_chosen, Cond.code yX2_chosen cX2_chosen 1 (some (.object "TableWright$Layout"))]
def wsX4_layoutOfTrial : List Cond := .code yX4_layoutOfTrial cX4_layoutOfTrial 1 (some (.object "TableWright$Layout")) :: ((wsX4_layoutOfTrial_r1 ++ (wsX4_layoutOfTrial_r2 ++ (wsX4_layoutOfTrial_r3 ++ (wsX4_layoutOfTrial_r4 ++ (wsX4_layoutOfTrial_r5 ++ wsX4_layoutOfTrial_r6))))) ++ wsX40 ++ wsX30 ++ wsX10 ++ wsX20 ++ wsX00)
def wsX4_isPageOther : List Cond := .code yX4_isPageOther cX4_isPageOther 5 (some .boolean) :: ([.fieldLink RX4 12 "TableWright" "sheet" "LTableWright$Sheet;", .fieldLink RX4 34 "TableWright" "trialSheet" "LTableWright$Sheet;", .methodLink RX4 166 yX0_carriedOn, .instanceMethod yX0_carriedOn, .selects RX0 yX0_carriedOn yX0_carriedOn, .initialized RX0, .code yX0_carriedOn cX0_carriedOn 4 (some .int), .fieldLink RX0 36 "TableWright$Layout" "lastRows" "[I", .methodLink RX0 76 yX3_sumUpTo, .instanceMethod yX3_sumUpTo, .selects RX3 yX3_sumUpTo yX3_sumUpTo, .initialized RX3, .code yX3_sumUpTo cX3_sumUpTo 3 (some .int), .fieldLink RX3 9 "TableWright$Sheet" "kinds" "[I", .fieldLink RX3 26 "TableWright$Sheet" "rows" "[LTableWright$Row;"] ++ wsX00 ++ wsX40 ++ wsX30 ++ wsX10)
def wsX4_changedBy_r1 : List Cond := [Cond.fieldLink RX4 19 "TableWright" "setting" "LTableWright$Setting;", Cond.fieldLink RX4 34 "TableWright" "trialSheet" "LTableWright$Sheet;", Cond.fieldLink RX4 12 "TableWright" "sheet" "LTableWright$Sheet;", Cond.methodLink RX4 190 Lib.Math.max.name, Cond.static Lib.Math.max.name, Cond.initialized "java/lang/Math", Cond.code Lib.Math.max.name Lib.Math.max.code 2 (some .int), Cond.methodLink RX4 92 yX4_requireNumberCell, Cond.instanceMethod yX4_requireNumberCell, Cond.selects RX4 yX4_requireNumberCell yX4_requireNumberCell, Cond.initialized RX4, Cond.code yX4_requireNumberCell cX4_requireNumberCell 4 none, Cond.methodLink RX4 86 yX4_requireRow, Cond.instanceMethod yX4_requireRow, Cond.selects RX4 yX4_requireRow yX4_requireRow, Cond.code yX4_requireRow cX4_requireRow 2 none, Cond.classLink RX4 211 "java/lang/IndexOutOfBoundsException", Cond.initialized "java/lang/IndexOutOfBoundsException", Cond.methodLink RX4 58 yX4_requireColumn, Cond.instanceMethod yX4_requireColumn, Cond.selects RX4 yX4_requireColumn yX4_requireColumn, Cond.code yX4_requireColumn cX4_requireColumn 2 none, Cond.methodLink RX4 104 yX4_requireKind, Cond.instanceMethod yX4_requireKind]
def wsX4_changedBy_r2 : List Cond := [Cond.selects RX4 yX4_requireKind yX4_requireKind, Cond.code yX4_requireKind cX4_requireKind 3 none, Cond.classLink RX4 122 "java/lang/IllegalArgumentException", Cond.initialized "java/lang/IllegalArgumentException", Cond.methodLink RX4 47 yX4_requireRange, Cond.static yX4_requireRange, Cond.code yX4_requireRange cX4_requireRange 3 none, Cond.methodLink RX4 131 yX4_refresh, Cond.instanceMethod yX4_refresh, Cond.selects RX4 yX4_refresh yX4_refresh, Cond.code yX4_refresh cX4_refresh 1 none, Cond.fieldLink RX4 30 "TableWright" "isStale" "Z", Cond.fieldLink RX4 23 "TableWright" "wide" "I", Cond.fieldLink RX4 27 "TableWright" "high" "I", Cond.methodLink RX4 229 yX3_reckon, Cond.instanceMethod yX3_reckon, Cond.selects RX3 yX3_reckon yX3_reckon, Cond.initialized RX3, Cond.code yX3_reckon cX3_reckon 2 none, Cond.fieldLink RX3 37 "TableWright$Sheet" "columnCount" "I", Cond.fieldLink RX3 9 "TableWright$Sheet" "kinds" "[I", Cond.methodLink RX3 61 yX3_reckonHidden, Cond.instanceMethod yX3_reckonHidden, Cond.selects RX3 yX3_reckonHidden yX3_reckonHidden]
def wsX4_changedBy_r3 : List Cond := [Cond.code yX3_reckonHidden cX3_reckonHidden 5 none, Cond.fieldLink RX3 41 "TableWright$Sheet" "rowCount" "I", Cond.fieldLink RX3 26 "TableWright$Sheet" "rows" "[LTableWright$Row;", Cond.methodLink RX3 65 yX3_reckonNumbers, Cond.instanceMethod yX3_reckonNumbers, Cond.selects RX3 yX3_reckonNumbers yX3_reckonNumbers, Cond.code yX3_reckonNumbers cX3_reckonNumbers 9 none, Cond.fieldLink RX3 18 "TableWright$Sheet" "firsts" "[I", Cond.fieldLink RX3 21 "TableWright$Sheet" "seconds" "[I", Cond.methodLink RX3 80 yX3_resultOf, Cond.static yX3_resultOf, Cond.code yX3_resultOf cX3_resultOf 7 (some .int), Cond.constantLong RX3 84 (-99999), Cond.constantLong RX3 86 (99999), Cond.methodLink RX3 88 Lib.MathLoose.min_long.x, Cond.static Lib.MathLoose.min_long.x, Cond.code Lib.MathLoose.min_long.x Lib.MathLoose.min_long.code 4 (some .long), Cond.methodLink RX3 94 Lib.MathLoose.max_long.x, Cond.static Lib.MathLoose.max_long.x, Cond.code Lib.MathLoose.max_long.x Lib.MathLoose.max_long.code 4 (some .long), Cond.methodLink RX3 68 yX3_measureText, Cond.instanceMethod yX3_measureText, Cond.selects RX3 yX3_measureText yX3_measureText, Cond.code yX3_measureText cX3_measureText 5 none]
def wsX4_changedBy_r4 : List Cond := [Cond.fieldLink RX3 15 "TableWright$Sheet" "titles" "[I", Cond.methodLink RX3 104 Lib.Math.max.name, Cond.fieldLink RX3 30 "TableWright$Sheet" "leasts" "[I", Cond.fieldLink RX3 33 "TableWright$Sheet" "bests" "[I", Cond.methodLink RX3 110 Lib.Math.min.name, Cond.static Lib.Math.min.name, Cond.code Lib.Math.min.name Lib.Math.min.code 2 (some .int), Cond.methodLink RX3 97 yX3_isSpanning, Cond.instanceMethod yX3_isSpanning, Cond.selects RX3 yX3_isSpanning yX3_isSpanning, Cond.code yX3_isSpanning cX3_isSpanning 3 (some .boolean), Cond.methodLink RX3 71 yX3_measureNumbers, Cond.instanceMethod yX3_measureNumbers, Cond.selects RX3 yX3_measureNumbers yX3_measureNumbers, Cond.code yX3_measureNumbers cX3_measureNumbers 4 none, Cond.methodLink RX3 112 yX3_sizeOf, Cond.static yX3_sizeOf, Cond.code yX3_sizeOf cX3_sizeOf 3 (some .int), Cond.methodLink RX4 232 yX2_arrange, Cond.instanceMethod yX2_arrange, Cond.selects RX2 yX2_arrange yX2_arrange, Cond.initialized RX2, Cond.code yX2_arrange cX2_arrange 5 none, Cond.fieldLink RX2 10 "TableWright$Setting" "upright" "LTableWright$Layout;"]
def wsX4_changedBy_r5 : List Cond := [Cond.fieldLink RX2 16 "TableWright$Setting" "turned" "LTableWright$Layout;", Cond.fieldLink RX2 31 "TableWright$Setting" "isTurned" "Z", Cond.methodLink RX2 19 yX0_arrange, Cond.instanceMethod yX0_arrange, Cond.selects RX0 yX0_arrange yX0_arrange, Cond.initialized RX0, Cond.code yX0_arrange cX0_arrange 4 none, Cond.fieldLink RX0 39 "TableWright$Layout" "room" "I", Cond.fieldLink RX0 51 "TableWright$Layout" "isFit" "Z", Cond.fieldLink RX0 55 "TableWright$Layout" "pageCount" "I", Cond.fieldLink RX0 58 "TableWright$Layout" "nextRow" "I", Cond.fieldLink RX0 61 "TableWright$Layout" "nextNote" "I", Cond.methodLink RX0 43 yX0_isWidthFit, Cond.instanceMethod yX0_isWidthFit, Cond.selects RX0 yX0_isWidthFit yX0_isWidthFit, Cond.code yX0_isWidthFit cX0_isWidthFit 5 (some .boolean), Cond.fieldLink RX0 9 "TableWright$Layout" "widths" "[I", Cond.methodLink RX0 112 yX0_tableWidth, Cond.instanceMethod yX0_tableWidth, Cond.selects RX0 yX0_tableWidth yX0_tableWidth, Cond.code yX0_tableWidth cX0_tableWidth 4 (some .int), Cond.methodLink RX0 116 yX0_mostSpareColumn, Cond.instanceMethod yX0_mostSpareColumn, Cond.selects RX0 yX0_mostSpareColumn yX0_mostSpareColumn]
def wsX4_changedBy_r6 : List Cond := [Cond.code yX0_mostSpareColumn cX0_mostSpareColumn 6 (some .int), Cond.methodLink RX0 47 yX0_areHeightsFit, Cond.instanceMethod yX0_areHeightsFit, Cond.selects RX0 yX0_areHeightsFit yX0_areHeightsFit, Cond.code yX0_areHeightsFit cX0_areHeightsFit 5 (some .boolean), Cond.methodLink RX0 104 Lib.Math.max.name, Cond.fieldLink RX0 15 "TableWright$Layout" "heights" "[I", Cond.methodLink RX0 122 yX0_heightOfCell, Cond.instanceMethod yX0_heightOfCell, Cond.selects RX0 yX0_heightOfCell yX0_heightOfCell, Cond.code yX0_heightOfCell cX0_heightOfCell 6 (some .int), Cond.methodLink RX0 97 yX3_isSpanning, Cond.methodLink RX0 69 yX0_fillPage, Cond.instanceMethod yX0_fillPage, Cond.selects RX0 yX0_fillPage yX0_fillPage, Cond.code yX0_fillPage cX0_fillPage 4 none, Cond.fieldLink RX0 24 "TableWright$Layout" "firstRows" "[I", Cond.fieldLink RX0 27 "TableWright$Layout" "rowsOn" "[I", Cond.fieldLink RX0 30 "TableWright$Layout" "notesOn" "[I", Cond.fieldLink RX0 33 "TableWright$Layout" "left" "[I", Cond.fieldLink RX0 36 "TableWright$Layout" "lastRows" "[I", Cond.methodLink RX0 126 yX0_putWaitingNotes, Cond.instanceMethod yX0_putWaitingNotes, Cond.selects RX0 yX0_putWaitingNotes yX0_putWaitingNotes]
def wsX4_changedBy_r7 : List Cond := [Cond.code yX0_putWaitingNotes cX0_putWaitingNotes 4 none, Cond.fieldLink RX0 21 "TableWright$Layout" "notePages" "[I", Cond.methodLink RX0 129 yX0_hasRoomForNextRow, Cond.instanceMethod yX0_hasRoomForNextRow, Cond.selects RX0 yX0_hasRoomForNextRow yX0_hasRoomForNextRow, Cond.code yX0_hasRoomForNextRow cX0_hasRoomForNextRow 5 (some .boolean), Cond.methodLink RX0 142 yX0_heightOfGroup, Cond.instanceMethod yX0_heightOfGroup, Cond.selects RX0 yX0_heightOfGroup yX0_heightOfGroup, Cond.code yX0_heightOfGroup cX0_heightOfGroup 5 (some .int), Cond.methodLink RX0 132 yX0_putNextRow, Cond.instanceMethod yX0_putNextRow, Cond.selects RX0 yX0_putNextRow yX0_putNextRow, Cond.code yX0_putNextRow cX0_putNextRow 2 none, Cond.fieldLink RX0 18 "TableWright$Layout" "rowPages" "[I", Cond.methodLink RX4 143 yX2_chosen, Cond.instanceMethod yX2_chosen, Cond.selects RX2 yX2_chosen yX2_chosen, Cond.code yX2_chosen cX2_chosen 1 (some (.object "TableWright$Layout")), Cond.methodLink RX4 183 yX3_copyFrom, Cond.instanceMethod yX3_copyFrom, Cond.selects RX3 yX3_copyFrom yX3_copyFrom, Cond.code yX3_copyFrom cX3_copyFrom 3 none, Cond.methodLink RX3 47 yX1_copyFrom]
def wsX4_changedBy_r8 : List Cond := [Cond.instanceMethod yX1_copyFrom, Cond.selects RX1 yX1_copyFrom yX1_copyFrom, Cond.initialized RX1, Cond.code yX1_copyFrom cX1_copyFrom 3 none, Cond.fieldLink RX1 9 "TableWright$Row" "values" "[I", Cond.fieldLink RX1 15 "TableWright$Row" "lengths" "[I", Cond.fieldLink RX1 18 "TableWright$Row" "words" "[I", Cond.fieldLink RX1 21 "TableWright$Row" "isToSpan" "[Z", Cond.fieldLink RX1 31 "TableWright$Row" "noteLines" "I", Cond.fieldLink RX1 35 "TableWright$Row" "isKept" "Z", Cond.methodLink RX4 187 yX4_layoutOfTrial, Cond.instanceMethod yX4_layoutOfTrial, Cond.selects RX4 yX4_layoutOfTrial yX4_layoutOfTrial, Cond.code yX4_layoutOfTrial cX4_layoutOfTrial 1 (some (.object "TableWright$Layout")), Cond.fieldLink RX4 37 "TableWright" "trialSetting" "LTableWright$Setting;", Cond.methodLink RX4 193 yX4_isPageOther, Cond.instanceMethod yX4_isPageOther, Cond.selects RX4 yX4_isPageOther yX4_isPageOther, Cond.code yX4_isPageOther cX4_isPageOther 5 (some .boolean), Cond.methodLink RX4 166 yX0_carriedOn, Cond.instanceMethod yX0_carriedOn, Cond.selects RX0 yX0_carriedOn yX0_carriedOn, Cond.code yX0_carriedOn cX0_carriedOn 4 (some .int), Cond.methodLink RX0 76 yX3_sumUpTo]
def wsX4_changedBy_r9 : List Cond := [Cond.instanceMethod yX3_sumUpTo, Cond.selects RX3 yX3_sumUpTo yX3_sumUpTo, Cond.code yX3_sumUpTo cX3_sumUpTo 3 (some .int)]
def wsX4_changedBy : List Cond := .code yX4_changedBy cX4_changedBy 10 (some .int) :: ((wsX4_changedBy_r1 ++ (wsX4_changedBy_r2 ++ (wsX4_changedBy_r3 ++ (wsX4_changedBy_r4 ++ (wsX4_changedBy_r5 ++ (wsX4_changedBy_r6 ++ (wsX4_changedBy_r7 ++ (wsX4_changedBy_r8 ++ wsX4_changedBy_r9)))))))) ++ wsX40 ++ wsX30 ++ wsX10 ++ wsX00 ++ wsX20 ++ (vx_atS RX4 215 "java/lang/IndexOutOfBoundsException" ["java/lang/RuntimeException", "java/lang/Exception"]).filter goodWord ++ (vx_atS RX4 126 "java/lang/IllegalArgumentException" ["java/lang/RuntimeException", "java/lang/Exception"]).filter goodWord)
def wsX4_digestWith : List Cond := .code yX4_digestWith cX4_digestWith 3 (some .long) :: ([.constantLong RX4 293 (31)])
def wsX4_digestWithRow_r1 : List Cond := [Cond.fieldLink RX4 12 "TableWright" "sheet" "LTableWright$Sheet;", Cond.methodLink RX4 157 yX4_factOfRow, Cond.instanceMethod yX4_factOfRow, Cond.selects RX4 yX4_factOfRow yX4_factOfRow, Cond.initialized RX4, Cond.code yX4_factOfRow cX4_factOfRow 4 (some .int), Cond.fieldLink RX4 19 "TableWright" "setting" "LTableWright$Setting;", Cond.methodLink RX4 143 yX2_chosen, Cond.instanceMethod yX2_chosen, Cond.selects RX2 yX2_chosen yX2_chosen, Cond.initialized RX2, Cond.code yX2_chosen cX2_chosen 1 (some (.object "TableWright$Layout")), Cond.fieldLink RX2 31 "TableWright$Setting" "isTurned" "Z", Cond.fieldLink RX2 16 "TableWright$Setting" "turned" "LTableWright$Layout;", Cond.fieldLink RX2 10 "TableWright$Setting" "upright" "LTableWright$Layout;", Cond.methodLink RX4 199 yX4_digestWith, Cond.static yX4_digestWith, Cond.code yX4_digestWith cX4_digestWith 3 (some .long), Cond.constantLong RX4 293 (31), Cond.methodLink RX4 150 yX4_factOfCell, Cond.instanceMethod yX4_factOfCell, Cond.selects RX4 yX4_factOfCell yX4_factOfCell, Cond.code yX4_factOfCell cX4_factOfCell 6 (some .int), Cond.methodLink RX4 283 yX0_heightOfCell]
def wsX4_digestWithRow_r2 : List Cond := [Cond.instanceMethod yX0_heightOfCell, Cond.selects RX0 yX0_heightOfCell yX0_heightOfCell, Cond.initialized RX0, Cond.code yX0_heightOfCell cX0_heightOfCell 6 (some .int), Cond.fieldLink RX0 9 "TableWright$Layout" "widths" "[I", Cond.methodLink RX0 104 Lib.Math.max.name, Cond.static Lib.Math.max.name, Cond.initialized "java/lang/Math", Cond.code Lib.Math.max.name Lib.Math.max.code 2 (some .int), Cond.methodLink RX0 97 yX3_isSpanning, Cond.instanceMethod yX3_isSpanning, Cond.selects RX3 yX3_isSpanning yX3_isSpanning, Cond.initialized RX3, Cond.code yX3_isSpanning cX3_isSpanning 3 (some .boolean), Cond.fieldLink RX3 37 "TableWright$Sheet" "columnCount" "I", Cond.fieldLink RX3 26 "TableWright$Sheet" "rows" "[LTableWright$Row;", Cond.methodLink RX4 271 yX3_sumUpTo, Cond.instanceMethod yX3_sumUpTo, Cond.selects RX3 yX3_sumUpTo yX3_sumUpTo, Cond.code yX3_sumUpTo cX3_sumUpTo 3 (some .int), Cond.fieldLink RX3 9 "TableWright$Sheet" "kinds" "[I"]
def wsX4_digestWithRow : List Cond := .code yX4_digestWithRow cX4_digestWithRow 8 (some .long) :: ((wsX4_digestWithRow_r1 ++ wsX4_digestWithRow_r2) ++ wsX40 ++ wsX30 ++ wsX00 ++ wsX20 ++ wsX10)
def wsX4_digestWithPage_r1 : List Cond := [Cond.fieldLink RX4 12 "TableWright" "sheet" "LTableWright$Sheet;", Cond.fieldLink RX4 19 "TableWright" "setting" "LTableWright$Setting;", Cond.methodLink RX4 163 yX4_factOfPage, Cond.instanceMethod yX4_factOfPage, Cond.selects RX4 yX4_factOfPage yX4_factOfPage, Cond.initialized RX4, Cond.code yX4_factOfPage cX4_factOfPage 4 (some .int), Cond.methodLink RX4 143 yX2_chosen, Cond.instanceMethod yX2_chosen, Cond.selects RX2 yX2_chosen yX2_chosen, Cond.initialized RX2, Cond.code yX2_chosen cX2_chosen 1 (some (.object "TableWright$Layout")), Cond.fieldLink RX2 31 "TableWright$Setting" "isTurned" "Z", Cond.fieldLink RX2 16 "TableWright$Setting" "turned" "LTableWright$Layout;", Cond.fieldLink RX2 10 "TableWright$Setting" "upright" "LTableWright$Layout;", Cond.methodLink RX4 289 yX0_readAloud, Cond.instanceMethod yX0_readAloud, Cond.selects RX0 yX0_readAloud yX0_readAloud, Cond.initialized RX0, Cond.code yX0_readAloud cX0_readAloud 5 (some .int), Cond.fieldLink RX0 30 "TableWright$Layout" "notesOn" "[I", Cond.fieldLink RX0 18 "TableWright$Layout" "rowPages" "[I", Cond.methodLink RX0 83 yX0_shownCells, Cond.static yX0_shownCells]
def wsX4_digestWithPage_r2 : List Cond := [Cond.code yX0_shownCells cX0_shownCells 4 (some .int), Cond.methodLink RX4 199 yX4_digestWith, Cond.static yX4_digestWith, Cond.code yX4_digestWith cX4_digestWith 3 (some .long), Cond.constantLong RX4 293 (31), Cond.methodLink RX4 166 yX0_carriedOn, Cond.instanceMethod yX0_carriedOn, Cond.selects RX0 yX0_carriedOn yX0_carriedOn, Cond.code yX0_carriedOn cX0_carriedOn 4 (some .int), Cond.fieldLink RX0 36 "TableWright$Layout" "lastRows" "[I", Cond.methodLink RX0 76 yX3_sumUpTo, Cond.instanceMethod yX3_sumUpTo, Cond.selects RX3 yX3_sumUpTo yX3_sumUpTo, Cond.initialized RX3, Cond.code yX3_sumUpTo cX3_sumUpTo 3 (some .int), Cond.fieldLink RX3 9 "TableWright$Sheet" "kinds" "[I", Cond.fieldLink RX3 26 "TableWright$Sheet" "rows" "[LTableWright$Row;"]
def wsX4_digestWithPage : List Cond := .code yX4_digestWithPage cX4_digestWithPage 7 (some .long) :: ((wsX4_digestWithPage_r1 ++ wsX4_digestWithPage_r2) ++ wsX40 ++ wsX30 ++ wsX00 ++ wsX20 ++ wsX10)
def wsX4_digest_r1 : List Cond := [Cond.constantLong RX4 197 (58119), Cond.fieldLink RX4 12 "TableWright" "sheet" "LTableWright$Sheet;", Cond.fieldLink RX4 19 "TableWright" "setting" "LTableWright$Setting;", Cond.methodLink RX4 131 yX4_refresh, Cond.instanceMethod yX4_refresh, Cond.selects RX4 yX4_refresh yX4_refresh, Cond.initialized RX4, Cond.code yX4_refresh cX4_refresh 1 none, Cond.fieldLink RX4 30 "TableWright" "isStale" "Z", Cond.fieldLink RX4 23 "TableWright" "wide" "I", Cond.fieldLink RX4 27 "TableWright" "high" "I", Cond.methodLink RX4 229 yX3_reckon, Cond.instanceMethod yX3_reckon, Cond.selects RX3 yX3_reckon yX3_reckon, Cond.initialized RX3, Cond.code yX3_reckon cX3_reckon 2 none, Cond.fieldLink RX3 37 "TableWright$Sheet" "columnCount" "I", Cond.fieldLink RX3 9 "TableWright$Sheet" "kinds" "[I", Cond.methodLink RX3 61 yX3_reckonHidden, Cond.instanceMethod yX3_reckonHidden, Cond.selects RX3 yX3_reckonHidden yX3_reckonHidden, Cond.code yX3_reckonHidden cX3_reckonHidden 5 none, Cond.fieldLink RX3 41 "TableWright$Sheet" "rowCount" "I", Cond.fieldLink RX3 26 "TableWright$Sheet" "rows" "[LTableWright$Row;"]
def wsX4_digest_r2 : List Cond := [Cond.methodLink RX3 65 yX3_reckonNumbers, Cond.instanceMethod yX3_reckonNumbers, Cond.selects RX3 yX3_reckonNumbers yX3_reckonNumbers, Cond.code yX3_reckonNumbers cX3_reckonNumbers 9 none, Cond.fieldLink RX3 18 "TableWright$Sheet" "firsts" "[I", Cond.fieldLink RX3 21 "TableWright$Sheet" "seconds" "[I", Cond.methodLink RX3 80 yX3_resultOf, Cond.static yX3_resultOf, Cond.code yX3_resultOf cX3_resultOf 7 (some .int), Cond.constantLong RX3 84 (-99999), Cond.constantLong RX3 86 (99999), Cond.methodLink RX3 88 Lib.MathLoose.min_long.x, Cond.static Lib.MathLoose.min_long.x, Cond.initialized "java/lang/Math", Cond.code Lib.MathLoose.min_long.x Lib.MathLoose.min_long.code 4 (some .long), Cond.methodLink RX3 94 Lib.MathLoose.max_long.x, Cond.static Lib.MathLoose.max_long.x, Cond.code Lib.MathLoose.max_long.x Lib.MathLoose.max_long.code 4 (some .long), Cond.methodLink RX3 68 yX3_measureText, Cond.instanceMethod yX3_measureText, Cond.selects RX3 yX3_measureText yX3_measureText, Cond.code yX3_measureText cX3_measureText 5 none, Cond.fieldLink RX3 15 "TableWright$Sheet" "titles" "[I", Cond.methodLink RX3 104 Lib.Math.max.name]
def wsX4_digest_r3 : List Cond := [Cond.static Lib.Math.max.name, Cond.code Lib.Math.max.name Lib.Math.max.code 2 (some .int), Cond.fieldLink RX3 30 "TableWright$Sheet" "leasts" "[I", Cond.fieldLink RX3 33 "TableWright$Sheet" "bests" "[I", Cond.methodLink RX3 110 Lib.Math.min.name, Cond.static Lib.Math.min.name, Cond.code Lib.Math.min.name Lib.Math.min.code 2 (some .int), Cond.methodLink RX3 97 yX3_isSpanning, Cond.instanceMethod yX3_isSpanning, Cond.selects RX3 yX3_isSpanning yX3_isSpanning, Cond.code yX3_isSpanning cX3_isSpanning 3 (some .boolean), Cond.methodLink RX3 71 yX3_measureNumbers, Cond.instanceMethod yX3_measureNumbers, Cond.selects RX3 yX3_measureNumbers yX3_measureNumbers, Cond.code yX3_measureNumbers cX3_measureNumbers 4 none, Cond.methodLink RX3 112 yX3_sizeOf, Cond.static yX3_sizeOf, Cond.code yX3_sizeOf cX3_sizeOf 3 (some .int), Cond.methodLink RX4 232 yX2_arrange, Cond.instanceMethod yX2_arrange, Cond.selects RX2 yX2_arrange yX2_arrange, Cond.initialized RX2, Cond.code yX2_arrange cX2_arrange 5 none, Cond.fieldLink RX2 10 "TableWright$Setting" "upright" "LTableWright$Layout;"]
def wsX4_digest_r4 : List Cond := [Cond.fieldLink RX2 16 "TableWright$Setting" "turned" "LTableWright$Layout;", Cond.fieldLink RX2 31 "TableWright$Setting" "isTurned" "Z", Cond.methodLink RX2 19 yX0_arrange, Cond.instanceMethod yX0_arrange, Cond.selects RX0 yX0_arrange yX0_arrange, Cond.initialized RX0, Cond.code yX0_arrange cX0_arrange 4 none, Cond.fieldLink RX0 39 "TableWright$Layout" "room" "I", Cond.fieldLink RX0 51 "TableWright$Layout" "isFit" "Z", Cond.fieldLink RX0 55 "TableWright$Layout" "pageCount" "I", Cond.fieldLink RX0 58 "TableWright$Layout" "nextRow" "I", Cond.fieldLink RX0 61 "TableWright$Layout" "nextNote" "I", Cond.methodLink RX0 43 yX0_isWidthFit, Cond.instanceMethod yX0_isWidthFit, Cond.selects RX0 yX0_isWidthFit yX0_isWidthFit, Cond.code yX0_isWidthFit cX0_isWidthFit 5 (some .boolean), Cond.fieldLink RX0 9 "TableWright$Layout" "widths" "[I", Cond.methodLink RX0 112 yX0_tableWidth, Cond.instanceMethod yX0_tableWidth, Cond.selects RX0 yX0_tableWidth yX0_tableWidth, Cond.code yX0_tableWidth cX0_tableWidth 4 (some .int), Cond.methodLink RX0 116 yX0_mostSpareColumn, Cond.instanceMethod yX0_mostSpareColumn, Cond.selects RX0 yX0_mostSpareColumn yX0_mostSpareColumn]
def wsX4_digest_r5 : List Cond := [Cond.code yX0_mostSpareColumn cX0_mostSpareColumn 6 (some .int), Cond.methodLink RX0 47 yX0_areHeightsFit, Cond.instanceMethod yX0_areHeightsFit, Cond.selects RX0 yX0_areHeightsFit yX0_areHeightsFit, Cond.code yX0_areHeightsFit cX0_areHeightsFit 5 (some .boolean), Cond.methodLink RX0 104 Lib.Math.max.name, Cond.fieldLink RX0 15 "TableWright$Layout" "heights" "[I", Cond.methodLink RX0 122 yX0_heightOfCell, Cond.instanceMethod yX0_heightOfCell, Cond.selects RX0 yX0_heightOfCell yX0_heightOfCell, Cond.code yX0_heightOfCell cX0_heightOfCell 6 (some .int), Cond.methodLink RX0 97 yX3_isSpanning, Cond.methodLink RX0 69 yX0_fillPage, Cond.instanceMethod yX0_fillPage, Cond.selects RX0 yX0_fillPage yX0_fillPage, Cond.code yX0_fillPage cX0_fillPage 4 none, Cond.fieldLink RX0 24 "TableWright$Layout" "firstRows" "[I", Cond.fieldLink RX0 27 "TableWright$Layout" "rowsOn" "[I", Cond.fieldLink RX0 30 "TableWright$Layout" "notesOn" "[I", Cond.fieldLink RX0 33 "TableWright$Layout" "left" "[I", Cond.fieldLink RX0 36 "TableWright$Layout" "lastRows" "[I", Cond.methodLink RX0 126 yX0_putWaitingNotes, Cond.instanceMethod yX0_putWaitingNotes, Cond.selects RX0 yX0_putWaitingNotes yX0_putWaitingNotes]
def wsX4_digest_r6 : List Cond := [Cond.code yX0_putWaitingNotes cX0_putWaitingNotes 4 none, Cond.fieldLink RX0 21 "TableWright$Layout" "notePages" "[I", Cond.methodLink RX0 129 yX0_hasRoomForNextRow, Cond.instanceMethod yX0_hasRoomForNextRow, Cond.selects RX0 yX0_hasRoomForNextRow yX0_hasRoomForNextRow, Cond.code yX0_hasRoomForNextRow cX0_hasRoomForNextRow 5 (some .boolean), Cond.methodLink RX0 142 yX0_heightOfGroup, Cond.instanceMethod yX0_heightOfGroup, Cond.selects RX0 yX0_heightOfGroup yX0_heightOfGroup, Cond.code yX0_heightOfGroup cX0_heightOfGroup 5 (some .int), Cond.methodLink RX0 132 yX0_putNextRow, Cond.instanceMethod yX0_putNextRow, Cond.selects RX0 yX0_putNextRow yX0_putNextRow, Cond.code yX0_putNextRow cX0_putNextRow 2 none, Cond.fieldLink RX0 18 "TableWright$Layout" "rowPages" "[I", Cond.methodLink RX4 170 yX4_factOfTable, Cond.instanceMethod yX4_factOfTable, Cond.selects RX4 yX4_factOfTable yX4_factOfTable, Cond.code yX4_factOfTable cX4_factOfTable 3 (some .int), Cond.methodLink RX4 143 yX2_chosen, Cond.instanceMethod yX2_chosen, Cond.selects RX2 yX2_chosen yX2_chosen, Cond.code yX2_chosen cX2_chosen 1 (some (.object "TableWright$Layout")), Cond.methodLink RX4 147 yX0_pagesOrNone]
def wsX4_digest_r7 : List Cond := [Cond.instanceMethod yX0_pagesOrNone, Cond.selects RX0 yX0_pagesOrNone yX0_pagesOrNone, Cond.code yX0_pagesOrNone cX0_pagesOrNone 1 (some .int), Cond.methodLink RX4 249 yX0_tableWidth, Cond.methodLink RX4 253 yX0_heightOfRows, Cond.instanceMethod yX0_heightOfRows, Cond.selects RX0 yX0_heightOfRows yX0_heightOfRows, Cond.code yX0_heightOfRows cX0_heightOfRows 4 (some .int), Cond.methodLink RX4 256 yX3_linesOfNotes, Cond.instanceMethod yX3_linesOfNotes, Cond.selects RX3 yX3_linesOfNotes yX3_linesOfNotes, Cond.code yX3_linesOfNotes cX3_linesOfNotes 3 (some .int), Cond.methodLink RX4 259 yX0_notesElsewhere, Cond.instanceMethod yX0_notesElsewhere, Cond.selects RX0 yX0_notesElsewhere yX0_notesElsewhere, Cond.code yX0_notesElsewhere cX0_notesElsewhere 4 (some .int), Cond.methodLink RX4 199 yX4_digestWith, Cond.static yX4_digestWith, Cond.code yX4_digestWith cX4_digestWith 3 (some .long), Cond.constantLong RX4 293 (31), Cond.methodLink RX4 154 yX4_factOfColumn, Cond.instanceMethod yX4_factOfColumn, Cond.selects RX4 yX4_factOfColumn yX4_factOfColumn, Cond.code yX4_factOfColumn cX4_factOfColumn 4 (some .int)]
def wsX4_digest_r8 : List Cond := [Cond.methodLink RX4 271 yX3_sumUpTo, Cond.instanceMethod yX3_sumUpTo, Cond.selects RX3 yX3_sumUpTo yX3_sumUpTo, Cond.code yX3_sumUpTo cX3_sumUpTo 3 (some .int), Cond.methodLink RX4 203 yX4_digestWithRow, Cond.instanceMethod yX4_digestWithRow, Cond.selects RX4 yX4_digestWithRow yX4_digestWithRow, Cond.code yX4_digestWithRow cX4_digestWithRow 8 (some .long), Cond.methodLink RX4 157 yX4_factOfRow, Cond.instanceMethod yX4_factOfRow, Cond.selects RX4 yX4_factOfRow yX4_factOfRow, Cond.code yX4_factOfRow cX4_factOfRow 4 (some .int), Cond.methodLink RX4 150 yX4_factOfCell, Cond.instanceMethod yX4_factOfCell, Cond.selects RX4 yX4_factOfCell yX4_factOfCell, Cond.code yX4_factOfCell cX4_factOfCell 6 (some .int), Cond.methodLink RX4 283 yX0_heightOfCell, Cond.methodLink RX4 206 yX4_digestWithPage, Cond.instanceMethod yX4_digestWithPage, Cond.selects RX4 yX4_digestWithPage yX4_digestWithPage, Cond.code yX4_digestWithPage cX4_digestWithPage 7 (some .long), Cond.methodLink RX4 163 yX4_factOfPage, Cond.instanceMethod yX4_factOfPage, Cond.selects RX4 yX4_factOfPage yX4_factOfPage]
def wsX4_digest_r9 : List Cond := [Cond.code yX4_factOfPage cX4_factOfPage 4 (some .int), Cond.methodLink RX4 289 yX0_readAloud, Cond.instanceMethod yX0_readAloud, Cond.selects RX0 yX0_readAloud yX0_readAloud, Cond.code yX0_readAloud cX0_readAloud 5 (some .int), Cond.methodLink RX0 83 yX0_shownCells, Cond.static yX0_shownCells, Cond.code yX0_shownCells cX0_shownCells 4 (some .int), Cond.methodLink RX4 166 yX0_carriedOn, Cond.instanceMethod yX0_carriedOn, Cond.selects RX0 yX0_carriedOn yX0_carriedOn, Cond.code yX0_carriedOn cX0_carriedOn 4 (some .int), Cond.methodLink RX0 76 yX3_sumUpTo, Cond.methodLink RX4 180 yX4_pagesIn, Cond.instanceMethod yX4_pagesIn, Cond.selects RX4 yX4_pagesIn yX4_pagesIn, Cond.code yX4_pagesIn cX4_pagesIn 3 (some .int), Cond.fieldLink RX4 43 "TableWright" "probe" "LTableWright$Layout;", Cond.methodLink RX4 236 yX0_arrange]
def wsX4_digest : List Cond := .code yX4_digest cX4_digest 5 (some .long) :: ((wsX4_digest_r1 ++ (wsX4_digest_r2 ++ (wsX4_digest_r3 ++ (wsX4_digest_r4 ++ (wsX4_digest_r5 ++ (wsX4_digest_r6 ++ (wsX4_digest_r7 ++ (wsX4_digest_r8 ++ wsX4_digest_r9)))))))) ++ wsX40 ++ wsX30 ++ wsX00 ++ wsX10 ++ wsX20)
def wsJ9_max_7cf53 : List Cond := .code yJ9_max_7cf53 cJ9_max_7cf53 2 (some .int) :: ([])
def wsJ9_max_f86c9 : List Cond := .code yJ9_max_f86c9 cJ9_max_f86c9 4 (some .long) :: ([])
def wsJ9_min_7cf53 : List Cond := .code yJ9_min_7cf53 cJ9_min_7cf53 2 (some .int) :: ([])
def wsJ9_min_f86c9 : List Cond := .code yJ9_min_f86c9 cJ9_min_f86c9 4 (some .long) :: ([])
def wsL_below : List Cond := .code yL_below cL_below 2 (some .int) :: ([.constant RL 7 (2147483647)])
def wsL_cell : List Cond := .code yL_cell cL_cell 2 (some .int) :: ([.constant RL 8 (790386105)])
def wsL_isTogether_r1 : List Cond := [Cond.methodLink RL 84 yX4_ofRow, Cond.instanceMethod yX4_ofRow, Cond.selects RX4 yX4_ofRow yX4_ofRow, Cond.initialized RX4, Cond.code yX4_ofRow cX4_ofRow 3 (some .int), Cond.methodLink RX4 86 yX4_requireRow, Cond.instanceMethod yX4_requireRow, Cond.selects RX4 yX4_requireRow yX4_requireRow, Cond.code yX4_requireRow cX4_requireRow 2 none, Cond.classLink RX4 211 "java/lang/IndexOutOfBoundsException", Cond.initialized "java/lang/IndexOutOfBoundsException", Cond.fieldLink RX4 12 "TableWright" "sheet" "LTableWright$Sheet;", Cond.methodLink RX4 47 yX4_requireRange, Cond.static yX4_requireRange, Cond.code yX4_requireRange cX4_requireRange 3 none, Cond.classLink RX4 122 "java/lang/IllegalArgumentException", Cond.initialized "java/lang/IllegalArgumentException", Cond.methodLink RX4 131 yX4_refresh, Cond.instanceMethod yX4_refresh, Cond.selects RX4 yX4_refresh yX4_refresh, Cond.code yX4_refresh cX4_refresh 1 none, Cond.fieldLink RX4 30 "TableWright" "isStale" "Z", Cond.fieldLink RX4 19 "TableWright" "setting" "LTableWright$Setting;", Cond.fieldLink RX4 23 "TableWright" "wide" "I"]
def wsL_isTogether_r2 : List Cond := [Cond.fieldLink RX4 27 "TableWright" "high" "I", Cond.methodLink RX4 229 yX3_reckon, Cond.instanceMethod yX3_reckon, Cond.selects RX3 yX3_reckon yX3_reckon, Cond.initialized RX3, Cond.code yX3_reckon cX3_reckon 2 none, Cond.fieldLink RX3 37 "TableWright$Sheet" "columnCount" "I", Cond.fieldLink RX3 9 "TableWright$Sheet" "kinds" "[I", Cond.methodLink RX3 61 yX3_reckonHidden, Cond.instanceMethod yX3_reckonHidden, Cond.selects RX3 yX3_reckonHidden yX3_reckonHidden, Cond.code yX3_reckonHidden cX3_reckonHidden 5 none, Cond.fieldLink RX3 41 "TableWright$Sheet" "rowCount" "I", Cond.fieldLink RX3 26 "TableWright$Sheet" "rows" "[LTableWright$Row;", Cond.methodLink RX3 65 yX3_reckonNumbers, Cond.instanceMethod yX3_reckonNumbers, Cond.selects RX3 yX3_reckonNumbers yX3_reckonNumbers, Cond.code yX3_reckonNumbers cX3_reckonNumbers 9 none, Cond.fieldLink RX3 18 "TableWright$Sheet" "firsts" "[I", Cond.fieldLink RX3 21 "TableWright$Sheet" "seconds" "[I", Cond.methodLink RX3 80 yX3_resultOf, Cond.static yX3_resultOf, Cond.code yX3_resultOf cX3_resultOf 7 (some .int), Cond.constantLong RX3 84 (-99999)]
def wsL_isTogether_r3 : List Cond := [Cond.constantLong RX3 86 (99999), Cond.methodLink RX3 88 Lib.MathLoose.min_long.x, Cond.static Lib.MathLoose.min_long.x, Cond.initialized "java/lang/Math", Cond.code Lib.MathLoose.min_long.x Lib.MathLoose.min_long.code 4 (some .long), Cond.methodLink RX3 94 Lib.MathLoose.max_long.x, Cond.static Lib.MathLoose.max_long.x, Cond.code Lib.MathLoose.max_long.x Lib.MathLoose.max_long.code 4 (some .long), Cond.methodLink RX3 68 yX3_measureText, Cond.instanceMethod yX3_measureText, Cond.selects RX3 yX3_measureText yX3_measureText, Cond.code yX3_measureText cX3_measureText 5 none, Cond.fieldLink RX3 15 "TableWright$Sheet" "titles" "[I", Cond.methodLink RX3 104 Lib.Math.max.name, Cond.static Lib.Math.max.name, Cond.code Lib.Math.max.name Lib.Math.max.code 2 (some .int), Cond.fieldLink RX3 30 "TableWright$Sheet" "leasts" "[I", Cond.fieldLink RX3 33 "TableWright$Sheet" "bests" "[I", Cond.methodLink RX3 110 Lib.Math.min.name, Cond.static Lib.Math.min.name, Cond.code Lib.Math.min.name Lib.Math.min.code 2 (some .int), Cond.methodLink RX3 97 yX3_isSpanning, Cond.instanceMethod yX3_isSpanning, Cond.selects RX3 yX3_isSpanning yX3_isSpanning]
def wsL_isTogether_r4 : List Cond := [Cond.code yX3_isSpanning cX3_isSpanning 3 (some .boolean), Cond.methodLink RX3 71 yX3_measureNumbers, Cond.instanceMethod yX3_measureNumbers, Cond.selects RX3 yX3_measureNumbers yX3_measureNumbers, Cond.code yX3_measureNumbers cX3_measureNumbers 4 none, Cond.methodLink RX3 112 yX3_sizeOf, Cond.static yX3_sizeOf, Cond.code yX3_sizeOf cX3_sizeOf 3 (some .int), Cond.methodLink RX4 232 yX2_arrange, Cond.instanceMethod yX2_arrange, Cond.selects RX2 yX2_arrange yX2_arrange, Cond.initialized RX2, Cond.code yX2_arrange cX2_arrange 5 none, Cond.fieldLink RX2 10 "TableWright$Setting" "upright" "LTableWright$Layout;", Cond.fieldLink RX2 16 "TableWright$Setting" "turned" "LTableWright$Layout;", Cond.fieldLink RX2 31 "TableWright$Setting" "isTurned" "Z", Cond.methodLink RX2 19 yX0_arrange, Cond.instanceMethod yX0_arrange, Cond.selects RX0 yX0_arrange yX0_arrange, Cond.initialized RX0, Cond.code yX0_arrange cX0_arrange 4 none, Cond.fieldLink RX0 39 "TableWright$Layout" "room" "I", Cond.fieldLink RX0 51 "TableWright$Layout" "isFit" "Z", Cond.fieldLink RX0 55 "TableWright$Layout" "pageCount" "I"]
def wsL_isTogether_r5 : List Cond := [Cond.fieldLink RX0 58 "TableWright$Layout" "nextRow" "I", Cond.fieldLink RX0 61 "TableWright$Layout" "nextNote" "I", Cond.methodLink RX0 43 yX0_isWidthFit, Cond.instanceMethod yX0_isWidthFit, Cond.selects RX0 yX0_isWidthFit yX0_isWidthFit, Cond.code yX0_isWidthFit cX0_isWidthFit 5 (some .boolean), Cond.fieldLink RX0 9 "TableWright$Layout" "widths" "[I", Cond.methodLink RX0 112 yX0_tableWidth, Cond.instanceMethod yX0_tableWidth, Cond.selects RX0 yX0_tableWidth yX0_tableWidth, Cond.code yX0_tableWidth cX0_tableWidth 4 (some .int), Cond.methodLink RX0 116 yX0_mostSpareColumn, Cond.instanceMethod yX0_mostSpareColumn, Cond.selects RX0 yX0_mostSpareColumn yX0_mostSpareColumn, Cond.code yX0_mostSpareColumn cX0_mostSpareColumn 6 (some .int), Cond.methodLink RX0 47 yX0_areHeightsFit, Cond.instanceMethod yX0_areHeightsFit, Cond.selects RX0 yX0_areHeightsFit yX0_areHeightsFit, Cond.code yX0_areHeightsFit cX0_areHeightsFit 5 (some .boolean), Cond.methodLink RX0 104 Lib.Math.max.name, Cond.fieldLink RX0 15 "TableWright$Layout" "heights" "[I", Cond.methodLink RX0 122 yX0_heightOfCell, Cond.instanceMethod yX0_heightOfCell, Cond.selects RX0 yX0_heightOfCell yX0_heightOfCell]
def wsL_isTogether_r6 : List Cond := [Cond.code yX0_heightOfCell cX0_heightOfCell 6 (some .int), Cond.methodLink RX0 97 yX3_isSpanning, Cond.methodLink RX0 69 yX0_fillPage, Cond.instanceMethod yX0_fillPage, Cond.selects RX0 yX0_fillPage yX0_fillPage, Cond.code yX0_fillPage cX0_fillPage 4 none, Cond.fieldLink RX0 24 "TableWright$Layout" "firstRows" "[I", Cond.fieldLink RX0 27 "TableWright$Layout" "rowsOn" "[I", Cond.fieldLink RX0 30 "TableWright$Layout" "notesOn" "[I", Cond.fieldLink RX0 33 "TableWright$Layout" "left" "[I", Cond.fieldLink RX0 36 "TableWright$Layout" "lastRows" "[I", Cond.methodLink RX0 126 yX0_putWaitingNotes, Cond.instanceMethod yX0_putWaitingNotes, Cond.selects RX0 yX0_putWaitingNotes yX0_putWaitingNotes, Cond.code yX0_putWaitingNotes cX0_putWaitingNotes 4 none, Cond.fieldLink RX0 21 "TableWright$Layout" "notePages" "[I", Cond.methodLink RX0 129 yX0_hasRoomForNextRow, Cond.instanceMethod yX0_hasRoomForNextRow, Cond.selects RX0 yX0_hasRoomForNextRow yX0_hasRoomForNextRow, Cond.code yX0_hasRoomForNextRow cX0_hasRoomForNextRow 5 (some .boolean), Cond.methodLink RX0 142 yX0_heightOfGroup, Cond.instanceMethod yX0_heightOfGroup, Cond.selects RX0 yX0_heightOfGroup yX0_heightOfGroup, Cond.code yX0_heightOfGroup cX0_heightOfGroup 5 (some .int)]
def wsL_isTogether_r7 : List Cond := [Cond.methodLink RX0 132 yX0_putNextRow, Cond.instanceMethod yX0_putNextRow, Cond.selects RX0 yX0_putNextRow yX0_putNextRow, Cond.code yX0_putNextRow cX0_putNextRow 2 none, Cond.fieldLink RX0 18 "TableWright$Layout" "rowPages" "[I", Cond.methodLink RX4 157 yX4_factOfRow, Cond.instanceMethod yX4_factOfRow, Cond.selects RX4 yX4_factOfRow yX4_factOfRow, Cond.code yX4_factOfRow cX4_factOfRow 4 (some .int), Cond.methodLink RX4 143 yX2_chosen, Cond.instanceMethod yX2_chosen, Cond.selects RX2 yX2_chosen yX2_chosen, Cond.code yX2_chosen cX2_chosen 1 (some (.object "TableWright$Layout")), Cond.methodLink RL 81 yX4_ofPage, Cond.instanceMethod yX4_ofPage, Cond.selects RX4 yX4_ofPage yX4_ofPage, Cond.code yX4_ofPage cX4_ofPage 3 (some .int), Cond.methodLink RX4 160 yX4_requirePage, Cond.instanceMethod yX4_requirePage, Cond.selects RX4 yX4_requirePage yX4_requirePage, Cond.code yX4_requirePage cX4_requirePage 2 none, Cond.methodLink RX4 163 yX4_factOfPage, Cond.instanceMethod yX4_factOfPage, Cond.selects RX4 yX4_factOfPage yX4_factOfPage]
def wsL_isTogether_r8 : List Cond := [Cond.code yX4_factOfPage cX4_factOfPage 4 (some .int), Cond.methodLink RX4 289 yX0_readAloud, Cond.instanceMethod yX0_readAloud, Cond.selects RX0 yX0_readAloud yX0_readAloud, Cond.code yX0_readAloud cX0_readAloud 5 (some .int), Cond.methodLink RX0 83 yX0_shownCells, Cond.static yX0_shownCells, Cond.code yX0_shownCells cX0_shownCells 4 (some .int)]
def wsL_isTogether : List Cond := .code yL_isTogether cL_isTogether 10 (some .boolean) :: ((wsL_isTogether_r1 ++ (wsL_isTogether_r2 ++ (wsL_isTogether_r3 ++ (wsL_isTogether_r4 ++ (wsL_isTogether_r5 ++ (wsL_isTogether_r6 ++ (wsL_isTogether_r7 ++ wsL_isTogether_r8))))))) ++ wsX40 ++ wsX30 ++ wsX10 ++ wsX20 ++ wsX00 ++ (vx_atS RX4 215 "java/lang/IndexOutOfBoundsException" ["java/lang/RuntimeException", "java/lang/Exception"]).filter goodWord ++ (vx_atS RX4 126 "java/lang/IllegalArgumentException" ["java/lang/RuntimeException", "java/lang/Exception"]).filter goodWord)
def wsL_isLaid_r1 : List Cond := [Cond.methodLink RL 90 Lib.Math.max.name, Cond.static Lib.Math.max.name, Cond.initialized "java/lang/Math", Cond.code Lib.Math.max.name Lib.Math.max.code 2 (some .int), Cond.methodLink RL 26 yX4_many, Cond.instanceMethod yX4_many, Cond.selects RX4 yX4_many yX4_many, Cond.initialized RX4, Cond.code yX4_many cX4_many 2 (some .int), Cond.methodLink RX4 47 yX4_requireRange, Cond.static yX4_requireRange, Cond.code yX4_requireRange cX4_requireRange 3 none, Cond.classLink RX4 122 "java/lang/IllegalArgumentException", Cond.initialized "java/lang/IllegalArgumentException", Cond.methodLink RX4 131 yX4_refresh, Cond.instanceMethod yX4_refresh, Cond.selects RX4 yX4_refresh yX4_refresh, Cond.code yX4_refresh cX4_refresh 1 none, Cond.fieldLink RX4 30 "TableWright" "isStale" "Z", Cond.fieldLink RX4 12 "TableWright" "sheet" "LTableWright$Sheet;", Cond.fieldLink RX4 19 "TableWright" "setting" "LTableWright$Setting;", Cond.fieldLink RX4 23 "TableWright" "wide" "I", Cond.fieldLink RX4 27 "TableWright" "high" "I", Cond.methodLink RX4 229 yX3_reckon]
def wsL_isLaid_r2 : List Cond := [Cond.instanceMethod yX3_reckon, Cond.selects RX3 yX3_reckon yX3_reckon, Cond.initialized RX3, Cond.code yX3_reckon cX3_reckon 2 none, Cond.fieldLink RX3 37 "TableWright$Sheet" "columnCount" "I", Cond.fieldLink RX3 9 "TableWright$Sheet" "kinds" "[I", Cond.methodLink RX3 61 yX3_reckonHidden, Cond.instanceMethod yX3_reckonHidden, Cond.selects RX3 yX3_reckonHidden yX3_reckonHidden, Cond.code yX3_reckonHidden cX3_reckonHidden 5 none, Cond.fieldLink RX3 41 "TableWright$Sheet" "rowCount" "I", Cond.fieldLink RX3 26 "TableWright$Sheet" "rows" "[LTableWright$Row;", Cond.methodLink RX3 65 yX3_reckonNumbers, Cond.instanceMethod yX3_reckonNumbers, Cond.selects RX3 yX3_reckonNumbers yX3_reckonNumbers, Cond.code yX3_reckonNumbers cX3_reckonNumbers 9 none, Cond.fieldLink RX3 18 "TableWright$Sheet" "firsts" "[I", Cond.fieldLink RX3 21 "TableWright$Sheet" "seconds" "[I", Cond.methodLink RX3 80 yX3_resultOf, Cond.static yX3_resultOf, Cond.code yX3_resultOf cX3_resultOf 7 (some .int), Cond.constantLong RX3 84 (-99999), Cond.constantLong RX3 86 (99999), Cond.methodLink RX3 88 Lib.MathLoose.min_long.x]
def wsL_isLaid_r3 : List Cond := [Cond.static Lib.MathLoose.min_long.x, Cond.code Lib.MathLoose.min_long.x Lib.MathLoose.min_long.code 4 (some .long), Cond.methodLink RX3 94 Lib.MathLoose.max_long.x, Cond.static Lib.MathLoose.max_long.x, Cond.code Lib.MathLoose.max_long.x Lib.MathLoose.max_long.code 4 (some .long), Cond.methodLink RX3 68 yX3_measureText, Cond.instanceMethod yX3_measureText, Cond.selects RX3 yX3_measureText yX3_measureText, Cond.code yX3_measureText cX3_measureText 5 none, Cond.fieldLink RX3 15 "TableWright$Sheet" "titles" "[I", Cond.methodLink RX3 104 Lib.Math.max.name, Cond.fieldLink RX3 30 "TableWright$Sheet" "leasts" "[I", Cond.fieldLink RX3 33 "TableWright$Sheet" "bests" "[I", Cond.methodLink RX3 110 Lib.Math.min.name, Cond.static Lib.Math.min.name, Cond.code Lib.Math.min.name Lib.Math.min.code 2 (some .int), Cond.methodLink RX3 97 yX3_isSpanning, Cond.instanceMethod yX3_isSpanning, Cond.selects RX3 yX3_isSpanning yX3_isSpanning, Cond.code yX3_isSpanning cX3_isSpanning 3 (some .boolean), Cond.methodLink RX3 71 yX3_measureNumbers, Cond.instanceMethod yX3_measureNumbers, Cond.selects RX3 yX3_measureNumbers yX3_measureNumbers, Cond.code yX3_measureNumbers cX3_measureNumbers 4 none]
def wsL_isLaid_r4 : List Cond := [Cond.methodLink RX3 112 yX3_sizeOf, Cond.static yX3_sizeOf, Cond.code yX3_sizeOf cX3_sizeOf 3 (some .int), Cond.methodLink RX4 232 yX2_arrange, Cond.instanceMethod yX2_arrange, Cond.selects RX2 yX2_arrange yX2_arrange, Cond.initialized RX2, Cond.code yX2_arrange cX2_arrange 5 none, Cond.fieldLink RX2 10 "TableWright$Setting" "upright" "LTableWright$Layout;", Cond.fieldLink RX2 16 "TableWright$Setting" "turned" "LTableWright$Layout;", Cond.fieldLink RX2 31 "TableWright$Setting" "isTurned" "Z", Cond.methodLink RX2 19 yX0_arrange, Cond.instanceMethod yX0_arrange, Cond.selects RX0 yX0_arrange yX0_arrange, Cond.initialized RX0, Cond.code yX0_arrange cX0_arrange 4 none, Cond.fieldLink RX0 39 "TableWright$Layout" "room" "I", Cond.fieldLink RX0 51 "TableWright$Layout" "isFit" "Z", Cond.fieldLink RX0 55 "TableWright$Layout" "pageCount" "I", Cond.fieldLink RX0 58 "TableWright$Layout" "nextRow" "I", Cond.fieldLink RX0 61 "TableWright$Layout" "nextNote" "I", Cond.methodLink RX0 43 yX0_isWidthFit, Cond.instanceMethod yX0_isWidthFit, Cond.selects RX0 yX0_isWidthFit yX0_isWidthFit]
def wsL_isLaid_r5 : List Cond := [Cond.code yX0_isWidthFit cX0_isWidthFit 5 (some .boolean), Cond.fieldLink RX0 9 "TableWright$Layout" "widths" "[I", Cond.methodLink RX0 112 yX0_tableWidth, Cond.instanceMethod yX0_tableWidth, Cond.selects RX0 yX0_tableWidth yX0_tableWidth, Cond.code yX0_tableWidth cX0_tableWidth 4 (some .int), Cond.methodLink RX0 116 yX0_mostSpareColumn, Cond.instanceMethod yX0_mostSpareColumn, Cond.selects RX0 yX0_mostSpareColumn yX0_mostSpareColumn, Cond.code yX0_mostSpareColumn cX0_mostSpareColumn 6 (some .int), Cond.methodLink RX0 47 yX0_areHeightsFit, Cond.instanceMethod yX0_areHeightsFit, Cond.selects RX0 yX0_areHeightsFit yX0_areHeightsFit, Cond.code yX0_areHeightsFit cX0_areHeightsFit 5 (some .boolean), Cond.methodLink RX0 104 Lib.Math.max.name, Cond.fieldLink RX0 15 "TableWright$Layout" "heights" "[I", Cond.methodLink RX0 122 yX0_heightOfCell, Cond.instanceMethod yX0_heightOfCell, Cond.selects RX0 yX0_heightOfCell yX0_heightOfCell, Cond.code yX0_heightOfCell cX0_heightOfCell 6 (some .int), Cond.methodLink RX0 97 yX3_isSpanning, Cond.methodLink RX0 69 yX0_fillPage, Cond.instanceMethod yX0_fillPage, Cond.selects RX0 yX0_fillPage yX0_fillPage]
def wsL_isLaid_r6 : List Cond := [Cond.code yX0_fillPage cX0_fillPage 4 none, Cond.fieldLink RX0 24 "TableWright$Layout" "firstRows" "[I", Cond.fieldLink RX0 27 "TableWright$Layout" "rowsOn" "[I", Cond.fieldLink RX0 30 "TableWright$Layout" "notesOn" "[I", Cond.fieldLink RX0 33 "TableWright$Layout" "left" "[I", Cond.fieldLink RX0 36 "TableWright$Layout" "lastRows" "[I", Cond.methodLink RX0 126 yX0_putWaitingNotes, Cond.instanceMethod yX0_putWaitingNotes, Cond.selects RX0 yX0_putWaitingNotes yX0_putWaitingNotes, Cond.code yX0_putWaitingNotes cX0_putWaitingNotes 4 none, Cond.fieldLink RX0 21 "TableWright$Layout" "notePages" "[I", Cond.methodLink RX0 129 yX0_hasRoomForNextRow, Cond.instanceMethod yX0_hasRoomForNextRow, Cond.selects RX0 yX0_hasRoomForNextRow yX0_hasRoomForNextRow, Cond.code yX0_hasRoomForNextRow cX0_hasRoomForNextRow 5 (some .boolean), Cond.methodLink RX0 142 yX0_heightOfGroup, Cond.instanceMethod yX0_heightOfGroup, Cond.selects RX0 yX0_heightOfGroup yX0_heightOfGroup, Cond.code yX0_heightOfGroup cX0_heightOfGroup 5 (some .int), Cond.methodLink RX0 132 yX0_putNextRow, Cond.instanceMethod yX0_putNextRow, Cond.selects RX0 yX0_putNextRow yX0_putNextRow, Cond.code yX0_putNextRow cX0_putNextRow 2 none, Cond.fieldLink RX0 18 "TableWright$Layout" "rowPages" "[I"]
def wsL_isLaid_r7 : List Cond := [Cond.methodLink RX4 170 yX4_factOfTable, Cond.instanceMethod yX4_factOfTable, Cond.selects RX4 yX4_factOfTable yX4_factOfTable, Cond.code yX4_factOfTable cX4_factOfTable 3 (some .int), Cond.methodLink RX4 143 yX2_chosen, Cond.instanceMethod yX2_chosen, Cond.selects RX2 yX2_chosen yX2_chosen, Cond.code yX2_chosen cX2_chosen 1 (some (.object "TableWright$Layout")), Cond.methodLink RX4 147 yX0_pagesOrNone, Cond.instanceMethod yX0_pagesOrNone, Cond.selects RX0 yX0_pagesOrNone yX0_pagesOrNone, Cond.code yX0_pagesOrNone cX0_pagesOrNone 1 (some .int), Cond.methodLink RX4 249 yX0_tableWidth, Cond.methodLink RX4 253 yX0_heightOfRows, Cond.instanceMethod yX0_heightOfRows, Cond.selects RX0 yX0_heightOfRows yX0_heightOfRows, Cond.code yX0_heightOfRows cX0_heightOfRows 4 (some .int), Cond.methodLink RX4 256 yX3_linesOfNotes, Cond.instanceMethod yX3_linesOfNotes, Cond.selects RX3 yX3_linesOfNotes yX3_linesOfNotes, Cond.code yX3_linesOfNotes cX3_linesOfNotes 3 (some .int), Cond.methodLink RX4 259 yX0_notesElsewhere, Cond.instanceMethod yX0_notesElsewhere, Cond.selects RX0 yX0_notesElsewhere yX0_notesElsewhere]
def wsL_isLaid_r8 : List Cond := [Cond.code yX0_notesElsewhere cX0_notesElsewhere 4 (some .int), Cond.methodLink RL 78 yX4_ofColumn, Cond.instanceMethod yX4_ofColumn, Cond.selects RX4 yX4_ofColumn yX4_ofColumn, Cond.code yX4_ofColumn cX4_ofColumn 3 (some .int), Cond.methodLink RX4 58 yX4_requireColumn, Cond.instanceMethod yX4_requireColumn, Cond.selects RX4 yX4_requireColumn yX4_requireColumn, Cond.code yX4_requireColumn cX4_requireColumn 2 none, Cond.classLink RX4 211 "java/lang/IndexOutOfBoundsException", Cond.initialized "java/lang/IndexOutOfBoundsException", Cond.methodLink RX4 154 yX4_factOfColumn, Cond.instanceMethod yX4_factOfColumn, Cond.selects RX4 yX4_factOfColumn yX4_factOfColumn, Cond.code yX4_factOfColumn cX4_factOfColumn 4 (some .int), Cond.methodLink RX4 271 yX3_sumUpTo, Cond.instanceMethod yX3_sumUpTo, Cond.selects RX3 yX3_sumUpTo yX3_sumUpTo, Cond.code yX3_sumUpTo cX3_sumUpTo 3 (some .int), Cond.methodLink RL 81 yX4_ofPage, Cond.instanceMethod yX4_ofPage, Cond.selects RX4 yX4_ofPage yX4_ofPage, Cond.code yX4_ofPage cX4_ofPage 3 (some .int), Cond.methodLink RX4 160 yX4_requirePage]
def wsL_isLaid_r9 : List Cond := [Cond.instanceMethod yX4_requirePage, Cond.selects RX4 yX4_requirePage yX4_requirePage, Cond.code yX4_requirePage cX4_requirePage 2 none, Cond.methodLink RX4 163 yX4_factOfPage, Cond.instanceMethod yX4_factOfPage, Cond.selects RX4 yX4_factOfPage yX4_factOfPage, Cond.code yX4_factOfPage cX4_factOfPage 4 (some .int), Cond.methodLink RX4 289 yX0_readAloud, Cond.instanceMethod yX0_readAloud, Cond.selects RX0 yX0_readAloud yX0_readAloud, Cond.code yX0_readAloud cX0_readAloud 5 (some .int), Cond.methodLink RX0 83 yX0_shownCells, Cond.static yX0_shownCells, Cond.code yX0_shownCells cX0_shownCells 4 (some .int), Cond.methodLink RL 84 yX4_ofRow, Cond.instanceMethod yX4_ofRow, Cond.selects RX4 yX4_ofRow yX4_ofRow, Cond.code yX4_ofRow cX4_ofRow 3 (some .int), Cond.methodLink RX4 86 yX4_requireRow, Cond.instanceMethod yX4_requireRow, Cond.selects RX4 yX4_requireRow yX4_requireRow, Cond.code yX4_requireRow cX4_requireRow 2 none, Cond.methodLink RX4 157 yX4_factOfRow, Cond.instanceMethod yX4_factOfRow]
def wsL_isLaid_r10 : List Cond := [Cond.selects RX4 yX4_factOfRow yX4_factOfRow, Cond.code yX4_factOfRow cX4_factOfRow 4 (some .int), Cond.methodLink RL 87 yX4_carried, Cond.instanceMethod yX4_carried, Cond.selects RX4 yX4_carried yX4_carried, Cond.code yX4_carried cX4_carried 3 (some .int), Cond.methodLink RX4 166 yX0_carriedOn, Cond.instanceMethod yX0_carriedOn, Cond.selects RX0 yX0_carriedOn yX0_carriedOn, Cond.code yX0_carriedOn cX0_carriedOn 4 (some .int), Cond.methodLink RX0 76 yX3_sumUpTo, Cond.methodLink RL 73 yX4_cell, Cond.instanceMethod yX4_cell, Cond.selects RX4 yX4_cell yX4_cell, Cond.code yX4_cell cX4_cell 4 (some .int), Cond.methodLink RX4 150 yX4_factOfCell, Cond.instanceMethod yX4_factOfCell, Cond.selects RX4 yX4_factOfCell yX4_factOfCell, Cond.code yX4_factOfCell cX4_factOfCell 6 (some .int), Cond.methodLink RX4 283 yX0_heightOfCell, Cond.methodLink RL 93 yL_isTogether, Cond.static yL_isTogether, Cond.initialized RL, Cond.code yL_isTogether cL_isTogether 10 (some .boolean)]
def wsL_isLaid : List Cond := .code yL_isLaid cL_isLaid 17 (some .boolean) :: ((wsL_isLaid_r1 ++ (wsL_isLaid_r2 ++ (wsL_isLaid_r3 ++ (wsL_isLaid_r4 ++ (wsL_isLaid_r5 ++ (wsL_isLaid_r6 ++ (wsL_isLaid_r7 ++ (wsL_isLaid_r8 ++ (wsL_isLaid_r9 ++ wsL_isLaid_r10))))))))) ++ wsX40 ++ wsX30 ++ wsX10 ++ wsX20 ++ wsX00 ++ (vx_atS RX4 126 "java/lang/IllegalArgumentException" ["java/lang/RuntimeException", "java/lang/Exception"]).filter goodWord ++ (vx_atS RX4 215 "java/lang/IndexOutOfBoundsException" ["java/lang/RuntimeException", "java/lang/Exception"]).filter goodWord)
def wsL_law0_r1 : List Cond := [Cond.classLink RL 9 RX4, Cond.instantiable RX4 8, Cond.initialized RX4, Cond.arrayClass .boolean, Cond.arrayClass .int, Cond.methodLink RL 45 Lib.Math.min.name, Cond.static Lib.Math.min.name, Cond.initialized "java/lang/Math", Cond.code Lib.Math.min.name Lib.Math.min.code 2 (some .int), Cond.methodLink RL 11 yX4_init, Cond.instanceMethod yX4_init, Cond.code yX4_init cX4_init 1 none, Cond.methodLink RX4 3 objectInit, Cond.instanceMethod objectInit, Cond.code objectInit ⟨#[0xb1]⟩ 1 none, Cond.classLink RX4 9 RX3, Cond.instantiable RX3 9, Cond.initialized RX3, Cond.fieldLink RX4 12 "TableWright" "sheet" "LTableWright$Sheet;", Cond.classLink RX4 16 RX2, Cond.instantiable RX2 3, Cond.initialized RX2, Cond.fieldLink RX4 19 "TableWright" "setting" "LTableWright$Setting;", Cond.fieldLink RX4 23 "TableWright" "wide" "I"]
def wsL_law0_r2 : List Cond := [Cond.fieldLink RX4 27 "TableWright" "high" "I", Cond.fieldLink RX4 30 "TableWright" "isStale" "Z", Cond.fieldLink RX4 34 "TableWright" "trialSheet" "LTableWright$Sheet;", Cond.fieldLink RX4 37 "TableWright" "trialSetting" "LTableWright$Setting;", Cond.classLink RX4 40 RX0, Cond.instantiable RX0 14, Cond.initialized RX0, Cond.fieldLink RX4 43 "TableWright" "probe" "LTableWright$Layout;", Cond.methodLink RX4 11 yX3_init, Cond.instanceMethod yX3_init, Cond.code yX3_init cX3_init 2 none, Cond.methodLink RX3 3 objectInit, Cond.fieldLink RX3 9 "TableWright$Sheet" "kinds" "[I", Cond.fieldLink RX3 15 "TableWright$Sheet" "titles" "[I", Cond.fieldLink RX3 18 "TableWright$Sheet" "firsts" "[I", Cond.fieldLink RX3 21 "TableWright$Sheet" "seconds" "[I", Cond.classLink RX3 24 RX1, Cond.fieldLink RX3 26 "TableWright$Sheet" "rows" "[LTableWright$Row;", Cond.fieldLink RX3 30 "TableWright$Sheet" "leasts" "[I", Cond.fieldLink RX3 33 "TableWright$Sheet" "bests" "[I", Cond.instantiable RX1 8, Cond.initialized RX1, Cond.instanceMethod yX1_init, Cond.code yX1_init cX1_init 1 none]
def wsL_law0_r3 : List Cond := [Cond.methodLink RX1 3 objectInit, Cond.fieldLink RX1 9 "TableWright$Row" "values" "[I", Cond.fieldLink RX1 15 "TableWright$Row" "lengths" "[I", Cond.fieldLink RX1 18 "TableWright$Row" "words" "[I", Cond.fieldLink RX1 21 "TableWright$Row" "isToSpan" "[Z", Cond.fieldLink RX1 25 "TableWright$Row" "sums" "[I", Cond.fieldLink RX1 28 "TableWright$Row" "isHidden" "[Z", Cond.instanceMethod yX2_init, Cond.code yX2_init cX2_init 1 none, Cond.methodLink RX2 1 objectInit, Cond.classLink RX2 7 RX0, Cond.fieldLink RX2 10 "TableWright$Setting" "upright" "LTableWright$Layout;", Cond.fieldLink RX2 16 "TableWright$Setting" "turned" "LTableWright$Layout;", Cond.instanceMethod yX0_init, Cond.code yX0_init cX0_init 1 none, Cond.methodLink RX0 3 objectInit, Cond.fieldLink RX0 9 "TableWright$Layout" "widths" "[I", Cond.fieldLink RX0 15 "TableWright$Layout" "heights" "[I", Cond.fieldLink RX0 18 "TableWright$Layout" "rowPages" "[I", Cond.fieldLink RX0 21 "TableWright$Layout" "notePages" "[I", Cond.fieldLink RX0 24 "TableWright$Layout" "firstRows" "[I", Cond.fieldLink RX0 27 "TableWright$Layout" "rowsOn" "[I", Cond.fieldLink RX0 30 "TableWright$Layout" "notesOn" "[I", Cond.fieldLink RX0 33 "TableWright$Layout" "left" "[I"]
def wsL_law0_r4 : List Cond := [Cond.fieldLink RX0 36 "TableWright$Layout" "lastRows" "[I", Cond.methodLink RL 12 yL_cell, Cond.static yL_cell, Cond.initialized RL, Cond.code yL_cell cL_cell 2 (some .int), Cond.constant RL 8 (790386105), Cond.methodLink RL 18 yL_below, Cond.static yL_below, Cond.code yL_below cL_below 2 (some .int), Cond.constant RL 7 (2147483647), Cond.methodLink RL 22 yX4_column, Cond.instanceMethod yX4_column, Cond.selects RX4 yX4_column yX4_column, Cond.code yX4_column cX4_column 3 (some .int), Cond.methodLink RX4 47 yX4_requireRange, Cond.static yX4_requireRange, Cond.code yX4_requireRange cX4_requireRange 3 none, Cond.classLink RX4 122 "java/lang/IllegalArgumentException", Cond.initialized "java/lang/IllegalArgumentException", Cond.methodLink RX4 51 yX4_requireSpareColumn, Cond.instanceMethod yX4_requireSpareColumn, Cond.selects RX4 yX4_requireSpareColumn yX4_requireSpareColumn, Cond.code yX4_requireSpareColumn cX4_requireSpareColumn 1 none, Cond.classLink RX4 75 "java/lang/IllegalStateException"]
def wsL_law0_r5 : List Cond := [Cond.initialized "java/lang/IllegalStateException", Cond.methodLink RX4 54 yX3_addColumn, Cond.instanceMethod yX3_addColumn, Cond.selects RX3 yX3_addColumn yX3_addColumn, Cond.code yX3_addColumn cX3_addColumn 4 (some .int), Cond.fieldLink RX3 37 "TableWright$Sheet" "columnCount" "I", Cond.methodLink RL 26 yX4_many, Cond.instanceMethod yX4_many, Cond.selects RX4 yX4_many yX4_many, Cond.code yX4_many cX4_many 2 (some .int), Cond.methodLink RX4 131 yX4_refresh, Cond.instanceMethod yX4_refresh, Cond.selects RX4 yX4_refresh yX4_refresh, Cond.code yX4_refresh cX4_refresh 1 none, Cond.methodLink RX4 229 yX3_reckon, Cond.instanceMethod yX3_reckon, Cond.selects RX3 yX3_reckon yX3_reckon, Cond.code yX3_reckon cX3_reckon 2 none, Cond.methodLink RX3 61 yX3_reckonHidden, Cond.instanceMethod yX3_reckonHidden, Cond.selects RX3 yX3_reckonHidden yX3_reckonHidden, Cond.code yX3_reckonHidden cX3_reckonHidden 5 none, Cond.fieldLink RX3 41 "TableWright$Sheet" "rowCount" "I", Cond.methodLink RX3 65 yX3_reckonNumbers]
def wsL_law0_r6 : List Cond := [Cond.instanceMethod yX3_reckonNumbers, Cond.selects RX3 yX3_reckonNumbers yX3_reckonNumbers, Cond.code yX3_reckonNumbers cX3_reckonNumbers 9 none, Cond.methodLink RX3 80 yX3_resultOf, Cond.static yX3_resultOf, Cond.code yX3_resultOf cX3_resultOf 7 (some .int), Cond.constantLong RX3 84 (-99999), Cond.constantLong RX3 86 (99999), Cond.methodLink RX3 88 Lib.MathLoose.min_long.x, Cond.static Lib.MathLoose.min_long.x, Cond.code Lib.MathLoose.min_long.x Lib.MathLoose.min_long.code 4 (some .long), Cond.methodLink RX3 94 Lib.MathLoose.max_long.x, Cond.static Lib.MathLoose.max_long.x, Cond.code Lib.MathLoose.max_long.x Lib.MathLoose.max_long.code 4 (some .long), Cond.methodLink RX3 68 yX3_measureText, Cond.instanceMethod yX3_measureText, Cond.selects RX3 yX3_measureText yX3_measureText, Cond.code yX3_measureText cX3_measureText 5 none, Cond.methodLink RX3 104 Lib.Math.max.name, Cond.static Lib.Math.max.name, Cond.code Lib.Math.max.name Lib.Math.max.code 2 (some .int), Cond.methodLink RX3 110 Lib.Math.min.name, Cond.methodLink RX3 97 yX3_isSpanning, Cond.instanceMethod yX3_isSpanning]
def wsL_law0_r7 : List Cond := [Cond.selects RX3 yX3_isSpanning yX3_isSpanning, Cond.code yX3_isSpanning cX3_isSpanning 3 (some .boolean), Cond.methodLink RX3 71 yX3_measureNumbers, Cond.instanceMethod yX3_measureNumbers, Cond.selects RX3 yX3_measureNumbers yX3_measureNumbers, Cond.code yX3_measureNumbers cX3_measureNumbers 4 none, Cond.methodLink RX3 112 yX3_sizeOf, Cond.static yX3_sizeOf, Cond.code yX3_sizeOf cX3_sizeOf 3 (some .int), Cond.methodLink RX4 232 yX2_arrange, Cond.instanceMethod yX2_arrange, Cond.selects RX2 yX2_arrange yX2_arrange, Cond.code yX2_arrange cX2_arrange 5 none, Cond.fieldLink RX2 31 "TableWright$Setting" "isTurned" "Z", Cond.methodLink RX2 19 yX0_arrange, Cond.instanceMethod yX0_arrange, Cond.selects RX0 yX0_arrange yX0_arrange, Cond.code yX0_arrange cX0_arrange 4 none, Cond.fieldLink RX0 39 "TableWright$Layout" "room" "I", Cond.fieldLink RX0 51 "TableWright$Layout" "isFit" "Z", Cond.fieldLink RX0 55 "TableWright$Layout" "pageCount" "I", Cond.fieldLink RX0 58 "TableWright$Layout" "nextRow" "I", Cond.fieldLink RX0 61 "TableWright$Layout" "nextNote" "I", Cond.methodLink RX0 43 yX0_isWidthFit]
def wsL_law0_r8 : List Cond := [Cond.instanceMethod yX0_isWidthFit, Cond.selects RX0 yX0_isWidthFit yX0_isWidthFit, Cond.code yX0_isWidthFit cX0_isWidthFit 5 (some .boolean), Cond.methodLink RX0 112 yX0_tableWidth, Cond.instanceMethod yX0_tableWidth, Cond.selects RX0 yX0_tableWidth yX0_tableWidth, Cond.code yX0_tableWidth cX0_tableWidth 4 (some .int), Cond.methodLink RX0 116 yX0_mostSpareColumn, Cond.instanceMethod yX0_mostSpareColumn, Cond.selects RX0 yX0_mostSpareColumn yX0_mostSpareColumn, Cond.code yX0_mostSpareColumn cX0_mostSpareColumn 6 (some .int), Cond.methodLink RX0 47 yX0_areHeightsFit, Cond.instanceMethod yX0_areHeightsFit, Cond.selects RX0 yX0_areHeightsFit yX0_areHeightsFit, Cond.code yX0_areHeightsFit cX0_areHeightsFit 5 (some .boolean), Cond.methodLink RX0 104 Lib.Math.max.name, Cond.methodLink RX0 122 yX0_heightOfCell, Cond.instanceMethod yX0_heightOfCell, Cond.selects RX0 yX0_heightOfCell yX0_heightOfCell, Cond.code yX0_heightOfCell cX0_heightOfCell 6 (some .int), Cond.methodLink RX0 97 yX3_isSpanning, Cond.methodLink RX0 69 yX0_fillPage, Cond.instanceMethod yX0_fillPage, Cond.selects RX0 yX0_fillPage yX0_fillPage]
def wsL_law0_r9 : List Cond := [Cond.code yX0_fillPage cX0_fillPage 4 none, Cond.methodLink RX0 126 yX0_putWaitingNotes, Cond.instanceMethod yX0_putWaitingNotes, Cond.selects RX0 yX0_putWaitingNotes yX0_putWaitingNotes, Cond.code yX0_putWaitingNotes cX0_putWaitingNotes 4 none, Cond.methodLink RX0 129 yX0_hasRoomForNextRow, Cond.instanceMethod yX0_hasRoomForNextRow, Cond.selects RX0 yX0_hasRoomForNextRow yX0_hasRoomForNextRow, Cond.code yX0_hasRoomForNextRow cX0_hasRoomForNextRow 5 (some .boolean), Cond.methodLink RX0 142 yX0_heightOfGroup, Cond.instanceMethod yX0_heightOfGroup, Cond.selects RX0 yX0_heightOfGroup yX0_heightOfGroup, Cond.code yX0_heightOfGroup cX0_heightOfGroup 5 (some .int), Cond.methodLink RX0 132 yX0_putNextRow, Cond.instanceMethod yX0_putNextRow, Cond.selects RX0 yX0_putNextRow yX0_putNextRow, Cond.code yX0_putNextRow cX0_putNextRow 2 none, Cond.methodLink RX4 170 yX4_factOfTable, Cond.instanceMethod yX4_factOfTable, Cond.selects RX4 yX4_factOfTable yX4_factOfTable, Cond.code yX4_factOfTable cX4_factOfTable 3 (some .int), Cond.methodLink RX4 143 yX2_chosen, Cond.instanceMethod yX2_chosen, Cond.selects RX2 yX2_chosen yX2_chosen]
def wsL_law0_r10 : List Cond := [Cond.code yX2_chosen cX2_chosen 1 (some (.object "TableWright$Layout")), Cond.methodLink RX4 147 yX0_pagesOrNone, Cond.instanceMethod yX0_pagesOrNone, Cond.selects RX0 yX0_pagesOrNone yX0_pagesOrNone, Cond.code yX0_pagesOrNone cX0_pagesOrNone 1 (some .int), Cond.methodLink RX4 249 yX0_tableWidth, Cond.methodLink RX4 253 yX0_heightOfRows, Cond.instanceMethod yX0_heightOfRows, Cond.selects RX0 yX0_heightOfRows yX0_heightOfRows, Cond.code yX0_heightOfRows cX0_heightOfRows 4 (some .int), Cond.methodLink RX4 256 yX3_linesOfNotes, Cond.instanceMethod yX3_linesOfNotes, Cond.selects RX3 yX3_linesOfNotes yX3_linesOfNotes, Cond.code yX3_linesOfNotes cX3_linesOfNotes 3 (some .int), Cond.methodLink RX4 259 yX0_notesElsewhere, Cond.instanceMethod yX0_notesElsewhere, Cond.selects RX0 yX0_notesElsewhere yX0_notesElsewhere, Cond.code yX0_notesElsewhere cX0_notesElsewhere 4 (some .int), Cond.methodLink RL 30 yX4_row, Cond.instanceMethod yX4_row, Cond.selects RX4 yX4_row yX4_row, Cond.code yX4_row cX4_row 1 (some .int), Cond.methodLink RX4 82 yX3_addRow, Cond.instanceMethod yX3_addRow]
def wsL_law0_r11 : List Cond := [Cond.selects RX3 yX3_addRow yX3_addRow, Cond.code yX3_addRow cX3_addRow 1 (some .int), Cond.methodLink RX3 44 yX1_clear, Cond.instanceMethod yX1_clear, Cond.selects RX1 yX1_clear yX1_clear, Cond.code yX1_clear cX1_clear 2 none, Cond.fieldLink RX1 31 "TableWright$Row" "noteLines" "I", Cond.fieldLink RX1 35 "TableWright$Row" "isKept" "Z", Cond.methodLink RL 34 yX4_note, Cond.instanceMethod yX4_note, Cond.selects RX4 yX4_note yX4_note, Cond.code yX4_note cX4_note 4 (some .int), Cond.methodLink RX4 86 yX4_requireRow, Cond.instanceMethod yX4_requireRow, Cond.selects RX4 yX4_requireRow yX4_requireRow, Cond.code yX4_requireRow cX4_requireRow 2 none, Cond.classLink RX4 211 "java/lang/IndexOutOfBoundsException", Cond.initialized "java/lang/IndexOutOfBoundsException", Cond.methodLink RL 37 yX4_keep, Cond.instanceMethod yX4_keep, Cond.selects RX4 yX4_keep yX4_keep, Cond.code yX4_keep cX4_keep 4 (some .boolean), Cond.methodLink RL 41 yX4_span, Cond.instanceMethod yX4_span]
def wsL_law0_r12 : List Cond := [Cond.selects RX4 yX4_span yX4_span, Cond.code yX4_span cX4_span 4 (some .boolean), Cond.methodLink RX4 58 yX4_requireColumn, Cond.instanceMethod yX4_requireColumn, Cond.selects RX4 yX4_requireColumn yX4_requireColumn, Cond.code yX4_requireColumn cX4_requireColumn 2 none, Cond.methodLink RX4 104 yX4_requireKind, Cond.instanceMethod yX4_requireKind, Cond.selects RX4 yX4_requireKind yX4_requireKind, Cond.code yX4_requireKind cX4_requireKind 3 none, Cond.methodLink RL 50 yX4_text, Cond.instanceMethod yX4_text, Cond.selects RX4 yX4_text yX4_text, Cond.code yX4_text cX4_text 6 (some .int), Cond.methodLink RX4 108 Lib.Math.min.name, Cond.methodLink RL 54 yX4_number, Cond.instanceMethod yX4_number, Cond.selects RX4 yX4_number yX4_number, Cond.code yX4_number cX4_number 5 (some .int), Cond.methodLink RX4 92 yX4_requireNumberCell, Cond.instanceMethod yX4_requireNumberCell, Cond.selects RX4 yX4_requireNumberCell yX4_requireNumberCell, Cond.code yX4_requireNumberCell cX4_requireNumberCell 4 none, Cond.methodLink RL 58 yX4_paper]
def wsL_law0_r13 : List Cond := [Cond.instanceMethod yX4_paper, Cond.selects RX4 yX4_paper yX4_paper, Cond.code yX4_paper cX4_paper 3 (some .int), Cond.methodLink RL 61 yX4_pagesWith, Cond.instanceMethod yX4_pagesWith, Cond.selects RX4 yX4_pagesWith yX4_pagesWith, Cond.code yX4_pagesWith cX4_pagesWith 4 (some .int), Cond.methodLink RX4 180 yX4_pagesIn, Cond.instanceMethod yX4_pagesIn, Cond.selects RX4 yX4_pagesIn yX4_pagesIn, Cond.code yX4_pagesIn cX4_pagesIn 3 (some .int), Cond.methodLink RX4 236 yX0_arrange, Cond.methodLink RL 65 yL_isLaid, Cond.static yL_isLaid, Cond.code yL_isLaid cL_isLaid 17 (some .boolean), Cond.methodLink RL 90 Lib.Math.max.name, Cond.methodLink RL 78 yX4_ofColumn, Cond.instanceMethod yX4_ofColumn, Cond.selects RX4 yX4_ofColumn yX4_ofColumn, Cond.code yX4_ofColumn cX4_ofColumn 3 (some .int), Cond.methodLink RX4 154 yX4_factOfColumn, Cond.instanceMethod yX4_factOfColumn, Cond.selects RX4 yX4_factOfColumn yX4_factOfColumn, Cond.code yX4_factOfColumn cX4_factOfColumn 4 (some .int)]
def wsL_law0_r14 : List Cond := [Cond.methodLink RX4 271 yX3_sumUpTo, Cond.instanceMethod yX3_sumUpTo, Cond.selects RX3 yX3_sumUpTo yX3_sumUpTo, Cond.code yX3_sumUpTo cX3_sumUpTo 3 (some .int), Cond.methodLink RL 81 yX4_ofPage, Cond.instanceMethod yX4_ofPage, Cond.selects RX4 yX4_ofPage yX4_ofPage, Cond.code yX4_ofPage cX4_ofPage 3 (some .int), Cond.methodLink RX4 160 yX4_requirePage, Cond.instanceMethod yX4_requirePage, Cond.selects RX4 yX4_requirePage yX4_requirePage, Cond.code yX4_requirePage cX4_requirePage 2 none, Cond.methodLink RX4 163 yX4_factOfPage, Cond.instanceMethod yX4_factOfPage, Cond.selects RX4 yX4_factOfPage yX4_factOfPage, Cond.code yX4_factOfPage cX4_factOfPage 4 (some .int), Cond.methodLink RX4 289 yX0_readAloud, Cond.instanceMethod yX0_readAloud, Cond.selects RX0 yX0_readAloud yX0_readAloud, Cond.code yX0_readAloud cX0_readAloud 5 (some .int), Cond.methodLink RX0 83 yX0_shownCells, Cond.static yX0_shownCells, Cond.code yX0_shownCells cX0_shownCells 4 (some .int), Cond.methodLink RL 84 yX4_ofRow]
def wsL_law0_r15 : List Cond := [Cond.instanceMethod yX4_ofRow, Cond.selects RX4 yX4_ofRow yX4_ofRow, Cond.code yX4_ofRow cX4_ofRow 3 (some .int), Cond.methodLink RX4 157 yX4_factOfRow, Cond.instanceMethod yX4_factOfRow, Cond.selects RX4 yX4_factOfRow yX4_factOfRow, Cond.code yX4_factOfRow cX4_factOfRow 4 (some .int), Cond.methodLink RL 87 yX4_carried, Cond.instanceMethod yX4_carried, Cond.selects RX4 yX4_carried yX4_carried, Cond.code yX4_carried cX4_carried 3 (some .int), Cond.methodLink RX4 166 yX0_carriedOn, Cond.instanceMethod yX0_carriedOn, Cond.selects RX0 yX0_carriedOn yX0_carriedOn, Cond.code yX0_carriedOn cX0_carriedOn 4 (some .int), Cond.methodLink RX0 76 yX3_sumUpTo, Cond.methodLink RL 73 yX4_cell, Cond.instanceMethod yX4_cell, Cond.selects RX4 yX4_cell yX4_cell, Cond.code yX4_cell cX4_cell 4 (some .int), Cond.methodLink RX4 150 yX4_factOfCell, Cond.instanceMethod yX4_factOfCell, Cond.selects RX4 yX4_factOfCell yX4_factOfCell, Cond.code yX4_factOfCell cX4_factOfCell 6 (some .int)]
def wsL_law0_r16 : List Cond := [Cond.methodLink RX4 283 yX0_heightOfCell, Cond.methodLink RL 93 yL_isTogether, Cond.static yL_isTogether, Cond.code yL_isTogether cL_isTogether 10 (some .boolean), Cond.methodLink RL 69 yX4_digest, Cond.instanceMethod yX4_digest, Cond.selects RX4 yX4_digest yX4_digest, Cond.code yX4_digest cX4_digest 5 (some .long), Cond.constantLong RX4 197 (58119), Cond.methodLink RX4 199 yX4_digestWith, Cond.static yX4_digestWith, Cond.code yX4_digestWith cX4_digestWith 3 (some .long), Cond.constantLong RX4 293 (31), Cond.methodLink RX4 203 yX4_digestWithRow, Cond.instanceMethod yX4_digestWithRow, Cond.selects RX4 yX4_digestWithRow yX4_digestWithRow, Cond.code yX4_digestWithRow cX4_digestWithRow 8 (some .long), Cond.methodLink RX4 206 yX4_digestWithPage, Cond.instanceMethod yX4_digestWithPage, Cond.selects RX4 yX4_digestWithPage yX4_digestWithPage, Cond.code yX4_digestWithPage cX4_digestWithPage 7 (some .long), Cond.methodLink RL 75 yX4_changedBy, Cond.instanceMethod yX4_changedBy, Cond.selects RX4 yX4_changedBy yX4_changedBy]
def wsL_law0_r17 : List Cond := [Cond.code yX4_changedBy cX4_changedBy 10 (some .int), Cond.methodLink RX4 190 Lib.Math.max.name, Cond.methodLink RX4 183 yX3_copyFrom, Cond.instanceMethod yX3_copyFrom, Cond.selects RX3 yX3_copyFrom yX3_copyFrom, Cond.code yX3_copyFrom cX3_copyFrom 3 none, Cond.methodLink RX3 47 yX1_copyFrom, Cond.instanceMethod yX1_copyFrom, Cond.selects RX1 yX1_copyFrom yX1_copyFrom, Cond.code yX1_copyFrom cX1_copyFrom 3 none, Cond.methodLink RX4 187 yX4_layoutOfTrial, Cond.instanceMethod yX4_layoutOfTrial, Cond.selects RX4 yX4_layoutOfTrial yX4_layoutOfTrial, Cond.code yX4_layoutOfTrial cX4_layoutOfTrial 1 (some (.object "TableWright$Layout")), Cond.methodLink RX4 193 yX4_isPageOther, Cond.instanceMethod yX4_isPageOther, Cond.selects RX4 yX4_isPageOther yX4_isPageOther, Cond.code yX4_isPageOther cX4_isPageOther 5 (some .boolean)]
def wsL_law0 : List Cond := (wsL_law0_r1 ++ (wsL_law0_r2 ++ (wsL_law0_r3 ++ (wsL_law0_r4 ++ (wsL_law0_r5 ++ (wsL_law0_r6 ++ (wsL_law0_r7 ++ (wsL_law0_r8 ++ (wsL_law0_r9 ++ (wsL_law0_r10 ++ (wsL_law0_r11 ++ (wsL_law0_r12 ++ (wsL_law0_r13 ++ (wsL_law0_r14 ++ (wsL_law0_r15 ++ (wsL_law0_r16 ++ wsL_law0_r17)))))))))))))))) ++ wsX40 ++ wsX30 ++ wsX20 ++ wsX00 ++ wsX10 ++ ([] : List Cond)
def wsL_law : List Cond := wsL_law0 ++ (vx_atS RX4 126 "java/lang/IllegalArgumentException" ["java/lang/RuntimeException", "java/lang/Exception"]).filter goodWord ++ (vx_atS RX4 79 "java/lang/IllegalStateException" ["java/lang/RuntimeException", "java/lang/Exception"]).filter goodWord ++ (vx_atS RX4 215 "java/lang/IndexOutOfBoundsException" ["java/lang/RuntimeException", "java/lang/Exception"]).filter goodWord
end
section
set_option maxRecDepth 20000 in
theorem wsL_law0_r1_eq : wsL_law0_r1 = ([43, 44, 31, 108, 107, 673, 409, 41, 410, 45, 46, 47, 48, 49, 50, 51, 52, 32, 229, 149, 150, 34, 230, 231] : List Nat).filterMap (fun i => lw_tbl[i]?) := by decide +kernel
set_option maxRecDepth 20000 in
theorem wsL_law0_r2_eq : wsL_law0_r2 = ([232, 233, 234, 235, 227, 156, 35, 236, 53, 54, 55, 56, 112, 115, 116, 117, 57, 121, 124, 127, 59, 33, 61, 62] : List Nat).filterMap (fun i => lw_tbl[i]?) := by decide +kernel
set_option maxRecDepth 20000 in
theorem wsL_law0_r3_eq : wsL_law0_r3 = ([63, 64, 67, 71, 74, 84, 86, 152, 153, 154, 155, 216, 217, 158, 159, 160, 165, 167, 169, 171, 176, 178, 180, 182] : List Nat).filterMap (fun i => lw_tbl[i]?) := by decide +kernel
set_option maxRecDepth 20000 in
theorem wsL_law0_r4_eq : wsL_law0_r4 = ([184, 641, 642, 30, 643, 644, 637, 638, 639, 640, 254, 255, 256, 257, 258, 259, 260, 261, 39, 329, 331, 1, 332, 333] : List Nat).filterMap (fun i => lw_tbl[i]?) := by decide +kernel
set_option maxRecDepth 20000 in
theorem wsL_law0_r5_eq : wsL_law0_r5 = ([40, 349, 350, 351, 352, 109, 545, 546, 547, 548, 416, 418, 6, 419, 420, 421, 422, 423, 424, 426, 7, 427, 119, 428] : List Nat).filterMap (fun i => lw_tbl[i]?) := by decide +kernel
set_option maxRecDepth 20000 in
theorem wsL_law0_r6_eq : wsL_law0_r6 = ([430, 8, 431, 432, 433, 434, 435, 436, 437, 438, 439, 440, 441, 442, 443, 445, 9, 446, 451, 452, 453, 454, 447, 448] : List Nat).filterMap (fun i => lw_tbl[i]?) := by decide +kernel
set_option maxRecDepth 20000 in
theorem wsL_law0_r7_eq : wsL_law0_r7 = ([449, 450, 455, 457, 10, 458, 459, 460, 461, 462, 463, 464, 465, 218, 466, 467, 468, 469, 164, 162, 173, 185, 186, 470] : List Nat).filterMap (fun i => lw_tbl[i]?) := by decide +kernel
set_option maxRecDepth 20000 in
theorem wsL_law0_r8_eq : wsL_law0_r8 = ([472, 11, 473, 474, 475, 476, 477, 478, 480, 12, 481, 482, 484, 13, 485, 491, 486, 487, 488, 489, 490, 492, 494, 14] : List Nat).filterMap (fun i => lw_tbl[i]?) := by decide +kernel
set_option maxRecDepth 20000 in
theorem wsL_law0_r9_eq : wsL_law0_r9 = ([495, 496, 498, 15, 499, 500, 502, 16, 503, 504, 506, 17, 507, 508, 510, 18, 511, 549, 551, 20, 552, 524, 525, 526] : List Nat).filterMap (fun i => lw_tbl[i]?) := by decide +kernel
set_option maxRecDepth 20000 in
theorem wsL_law0_r10_eq : wsL_law0_r10 = ([527, 528, 529, 530, 531, 553, 554, 555, 556, 557, 558, 559, 560, 561, 562, 563, 564, 565, 353, 354, 355, 356, 358, 359] : List Nat).filterMap (fun i => lw_tbl[i]?) := by decide +kernel
set_option maxRecDepth 20000 in
theorem wsL_law0_r11_eq : wsL_law0_r11 = ([360, 361, 362, 363, 364, 365, 77, 81, 512, 513, 514, 515, 374, 376, 3, 377, 378, 42, 516, 517, 518, 519, 411, 412] : List Nat).filterMap (fun i => lw_tbl[i]?) := by decide +kernel
set_option maxRecDepth 20000 in
theorem wsL_law0_r12_eq : wsL_law0_r12 = ([413, 414, 394, 396, 4, 397, 399, 401, 5, 402, 404, 405, 406, 407, 408, 366, 367, 368, 369, 370, 372, 2, 373, 520] : List Nat).filterMap (fun i => lw_tbl[i]?) := by decide +kernel
set_option maxRecDepth 20000 in
theorem wsL_law0_r13_eq : wsL_law0_r13 = ([521, 522, 523, 566, 567, 568, 569, 570, 572, 21, 573, 574, 645, 646, 647, 669, 648, 649, 650, 651, 610, 612, 24, 613] : List Nat).filterMap (fun i => lw_tbl[i]?) := by decide +kernel
set_option maxRecDepth 20000 in
theorem wsL_law0_r14_eq : wsL_law0_r14 = ([541, 542, 543, 544, 652, 653, 654, 655, 656, 658, 29, 659, 626, 628, 28, 629, 630, 631, 632, 633, 634, 635, 636, 661] : List Nat).filterMap (fun i => lw_tbl[i]?) := by decide +kernel
set_option maxRecDepth 20000 in
theorem wsL_law0_r15_eq : wsL_law0_r15 = ([662, 663, 664, 618, 620, 26, 621, 665, 666, 667, 668, 596, 597, 598, 599, 600, 532, 533, 534, 535, 536, 538, 19, 539] : List Nat).filterMap (fun i => lw_tbl[i]?) := by decide +kernel
set_option maxRecDepth 20000 in
theorem wsL_law0_r16_eq : wsL_law0_r16 = ([540, 670, 671, 672, 601, 602, 603, 604, 605, 606, 607, 608, 609, 614, 616, 25, 617, 622, 624, 27, 625, 575, 576, 577] : List Nat).filterMap (fun i => lw_tbl[i]?) := by decide +kernel
set_option maxRecDepth 20000 in
theorem wsL_law0_r17_eq : wsL_law0_r17 = ([578, 591, 579, 580, 581, 582, 583, 584, 585, 586, 587, 589, 22, 590, 592, 594, 23, 595] : List Nat).filterMap (fun i => lw_tbl[i]?) := by decide +kernel
set_option maxRecDepth 20000 in
theorem wsX00_eq : wsX00 = ([187, 189, 191, 193, 195, 197, 199, 201, 203, 205, 207, 209, 211, 213] : List Nat).filterMap (fun i => lw_tbl[i]?) := by decide +kernel
set_option maxRecDepth 20000 in
theorem wsX10_eq : wsX10 = ([90, 92, 94, 96, 98, 100, 102, 104] : List Nat).filterMap (fun i => lw_tbl[i]?) := by decide +kernel
set_option maxRecDepth 20000 in
theorem wsX20_eq : wsX20 = ([220, 222, 224] : List Nat).filterMap (fun i => lw_tbl[i]?) := by decide +kernel
set_option maxRecDepth 20000 in
theorem wsX30_eq : wsX30 = ([130, 132, 134, 136, 138, 140, 142, 144, 146] : List Nat).filterMap (fun i => lw_tbl[i]?) := by decide +kernel
set_option maxRecDepth 20000 in
theorem wsX40_eq : wsX40 = ([237, 239, 241, 243, 245, 247, 249, 251] : List Nat).filterMap (fun i => lw_tbl[i]?) := by decide +kernel
theorem of_places {l : List Cond} {ps : List Nat} (h : l = ps.filterMap (fun i => lw_tbl[i]?)) : ∀ w ∈ l, w ∈ lw_tbl := by
  intro w hw
  rw [h] at hw
  obtain ⟨i, -, hi⟩ := List.mem_filterMap.mp hw
  exact List.mem_of_getElem? hi
theorem app2 {a b : List Cond} (ha : ∀ w ∈ a, w ∈ lw_tbl) (hb : ∀ w ∈ b, w ∈ lw_tbl) : ∀ w ∈ a ++ b, w ∈ lw_tbl := fun w h => (List.mem_append.mp h).elim (ha w) (hb w)
theorem wsL_law_in0 : ∀ w ∈ wsL_law0, w ∈ lw_tbl := app2 (app2 (app2 (app2 (app2 (app2 (app2 (of_places wsL_law0_r1_eq) (app2 (of_places wsL_law0_r2_eq) (app2 (of_places wsL_law0_r3_eq) (app2 (of_places wsL_law0_r4_eq) (app2 (of_places wsL_law0_r5_eq) (app2 (of_places wsL_law0_r6_eq) (app2 (of_places wsL_law0_r7_eq) (app2 (of_places wsL_law0_r8_eq) (app2 (of_places wsL_law0_r9_eq) (app2 (of_places wsL_law0_r10_eq) (app2 (of_places wsL_law0_r11_eq) (app2 (of_places wsL_law0_r12_eq) (app2 (of_places wsL_law0_r13_eq) (app2 (of_places wsL_law0_r14_eq) (app2 (of_places wsL_law0_r15_eq) (app2 (of_places wsL_law0_r16_eq) (of_places wsL_law0_r17_eq))))))))))))))))) (of_places wsX40_eq)) (of_places wsX30_eq)) (of_places wsX20_eq)) (of_places wsX00_eq)) (of_places wsX10_eq)) (fun _ h => absurd h List.not_mem_nil)
theorem wsL_law_x0 : ∀ w ∈ (vx_atS RX4 126 "java/lang/IllegalArgumentException" ["java/lang/RuntimeException", "java/lang/Exception"]).filter goodWord, w ∈ lw_tbl := by decide +kernel
theorem wsL_law_x1 : ∀ w ∈ (vx_atS RX4 79 "java/lang/IllegalStateException" ["java/lang/RuntimeException", "java/lang/Exception"]).filter goodWord, w ∈ lw_tbl := by decide +kernel
theorem wsL_law_x2 : ∀ w ∈ (vx_atS RX4 215 "java/lang/IndexOutOfBoundsException" ["java/lang/RuntimeException", "java/lang/Exception"]).filter goodWord, w ∈ lw_tbl := by decide +kernel
theorem wsL_law_in : ∀ w ∈ wsL_law, w ∈ lw_tbl := fun w h => (List.mem_append.mp h).elim (fun h => (List.mem_append.mp h).elim (fun h => (List.mem_append.mp h).elim (fun h => wsL_law_in0 w h) (fun h => wsL_law_x0 w h)) (fun h => wsL_law_x1 w h)) (fun h => wsL_law_x2 w h)
theorem inlX0 : ∀ w ∈ wsX00, w ∈ wsL_law := fun _ h => List.mem_append_left _ (List.mem_append_left _ (List.mem_append_left _ (List.mem_append_left _ (List.mem_append_left _ (List.mem_append_right _ h)))))
theorem inX0 : ∀ w ∈ wsX00, w ∈ lw_tbl := fun w h => wsL_law_in w (inlX0 w h)
theorem inlX1 : ∀ w ∈ wsX10, w ∈ wsL_law := fun _ h => List.mem_append_left _ (List.mem_append_left _ (List.mem_append_left _ (List.mem_append_left _ (List.mem_append_right _ h))))
theorem inX1 : ∀ w ∈ wsX10, w ∈ lw_tbl := fun w h => wsL_law_in w (inlX1 w h)
theorem inlX2 : ∀ w ∈ wsX20, w ∈ wsL_law := fun _ h => List.mem_append_left _ (List.mem_append_left _ (List.mem_append_left _ (List.mem_append_left _ (List.mem_append_left _ (List.mem_append_left _ (List.mem_append_right _ h))))))
theorem inX2 : ∀ w ∈ wsX20, w ∈ lw_tbl := fun w h => wsL_law_in w (inlX2 w h)
theorem inlX3 : ∀ w ∈ wsX30, w ∈ wsL_law := fun _ h => List.mem_append_left _ (List.mem_append_left _ (List.mem_append_left _ (List.mem_append_left _ (List.mem_append_left _ (List.mem_append_left _ (List.mem_append_left _ (List.mem_append_right _ h)))))))
theorem inX3 : ∀ w ∈ wsX30, w ∈ lw_tbl := fun w h => wsL_law_in w (inlX3 w h)
theorem inlX4 : ∀ w ∈ wsX40, w ∈ wsL_law := fun _ h => List.mem_append_left _ (List.mem_append_left _ (List.mem_append_left _ (List.mem_append_left _ (List.mem_append_left _ (List.mem_append_left _ (List.mem_append_left _ (List.mem_append_left _ (List.mem_append_right _ h))))))))
theorem inX4 : ∀ w ∈ wsX40, w ∈ lw_tbl := fun w h => wsL_law_in w (inlX4 w h)
theorem inX5 : ∀ w ∈ wsX50, w ∈ lw_tbl := by decide +kernel
theorem inX6 : ∀ w ∈ wsX60, w ∈ lw_tbl := by decide +kernel
theorem inX7 : ∀ w ∈ wsX70, w ∈ lw_tbl := by decide +kernel
theorem inX8 : ∀ w ∈ wsX80, w ∈ lw_tbl := by decide +kernel
theorem inX9 : ∀ w ∈ wsX90, w ∈ lw_tbl := by decide +kernel
theorem inX10 : ∀ w ∈ wsX100, w ∈ lw_tbl := by decide +kernel
theorem inJx145de : ∀ w ∈ wsJx145de0, w ∈ lw_tbl := by decide +kernel
theorem inJ9 : ∀ w ∈ wsJ90, w ∈ lw_tbl := by decide +kernel
theorem inJ0 : ∀ w ∈ wsJ00, w ∈ lw_tbl := by decide +kernel
end
section
theorem dX0_init_0 : decode cX0_init 0 = .ok (.aload_n 0, 1) := by decide +kernel
theorem dX0_init_1 : decode cX0_init 1 = .ok (.invokespecial 3, 3) := by decide +kernel
theorem dX0_init_4 : decode cX0_init 4 = .ok (.aload_n 0, 1) := by decide +kernel
theorem dX0_init_5 : decode cX0_init 5 = .ok (.bipush 6, 2) := by decide +kernel
theorem dX0_init_7 : decode cX0_init 7 = .ok (.newarray .int, 2) := by decide +kernel
theorem dX0_init_9 : decode cX0_init 9 = .ok (.putfield 9, 3) := by decide +kernel
theorem dX0_init_12 : decode cX0_init 12 = .ok (.aload_n 0, 1) := by decide +kernel
theorem dX0_init_13 : decode cX0_init 13 = .ok (.bipush 30, 2) := by decide +kernel
theorem dX0_init_15 : decode cX0_init 15 = .ok (.newarray .int, 2) := by decide +kernel
theorem dX0_init_17 : decode cX0_init 17 = .ok (.putfield 15, 3) := by decide +kernel
theorem dX0_init_20 : decode cX0_init 20 = .ok (.aload_n 0, 1) := by decide +kernel
theorem dX0_init_21 : decode cX0_init 21 = .ok (.bipush 30, 2) := by decide +kernel
theorem dX0_init_23 : decode cX0_init 23 = .ok (.newarray .int, 2) := by decide +kernel
theorem dX0_init_25 : decode cX0_init 25 = .ok (.putfield 18, 3) := by decide +kernel
theorem dX0_init_28 : decode cX0_init 28 = .ok (.aload_n 0, 1) := by decide +kernel
theorem dX0_init_29 : decode cX0_init 29 = .ok (.bipush 30, 2) := by decide +kernel
theorem dX0_init_31 : decode cX0_init 31 = .ok (.newarray .int, 2) := by decide +kernel
theorem dX0_init_33 : decode cX0_init 33 = .ok (.putfield 21, 3) := by decide +kernel
theorem dX0_init_36 : decode cX0_init 36 = .ok (.aload_n 0, 1) := by decide +kernel
theorem dX0_init_37 : decode cX0_init 37 = .ok (.bipush 60, 2) := by decide +kernel
theorem dX0_init_39 : decode cX0_init 39 = .ok (.newarray .int, 2) := by decide +kernel
theorem dX0_init_41 : decode cX0_init 41 = .ok (.putfield 24, 3) := by decide +kernel
theorem dX0_init_44 : decode cX0_init 44 = .ok (.aload_n 0, 1) := by decide +kernel
theorem dX0_init_45 : decode cX0_init 45 = .ok (.bipush 60, 2) := by decide +kernel
theorem dX0_init_47 : decode cX0_init 47 = .ok (.newarray .int, 2) := by decide +kernel
theorem dX0_init_49 : decode cX0_init 49 = .ok (.putfield 27, 3) := by decide +kernel
theorem dX0_init_52 : decode cX0_init 52 = .ok (.aload_n 0, 1) := by decide +kernel
theorem dX0_init_53 : decode cX0_init 53 = .ok (.bipush 60, 2) := by decide +kernel
theorem dX0_init_55 : decode cX0_init 55 = .ok (.newarray .int, 2) := by decide +kernel
theorem dX0_init_57 : decode cX0_init 57 = .ok (.putfield 30, 3) := by decide +kernel
theorem dX0_init_60 : decode cX0_init 60 = .ok (.aload_n 0, 1) := by decide +kernel
theorem dX0_init_61 : decode cX0_init 61 = .ok (.bipush 60, 2) := by decide +kernel
theorem dX0_init_63 : decode cX0_init 63 = .ok (.newarray .int, 2) := by decide +kernel
theorem dX0_init_65 : decode cX0_init 65 = .ok (.putfield 33, 3) := by decide +kernel
theorem dX0_init_68 : decode cX0_init 68 = .ok (.aload_n 0, 1) := by decide +kernel
theorem dX0_init_69 : decode cX0_init 69 = .ok (.bipush 60, 2) := by decide +kernel
theorem dX0_init_71 : decode cX0_init 71 = .ok (.newarray .int, 2) := by decide +kernel
theorem dX0_init_73 : decode cX0_init 73 = .ok (.putfield 36, 3) := by decide +kernel
theorem dX0_init_76 : decode cX0_init 76 = .ok (.return_, 1) := by decide +kernel
set_option maxRecDepth 20000 in
theorem ggX0_arrange_X0_isWidthFit : GoodIn wsX0_arrange wsX0_isWidthFit := goodIn_r _ [10, 11, 12, 13, 14, 9, 15, 16, 17, 18, 19, 81, 82, 83, 84, 85, 86, 87, 88, 89, 67, 68, 69, 70, 71, 72, 73, 74, 75, 76, 77, 78, 79, 80] (by decide +kernel) (by decide +kernel)
set_option maxRecDepth 20000 in
theorem gX0_arrange_X0_isWidthFit : GoodIn wsX0_arrange (wsV RX0 43 RX0 yX0_isWidthFit wsX0_isWidthFit) := goodIn_app (goodIn_of _ (by decide +kernel)) ggX0_arrange_X0_isWidthFit
set_option maxRecDepth 20000 in
theorem ggX0_arrange_X0_areHeightsFit : GoodIn wsX0_arrange wsX0_areHeightsFit := goodIn_r _ [23, 24, 25, 26, 27, 1, 28, 29, 30, 31, 9, 32, 11, 33, 34, 35, 36, 37, 38, 39, 81, 82, 83, 84, 85, 86, 87, 88, 89, 67, 68, 69, 70, 71, 72, 73, 74, 75, 76, 77, 78, 79, 80, 90, 91, 92, 93, 94, 95, 96, 97] (by decide +kernel) (by decide +kernel)
set_option maxRecDepth 20000 in
theorem gX0_arrange_X0_areHeightsFit : GoodIn wsX0_arrange (wsV RX0 47 RX0 yX0_areHeightsFit wsX0_areHeightsFit) := goodIn_app (goodIn_of _ (by decide +kernel)) ggX0_arrange_X0_areHeightsFit
set_option maxRecDepth 20000 in
theorem ggX0_arrange_X0_fillPage : GoodIn wsX0_arrange wsX0_fillPage := goodIn_r _ [43, 44, 45, 46, 47, 1, 4, 5, 48, 49, 50, 51, 9, 52, 53, 54, 55, 56, 57, 28, 58, 59, 60, 61, 62, 63, 64, 65, 66, 67, 68, 69, 70, 71, 72, 73, 74, 75, 76, 77, 78, 79, 80, 81, 82, 83, 84, 85, 86, 87, 88, 89, 90, 91, 92, 93, 94, 95, 96, 97] (by decide +kernel) (by decide +kernel)
set_option maxRecDepth 20000 in
theorem gX0_arrange_X0_fillPage : GoodIn wsX0_arrange (wsV RX0 69 RX0 yX0_fillPage wsX0_fillPage) := goodIn_app (goodIn_of _ (by decide +kernel)) ggX0_arrange_X0_fillPage
theorem dX0_arrange_0 : decode cX0_arrange 0 = .ok (.aload_n 0, 1) := by decide +kernel
theorem dX0_arrange_1 : decode cX0_arrange 1 = .ok (.iload_n 3, 1) := by decide +kernel
theorem dX0_arrange_2 : decode cX0_arrange 2 = .ok (.iconst 3, 1) := by decide +kernel
theorem dX0_arrange_3 : decode cX0_arrange 3 = .ok (.isub, 1) := by decide +kernel
theorem dX0_arrange_4 : decode cX0_arrange 4 = .ok (.putfield 39, 3) := by decide +kernel
theorem dX0_arrange_7 : decode cX0_arrange 7 = .ok (.aload_n 0, 1) := by decide +kernel
theorem dX0_arrange_8 : decode cX0_arrange 8 = .ok (.aload_n 0, 1) := by decide +kernel
theorem dX0_arrange_9 : decode cX0_arrange 9 = .ok (.aload_n 1, 1) := by decide +kernel
theorem dX0_arrange_10 : decode cX0_arrange 10 = .ok (.iload_n 2, 1) := by decide +kernel
theorem dX0_arrange_11 : decode cX0_arrange 11 = .ok (.invokevirtual 43, 3) := by decide +kernel
theorem dX0_arrange_14 : decode cX0_arrange 14 = .ok (.ifCond .eq 15, 3) := by decide +kernel
theorem dX0_arrange_17 : decode cX0_arrange 17 = .ok (.aload_n 0, 1) := by decide +kernel
theorem dX0_arrange_18 : decode cX0_arrange 18 = .ok (.aload_n 1, 1) := by decide +kernel
theorem dX0_arrange_19 : decode cX0_arrange 19 = .ok (.invokevirtual 47, 3) := by decide +kernel
theorem dX0_arrange_22 : decode cX0_arrange 22 = .ok (.ifCond .eq 7, 3) := by decide +kernel
theorem dX0_arrange_25 : decode cX0_arrange 25 = .ok (.iconst 1, 1) := by decide +kernel
theorem dX0_arrange_26 : decode cX0_arrange 26 = .ok (.goto 4, 3) := by decide +kernel
theorem dX0_arrange_29 : decode cX0_arrange 29 = .ok (.iconst 0, 1) := by decide +kernel
theorem dX0_arrange_30 : decode cX0_arrange 30 = .ok (.putfield 51, 3) := by decide +kernel
theorem dX0_arrange_33 : decode cX0_arrange 33 = .ok (.aload_n 0, 1) := by decide +kernel
theorem dX0_arrange_34 : decode cX0_arrange 34 = .ok (.iconst 0, 1) := by decide +kernel
theorem dX0_arrange_35 : decode cX0_arrange 35 = .ok (.putfield 55, 3) := by decide +kernel
theorem dX0_arrange_38 : decode cX0_arrange 38 = .ok (.aload_n 0, 1) := by decide +kernel
theorem dX0_arrange_39 : decode cX0_arrange 39 = .ok (.iconst 0, 1) := by decide +kernel
theorem dX0_arrange_40 : decode cX0_arrange 40 = .ok (.putfield 58, 3) := by decide +kernel
theorem dX0_arrange_43 : decode cX0_arrange 43 = .ok (.aload_n 0, 1) := by decide +kernel
theorem dX0_arrange_44 : decode cX0_arrange 44 = .ok (.iconst 0, 1) := by decide +kernel
theorem dX0_arrange_45 : decode cX0_arrange 45 = .ok (.putfield 61, 3) := by decide +kernel
theorem dX0_arrange_48 : decode cX0_arrange 48 = .ok (.aload_n 0, 1) := by decide +kernel
theorem dX0_arrange_49 : decode cX0_arrange 49 = .ok (.getfield 51, 3) := by decide +kernel
theorem dX0_arrange_52 : decode cX0_arrange 52 = .ok (.ifCond .eq 56, 3) := by decide +kernel
theorem dX0_arrange_55 : decode cX0_arrange 55 = .ok (.aload_n 0, 1) := by decide +kernel
theorem dX0_arrange_56 : decode cX0_arrange 56 = .ok (.getfield 55, 3) := by decide +kernel
theorem dX0_arrange_59 : decode cX0_arrange 59 = .ok (.bipush 60, 2) := by decide +kernel
theorem dX0_arrange_61 : decode cX0_arrange 61 = .ok (.if_icmp .ge 47, 3) := by decide +kernel
theorem dX0_arrange_64 : decode cX0_arrange 64 = .ok (.aload_n 0, 1) := by decide +kernel
theorem dX0_arrange_65 : decode cX0_arrange 65 = .ok (.getfield 58, 3) := by decide +kernel
theorem dX0_arrange_68 : decode cX0_arrange 68 = .ok (.aload_n 1, 1) := by decide +kernel
theorem dX0_arrange_69 : decode cX0_arrange 69 = .ok (.getfield 64, 3) := by decide +kernel
theorem dX0_arrange_72 : decode cX0_arrange 72 = .ok (.if_icmp .lt 14, 3) := by decide +kernel
theorem dX0_arrange_75 : decode cX0_arrange 75 = .ok (.aload_n 0, 1) := by decide +kernel
theorem dX0_arrange_76 : decode cX0_arrange 76 = .ok (.getfield 61, 3) := by decide +kernel
theorem dX0_arrange_79 : decode cX0_arrange 79 = .ok (.aload_n 0, 1) := by decide +kernel
theorem dX0_arrange_80 : decode cX0_arrange 80 = .ok (.getfield 58, 3) := by decide +kernel
theorem dX0_arrange_83 : decode cX0_arrange 83 = .ok (.if_icmp .ge 25, 3) := by decide +kernel
theorem dX0_arrange_86 : decode cX0_arrange 86 = .ok (.aload_n 0, 1) := by decide +kernel
theorem dX0_arrange_87 : decode cX0_arrange 87 = .ok (.aload_n 1, 1) := by decide +kernel
theorem dX0_arrange_88 : decode cX0_arrange 88 = .ok (.aload_n 0, 1) := by decide +kernel
theorem dX0_arrange_89 : decode cX0_arrange 89 = .ok (.getfield 55, 3) := by decide +kernel
theorem dX0_arrange_92 : decode cX0_arrange 92 = .ok (.invokevirtual 69, 3) := by decide +kernel
theorem dX0_arrange_95 : decode cX0_arrange 95 = .ok (.aload_n 0, 1) := by decide +kernel
theorem dX0_arrange_96 : decode cX0_arrange 96 = .ok (.dup, 1) := by decide +kernel
theorem dX0_arrange_97 : decode cX0_arrange 97 = .ok (.getfield 55, 3) := by decide +kernel
theorem dX0_arrange_100 : decode cX0_arrange 100 = .ok (.iconst 1, 1) := by decide +kernel
theorem dX0_arrange_101 : decode cX0_arrange 101 = .ok (.iadd, 1) := by decide +kernel
theorem dX0_arrange_102 : decode cX0_arrange 102 = .ok (.putfield 55, 3) := by decide +kernel
theorem dX0_arrange_105 : decode cX0_arrange 105 = .ok (.goto (-57), 3) := by decide +kernel
theorem dX0_arrange_108 : decode cX0_arrange 108 = .ok (.return_, 1) := by decide +kernel
theorem dX0_pagesOrNone_0 : decode cX0_pagesOrNone 0 = .ok (.aload_n 0, 1) := by decide +kernel
theorem dX0_pagesOrNone_1 : decode cX0_pagesOrNone 1 = .ok (.getfield 51, 3) := by decide +kernel
theorem dX0_pagesOrNone_4 : decode cX0_pagesOrNone 4 = .ok (.ifCond .eq 10, 3) := by decide +kernel
theorem dX0_pagesOrNone_7 : decode cX0_pagesOrNone 7 = .ok (.aload_n 0, 1) := by decide +kernel
theorem dX0_pagesOrNone_8 : decode cX0_pagesOrNone 8 = .ok (.getfield 55, 3) := by decide +kernel
theorem dX0_pagesOrNone_11 : decode cX0_pagesOrNone 11 = .ok (.goto 4, 3) := by decide +kernel
theorem dX0_pagesOrNone_14 : decode cX0_pagesOrNone 14 = .ok (.iconst (-1), 1) := by decide +kernel
theorem dX0_pagesOrNone_15 : decode cX0_pagesOrNone 15 = .ok (.ireturn, 1) := by decide +kernel
theorem dX0_tableWidth_0 : decode cX0_tableWidth 0 = .ok (.aload_n 1, 1) := by decide +kernel
theorem dX0_tableWidth_1 : decode cX0_tableWidth 1 = .ok (.getfield 73, 3) := by decide +kernel
theorem dX0_tableWidth_4 : decode cX0_tableWidth 4 = .ok (.iconst 1, 1) := by decide +kernel
theorem dX0_tableWidth_5 : decode cX0_tableWidth 5 = .ok (.isub, 1) := by decide +kernel
theorem dX0_tableWidth_6 : decode cX0_tableWidth 6 = .ok (.istore_n 2, 1) := by decide +kernel
theorem dX0_tableWidth_7 : decode cX0_tableWidth 7 = .ok (.iconst 0, 1) := by decide +kernel
theorem dX0_tableWidth_8 : decode cX0_tableWidth 8 = .ok (.istore_n 3, 1) := by decide +kernel
theorem dX0_tableWidth_9 : decode cX0_tableWidth 9 = .ok (.iload_n 3, 1) := by decide +kernel
theorem dX0_tableWidth_10 : decode cX0_tableWidth 10 = .ok (.aload_n 1, 1) := by decide +kernel
theorem dX0_tableWidth_11 : decode cX0_tableWidth 11 = .ok (.getfield 73, 3) := by decide +kernel
theorem dX0_tableWidth_14 : decode cX0_tableWidth 14 = .ok (.if_icmp .ge 18, 3) := by decide +kernel
theorem dX0_tableWidth_17 : decode cX0_tableWidth 17 = .ok (.iload_n 2, 1) := by decide +kernel
theorem dX0_tableWidth_18 : decode cX0_tableWidth 18 = .ok (.aload_n 0, 1) := by decide +kernel
theorem dX0_tableWidth_19 : decode cX0_tableWidth 19 = .ok (.getfield 9, 3) := by decide +kernel
theorem dX0_tableWidth_22 : decode cX0_tableWidth 22 = .ok (.iload_n 3, 1) := by decide +kernel
theorem dX0_tableWidth_23 : decode cX0_tableWidth 23 = .ok (.iaload, 1) := by decide +kernel
theorem dX0_tableWidth_24 : decode cX0_tableWidth 24 = .ok (.iadd, 1) := by decide +kernel
theorem dX0_tableWidth_25 : decode cX0_tableWidth 25 = .ok (.istore_n 2, 1) := by decide +kernel
theorem dX0_tableWidth_26 : decode cX0_tableWidth 26 = .ok (.iinc 3 1, 3) := by decide +kernel
theorem dX0_tableWidth_29 : decode cX0_tableWidth 29 = .ok (.goto (-20), 3) := by decide +kernel
theorem dX0_tableWidth_32 : decode cX0_tableWidth 32 = .ok (.iload_n 2, 1) := by decide +kernel
theorem dX0_tableWidth_33 : decode cX0_tableWidth 33 = .ok (.ireturn, 1) := by decide +kernel
theorem dX0_heightOfRows_0 : decode cX0_heightOfRows 0 = .ok (.iconst 0, 1) := by decide +kernel
theorem dX0_heightOfRows_1 : decode cX0_heightOfRows 1 = .ok (.istore_n 2, 1) := by decide +kernel
theorem dX0_heightOfRows_2 : decode cX0_heightOfRows 2 = .ok (.iconst 0, 1) := by decide +kernel
theorem dX0_heightOfRows_3 : decode cX0_heightOfRows 3 = .ok (.istore_n 3, 1) := by decide +kernel
theorem dX0_heightOfRows_4 : decode cX0_heightOfRows 4 = .ok (.iload_n 3, 1) := by decide +kernel
theorem dX0_heightOfRows_5 : decode cX0_heightOfRows 5 = .ok (.aload_n 1, 1) := by decide +kernel
theorem dX0_heightOfRows_6 : decode cX0_heightOfRows 6 = .ok (.getfield 64, 3) := by decide +kernel
theorem dX0_heightOfRows_9 : decode cX0_heightOfRows 9 = .ok (.if_icmp .ge 18, 3) := by decide +kernel
theorem dX0_heightOfRows_12 : decode cX0_heightOfRows 12 = .ok (.iload_n 2, 1) := by decide +kernel
theorem dX0_heightOfRows_13 : decode cX0_heightOfRows 13 = .ok (.aload_n 0, 1) := by decide +kernel
theorem dX0_heightOfRows_14 : decode cX0_heightOfRows 14 = .ok (.getfield 15, 3) := by decide +kernel
theorem dX0_heightOfRows_17 : decode cX0_heightOfRows 17 = .ok (.iload_n 3, 1) := by decide +kernel
theorem dX0_heightOfRows_18 : decode cX0_heightOfRows 18 = .ok (.iaload, 1) := by decide +kernel
theorem dX0_heightOfRows_19 : decode cX0_heightOfRows 19 = .ok (.iadd, 1) := by decide +kernel
theorem dX0_heightOfRows_20 : decode cX0_heightOfRows 20 = .ok (.istore_n 2, 1) := by decide +kernel
theorem dX0_heightOfRows_21 : decode cX0_heightOfRows 21 = .ok (.iinc 3 1, 3) := by decide +kernel
theorem dX0_heightOfRows_24 : decode cX0_heightOfRows 24 = .ok (.goto (-20), 3) := by decide +kernel
theorem dX0_heightOfRows_27 : decode cX0_heightOfRows 27 = .ok (.iload_n 2, 1) := by decide +kernel
theorem dX0_heightOfRows_28 : decode cX0_heightOfRows 28 = .ok (.ireturn, 1) := by decide +kernel
theorem dX0_notesElsewhere_0 : decode cX0_notesElsewhere 0 = .ok (.iconst 0, 1) := by decide +kernel
theorem dX0_notesElsewhere_1 : decode cX0_notesElsewhere 1 = .ok (.istore_n 2, 1) := by decide +kernel
theorem dX0_notesElsewhere_2 : decode cX0_notesElsewhere 2 = .ok (.iconst 0, 1) := by decide +kernel
theorem dX0_notesElsewhere_3 : decode cX0_notesElsewhere 3 = .ok (.istore_n 3, 1) := by decide +kernel
theorem dX0_notesElsewhere_4 : decode cX0_notesElsewhere 4 = .ok (.iload_n 3, 1) := by decide +kernel
theorem dX0_notesElsewhere_5 : decode cX0_notesElsewhere 5 = .ok (.aload_n 1, 1) := by decide +kernel
theorem dX0_notesElsewhere_6 : decode cX0_notesElsewhere 6 = .ok (.getfield 64, 3) := by decide +kernel
theorem dX0_notesElsewhere_9 : decode cX0_notesElsewhere 9 = .ok (.if_icmp .ge 37, 3) := by decide +kernel
theorem dX0_notesElsewhere_12 : decode cX0_notesElsewhere 12 = .ok (.aload_n 0, 1) := by decide +kernel
theorem dX0_notesElsewhere_13 : decode cX0_notesElsewhere 13 = .ok (.getfield 21, 3) := by decide +kernel
theorem dX0_notesElsewhere_16 : decode cX0_notesElsewhere 16 = .ok (.iload_n 3, 1) := by decide +kernel
theorem dX0_notesElsewhere_17 : decode cX0_notesElsewhere 17 = .ok (.iaload, 1) := by decide +kernel
theorem dX0_notesElsewhere_18 : decode cX0_notesElsewhere 18 = .ok (.iconst (-1), 1) := by decide +kernel
theorem dX0_notesElsewhere_19 : decode cX0_notesElsewhere 19 = .ok (.if_icmp .eq 21, 3) := by decide +kernel
theorem dX0_notesElsewhere_22 : decode cX0_notesElsewhere 22 = .ok (.aload_n 0, 1) := by decide +kernel
theorem dX0_notesElsewhere_23 : decode cX0_notesElsewhere 23 = .ok (.getfield 21, 3) := by decide +kernel
theorem dX0_notesElsewhere_26 : decode cX0_notesElsewhere 26 = .ok (.iload_n 3, 1) := by decide +kernel
theorem dX0_notesElsewhere_27 : decode cX0_notesElsewhere 27 = .ok (.iaload, 1) := by decide +kernel
theorem dX0_notesElsewhere_28 : decode cX0_notesElsewhere 28 = .ok (.aload_n 0, 1) := by decide +kernel
theorem dX0_notesElsewhere_29 : decode cX0_notesElsewhere 29 = .ok (.getfield 18, 3) := by decide +kernel
theorem dX0_notesElsewhere_32 : decode cX0_notesElsewhere 32 = .ok (.iload_n 3, 1) := by decide +kernel
theorem dX0_notesElsewhere_33 : decode cX0_notesElsewhere 33 = .ok (.iaload, 1) := by decide +kernel
theorem dX0_notesElsewhere_34 : decode cX0_notesElsewhere 34 = .ok (.if_icmp .eq 6, 3) := by decide +kernel
theorem dX0_notesElsewhere_37 : decode cX0_notesElsewhere 37 = .ok (.iinc 2 1, 3) := by decide +kernel
theorem dX0_notesElsewhere_40 : decode cX0_notesElsewhere 40 = .ok (.iinc 3 1, 3) := by decide +kernel
theorem dX0_notesElsewhere_43 : decode cX0_notesElsewhere 43 = .ok (.goto (-39), 3) := by decide +kernel
theorem dX0_notesElsewhere_46 : decode cX0_notesElsewhere 46 = .ok (.iload_n 2, 1) := by decide +kernel
theorem dX0_notesElsewhere_47 : decode cX0_notesElsewhere 47 = .ok (.ireturn, 1) := by decide +kernel
set_option maxRecDepth 20000 in
theorem ggX0_carriedOn_X3_sumUpTo : GoodIn wsX0_carriedOn wsX3_sumUpTo := goodIn_r _ [6, 7, 8, 23, 24, 25, 26, 27, 28, 29, 30, 31, 32, 33, 34, 35, 36, 37, 38, 39] (by decide +kernel) (by decide +kernel)
set_option maxRecDepth 20000 in
theorem gX0_carriedOn_X3_sumUpTo : GoodIn wsX0_carriedOn (wsV RX0 76 RX3 yX3_sumUpTo wsX3_sumUpTo) := goodIn_app (goodIn_of _ (by decide +kernel)) ggX0_carriedOn_X3_sumUpTo
theorem dX0_carriedOn_0 : decode cX0_carriedOn 0 = .ok (.aload_n 1, 1) := by decide +kernel
theorem dX0_carriedOn_1 : decode cX0_carriedOn 1 = .ok (.aload_n 0, 1) := by decide +kernel
theorem dX0_carriedOn_2 : decode cX0_carriedOn 2 = .ok (.getfield 36, 3) := by decide +kernel
theorem dX0_carriedOn_5 : decode cX0_carriedOn 5 = .ok (.iload_n 2, 1) := by decide +kernel
theorem dX0_carriedOn_6 : decode cX0_carriedOn 6 = .ok (.iaload, 1) := by decide +kernel
theorem dX0_carriedOn_7 : decode cX0_carriedOn 7 = .ok (.iload_n 3, 1) := by decide +kernel
theorem dX0_carriedOn_8 : decode cX0_carriedOn 8 = .ok (.invokevirtual 76, 3) := by decide +kernel
theorem dX0_carriedOn_11 : decode cX0_carriedOn 11 = .ok (.ireturn, 1) := by decide +kernel
set_option maxRecDepth 20000 in
theorem ggX0_readAloud_X0_shownCells : GoodIn wsX0_readAloud wsX0_shownCells := goodIn_r _ [6, 7, 8, 9, 10, 11, 12, 13, 14, 15, 30, 31, 32, 33, 34, 35, 36, 37] (by decide +kernel) (by decide +kernel)
set_option maxRecDepth 20000 in
theorem gX0_readAloud_X0_shownCells : GoodIn wsX0_readAloud (va_wsS RX0 83 yX0_shownCells wsX0_shownCells) := goodIn_app (goodIn_of _ (by decide +kernel)) ggX0_readAloud_X0_shownCells
theorem dX0_readAloud_0 : decode cX0_readAloud 0 = .ok (.aload_n 1, 1) := by decide +kernel
theorem dX0_readAloud_1 : decode cX0_readAloud 1 = .ok (.getfield 73, 3) := by decide +kernel
theorem dX0_readAloud_4 : decode cX0_readAloud 4 = .ok (.aload_n 0, 1) := by decide +kernel
theorem dX0_readAloud_5 : decode cX0_readAloud 5 = .ok (.getfield 30, 3) := by decide +kernel
theorem dX0_readAloud_8 : decode cX0_readAloud 8 = .ok (.iload_n 2, 1) := by decide +kernel
theorem dX0_readAloud_9 : decode cX0_readAloud 9 = .ok (.iaload, 1) := by decide +kernel
theorem dX0_readAloud_10 : decode cX0_readAloud 10 = .ok (.iadd, 1) := by decide +kernel
theorem dX0_readAloud_11 : decode cX0_readAloud 11 = .ok (.istore_n 3, 1) := by decide +kernel
theorem dX0_readAloud_12 : decode cX0_readAloud 12 = .ok (.iconst 0, 1) := by decide +kernel
theorem dX0_readAloud_13 : decode cX0_readAloud 13 = .ok (.istore 4, 2) := by decide +kernel
theorem dX0_readAloud_15 : decode cX0_readAloud 15 = .ok (.iload 4, 2) := by decide +kernel
theorem dX0_readAloud_17 : decode cX0_readAloud 17 = .ok (.aload_n 1, 1) := by decide +kernel
theorem dX0_readAloud_18 : decode cX0_readAloud 18 = .ok (.getfield 73, 3) := by decide +kernel
theorem dX0_readAloud_21 : decode cX0_readAloud 21 = .ok (.if_icmp .ge 27, 3) := by decide +kernel
theorem dX0_readAloud_24 : decode cX0_readAloud 24 = .ok (.iload_n 2, 1) := by decide +kernel
theorem dX0_readAloud_25 : decode cX0_readAloud 25 = .ok (.ifCond .le 17, 3) := by decide +kernel
theorem dX0_readAloud_28 : decode cX0_readAloud 28 = .ok (.aload_n 1, 1) := by decide +kernel
theorem dX0_readAloud_29 : decode cX0_readAloud 29 = .ok (.getfield 80, 3) := by decide +kernel
theorem dX0_readAloud_32 : decode cX0_readAloud 32 = .ok (.iload 4, 2) := by decide +kernel
theorem dX0_readAloud_34 : decode cX0_readAloud 34 = .ok (.iaload, 1) := by decide +kernel
theorem dX0_readAloud_35 : decode cX0_readAloud 35 = .ok (.iconst 1, 1) := by decide +kernel
theorem dX0_readAloud_36 : decode cX0_readAloud 36 = .ok (.if_icmp .eq 6, 3) := by decide +kernel
theorem dX0_readAloud_39 : decode cX0_readAloud 39 = .ok (.iinc 3 1, 3) := by decide +kernel
theorem dX0_readAloud_42 : decode cX0_readAloud 42 = .ok (.iinc 4 1, 3) := by decide +kernel
theorem dX0_readAloud_45 : decode cX0_readAloud 45 = .ok (.goto (-30), 3) := by decide +kernel
theorem dX0_readAloud_48 : decode cX0_readAloud 48 = .ok (.iconst 0, 1) := by decide +kernel
theorem dX0_readAloud_49 : decode cX0_readAloud 49 = .ok (.istore 4, 2) := by decide +kernel
theorem dX0_readAloud_51 : decode cX0_readAloud 51 = .ok (.iload 4, 2) := by decide +kernel
theorem dX0_readAloud_53 : decode cX0_readAloud 53 = .ok (.aload_n 1, 1) := by decide +kernel
theorem dX0_readAloud_54 : decode cX0_readAloud 54 = .ok (.getfield 64, 3) := by decide +kernel
theorem dX0_readAloud_57 : decode cX0_readAloud 57 = .ok (.if_icmp .ge 29, 3) := by decide +kernel
theorem dX0_readAloud_60 : decode cX0_readAloud 60 = .ok (.aload_n 0, 1) := by decide +kernel
theorem dX0_readAloud_61 : decode cX0_readAloud 61 = .ok (.getfield 18, 3) := by decide +kernel
theorem dX0_readAloud_64 : decode cX0_readAloud 64 = .ok (.iload 4, 2) := by decide +kernel
theorem dX0_readAloud_66 : decode cX0_readAloud 66 = .ok (.iaload, 1) := by decide +kernel
theorem dX0_readAloud_67 : decode cX0_readAloud 67 = .ok (.iload_n 2, 1) := by decide +kernel
theorem dX0_readAloud_68 : decode cX0_readAloud 68 = .ok (.if_icmp .ne 12, 3) := by decide +kernel
theorem dX0_readAloud_71 : decode cX0_readAloud 71 = .ok (.iload_n 3, 1) := by decide +kernel
theorem dX0_readAloud_72 : decode cX0_readAloud 72 = .ok (.aload_n 1, 1) := by decide +kernel
theorem dX0_readAloud_73 : decode cX0_readAloud 73 = .ok (.iload 4, 2) := by decide +kernel
theorem dX0_readAloud_75 : decode cX0_readAloud 75 = .ok (.invokestatic 83, 3) := by decide +kernel
theorem dX0_readAloud_78 : decode cX0_readAloud 78 = .ok (.iadd, 1) := by decide +kernel
theorem dX0_readAloud_79 : decode cX0_readAloud 79 = .ok (.istore_n 3, 1) := by decide +kernel
theorem dX0_readAloud_80 : decode cX0_readAloud 80 = .ok (.iinc 4 1, 3) := by decide +kernel
theorem dX0_readAloud_83 : decode cX0_readAloud 83 = .ok (.goto (-32), 3) := by decide +kernel
theorem dX0_readAloud_86 : decode cX0_readAloud 86 = .ok (.iload_n 3, 1) := by decide +kernel
theorem dX0_readAloud_87 : decode cX0_readAloud 87 = .ok (.ireturn, 1) := by decide +kernel
theorem dX0_shownCells_0 : decode cX0_shownCells 0 = .ok (.iconst 0, 1) := by decide +kernel
theorem dX0_shownCells_1 : decode cX0_shownCells 1 = .ok (.istore_n 2, 1) := by decide +kernel
theorem dX0_shownCells_2 : decode cX0_shownCells 2 = .ok (.iconst 0, 1) := by decide +kernel
theorem dX0_shownCells_3 : decode cX0_shownCells 3 = .ok (.istore_n 3, 1) := by decide +kernel
theorem dX0_shownCells_4 : decode cX0_shownCells 4 = .ok (.iload_n 3, 1) := by decide +kernel
theorem dX0_shownCells_5 : decode cX0_shownCells 5 = .ok (.aload_n 0, 1) := by decide +kernel
theorem dX0_shownCells_6 : decode cX0_shownCells 6 = .ok (.getfield 73, 3) := by decide +kernel
theorem dX0_shownCells_9 : decode cX0_shownCells 9 = .ok (.if_icmp .ge 26, 3) := by decide +kernel
theorem dX0_shownCells_12 : decode cX0_shownCells 12 = .ok (.aload_n 0, 1) := by decide +kernel
theorem dX0_shownCells_13 : decode cX0_shownCells 13 = .ok (.getfield 87, 3) := by decide +kernel
theorem dX0_shownCells_16 : decode cX0_shownCells 16 = .ok (.iload_n 1, 1) := by decide +kernel
theorem dX0_shownCells_17 : decode cX0_shownCells 17 = .ok (.aaload, 1) := by decide +kernel
theorem dX0_shownCells_18 : decode cX0_shownCells 18 = .ok (.getfield 91, 3) := by decide +kernel
theorem dX0_shownCells_21 : decode cX0_shownCells 21 = .ok (.iload_n 3, 1) := by decide +kernel
theorem dX0_shownCells_22 : decode cX0_shownCells 22 = .ok (.baload, 1) := by decide +kernel
theorem dX0_shownCells_23 : decode cX0_shownCells 23 = .ok (.ifCond .ne 6, 3) := by decide +kernel
theorem dX0_shownCells_26 : decode cX0_shownCells 26 = .ok (.iinc 2 1, 3) := by decide +kernel
theorem dX0_shownCells_29 : decode cX0_shownCells 29 = .ok (.iinc 3 1, 3) := by decide +kernel
theorem dX0_shownCells_32 : decode cX0_shownCells 32 = .ok (.goto (-28), 3) := by decide +kernel
theorem dX0_shownCells_35 : decode cX0_shownCells 35 = .ok (.iload_n 2, 1) := by decide +kernel
theorem dX0_shownCells_36 : decode cX0_shownCells 36 = .ok (.ireturn, 1) := by decide +kernel
set_option maxRecDepth 20000 in
theorem ggX0_heightOfCell_X3_isSpanning : GoodIn wsX0_heightOfCell wsX3_isSpanning := goodIn_r _ [10, 11, 12, 13, 14, 15, 16, 17, 18, 19, 20, 21, 22, 23, 24, 25, 26, 27, 28, 29] (by decide +kernel) (by decide +kernel)
set_option maxRecDepth 20000 in
theorem gX0_heightOfCell_X3_isSpanning : GoodIn wsX0_heightOfCell (wsV RX0 97 RX3 yX3_isSpanning wsX3_isSpanning) := goodIn_app (goodIn_of _ (by decide +kernel)) ggX0_heightOfCell_X3_isSpanning
theorem dX0_heightOfCell_0 : decode cX0_heightOfCell 0 = .ok (.aload_n 1, 1) := by decide +kernel
theorem dX0_heightOfCell_1 : decode cX0_heightOfCell 1 = .ok (.getfield 87, 3) := by decide +kernel
theorem dX0_heightOfCell_4 : decode cX0_heightOfCell 4 = .ok (.iload_n 2, 1) := by decide +kernel
theorem dX0_heightOfCell_5 : decode cX0_heightOfCell 5 = .ok (.aaload, 1) := by decide +kernel
theorem dX0_heightOfCell_6 : decode cX0_heightOfCell 6 = .ok (.getfield 91, 3) := by decide +kernel
theorem dX0_heightOfCell_9 : decode cX0_heightOfCell 9 = .ok (.iload_n 3, 1) := by decide +kernel
theorem dX0_heightOfCell_10 : decode cX0_heightOfCell 10 = .ok (.baload, 1) := by decide +kernel
theorem dX0_heightOfCell_11 : decode cX0_heightOfCell 11 = .ok (.ifCond .eq 5, 3) := by decide +kernel
theorem dX0_heightOfCell_14 : decode cX0_heightOfCell 14 = .ok (.iconst 0, 1) := by decide +kernel
theorem dX0_heightOfCell_15 : decode cX0_heightOfCell 15 = .ok (.ireturn, 1) := by decide +kernel
theorem dX0_heightOfCell_16 : decode cX0_heightOfCell 16 = .ok (.aload_n 1, 1) := by decide +kernel
theorem dX0_heightOfCell_17 : decode cX0_heightOfCell 17 = .ok (.getfield 80, 3) := by decide +kernel
theorem dX0_heightOfCell_20 : decode cX0_heightOfCell 20 = .ok (.iload_n 3, 1) := by decide +kernel
theorem dX0_heightOfCell_21 : decode cX0_heightOfCell 21 = .ok (.iaload, 1) := by decide +kernel
theorem dX0_heightOfCell_22 : decode cX0_heightOfCell 22 = .ok (.iconst 1, 1) := by decide +kernel
theorem dX0_heightOfCell_23 : decode cX0_heightOfCell 23 = .ok (.if_icmp .eq 5, 3) := by decide +kernel
theorem dX0_heightOfCell_26 : decode cX0_heightOfCell 26 = .ok (.iconst 1, 1) := by decide +kernel
theorem dX0_heightOfCell_27 : decode cX0_heightOfCell 27 = .ok (.ireturn, 1) := by decide +kernel
theorem dX0_heightOfCell_28 : decode cX0_heightOfCell 28 = .ok (.aload_n 0, 1) := by decide +kernel
theorem dX0_heightOfCell_29 : decode cX0_heightOfCell 29 = .ok (.getfield 9, 3) := by decide +kernel
theorem dX0_heightOfCell_32 : decode cX0_heightOfCell 32 = .ok (.iload_n 3, 1) := by decide +kernel
theorem dX0_heightOfCell_33 : decode cX0_heightOfCell 33 = .ok (.iaload, 1) := by decide +kernel
theorem dX0_heightOfCell_34 : decode cX0_heightOfCell 34 = .ok (.istore 4, 2) := by decide +kernel
theorem dX0_heightOfCell_36 : decode cX0_heightOfCell 36 = .ok (.aload_n 1, 1) := by decide +kernel
theorem dX0_heightOfCell_37 : decode cX0_heightOfCell 37 = .ok (.iload_n 2, 1) := by decide +kernel
theorem dX0_heightOfCell_38 : decode cX0_heightOfCell 38 = .ok (.iload_n 3, 1) := by decide +kernel
theorem dX0_heightOfCell_39 : decode cX0_heightOfCell 39 = .ok (.invokevirtual 97, 3) := by decide +kernel
theorem dX0_heightOfCell_42 : decode cX0_heightOfCell 42 = .ok (.ifCond .eq 18, 3) := by decide +kernel
theorem dX0_heightOfCell_45 : decode cX0_heightOfCell 45 = .ok (.iload 4, 2) := by decide +kernel
theorem dX0_heightOfCell_47 : decode cX0_heightOfCell 47 = .ok (.iconst 1, 1) := by decide +kernel
theorem dX0_heightOfCell_48 : decode cX0_heightOfCell 48 = .ok (.aload_n 0, 1) := by decide +kernel
theorem dX0_heightOfCell_49 : decode cX0_heightOfCell 49 = .ok (.getfield 9, 3) := by decide +kernel
theorem dX0_heightOfCell_52 : decode cX0_heightOfCell 52 = .ok (.iload_n 3, 1) := by decide +kernel
theorem dX0_heightOfCell_53 : decode cX0_heightOfCell 53 = .ok (.iconst 1, 1) := by decide +kernel
theorem dX0_heightOfCell_54 : decode cX0_heightOfCell 54 = .ok (.iadd, 1) := by decide +kernel
theorem dX0_heightOfCell_55 : decode cX0_heightOfCell 55 = .ok (.iaload, 1) := by decide +kernel
theorem dX0_heightOfCell_56 : decode cX0_heightOfCell 56 = .ok (.iadd, 1) := by decide +kernel
theorem dX0_heightOfCell_57 : decode cX0_heightOfCell 57 = .ok (.iadd, 1) := by decide +kernel
theorem dX0_heightOfCell_58 : decode cX0_heightOfCell 58 = .ok (.istore 4, 2) := by decide +kernel
theorem dX0_heightOfCell_60 : decode cX0_heightOfCell 60 = .ok (.iload 4, 2) := by decide +kernel
theorem dX0_heightOfCell_62 : decode cX0_heightOfCell 62 = .ok (.ifCond .gt 5, 3) := by decide +kernel
theorem dX0_heightOfCell_65 : decode cX0_heightOfCell 65 = .ok (.iconst 1, 1) := by decide +kernel
theorem dX0_heightOfCell_66 : decode cX0_heightOfCell 66 = .ok (.ireturn, 1) := by decide +kernel
theorem dX0_heightOfCell_67 : decode cX0_heightOfCell 67 = .ok (.aload_n 1, 1) := by decide +kernel
theorem dX0_heightOfCell_68 : decode cX0_heightOfCell 68 = .ok (.getfield 87, 3) := by decide +kernel
theorem dX0_heightOfCell_71 : decode cX0_heightOfCell 71 = .ok (.iload_n 2, 1) := by decide +kernel
theorem dX0_heightOfCell_72 : decode cX0_heightOfCell 72 = .ok (.aaload, 1) := by decide +kernel
theorem dX0_heightOfCell_73 : decode cX0_heightOfCell 73 = .ok (.getfield 101, 3) := by decide +kernel
theorem dX0_heightOfCell_76 : decode cX0_heightOfCell 76 = .ok (.iload_n 3, 1) := by decide +kernel
theorem dX0_heightOfCell_77 : decode cX0_heightOfCell 77 = .ok (.iaload, 1) := by decide +kernel
theorem dX0_heightOfCell_78 : decode cX0_heightOfCell 78 = .ok (.istore 5, 2) := by decide +kernel
theorem dX0_heightOfCell_80 : decode cX0_heightOfCell 80 = .ok (.iconst 1, 1) := by decide +kernel
theorem dX0_heightOfCell_81 : decode cX0_heightOfCell 81 = .ok (.iload 5, 2) := by decide +kernel
theorem dX0_heightOfCell_83 : decode cX0_heightOfCell 83 = .ok (.iload 4, 2) := by decide +kernel
theorem dX0_heightOfCell_85 : decode cX0_heightOfCell 85 = .ok (.iadd, 1) := by decide +kernel
theorem dX0_heightOfCell_86 : decode cX0_heightOfCell 86 = .ok (.iconst 1, 1) := by decide +kernel
theorem dX0_heightOfCell_87 : decode cX0_heightOfCell 87 = .ok (.isub, 1) := by decide +kernel
theorem dX0_heightOfCell_88 : decode cX0_heightOfCell 88 = .ok (.iload 4, 2) := by decide +kernel
theorem dX0_heightOfCell_90 : decode cX0_heightOfCell 90 = .ok (.idiv, 1) := by decide +kernel
theorem dX0_heightOfCell_91 : decode cX0_heightOfCell 91 = .ok (.invokestatic 104, 3) := by decide +kernel
theorem dX0_heightOfCell_94 : decode cX0_heightOfCell 94 = .ok (.ireturn, 1) := by decide +kernel
set_option maxRecDepth 20000 in
theorem ggX0_isWidthFit_X0_tableWidth : GoodIn wsX0_isWidthFit wsX0_tableWidth := goodIn_r _ [6, 1, 11, 12, 13, 14, 15, 16, 17, 18, 19, 20, 21, 22, 23, 24, 25, 26, 27, 28, 29, 30, 31, 32, 33] (by decide +kernel) (by decide +kernel)
set_option maxRecDepth 20000 in
theorem gX0_isWidthFit_X0_tableWidth : GoodIn wsX0_isWidthFit (wsV RX0 112 RX0 yX0_tableWidth wsX0_tableWidth) := goodIn_app (goodIn_of _ (by decide +kernel)) ggX0_isWidthFit_X0_tableWidth
set_option maxRecDepth 20000 in
theorem ggX0_isWidthFit_X0_mostSpareColumn : GoodIn wsX0_isWidthFit wsX0_mostSpareColumn := goodIn_r _ [10, 1, 11, 12, 13, 14, 15, 16, 17, 18, 19, 20, 21, 22, 23, 24, 25, 26, 27, 28, 29, 30, 31, 32, 33] (by decide +kernel) (by decide +kernel)
set_option maxRecDepth 20000 in
theorem gX0_isWidthFit_X0_mostSpareColumn : GoodIn wsX0_isWidthFit (wsV RX0 116 RX0 yX0_mostSpareColumn wsX0_mostSpareColumn) := goodIn_app (goodIn_of _ (by decide +kernel)) ggX0_isWidthFit_X0_mostSpareColumn
theorem dX0_isWidthFit_0 : decode cX0_isWidthFit 0 = .ok (.aload_n 1, 1) := by decide +kernel
theorem dX0_isWidthFit_1 : decode cX0_isWidthFit 1 = .ok (.getfield 73, 3) := by decide +kernel
theorem dX0_isWidthFit_4 : decode cX0_isWidthFit 4 = .ok (.ifCond .eq 10, 3) := by decide +kernel
theorem dX0_isWidthFit_7 : decode cX0_isWidthFit 7 = .ok (.aload_n 1, 1) := by decide +kernel
theorem dX0_isWidthFit_8 : decode cX0_isWidthFit 8 = .ok (.getfield 64, 3) := by decide +kernel
theorem dX0_isWidthFit_11 : decode cX0_isWidthFit 11 = .ok (.ifCond .ne 5, 3) := by decide +kernel
theorem dX0_isWidthFit_14 : decode cX0_isWidthFit 14 = .ok (.iconst 0, 1) := by decide +kernel
theorem dX0_isWidthFit_15 : decode cX0_isWidthFit 15 = .ok (.ireturn, 1) := by decide +kernel
theorem dX0_isWidthFit_16 : decode cX0_isWidthFit 16 = .ok (.iconst 0, 1) := by decide +kernel
theorem dX0_isWidthFit_17 : decode cX0_isWidthFit 17 = .ok (.istore_n 3, 1) := by decide +kernel
theorem dX0_isWidthFit_18 : decode cX0_isWidthFit 18 = .ok (.iload_n 3, 1) := by decide +kernel
theorem dX0_isWidthFit_19 : decode cX0_isWidthFit 19 = .ok (.aload_n 1, 1) := by decide +kernel
theorem dX0_isWidthFit_20 : decode cX0_isWidthFit 20 = .ok (.getfield 73, 3) := by decide +kernel
theorem dX0_isWidthFit_23 : decode cX0_isWidthFit 23 = .ok (.if_icmp .ge 21, 3) := by decide +kernel
theorem dX0_isWidthFit_26 : decode cX0_isWidthFit 26 = .ok (.aload_n 0, 1) := by decide +kernel
theorem dX0_isWidthFit_27 : decode cX0_isWidthFit 27 = .ok (.getfield 9, 3) := by decide +kernel
theorem dX0_isWidthFit_30 : decode cX0_isWidthFit 30 = .ok (.iload_n 3, 1) := by decide +kernel
theorem dX0_isWidthFit_31 : decode cX0_isWidthFit 31 = .ok (.aload_n 1, 1) := by decide +kernel
theorem dX0_isWidthFit_32 : decode cX0_isWidthFit 32 = .ok (.getfield 109, 3) := by decide +kernel
theorem dX0_isWidthFit_35 : decode cX0_isWidthFit 35 = .ok (.iload_n 3, 1) := by decide +kernel
theorem dX0_isWidthFit_36 : decode cX0_isWidthFit 36 = .ok (.iaload, 1) := by decide +kernel
theorem dX0_isWidthFit_37 : decode cX0_isWidthFit 37 = .ok (.iastore, 1) := by decide +kernel
theorem dX0_isWidthFit_38 : decode cX0_isWidthFit 38 = .ok (.iinc 3 1, 3) := by decide +kernel
theorem dX0_isWidthFit_41 : decode cX0_isWidthFit 41 = .ok (.goto (-23), 3) := by decide +kernel
theorem dX0_isWidthFit_44 : decode cX0_isWidthFit 44 = .ok (.aload_n 0, 1) := by decide +kernel
theorem dX0_isWidthFit_45 : decode cX0_isWidthFit 45 = .ok (.aload_n 1, 1) := by decide +kernel
theorem dX0_isWidthFit_46 : decode cX0_isWidthFit 46 = .ok (.invokevirtual 112, 3) := by decide +kernel
theorem dX0_isWidthFit_49 : decode cX0_isWidthFit 49 = .ok (.iload_n 2, 1) := by decide +kernel
theorem dX0_isWidthFit_50 : decode cX0_isWidthFit 50 = .ok (.isub, 1) := by decide +kernel
theorem dX0_isWidthFit_51 : decode cX0_isWidthFit 51 = .ok (.istore_n 3, 1) := by decide +kernel
theorem dX0_isWidthFit_52 : decode cX0_isWidthFit 52 = .ok (.iload_n 3, 1) := by decide +kernel
theorem dX0_isWidthFit_53 : decode cX0_isWidthFit 53 = .ok (.ifCond .le 35, 3) := by decide +kernel
theorem dX0_isWidthFit_56 : decode cX0_isWidthFit 56 = .ok (.aload_n 0, 1) := by decide +kernel
theorem dX0_isWidthFit_57 : decode cX0_isWidthFit 57 = .ok (.aload_n 1, 1) := by decide +kernel
theorem dX0_isWidthFit_58 : decode cX0_isWidthFit 58 = .ok (.invokevirtual 116, 3) := by decide +kernel
theorem dX0_isWidthFit_61 : decode cX0_isWidthFit 61 = .ok (.istore 4, 2) := by decide +kernel
theorem dX0_isWidthFit_63 : decode cX0_isWidthFit 63 = .ok (.iload 4, 2) := by decide +kernel
theorem dX0_isWidthFit_65 : decode cX0_isWidthFit 65 = .ok (.iconst (-1), 1) := by decide +kernel
theorem dX0_isWidthFit_66 : decode cX0_isWidthFit 66 = .ok (.if_icmp .ne 5, 3) := by decide +kernel
theorem dX0_isWidthFit_69 : decode cX0_isWidthFit 69 = .ok (.iconst 0, 1) := by decide +kernel
theorem dX0_isWidthFit_70 : decode cX0_isWidthFit 70 = .ok (.ireturn, 1) := by decide +kernel
theorem dX0_isWidthFit_71 : decode cX0_isWidthFit 71 = .ok (.aload_n 0, 1) := by decide +kernel
theorem dX0_isWidthFit_72 : decode cX0_isWidthFit 72 = .ok (.getfield 9, 3) := by decide +kernel
theorem dX0_isWidthFit_75 : decode cX0_isWidthFit 75 = .ok (.iload 4, 2) := by decide +kernel
theorem dX0_isWidthFit_77 : decode cX0_isWidthFit 77 = .ok (.dup2, 1) := by decide +kernel
theorem dX0_isWidthFit_78 : decode cX0_isWidthFit 78 = .ok (.iaload, 1) := by decide +kernel
theorem dX0_isWidthFit_79 : decode cX0_isWidthFit 79 = .ok (.iconst 1, 1) := by decide +kernel
theorem dX0_isWidthFit_80 : decode cX0_isWidthFit 80 = .ok (.isub, 1) := by decide +kernel
theorem dX0_isWidthFit_81 : decode cX0_isWidthFit 81 = .ok (.iastore, 1) := by decide +kernel
theorem dX0_isWidthFit_82 : decode cX0_isWidthFit 82 = .ok (.iinc 3 (-1), 3) := by decide +kernel
theorem dX0_isWidthFit_85 : decode cX0_isWidthFit 85 = .ok (.goto (-33), 3) := by decide +kernel
theorem dX0_isWidthFit_88 : decode cX0_isWidthFit 88 = .ok (.iconst 1, 1) := by decide +kernel
theorem dX0_isWidthFit_89 : decode cX0_isWidthFit 89 = .ok (.ireturn, 1) := by decide +kernel
theorem dX0_mostSpareColumn_0 : decode cX0_mostSpareColumn 0 = .ok (.iconst 0, 1) := by decide +kernel
theorem dX0_mostSpareColumn_1 : decode cX0_mostSpareColumn 1 = .ok (.istore_n 2, 1) := by decide +kernel
theorem dX0_mostSpareColumn_2 : decode cX0_mostSpareColumn 2 = .ok (.iconst (-1), 1) := by decide +kernel
theorem dX0_mostSpareColumn_3 : decode cX0_mostSpareColumn 3 = .ok (.istore_n 3, 1) := by decide +kernel
theorem dX0_mostSpareColumn_4 : decode cX0_mostSpareColumn 4 = .ok (.iconst 0, 1) := by decide +kernel
theorem dX0_mostSpareColumn_5 : decode cX0_mostSpareColumn 5 = .ok (.istore 4, 2) := by decide +kernel
theorem dX0_mostSpareColumn_7 : decode cX0_mostSpareColumn 7 = .ok (.iload 4, 2) := by decide +kernel
theorem dX0_mostSpareColumn_9 : decode cX0_mostSpareColumn 9 = .ok (.aload_n 1, 1) := by decide +kernel
theorem dX0_mostSpareColumn_10 : decode cX0_mostSpareColumn 10 = .ok (.getfield 73, 3) := by decide +kernel
theorem dX0_mostSpareColumn_13 : decode cX0_mostSpareColumn 13 = .ok (.if_icmp .ge 38, 3) := by decide +kernel
theorem dX0_mostSpareColumn_16 : decode cX0_mostSpareColumn 16 = .ok (.aload_n 0, 1) := by decide +kernel
theorem dX0_mostSpareColumn_17 : decode cX0_mostSpareColumn 17 = .ok (.getfield 9, 3) := by decide +kernel
theorem dX0_mostSpareColumn_20 : decode cX0_mostSpareColumn 20 = .ok (.iload 4, 2) := by decide +kernel
theorem dX0_mostSpareColumn_22 : decode cX0_mostSpareColumn 22 = .ok (.iaload, 1) := by decide +kernel
theorem dX0_mostSpareColumn_23 : decode cX0_mostSpareColumn 23 = .ok (.aload_n 1, 1) := by decide +kernel
theorem dX0_mostSpareColumn_24 : decode cX0_mostSpareColumn 24 = .ok (.getfield 119, 3) := by decide +kernel
theorem dX0_mostSpareColumn_27 : decode cX0_mostSpareColumn 27 = .ok (.iload 4, 2) := by decide +kernel
theorem dX0_mostSpareColumn_29 : decode cX0_mostSpareColumn 29 = .ok (.iaload, 1) := by decide +kernel
theorem dX0_mostSpareColumn_30 : decode cX0_mostSpareColumn 30 = .ok (.isub, 1) := by decide +kernel
theorem dX0_mostSpareColumn_31 : decode cX0_mostSpareColumn 31 = .ok (.istore 5, 2) := by decide +kernel
theorem dX0_mostSpareColumn_33 : decode cX0_mostSpareColumn 33 = .ok (.iload 5, 2) := by decide +kernel
theorem dX0_mostSpareColumn_35 : decode cX0_mostSpareColumn 35 = .ok (.iload_n 2, 1) := by decide +kernel
theorem dX0_mostSpareColumn_36 : decode cX0_mostSpareColumn 36 = .ok (.if_icmp .le 9, 3) := by decide +kernel
theorem dX0_mostSpareColumn_39 : decode cX0_mostSpareColumn 39 = .ok (.iload 5, 2) := by decide +kernel
theorem dX0_mostSpareColumn_41 : decode cX0_mostSpareColumn 41 = .ok (.istore_n 2, 1) := by decide +kernel
theorem dX0_mostSpareColumn_42 : decode cX0_mostSpareColumn 42 = .ok (.iload 4, 2) := by decide +kernel
theorem dX0_mostSpareColumn_44 : decode cX0_mostSpareColumn 44 = .ok (.istore_n 3, 1) := by decide +kernel
theorem dX0_mostSpareColumn_45 : decode cX0_mostSpareColumn 45 = .ok (.iinc 4 1, 3) := by decide +kernel
theorem dX0_mostSpareColumn_48 : decode cX0_mostSpareColumn 48 = .ok (.goto (-41), 3) := by decide +kernel
theorem dX0_mostSpareColumn_51 : decode cX0_mostSpareColumn 51 = .ok (.iload_n 3, 1) := by decide +kernel
theorem dX0_mostSpareColumn_52 : decode cX0_mostSpareColumn 52 = .ok (.ireturn, 1) := by decide +kernel
set_option maxRecDepth 20000 in
theorem ggX0_areHeightsFit_X0_heightOfCell : GoodIn wsX0_areHeightsFit wsX0_heightOfCell := goodIn_r _ [11, 12, 1, 2, 3, 4, 13, 14, 15, 16, 17, 18, 19, 20, 21, 22, 23, 24, 25, 26, 27, 28, 43, 44, 45, 46, 47, 48, 49, 50, 29, 30, 31, 32, 33, 34, 35, 36, 37, 38, 39, 40, 41, 42] (by decide +kernel) (by decide +kernel)
set_option maxRecDepth 20000 in
theorem gX0_areHeightsFit_X0_heightOfCell : GoodIn wsX0_areHeightsFit (wsV RX0 122 RX0 yX0_heightOfCell wsX0_heightOfCell) := goodIn_app (goodIn_of _ (by decide +kernel)) ggX0_areHeightsFit_X0_heightOfCell
theorem dX0_areHeightsFit_0 : decode cX0_areHeightsFit 0 = .ok (.iconst 0, 1) := by decide +kernel
theorem dX0_areHeightsFit_1 : decode cX0_areHeightsFit 1 = .ok (.istore_n 2, 1) := by decide +kernel
theorem dX0_areHeightsFit_2 : decode cX0_areHeightsFit 2 = .ok (.iload_n 2, 1) := by decide +kernel
theorem dX0_areHeightsFit_3 : decode cX0_areHeightsFit 3 = .ok (.aload_n 1, 1) := by decide +kernel
theorem dX0_areHeightsFit_4 : decode cX0_areHeightsFit 4 = .ok (.getfield 64, 3) := by decide +kernel
theorem dX0_areHeightsFit_7 : decode cX0_areHeightsFit 7 = .ok (.if_icmp .ge 59, 3) := by decide +kernel
theorem dX0_areHeightsFit_10 : decode cX0_areHeightsFit 10 = .ok (.iconst 0, 1) := by decide +kernel
theorem dX0_areHeightsFit_11 : decode cX0_areHeightsFit 11 = .ok (.istore_n 3, 1) := by decide +kernel
theorem dX0_areHeightsFit_12 : decode cX0_areHeightsFit 12 = .ok (.iconst 0, 1) := by decide +kernel
theorem dX0_areHeightsFit_13 : decode cX0_areHeightsFit 13 = .ok (.istore 4, 2) := by decide +kernel
theorem dX0_areHeightsFit_15 : decode cX0_areHeightsFit 15 = .ok (.iload 4, 2) := by decide +kernel
theorem dX0_areHeightsFit_17 : decode cX0_areHeightsFit 17 = .ok (.aload_n 1, 1) := by decide +kernel
theorem dX0_areHeightsFit_18 : decode cX0_areHeightsFit 18 = .ok (.getfield 73, 3) := by decide +kernel
theorem dX0_areHeightsFit_21 : decode cX0_areHeightsFit 21 = .ok (.if_icmp .ge 22, 3) := by decide +kernel
theorem dX0_areHeightsFit_24 : decode cX0_areHeightsFit 24 = .ok (.iload_n 3, 1) := by decide +kernel
theorem dX0_areHeightsFit_25 : decode cX0_areHeightsFit 25 = .ok (.aload_n 0, 1) := by decide +kernel
theorem dX0_areHeightsFit_26 : decode cX0_areHeightsFit 26 = .ok (.aload_n 1, 1) := by decide +kernel
theorem dX0_areHeightsFit_27 : decode cX0_areHeightsFit 27 = .ok (.iload_n 2, 1) := by decide +kernel
theorem dX0_areHeightsFit_28 : decode cX0_areHeightsFit 28 = .ok (.iload 4, 2) := by decide +kernel
theorem dX0_areHeightsFit_30 : decode cX0_areHeightsFit 30 = .ok (.invokevirtual 122, 3) := by decide +kernel
theorem dX0_areHeightsFit_33 : decode cX0_areHeightsFit 33 = .ok (.invokestatic 104, 3) := by decide +kernel
theorem dX0_areHeightsFit_36 : decode cX0_areHeightsFit 36 = .ok (.istore_n 3, 1) := by decide +kernel
theorem dX0_areHeightsFit_37 : decode cX0_areHeightsFit 37 = .ok (.iinc 4 1, 3) := by decide +kernel
theorem dX0_areHeightsFit_40 : decode cX0_areHeightsFit 40 = .ok (.goto (-25), 3) := by decide +kernel
theorem dX0_areHeightsFit_43 : decode cX0_areHeightsFit 43 = .ok (.iload_n 3, 1) := by decide +kernel
theorem dX0_areHeightsFit_44 : decode cX0_areHeightsFit 44 = .ok (.aload_n 0, 1) := by decide +kernel
theorem dX0_areHeightsFit_45 : decode cX0_areHeightsFit 45 = .ok (.getfield 39, 3) := by decide +kernel
theorem dX0_areHeightsFit_48 : decode cX0_areHeightsFit 48 = .ok (.if_icmp .le 5, 3) := by decide +kernel
theorem dX0_areHeightsFit_51 : decode cX0_areHeightsFit 51 = .ok (.iconst 0, 1) := by decide +kernel
theorem dX0_areHeightsFit_52 : decode cX0_areHeightsFit 52 = .ok (.ireturn, 1) := by decide +kernel
theorem dX0_areHeightsFit_53 : decode cX0_areHeightsFit 53 = .ok (.aload_n 0, 1) := by decide +kernel
theorem dX0_areHeightsFit_54 : decode cX0_areHeightsFit 54 = .ok (.getfield 15, 3) := by decide +kernel
theorem dX0_areHeightsFit_57 : decode cX0_areHeightsFit 57 = .ok (.iload_n 2, 1) := by decide +kernel
theorem dX0_areHeightsFit_58 : decode cX0_areHeightsFit 58 = .ok (.iload_n 3, 1) := by decide +kernel
theorem dX0_areHeightsFit_59 : decode cX0_areHeightsFit 59 = .ok (.iastore, 1) := by decide +kernel
theorem dX0_areHeightsFit_60 : decode cX0_areHeightsFit 60 = .ok (.iinc 2 1, 3) := by decide +kernel
theorem dX0_areHeightsFit_63 : decode cX0_areHeightsFit 63 = .ok (.goto (-61), 3) := by decide +kernel
theorem dX0_areHeightsFit_66 : decode cX0_areHeightsFit 66 = .ok (.iconst 1, 1) := by decide +kernel
theorem dX0_areHeightsFit_67 : decode cX0_areHeightsFit 67 = .ok (.ireturn, 1) := by decide +kernel
set_option maxRecDepth 20000 in
theorem ggX0_fillPage_X0_putWaitingNotes : GoodIn wsX0_fillPage wsX0_putWaitingNotes := goodIn_r _ [13, 7, 6, 4, 14, 3, 29, 30, 31, 32, 33, 34, 35, 36, 37, 38, 39, 40, 41, 42, 43, 44, 45, 46, 47, 48, 49, 50, 51, 52, 53, 54, 55, 56, 57, 58, 59] (by decide +kernel) (by decide +kernel)
set_option maxRecDepth 20000 in
theorem gX0_fillPage_X0_putWaitingNotes : GoodIn wsX0_fillPage (wsV RX0 126 RX0 yX0_putWaitingNotes wsX0_putWaitingNotes) := goodIn_app (goodIn_of _ (by decide +kernel)) ggX0_fillPage_X0_putWaitingNotes
set_option maxRecDepth 20000 in
theorem ggX0_fillPage_X0_hasRoomForNextRow : GoodIn wsX0_fillPage wsX0_hasRoomForNextRow := goodIn_r _ [18, 19, 6, 4, 2, 5, 20, 21, 22, 12, 23, 29, 30, 31, 32, 33, 34, 35, 36, 37, 38, 39, 40, 41, 42, 43, 44, 45, 46, 47, 48, 49, 50, 51, 52, 53, 54, 55, 56, 57, 58, 59] (by decide +kernel) (by decide +kernel)
set_option maxRecDepth 20000 in
theorem gX0_fillPage_X0_hasRoomForNextRow : GoodIn wsX0_fillPage (wsV RX0 129 RX0 yX0_hasRoomForNextRow wsX0_hasRoomForNextRow) := goodIn_app (goodIn_of _ (by decide +kernel)) ggX0_fillPage_X0_hasRoomForNextRow
set_option maxRecDepth 20000 in
theorem ggX0_fillPage_X0_putNextRow : GoodIn wsX0_fillPage wsX0_putNextRow := goodIn_r _ [27, 2, 1, 6, 28, 4, 19, 29, 30, 31, 32, 33, 34, 35, 36, 37, 38, 39, 40, 41, 42] (by decide +kernel) (by decide +kernel)
set_option maxRecDepth 20000 in
theorem gX0_fillPage_X0_putNextRow : GoodIn wsX0_fillPage (wsV RX0 132 RX0 yX0_putNextRow wsX0_putNextRow) := goodIn_app (goodIn_of _ (by decide +kernel)) ggX0_fillPage_X0_putNextRow
theorem dX0_fillPage_0 : decode cX0_fillPage 0 = .ok (.aload_n 0, 1) := by decide +kernel
theorem dX0_fillPage_1 : decode cX0_fillPage 1 = .ok (.getfield 24, 3) := by decide +kernel
theorem dX0_fillPage_4 : decode cX0_fillPage 4 = .ok (.iload_n 2, 1) := by decide +kernel
theorem dX0_fillPage_5 : decode cX0_fillPage 5 = .ok (.iconst (-1), 1) := by decide +kernel
theorem dX0_fillPage_6 : decode cX0_fillPage 6 = .ok (.iastore, 1) := by decide +kernel
theorem dX0_fillPage_7 : decode cX0_fillPage 7 = .ok (.aload_n 0, 1) := by decide +kernel
theorem dX0_fillPage_8 : decode cX0_fillPage 8 = .ok (.getfield 27, 3) := by decide +kernel
theorem dX0_fillPage_11 : decode cX0_fillPage 11 = .ok (.iload_n 2, 1) := by decide +kernel
theorem dX0_fillPage_12 : decode cX0_fillPage 12 = .ok (.iconst 0, 1) := by decide +kernel
theorem dX0_fillPage_13 : decode cX0_fillPage 13 = .ok (.iastore, 1) := by decide +kernel
theorem dX0_fillPage_14 : decode cX0_fillPage 14 = .ok (.aload_n 0, 1) := by decide +kernel
theorem dX0_fillPage_15 : decode cX0_fillPage 15 = .ok (.getfield 30, 3) := by decide +kernel
theorem dX0_fillPage_18 : decode cX0_fillPage 18 = .ok (.iload_n 2, 1) := by decide +kernel
theorem dX0_fillPage_19 : decode cX0_fillPage 19 = .ok (.iconst 0, 1) := by decide +kernel
theorem dX0_fillPage_20 : decode cX0_fillPage 20 = .ok (.iastore, 1) := by decide +kernel
theorem dX0_fillPage_21 : decode cX0_fillPage 21 = .ok (.aload_n 0, 1) := by decide +kernel
theorem dX0_fillPage_22 : decode cX0_fillPage 22 = .ok (.getfield 33, 3) := by decide +kernel
theorem dX0_fillPage_25 : decode cX0_fillPage 25 = .ok (.iload_n 2, 1) := by decide +kernel
theorem dX0_fillPage_26 : decode cX0_fillPage 26 = .ok (.aload_n 0, 1) := by decide +kernel
theorem dX0_fillPage_27 : decode cX0_fillPage 27 = .ok (.getfield 39, 3) := by decide +kernel
theorem dX0_fillPage_30 : decode cX0_fillPage 30 = .ok (.iastore, 1) := by decide +kernel
theorem dX0_fillPage_31 : decode cX0_fillPage 31 = .ok (.aload_n 0, 1) := by decide +kernel
theorem dX0_fillPage_32 : decode cX0_fillPage 32 = .ok (.aload_n 1, 1) := by decide +kernel
theorem dX0_fillPage_33 : decode cX0_fillPage 33 = .ok (.iload_n 2, 1) := by decide +kernel
theorem dX0_fillPage_34 : decode cX0_fillPage 34 = .ok (.invokevirtual 126, 3) := by decide +kernel
theorem dX0_fillPage_37 : decode cX0_fillPage 37 = .ok (.aload_n 0, 1) := by decide +kernel
theorem dX0_fillPage_38 : decode cX0_fillPage 38 = .ok (.getfield 58, 3) := by decide +kernel
theorem dX0_fillPage_41 : decode cX0_fillPage 41 = .ok (.aload_n 1, 1) := by decide +kernel
theorem dX0_fillPage_42 : decode cX0_fillPage 42 = .ok (.getfield 64, 3) := by decide +kernel
theorem dX0_fillPage_45 : decode cX0_fillPage 45 = .ok (.if_icmp .ge 57, 3) := by decide +kernel
theorem dX0_fillPage_48 : decode cX0_fillPage 48 = .ok (.aload_n 0, 1) := by decide +kernel
theorem dX0_fillPage_49 : decode cX0_fillPage 49 = .ok (.aload_n 1, 1) := by decide +kernel
theorem dX0_fillPage_50 : decode cX0_fillPage 50 = .ok (.iload_n 2, 1) := by decide +kernel
theorem dX0_fillPage_51 : decode cX0_fillPage 51 = .ok (.invokevirtual 129, 3) := by decide +kernel
theorem dX0_fillPage_54 : decode cX0_fillPage 54 = .ok (.ifCond .eq 48, 3) := by decide +kernel
theorem dX0_fillPage_57 : decode cX0_fillPage 57 = .ok (.aload_n 0, 1) := by decide +kernel
theorem dX0_fillPage_58 : decode cX0_fillPage 58 = .ok (.getfield 61, 3) := by decide +kernel
theorem dX0_fillPage_61 : decode cX0_fillPage 61 = .ok (.aload_n 0, 1) := by decide +kernel
theorem dX0_fillPage_62 : decode cX0_fillPage 62 = .ok (.getfield 58, 3) := by decide +kernel
theorem dX0_fillPage_65 : decode cX0_fillPage 65 = .ok (.if_icmp .ge 7, 3) := by decide +kernel
theorem dX0_fillPage_68 : decode cX0_fillPage 68 = .ok (.iconst 1, 1) := by decide +kernel
theorem dX0_fillPage_69 : decode cX0_fillPage 69 = .ok (.goto 4, 3) := by decide +kernel
theorem dX0_fillPage_72 : decode cX0_fillPage 72 = .ok (.iconst 0, 1) := by decide +kernel
theorem dX0_fillPage_73 : decode cX0_fillPage 73 = .ok (.istore_n 3, 1) := by decide +kernel
theorem dX0_fillPage_74 : decode cX0_fillPage 74 = .ok (.aload_n 0, 1) := by decide +kernel
theorem dX0_fillPage_75 : decode cX0_fillPage 75 = .ok (.iload_n 2, 1) := by decide +kernel
theorem dX0_fillPage_76 : decode cX0_fillPage 76 = .ok (.invokevirtual 132, 3) := by decide +kernel
theorem dX0_fillPage_79 : decode cX0_fillPage 79 = .ok (.aload_n 0, 1) := by decide +kernel
theorem dX0_fillPage_80 : decode cX0_fillPage 80 = .ok (.dup, 1) := by decide +kernel
theorem dX0_fillPage_81 : decode cX0_fillPage 81 = .ok (.getfield 58, 3) := by decide +kernel
theorem dX0_fillPage_84 : decode cX0_fillPage 84 = .ok (.iconst 1, 1) := by decide +kernel
theorem dX0_fillPage_85 : decode cX0_fillPage 85 = .ok (.iadd, 1) := by decide +kernel
theorem dX0_fillPage_86 : decode cX0_fillPage 86 = .ok (.putfield 58, 3) := by decide +kernel
theorem dX0_fillPage_89 : decode cX0_fillPage 89 = .ok (.iload_n 3, 1) := by decide +kernel
theorem dX0_fillPage_90 : decode cX0_fillPage 90 = .ok (.ifCond .ne 9, 3) := by decide +kernel
theorem dX0_fillPage_93 : decode cX0_fillPage 93 = .ok (.aload_n 0, 1) := by decide +kernel
theorem dX0_fillPage_94 : decode cX0_fillPage 94 = .ok (.aload_n 1, 1) := by decide +kernel
theorem dX0_fillPage_95 : decode cX0_fillPage 95 = .ok (.iload_n 2, 1) := by decide +kernel
theorem dX0_fillPage_96 : decode cX0_fillPage 96 = .ok (.invokevirtual 126, 3) := by decide +kernel
theorem dX0_fillPage_99 : decode cX0_fillPage 99 = .ok (.goto (-62), 3) := by decide +kernel
theorem dX0_fillPage_102 : decode cX0_fillPage 102 = .ok (.aload_n 0, 1) := by decide +kernel
theorem dX0_fillPage_103 : decode cX0_fillPage 103 = .ok (.getfield 36, 3) := by decide +kernel
theorem dX0_fillPage_106 : decode cX0_fillPage 106 = .ok (.iload_n 2, 1) := by decide +kernel
theorem dX0_fillPage_107 : decode cX0_fillPage 107 = .ok (.aload_n 0, 1) := by decide +kernel
theorem dX0_fillPage_108 : decode cX0_fillPage 108 = .ok (.getfield 58, 3) := by decide +kernel
theorem dX0_fillPage_111 : decode cX0_fillPage 111 = .ok (.iconst 1, 1) := by decide +kernel
theorem dX0_fillPage_112 : decode cX0_fillPage 112 = .ok (.isub, 1) := by decide +kernel
theorem dX0_fillPage_113 : decode cX0_fillPage 113 = .ok (.iastore, 1) := by decide +kernel
theorem dX0_fillPage_114 : decode cX0_fillPage 114 = .ok (.return_, 1) := by decide +kernel
theorem dX0_putWaitingNotes_0 : decode cX0_putWaitingNotes 0 = .ok (.aload_n 0, 1) := by decide +kernel
theorem dX0_putWaitingNotes_1 : decode cX0_putWaitingNotes 1 = .ok (.getfield 61, 3) := by decide +kernel
theorem dX0_putWaitingNotes_4 : decode cX0_putWaitingNotes 4 = .ok (.aload_n 0, 1) := by decide +kernel
theorem dX0_putWaitingNotes_5 : decode cX0_putWaitingNotes 5 = .ok (.getfield 58, 3) := by decide +kernel
theorem dX0_putWaitingNotes_8 : decode cX0_putWaitingNotes 8 = .ok (.if_icmp .ge 94, 3) := by decide +kernel
theorem dX0_putWaitingNotes_11 : decode cX0_putWaitingNotes 11 = .ok (.aload_n 1, 1) := by decide +kernel
theorem dX0_putWaitingNotes_12 : decode cX0_putWaitingNotes 12 = .ok (.getfield 87, 3) := by decide +kernel
theorem dX0_putWaitingNotes_15 : decode cX0_putWaitingNotes 15 = .ok (.aload_n 0, 1) := by decide +kernel
theorem dX0_putWaitingNotes_16 : decode cX0_putWaitingNotes 16 = .ok (.getfield 61, 3) := by decide +kernel
theorem dX0_putWaitingNotes_19 : decode cX0_putWaitingNotes 19 = .ok (.aaload, 1) := by decide +kernel
theorem dX0_putWaitingNotes_20 : decode cX0_putWaitingNotes 20 = .ok (.getfield 136, 3) := by decide +kernel
theorem dX0_putWaitingNotes_23 : decode cX0_putWaitingNotes 23 = .ok (.aload_n 0, 1) := by decide +kernel
theorem dX0_putWaitingNotes_24 : decode cX0_putWaitingNotes 24 = .ok (.getfield 33, 3) := by decide +kernel
theorem dX0_putWaitingNotes_27 : decode cX0_putWaitingNotes 27 = .ok (.iload_n 2, 1) := by decide +kernel
theorem dX0_putWaitingNotes_28 : decode cX0_putWaitingNotes 28 = .ok (.iaload, 1) := by decide +kernel
theorem dX0_putWaitingNotes_29 : decode cX0_putWaitingNotes 29 = .ok (.if_icmp .gt 73, 3) := by decide +kernel
theorem dX0_putWaitingNotes_32 : decode cX0_putWaitingNotes 32 = .ok (.aload_n 1, 1) := by decide +kernel
theorem dX0_putWaitingNotes_33 : decode cX0_putWaitingNotes 33 = .ok (.getfield 87, 3) := by decide +kernel
theorem dX0_putWaitingNotes_36 : decode cX0_putWaitingNotes 36 = .ok (.aload_n 0, 1) := by decide +kernel
theorem dX0_putWaitingNotes_37 : decode cX0_putWaitingNotes 37 = .ok (.getfield 61, 3) := by decide +kernel
theorem dX0_putWaitingNotes_40 : decode cX0_putWaitingNotes 40 = .ok (.aaload, 1) := by decide +kernel
theorem dX0_putWaitingNotes_41 : decode cX0_putWaitingNotes 41 = .ok (.getfield 136, 3) := by decide +kernel
theorem dX0_putWaitingNotes_44 : decode cX0_putWaitingNotes 44 = .ok (.istore_n 3, 1) := by decide +kernel
theorem dX0_putWaitingNotes_45 : decode cX0_putWaitingNotes 45 = .ok (.aload_n 0, 1) := by decide +kernel
theorem dX0_putWaitingNotes_46 : decode cX0_putWaitingNotes 46 = .ok (.getfield 21, 3) := by decide +kernel
theorem dX0_putWaitingNotes_49 : decode cX0_putWaitingNotes 49 = .ok (.aload_n 0, 1) := by decide +kernel
theorem dX0_putWaitingNotes_50 : decode cX0_putWaitingNotes 50 = .ok (.getfield 61, 3) := by decide +kernel
theorem dX0_putWaitingNotes_53 : decode cX0_putWaitingNotes 53 = .ok (.iconst (-1), 1) := by decide +kernel
theorem dX0_putWaitingNotes_54 : decode cX0_putWaitingNotes 54 = .ok (.iastore, 1) := by decide +kernel
theorem dX0_putWaitingNotes_55 : decode cX0_putWaitingNotes 55 = .ok (.iload_n 3, 1) := by decide +kernel
theorem dX0_putWaitingNotes_56 : decode cX0_putWaitingNotes 56 = .ok (.ifCond .le 33, 3) := by decide +kernel
theorem dX0_putWaitingNotes_59 : decode cX0_putWaitingNotes 59 = .ok (.aload_n 0, 1) := by decide +kernel
theorem dX0_putWaitingNotes_60 : decode cX0_putWaitingNotes 60 = .ok (.getfield 21, 3) := by decide +kernel
theorem dX0_putWaitingNotes_63 : decode cX0_putWaitingNotes 63 = .ok (.aload_n 0, 1) := by decide +kernel
theorem dX0_putWaitingNotes_64 : decode cX0_putWaitingNotes 64 = .ok (.getfield 61, 3) := by decide +kernel
theorem dX0_putWaitingNotes_67 : decode cX0_putWaitingNotes 67 = .ok (.iload_n 2, 1) := by decide +kernel
theorem dX0_putWaitingNotes_68 : decode cX0_putWaitingNotes 68 = .ok (.iastore, 1) := by decide +kernel
theorem dX0_putWaitingNotes_69 : decode cX0_putWaitingNotes 69 = .ok (.aload_n 0, 1) := by decide +kernel
theorem dX0_putWaitingNotes_70 : decode cX0_putWaitingNotes 70 = .ok (.getfield 30, 3) := by decide +kernel
theorem dX0_putWaitingNotes_73 : decode cX0_putWaitingNotes 73 = .ok (.iload_n 2, 1) := by decide +kernel
theorem dX0_putWaitingNotes_74 : decode cX0_putWaitingNotes 74 = .ok (.dup2, 1) := by decide +kernel
theorem dX0_putWaitingNotes_75 : decode cX0_putWaitingNotes 75 = .ok (.iaload, 1) := by decide +kernel
theorem dX0_putWaitingNotes_76 : decode cX0_putWaitingNotes 76 = .ok (.iconst 1, 1) := by decide +kernel
theorem dX0_putWaitingNotes_77 : decode cX0_putWaitingNotes 77 = .ok (.iadd, 1) := by decide +kernel
theorem dX0_putWaitingNotes_78 : decode cX0_putWaitingNotes 78 = .ok (.iastore, 1) := by decide +kernel
theorem dX0_putWaitingNotes_79 : decode cX0_putWaitingNotes 79 = .ok (.aload_n 0, 1) := by decide +kernel
theorem dX0_putWaitingNotes_80 : decode cX0_putWaitingNotes 80 = .ok (.getfield 33, 3) := by decide +kernel
theorem dX0_putWaitingNotes_83 : decode cX0_putWaitingNotes 83 = .ok (.iload_n 2, 1) := by decide +kernel
theorem dX0_putWaitingNotes_84 : decode cX0_putWaitingNotes 84 = .ok (.dup2, 1) := by decide +kernel
theorem dX0_putWaitingNotes_85 : decode cX0_putWaitingNotes 85 = .ok (.iaload, 1) := by decide +kernel
theorem dX0_putWaitingNotes_86 : decode cX0_putWaitingNotes 86 = .ok (.iload_n 3, 1) := by decide +kernel
theorem dX0_putWaitingNotes_87 : decode cX0_putWaitingNotes 87 = .ok (.isub, 1) := by decide +kernel
theorem dX0_putWaitingNotes_88 : decode cX0_putWaitingNotes 88 = .ok (.iastore, 1) := by decide +kernel
theorem dX0_putWaitingNotes_89 : decode cX0_putWaitingNotes 89 = .ok (.aload_n 0, 1) := by decide +kernel
theorem dX0_putWaitingNotes_90 : decode cX0_putWaitingNotes 90 = .ok (.dup, 1) := by decide +kernel
theorem dX0_putWaitingNotes_91 : decode cX0_putWaitingNotes 91 = .ok (.getfield 61, 3) := by decide +kernel
theorem dX0_putWaitingNotes_94 : decode cX0_putWaitingNotes 94 = .ok (.iconst 1, 1) := by decide +kernel
theorem dX0_putWaitingNotes_95 : decode cX0_putWaitingNotes 95 = .ok (.iadd, 1) := by decide +kernel
theorem dX0_putWaitingNotes_96 : decode cX0_putWaitingNotes 96 = .ok (.putfield 61, 3) := by decide +kernel
theorem dX0_putWaitingNotes_99 : decode cX0_putWaitingNotes 99 = .ok (.goto (-99), 3) := by decide +kernel
theorem dX0_putWaitingNotes_102 : decode cX0_putWaitingNotes 102 = .ok (.return_, 1) := by decide +kernel
set_option maxRecDepth 20000 in
theorem ggX0_hasRoomForNextRow_X0_heightOfGroup : GoodIn wsX0_hasRoomForNextRow wsX0_heightOfGroup := goodIn_r _ [10, 1, 11, 12, 13, 14, 15, 16, 17, 18, 19, 20, 21, 22, 23, 24, 25, 26, 27, 28, 29, 30, 31, 32, 33, 34, 35, 36, 37, 38, 39, 40, 41] (by decide +kernel) (by decide +kernel)
set_option maxRecDepth 20000 in
theorem gX0_hasRoomForNextRow_X0_heightOfGroup : GoodIn wsX0_hasRoomForNextRow (wsV RX0 142 RX0 yX0_heightOfGroup wsX0_heightOfGroup) := goodIn_app (goodIn_of _ (by decide +kernel)) ggX0_hasRoomForNextRow_X0_heightOfGroup
theorem dX0_hasRoomForNextRow_0 : decode cX0_hasRoomForNextRow 0 = .ok (.aload_n 0, 1) := by decide +kernel
theorem dX0_hasRoomForNextRow_1 : decode cX0_hasRoomForNextRow 1 = .ok (.getfield 15, 3) := by decide +kernel
theorem dX0_hasRoomForNextRow_4 : decode cX0_hasRoomForNextRow 4 = .ok (.aload_n 0, 1) := by decide +kernel
theorem dX0_hasRoomForNextRow_5 : decode cX0_hasRoomForNextRow 5 = .ok (.getfield 58, 3) := by decide +kernel
theorem dX0_hasRoomForNextRow_8 : decode cX0_hasRoomForNextRow 8 = .ok (.iaload, 1) := by decide +kernel
theorem dX0_hasRoomForNextRow_9 : decode cX0_hasRoomForNextRow 9 = .ok (.aload_n 0, 1) := by decide +kernel
theorem dX0_hasRoomForNextRow_10 : decode cX0_hasRoomForNextRow 10 = .ok (.getfield 33, 3) := by decide +kernel
theorem dX0_hasRoomForNextRow_13 : decode cX0_hasRoomForNextRow 13 = .ok (.iload_n 2, 1) := by decide +kernel
theorem dX0_hasRoomForNextRow_14 : decode cX0_hasRoomForNextRow 14 = .ok (.iaload, 1) := by decide +kernel
theorem dX0_hasRoomForNextRow_15 : decode cX0_hasRoomForNextRow 15 = .ok (.if_icmp .le 5, 3) := by decide +kernel
theorem dX0_hasRoomForNextRow_18 : decode cX0_hasRoomForNextRow 18 = .ok (.iconst 0, 1) := by decide +kernel
theorem dX0_hasRoomForNextRow_19 : decode cX0_hasRoomForNextRow 19 = .ok (.ireturn, 1) := by decide +kernel
theorem dX0_hasRoomForNextRow_20 : decode cX0_hasRoomForNextRow 20 = .ok (.aload_n 0, 1) := by decide +kernel
theorem dX0_hasRoomForNextRow_21 : decode cX0_hasRoomForNextRow 21 = .ok (.getfield 58, 3) := by decide +kernel
theorem dX0_hasRoomForNextRow_24 : decode cX0_hasRoomForNextRow 24 = .ok (.ifCond .le 24, 3) := by decide +kernel
theorem dX0_hasRoomForNextRow_27 : decode cX0_hasRoomForNextRow 27 = .ok (.aload_n 1, 1) := by decide +kernel
theorem dX0_hasRoomForNextRow_28 : decode cX0_hasRoomForNextRow 28 = .ok (.getfield 87, 3) := by decide +kernel
theorem dX0_hasRoomForNextRow_31 : decode cX0_hasRoomForNextRow 31 = .ok (.aload_n 0, 1) := by decide +kernel
theorem dX0_hasRoomForNextRow_32 : decode cX0_hasRoomForNextRow 32 = .ok (.getfield 58, 3) := by decide +kernel
theorem dX0_hasRoomForNextRow_35 : decode cX0_hasRoomForNextRow 35 = .ok (.iconst 1, 1) := by decide +kernel
theorem dX0_hasRoomForNextRow_36 : decode cX0_hasRoomForNextRow 36 = .ok (.isub, 1) := by decide +kernel
theorem dX0_hasRoomForNextRow_37 : decode cX0_hasRoomForNextRow 37 = .ok (.aaload, 1) := by decide +kernel
theorem dX0_hasRoomForNextRow_38 : decode cX0_hasRoomForNextRow 38 = .ok (.getfield 139, 3) := by decide +kernel
theorem dX0_hasRoomForNextRow_41 : decode cX0_hasRoomForNextRow 41 = .ok (.ifCond .eq 7, 3) := by decide +kernel
theorem dX0_hasRoomForNextRow_44 : decode cX0_hasRoomForNextRow 44 = .ok (.iconst 1, 1) := by decide +kernel
theorem dX0_hasRoomForNextRow_45 : decode cX0_hasRoomForNextRow 45 = .ok (.goto 4, 3) := by decide +kernel
theorem dX0_hasRoomForNextRow_48 : decode cX0_hasRoomForNextRow 48 = .ok (.iconst 0, 1) := by decide +kernel
theorem dX0_hasRoomForNextRow_49 : decode cX0_hasRoomForNextRow 49 = .ok (.istore_n 3, 1) := by decide +kernel
theorem dX0_hasRoomForNextRow_50 : decode cX0_hasRoomForNextRow 50 = .ok (.aload_n 0, 1) := by decide +kernel
theorem dX0_hasRoomForNextRow_51 : decode cX0_hasRoomForNextRow 51 = .ok (.getfield 27, 3) := by decide +kernel
theorem dX0_hasRoomForNextRow_54 : decode cX0_hasRoomForNextRow 54 = .ok (.iload_n 2, 1) := by decide +kernel
theorem dX0_hasRoomForNextRow_55 : decode cX0_hasRoomForNextRow 55 = .ok (.iaload, 1) := by decide +kernel
theorem dX0_hasRoomForNextRow_56 : decode cX0_hasRoomForNextRow 56 = .ok (.ifCond .eq 7, 3) := by decide +kernel
theorem dX0_hasRoomForNextRow_59 : decode cX0_hasRoomForNextRow 59 = .ok (.iload_n 3, 1) := by decide +kernel
theorem dX0_hasRoomForNextRow_60 : decode cX0_hasRoomForNextRow 60 = .ok (.ifCond .eq 5, 3) := by decide +kernel
theorem dX0_hasRoomForNextRow_63 : decode cX0_hasRoomForNextRow 63 = .ok (.iconst 1, 1) := by decide +kernel
theorem dX0_hasRoomForNextRow_64 : decode cX0_hasRoomForNextRow 64 = .ok (.ireturn, 1) := by decide +kernel
theorem dX0_hasRoomForNextRow_65 : decode cX0_hasRoomForNextRow 65 = .ok (.aload_n 0, 1) := by decide +kernel
theorem dX0_hasRoomForNextRow_66 : decode cX0_hasRoomForNextRow 66 = .ok (.aload_n 1, 1) := by decide +kernel
theorem dX0_hasRoomForNextRow_67 : decode cX0_hasRoomForNextRow 67 = .ok (.aload_n 0, 1) := by decide +kernel
theorem dX0_hasRoomForNextRow_68 : decode cX0_hasRoomForNextRow 68 = .ok (.getfield 58, 3) := by decide +kernel
theorem dX0_hasRoomForNextRow_71 : decode cX0_hasRoomForNextRow 71 = .ok (.invokevirtual 142, 3) := by decide +kernel
theorem dX0_hasRoomForNextRow_74 : decode cX0_hasRoomForNextRow 74 = .ok (.istore 4, 2) := by decide +kernel
theorem dX0_hasRoomForNextRow_76 : decode cX0_hasRoomForNextRow 76 = .ok (.iload 4, 2) := by decide +kernel
theorem dX0_hasRoomForNextRow_78 : decode cX0_hasRoomForNextRow 78 = .ok (.aload_n 0, 1) := by decide +kernel
theorem dX0_hasRoomForNextRow_79 : decode cX0_hasRoomForNextRow 79 = .ok (.getfield 33, 3) := by decide +kernel
theorem dX0_hasRoomForNextRow_82 : decode cX0_hasRoomForNextRow 82 = .ok (.iload_n 2, 1) := by decide +kernel
theorem dX0_hasRoomForNextRow_83 : decode cX0_hasRoomForNextRow 83 = .ok (.iaload, 1) := by decide +kernel
theorem dX0_hasRoomForNextRow_84 : decode cX0_hasRoomForNextRow 84 = .ok (.if_icmp .le 12, 3) := by decide +kernel
theorem dX0_hasRoomForNextRow_87 : decode cX0_hasRoomForNextRow 87 = .ok (.iload 4, 2) := by decide +kernel
theorem dX0_hasRoomForNextRow_89 : decode cX0_hasRoomForNextRow 89 = .ok (.aload_n 0, 1) := by decide +kernel
theorem dX0_hasRoomForNextRow_90 : decode cX0_hasRoomForNextRow 90 = .ok (.getfield 39, 3) := by decide +kernel
theorem dX0_hasRoomForNextRow_93 : decode cX0_hasRoomForNextRow 93 = .ok (.if_icmp .le 7, 3) := by decide +kernel
theorem dX0_hasRoomForNextRow_96 : decode cX0_hasRoomForNextRow 96 = .ok (.iconst 1, 1) := by decide +kernel
theorem dX0_hasRoomForNextRow_97 : decode cX0_hasRoomForNextRow 97 = .ok (.goto 4, 3) := by decide +kernel
theorem dX0_hasRoomForNextRow_100 : decode cX0_hasRoomForNextRow 100 = .ok (.iconst 0, 1) := by decide +kernel
theorem dX0_hasRoomForNextRow_101 : decode cX0_hasRoomForNextRow 101 = .ok (.ireturn, 1) := by decide +kernel
theorem dX0_heightOfGroup_0 : decode cX0_heightOfGroup 0 = .ok (.aload_n 0, 1) := by decide +kernel
theorem dX0_heightOfGroup_1 : decode cX0_heightOfGroup 1 = .ok (.getfield 15, 3) := by decide +kernel
theorem dX0_heightOfGroup_4 : decode cX0_heightOfGroup 4 = .ok (.iload_n 2, 1) := by decide +kernel
theorem dX0_heightOfGroup_5 : decode cX0_heightOfGroup 5 = .ok (.iaload, 1) := by decide +kernel
theorem dX0_heightOfGroup_6 : decode cX0_heightOfGroup 6 = .ok (.istore_n 3, 1) := by decide +kernel
theorem dX0_heightOfGroup_7 : decode cX0_heightOfGroup 7 = .ok (.iload_n 2, 1) := by decide +kernel
theorem dX0_heightOfGroup_8 : decode cX0_heightOfGroup 8 = .ok (.iconst 1, 1) := by decide +kernel
theorem dX0_heightOfGroup_9 : decode cX0_heightOfGroup 9 = .ok (.iadd, 1) := by decide +kernel
theorem dX0_heightOfGroup_10 : decode cX0_heightOfGroup 10 = .ok (.istore 4, 2) := by decide +kernel
theorem dX0_heightOfGroup_12 : decode cX0_heightOfGroup 12 = .ok (.iload 4, 2) := by decide +kernel
theorem dX0_heightOfGroup_14 : decode cX0_heightOfGroup 14 = .ok (.aload_n 1, 1) := by decide +kernel
theorem dX0_heightOfGroup_15 : decode cX0_heightOfGroup 15 = .ok (.getfield 64, 3) := by decide +kernel
theorem dX0_heightOfGroup_18 : decode cX0_heightOfGroup 18 = .ok (.if_icmp .ge 34, 3) := by decide +kernel
theorem dX0_heightOfGroup_21 : decode cX0_heightOfGroup 21 = .ok (.aload_n 1, 1) := by decide +kernel
theorem dX0_heightOfGroup_22 : decode cX0_heightOfGroup 22 = .ok (.getfield 87, 3) := by decide +kernel
theorem dX0_heightOfGroup_25 : decode cX0_heightOfGroup 25 = .ok (.iload 4, 2) := by decide +kernel
theorem dX0_heightOfGroup_27 : decode cX0_heightOfGroup 27 = .ok (.iconst 1, 1) := by decide +kernel
theorem dX0_heightOfGroup_28 : decode cX0_heightOfGroup 28 = .ok (.isub, 1) := by decide +kernel
theorem dX0_heightOfGroup_29 : decode cX0_heightOfGroup 29 = .ok (.aaload, 1) := by decide +kernel
theorem dX0_heightOfGroup_30 : decode cX0_heightOfGroup 30 = .ok (.getfield 139, 3) := by decide +kernel
theorem dX0_heightOfGroup_33 : decode cX0_heightOfGroup 33 = .ok (.ifCond .eq 19, 3) := by decide +kernel
theorem dX0_heightOfGroup_36 : decode cX0_heightOfGroup 36 = .ok (.iload_n 3, 1) := by decide +kernel
theorem dX0_heightOfGroup_37 : decode cX0_heightOfGroup 37 = .ok (.aload_n 0, 1) := by decide +kernel
theorem dX0_heightOfGroup_38 : decode cX0_heightOfGroup 38 = .ok (.getfield 15, 3) := by decide +kernel
theorem dX0_heightOfGroup_41 : decode cX0_heightOfGroup 41 = .ok (.iload 4, 2) := by decide +kernel
theorem dX0_heightOfGroup_43 : decode cX0_heightOfGroup 43 = .ok (.iaload, 1) := by decide +kernel
theorem dX0_heightOfGroup_44 : decode cX0_heightOfGroup 44 = .ok (.iadd, 1) := by decide +kernel
theorem dX0_heightOfGroup_45 : decode cX0_heightOfGroup 45 = .ok (.istore_n 3, 1) := by decide +kernel
theorem dX0_heightOfGroup_46 : decode cX0_heightOfGroup 46 = .ok (.iinc 4 1, 3) := by decide +kernel
theorem dX0_heightOfGroup_49 : decode cX0_heightOfGroup 49 = .ok (.goto (-37), 3) := by decide +kernel
theorem dX0_heightOfGroup_52 : decode cX0_heightOfGroup 52 = .ok (.iload_n 3, 1) := by decide +kernel
theorem dX0_heightOfGroup_53 : decode cX0_heightOfGroup 53 = .ok (.ireturn, 1) := by decide +kernel
theorem dX0_putNextRow_0 : decode cX0_putNextRow 0 = .ok (.aload_n 0, 1) := by decide +kernel
theorem dX0_putNextRow_1 : decode cX0_putNextRow 1 = .ok (.getfield 27, 3) := by decide +kernel
theorem dX0_putNextRow_4 : decode cX0_putNextRow 4 = .ok (.iload_n 1, 1) := by decide +kernel
theorem dX0_putNextRow_5 : decode cX0_putNextRow 5 = .ok (.iaload, 1) := by decide +kernel
theorem dX0_putNextRow_6 : decode cX0_putNextRow 6 = .ok (.ifCond .ne 13, 3) := by decide +kernel
theorem dX0_putNextRow_9 : decode cX0_putNextRow 9 = .ok (.aload_n 0, 1) := by decide +kernel
theorem dX0_putNextRow_10 : decode cX0_putNextRow 10 = .ok (.getfield 24, 3) := by decide +kernel
theorem dX0_putNextRow_13 : decode cX0_putNextRow 13 = .ok (.iload_n 1, 1) := by decide +kernel
theorem dX0_putNextRow_14 : decode cX0_putNextRow 14 = .ok (.aload_n 0, 1) := by decide +kernel
theorem dX0_putNextRow_15 : decode cX0_putNextRow 15 = .ok (.getfield 58, 3) := by decide +kernel
theorem dX0_putNextRow_18 : decode cX0_putNextRow 18 = .ok (.iastore, 1) := by decide +kernel
theorem dX0_putNextRow_19 : decode cX0_putNextRow 19 = .ok (.aload_n 0, 1) := by decide +kernel
theorem dX0_putNextRow_20 : decode cX0_putNextRow 20 = .ok (.getfield 18, 3) := by decide +kernel
theorem dX0_putNextRow_23 : decode cX0_putNextRow 23 = .ok (.aload_n 0, 1) := by decide +kernel
theorem dX0_putNextRow_24 : decode cX0_putNextRow 24 = .ok (.getfield 58, 3) := by decide +kernel
theorem dX0_putNextRow_27 : decode cX0_putNextRow 27 = .ok (.iload_n 1, 1) := by decide +kernel
theorem dX0_putNextRow_28 : decode cX0_putNextRow 28 = .ok (.iastore, 1) := by decide +kernel
theorem dX0_putNextRow_29 : decode cX0_putNextRow 29 = .ok (.aload_n 0, 1) := by decide +kernel
theorem dX0_putNextRow_30 : decode cX0_putNextRow 30 = .ok (.getfield 27, 3) := by decide +kernel
theorem dX0_putNextRow_33 : decode cX0_putNextRow 33 = .ok (.iload_n 1, 1) := by decide +kernel
theorem dX0_putNextRow_34 : decode cX0_putNextRow 34 = .ok (.dup2, 1) := by decide +kernel
theorem dX0_putNextRow_35 : decode cX0_putNextRow 35 = .ok (.iaload, 1) := by decide +kernel
theorem dX0_putNextRow_36 : decode cX0_putNextRow 36 = .ok (.iconst 1, 1) := by decide +kernel
theorem dX0_putNextRow_37 : decode cX0_putNextRow 37 = .ok (.iadd, 1) := by decide +kernel
theorem dX0_putNextRow_38 : decode cX0_putNextRow 38 = .ok (.iastore, 1) := by decide +kernel
theorem dX0_putNextRow_39 : decode cX0_putNextRow 39 = .ok (.aload_n 0, 1) := by decide +kernel
theorem dX0_putNextRow_40 : decode cX0_putNextRow 40 = .ok (.getfield 33, 3) := by decide +kernel
theorem dX0_putNextRow_43 : decode cX0_putNextRow 43 = .ok (.iload_n 1, 1) := by decide +kernel
theorem dX0_putNextRow_44 : decode cX0_putNextRow 44 = .ok (.dup2, 1) := by decide +kernel
theorem dX0_putNextRow_45 : decode cX0_putNextRow 45 = .ok (.iaload, 1) := by decide +kernel
theorem dX0_putNextRow_46 : decode cX0_putNextRow 46 = .ok (.aload_n 0, 1) := by decide +kernel
theorem dX0_putNextRow_47 : decode cX0_putNextRow 47 = .ok (.getfield 15, 3) := by decide +kernel
theorem dX0_putNextRow_50 : decode cX0_putNextRow 50 = .ok (.aload_n 0, 1) := by decide +kernel
theorem dX0_putNextRow_51 : decode cX0_putNextRow 51 = .ok (.getfield 58, 3) := by decide +kernel
theorem dX0_putNextRow_54 : decode cX0_putNextRow 54 = .ok (.iaload, 1) := by decide +kernel
theorem dX0_putNextRow_55 : decode cX0_putNextRow 55 = .ok (.isub, 1) := by decide +kernel
theorem dX0_putNextRow_56 : decode cX0_putNextRow 56 = .ok (.iastore, 1) := by decide +kernel
theorem dX0_putNextRow_57 : decode cX0_putNextRow 57 = .ok (.return_, 1) := by decide +kernel
theorem dX1_init_0 : decode cX1_init 0 = .ok (.aload_n 0, 1) := by decide +kernel
theorem dX1_init_1 : decode cX1_init 1 = .ok (.invokespecial 3, 3) := by decide +kernel
theorem dX1_init_4 : decode cX1_init 4 = .ok (.aload_n 0, 1) := by decide +kernel
theorem dX1_init_5 : decode cX1_init 5 = .ok (.bipush 6, 2) := by decide +kernel
theorem dX1_init_7 : decode cX1_init 7 = .ok (.newarray .int, 2) := by decide +kernel
theorem dX1_init_9 : decode cX1_init 9 = .ok (.putfield 9, 3) := by decide +kernel
theorem dX1_init_12 : decode cX1_init 12 = .ok (.aload_n 0, 1) := by decide +kernel
theorem dX1_init_13 : decode cX1_init 13 = .ok (.bipush 6, 2) := by decide +kernel
theorem dX1_init_15 : decode cX1_init 15 = .ok (.newarray .int, 2) := by decide +kernel
theorem dX1_init_17 : decode cX1_init 17 = .ok (.putfield 15, 3) := by decide +kernel
theorem dX1_init_20 : decode cX1_init 20 = .ok (.aload_n 0, 1) := by decide +kernel
theorem dX1_init_21 : decode cX1_init 21 = .ok (.bipush 6, 2) := by decide +kernel
theorem dX1_init_23 : decode cX1_init 23 = .ok (.newarray .int, 2) := by decide +kernel
theorem dX1_init_25 : decode cX1_init 25 = .ok (.putfield 18, 3) := by decide +kernel
theorem dX1_init_28 : decode cX1_init 28 = .ok (.aload_n 0, 1) := by decide +kernel
theorem dX1_init_29 : decode cX1_init 29 = .ok (.bipush 6, 2) := by decide +kernel
theorem dX1_init_31 : decode cX1_init 31 = .ok (.newarray .boolean, 2) := by decide +kernel
theorem dX1_init_33 : decode cX1_init 33 = .ok (.putfield 21, 3) := by decide +kernel
theorem dX1_init_36 : decode cX1_init 36 = .ok (.aload_n 0, 1) := by decide +kernel
theorem dX1_init_37 : decode cX1_init 37 = .ok (.bipush 6, 2) := by decide +kernel
theorem dX1_init_39 : decode cX1_init 39 = .ok (.newarray .int, 2) := by decide +kernel
theorem dX1_init_41 : decode cX1_init 41 = .ok (.putfield 25, 3) := by decide +kernel
theorem dX1_init_44 : decode cX1_init 44 = .ok (.aload_n 0, 1) := by decide +kernel
theorem dX1_init_45 : decode cX1_init 45 = .ok (.bipush 6, 2) := by decide +kernel
theorem dX1_init_47 : decode cX1_init 47 = .ok (.newarray .boolean, 2) := by decide +kernel
theorem dX1_init_49 : decode cX1_init 49 = .ok (.putfield 28, 3) := by decide +kernel
theorem dX1_init_52 : decode cX1_init 52 = .ok (.return_, 1) := by decide +kernel
theorem dX1_clear_0 : decode cX1_clear 0 = .ok (.iconst 0, 1) := by decide +kernel
theorem dX1_clear_1 : decode cX1_clear 1 = .ok (.istore_n 1, 1) := by decide +kernel
theorem dX1_clear_2 : decode cX1_clear 2 = .ok (.iload_n 1, 1) := by decide +kernel
theorem dX1_clear_3 : decode cX1_clear 3 = .ok (.bipush 6, 2) := by decide +kernel
end
section
theorem dX1_clear_5 : decode cX1_clear 5 = .ok (.if_icmp .ge 37, 3) := by decide +kernel
theorem dX1_clear_8 : decode cX1_clear 8 = .ok (.aload_n 0, 1) := by decide +kernel
theorem dX1_clear_9 : decode cX1_clear 9 = .ok (.getfield 9, 3) := by decide +kernel
theorem dX1_clear_12 : decode cX1_clear 12 = .ok (.iload_n 1, 1) := by decide +kernel
theorem dX1_clear_13 : decode cX1_clear 13 = .ok (.iconst 0, 1) := by decide +kernel
theorem dX1_clear_14 : decode cX1_clear 14 = .ok (.iastore, 1) := by decide +kernel
theorem dX1_clear_15 : decode cX1_clear 15 = .ok (.aload_n 0, 1) := by decide +kernel
theorem dX1_clear_16 : decode cX1_clear 16 = .ok (.getfield 15, 3) := by decide +kernel
theorem dX1_clear_19 : decode cX1_clear 19 = .ok (.iload_n 1, 1) := by decide +kernel
theorem dX1_clear_20 : decode cX1_clear 20 = .ok (.iconst 0, 1) := by decide +kernel
theorem dX1_clear_21 : decode cX1_clear 21 = .ok (.iastore, 1) := by decide +kernel
theorem dX1_clear_22 : decode cX1_clear 22 = .ok (.aload_n 0, 1) := by decide +kernel
theorem dX1_clear_23 : decode cX1_clear 23 = .ok (.getfield 18, 3) := by decide +kernel
theorem dX1_clear_26 : decode cX1_clear 26 = .ok (.iload_n 1, 1) := by decide +kernel
theorem dX1_clear_27 : decode cX1_clear 27 = .ok (.iconst 0, 1) := by decide +kernel
theorem dX1_clear_28 : decode cX1_clear 28 = .ok (.iastore, 1) := by decide +kernel
theorem dX1_clear_29 : decode cX1_clear 29 = .ok (.aload_n 0, 1) := by decide +kernel
theorem dX1_clear_30 : decode cX1_clear 30 = .ok (.getfield 21, 3) := by decide +kernel
theorem dX1_clear_33 : decode cX1_clear 33 = .ok (.iload_n 1, 1) := by decide +kernel
theorem dX1_clear_34 : decode cX1_clear 34 = .ok (.iconst 0, 1) := by decide +kernel
theorem dX1_clear_35 : decode cX1_clear 35 = .ok (.bastore, 1) := by decide +kernel
theorem dX1_clear_36 : decode cX1_clear 36 = .ok (.iinc 1 1, 3) := by decide +kernel
theorem dX1_clear_39 : decode cX1_clear 39 = .ok (.goto (-37), 3) := by decide +kernel
theorem dX1_clear_42 : decode cX1_clear 42 = .ok (.aload_n 0, 1) := by decide +kernel
theorem dX1_clear_43 : decode cX1_clear 43 = .ok (.iconst 0, 1) := by decide +kernel
theorem dX1_clear_44 : decode cX1_clear 44 = .ok (.putfield 31, 3) := by decide +kernel
theorem dX1_clear_47 : decode cX1_clear 47 = .ok (.aload_n 0, 1) := by decide +kernel
theorem dX1_clear_48 : decode cX1_clear 48 = .ok (.iconst 0, 1) := by decide +kernel
theorem dX1_clear_49 : decode cX1_clear 49 = .ok (.putfield 35, 3) := by decide +kernel
theorem dX1_clear_52 : decode cX1_clear 52 = .ok (.return_, 1) := by decide +kernel
theorem dX1_copyFrom_0 : decode cX1_copyFrom 0 = .ok (.iconst 0, 1) := by decide +kernel
theorem dX1_copyFrom_1 : decode cX1_copyFrom 1 = .ok (.istore_n 2, 1) := by decide +kernel
theorem dX1_copyFrom_2 : decode cX1_copyFrom 2 = .ok (.iload_n 2, 1) := by decide +kernel
theorem dX1_copyFrom_3 : decode cX1_copyFrom 3 = .ok (.bipush 6, 2) := by decide +kernel
theorem dX1_copyFrom_5 : decode cX1_copyFrom 5 = .ok (.if_icmp .ge 57, 3) := by decide +kernel
theorem dX1_copyFrom_8 : decode cX1_copyFrom 8 = .ok (.aload_n 0, 1) := by decide +kernel
theorem dX1_copyFrom_9 : decode cX1_copyFrom 9 = .ok (.getfield 9, 3) := by decide +kernel
theorem dX1_copyFrom_12 : decode cX1_copyFrom 12 = .ok (.iload_n 2, 1) := by decide +kernel
theorem dX1_copyFrom_13 : decode cX1_copyFrom 13 = .ok (.aload_n 1, 1) := by decide +kernel
theorem dX1_copyFrom_14 : decode cX1_copyFrom 14 = .ok (.getfield 9, 3) := by decide +kernel
theorem dX1_copyFrom_17 : decode cX1_copyFrom 17 = .ok (.iload_n 2, 1) := by decide +kernel
theorem dX1_copyFrom_18 : decode cX1_copyFrom 18 = .ok (.iaload, 1) := by decide +kernel
theorem dX1_copyFrom_19 : decode cX1_copyFrom 19 = .ok (.iastore, 1) := by decide +kernel
theorem dX1_copyFrom_20 : decode cX1_copyFrom 20 = .ok (.aload_n 0, 1) := by decide +kernel
theorem dX1_copyFrom_21 : decode cX1_copyFrom 21 = .ok (.getfield 15, 3) := by decide +kernel
theorem dX1_copyFrom_24 : decode cX1_copyFrom 24 = .ok (.iload_n 2, 1) := by decide +kernel
theorem dX1_copyFrom_25 : decode cX1_copyFrom 25 = .ok (.aload_n 1, 1) := by decide +kernel
theorem dX1_copyFrom_26 : decode cX1_copyFrom 26 = .ok (.getfield 15, 3) := by decide +kernel
theorem dX1_copyFrom_29 : decode cX1_copyFrom 29 = .ok (.iload_n 2, 1) := by decide +kernel
theorem dX1_copyFrom_30 : decode cX1_copyFrom 30 = .ok (.iaload, 1) := by decide +kernel
theorem dX1_copyFrom_31 : decode cX1_copyFrom 31 = .ok (.iastore, 1) := by decide +kernel
theorem dX1_copyFrom_32 : decode cX1_copyFrom 32 = .ok (.aload_n 0, 1) := by decide +kernel
theorem dX1_copyFrom_33 : decode cX1_copyFrom 33 = .ok (.getfield 18, 3) := by decide +kernel
theorem dX1_copyFrom_36 : decode cX1_copyFrom 36 = .ok (.iload_n 2, 1) := by decide +kernel
theorem dX1_copyFrom_37 : decode cX1_copyFrom 37 = .ok (.aload_n 1, 1) := by decide +kernel
theorem dX1_copyFrom_38 : decode cX1_copyFrom 38 = .ok (.getfield 18, 3) := by decide +kernel
theorem dX1_copyFrom_41 : decode cX1_copyFrom 41 = .ok (.iload_n 2, 1) := by decide +kernel
theorem dX1_copyFrom_42 : decode cX1_copyFrom 42 = .ok (.iaload, 1) := by decide +kernel
theorem dX1_copyFrom_43 : decode cX1_copyFrom 43 = .ok (.iastore, 1) := by decide +kernel
theorem dX1_copyFrom_44 : decode cX1_copyFrom 44 = .ok (.aload_n 0, 1) := by decide +kernel
theorem dX1_copyFrom_45 : decode cX1_copyFrom 45 = .ok (.getfield 21, 3) := by decide +kernel
theorem dX1_copyFrom_48 : decode cX1_copyFrom 48 = .ok (.iload_n 2, 1) := by decide +kernel
theorem dX1_copyFrom_49 : decode cX1_copyFrom 49 = .ok (.aload_n 1, 1) := by decide +kernel
theorem dX1_copyFrom_50 : decode cX1_copyFrom 50 = .ok (.getfield 21, 3) := by decide +kernel
theorem dX1_copyFrom_53 : decode cX1_copyFrom 53 = .ok (.iload_n 2, 1) := by decide +kernel
theorem dX1_copyFrom_54 : decode cX1_copyFrom 54 = .ok (.baload, 1) := by decide +kernel
theorem dX1_copyFrom_55 : decode cX1_copyFrom 55 = .ok (.bastore, 1) := by decide +kernel
theorem dX1_copyFrom_56 : decode cX1_copyFrom 56 = .ok (.iinc 2 1, 3) := by decide +kernel
theorem dX1_copyFrom_59 : decode cX1_copyFrom 59 = .ok (.goto (-57), 3) := by decide +kernel
theorem dX1_copyFrom_62 : decode cX1_copyFrom 62 = .ok (.aload_n 0, 1) := by decide +kernel
theorem dX1_copyFrom_63 : decode cX1_copyFrom 63 = .ok (.aload_n 1, 1) := by decide +kernel
theorem dX1_copyFrom_64 : decode cX1_copyFrom 64 = .ok (.getfield 31, 3) := by decide +kernel
theorem dX1_copyFrom_67 : decode cX1_copyFrom 67 = .ok (.putfield 31, 3) := by decide +kernel
theorem dX1_copyFrom_70 : decode cX1_copyFrom 70 = .ok (.aload_n 0, 1) := by decide +kernel
theorem dX1_copyFrom_71 : decode cX1_copyFrom 71 = .ok (.aload_n 1, 1) := by decide +kernel
theorem dX1_copyFrom_72 : decode cX1_copyFrom 72 = .ok (.getfield 35, 3) := by decide +kernel
theorem dX1_copyFrom_75 : decode cX1_copyFrom 75 = .ok (.putfield 35, 3) := by decide +kernel
theorem dX1_copyFrom_78 : decode cX1_copyFrom 78 = .ok (.return_, 1) := by decide +kernel
set_option maxRecDepth 20000 in
theorem ggX2_init_X0_init : GoodIn wsX2_init wsX0_init := goodIn_r _ [10, 11, 2, 3, 12, 13, 14, 15, 16, 17, 18, 19, 20, 21, 22, 23, 24, 25, 26, 27, 28, 29, 30, 31, 32, 33, 34, 35] (by decide +kernel) (by decide +kernel)
set_option maxRecDepth 20000 in
theorem gX2_init_X0_init_n9 : GoodIn wsX2_init (wsX0_init) := ggX2_init_X0_init
theorem dX2_init_0 : decode cX2_init 0 = .ok (.aload_n 0, 1) := by decide +kernel
theorem dX2_init_1 : decode cX2_init 1 = .ok (.invokespecial 1, 3) := by decide +kernel
theorem dX2_init_4 : decode cX2_init 4 = .ok (.aload_n 0, 1) := by decide +kernel
theorem dX2_init_5 : decode cX2_init 5 = .ok (.new 7, 3) := by decide +kernel
theorem dX2_init_8 : decode cX2_init 8 = .ok (.dup, 1) := by decide +kernel
theorem dX2_init_9 : decode cX2_init 9 = .ok (.invokespecial 9, 3) := by decide +kernel
theorem dX2_init_12 : decode cX2_init 12 = .ok (.putfield 10, 3) := by decide +kernel
theorem dX2_init_15 : decode cX2_init 15 = .ok (.aload_n 0, 1) := by decide +kernel
theorem dX2_init_16 : decode cX2_init 16 = .ok (.new 7, 3) := by decide +kernel
theorem dX2_init_19 : decode cX2_init 19 = .ok (.dup, 1) := by decide +kernel
theorem dX2_init_20 : decode cX2_init 20 = .ok (.invokespecial 9, 3) := by decide +kernel
theorem dX2_init_23 : decode cX2_init 23 = .ok (.putfield 16, 3) := by decide +kernel
theorem dX2_init_26 : decode cX2_init 26 = .ok (.return_, 1) := by decide +kernel
set_option maxRecDepth 20000 in
theorem ggX2_arrange_X0_arrange : GoodIn wsX2_arrange wsX0_arrange := goodIn_r _ [8, 9, 10, 11, 12, 13, 14, 15, 16, 7, 17, 18, 19, 20, 21, 22, 23, 24, 25, 26, 27, 28, 29, 30, 31, 32, 33, 34, 35, 36, 37, 38, 39, 40, 41, 42, 43, 44, 45, 46, 47, 48, 49, 50, 51, 52, 53, 54, 55, 56, 57, 58, 59, 60, 61, 62, 63, 64, 65, 66, 67, 68, 69, 70, 71, 72, 73, 77, 78, 79, 80, 81, 82, 83, 84, 85, 86, 87, 88, 89, 90, 91, 92, 93, 94, 95, 96, 97, 98, 99, 100, 101, 102, 103, 104, 105, 106, 107] (by decide +kernel) (by decide +kernel)
set_option maxRecDepth 20000 in
theorem gX2_arrange_X0_arrange : GoodIn wsX2_arrange (wsV RX2 19 RX0 yX0_arrange wsX0_arrange) := goodIn_app (goodIn_of _ (by decide +kernel)) ggX2_arrange_X0_arrange
theorem dX2_arrange_0 : decode cX2_arrange 0 = .ok (.aload_n 0, 1) := by decide +kernel
theorem dX2_arrange_1 : decode cX2_arrange 1 = .ok (.getfield 10, 3) := by decide +kernel
theorem dX2_arrange_4 : decode cX2_arrange 4 = .ok (.aload_n 1, 1) := by decide +kernel
theorem dX2_arrange_5 : decode cX2_arrange 5 = .ok (.iload_n 2, 1) := by decide +kernel
theorem dX2_arrange_6 : decode cX2_arrange 6 = .ok (.iload_n 3, 1) := by decide +kernel
theorem dX2_arrange_7 : decode cX2_arrange 7 = .ok (.invokevirtual 19, 3) := by decide +kernel
theorem dX2_arrange_10 : decode cX2_arrange 10 = .ok (.aload_n 0, 1) := by decide +kernel
theorem dX2_arrange_11 : decode cX2_arrange 11 = .ok (.getfield 16, 3) := by decide +kernel
theorem dX2_arrange_14 : decode cX2_arrange 14 = .ok (.aload_n 1, 1) := by decide +kernel
theorem dX2_arrange_15 : decode cX2_arrange 15 = .ok (.iload_n 3, 1) := by decide +kernel
theorem dX2_arrange_16 : decode cX2_arrange 16 = .ok (.iload_n 2, 1) := by decide +kernel
theorem dX2_arrange_17 : decode cX2_arrange 17 = .ok (.invokevirtual 19, 3) := by decide +kernel
theorem dX2_arrange_20 : decode cX2_arrange 20 = .ok (.aload_n 0, 1) := by decide +kernel
theorem dX2_arrange_21 : decode cX2_arrange 21 = .ok (.getfield 10, 3) := by decide +kernel
theorem dX2_arrange_24 : decode cX2_arrange 24 = .ok (.getfield 23, 3) := by decide +kernel
theorem dX2_arrange_27 : decode cX2_arrange 27 = .ok (.ifCond .eq 34, 3) := by decide +kernel
theorem dX2_arrange_30 : decode cX2_arrange 30 = .ok (.aload_n 0, 1) := by decide +kernel
theorem dX2_arrange_31 : decode cX2_arrange 31 = .ok (.getfield 16, 3) := by decide +kernel
theorem dX2_arrange_34 : decode cX2_arrange 34 = .ok (.getfield 23, 3) := by decide +kernel
theorem dX2_arrange_37 : decode cX2_arrange 37 = .ok (.ifCond .eq 20, 3) := by decide +kernel
theorem dX2_arrange_40 : decode cX2_arrange 40 = .ok (.aload_n 0, 1) := by decide +kernel
theorem dX2_arrange_41 : decode cX2_arrange 41 = .ok (.getfield 10, 3) := by decide +kernel
theorem dX2_arrange_44 : decode cX2_arrange 44 = .ok (.getfield 27, 3) := by decide +kernel
theorem dX2_arrange_47 : decode cX2_arrange 47 = .ok (.aload_n 0, 1) := by decide +kernel
theorem dX2_arrange_48 : decode cX2_arrange 48 = .ok (.getfield 16, 3) := by decide +kernel
theorem dX2_arrange_51 : decode cX2_arrange 51 = .ok (.getfield 27, 3) := by decide +kernel
theorem dX2_arrange_54 : decode cX2_arrange 54 = .ok (.if_icmp .gt 7, 3) := by decide +kernel
theorem dX2_arrange_57 : decode cX2_arrange 57 = .ok (.iconst 1, 1) := by decide +kernel
theorem dX2_arrange_58 : decode cX2_arrange 58 = .ok (.goto 4, 3) := by decide +kernel
theorem dX2_arrange_61 : decode cX2_arrange 61 = .ok (.iconst 0, 1) := by decide +kernel
theorem dX2_arrange_62 : decode cX2_arrange 62 = .ok (.istore 4, 2) := by decide +kernel
theorem dX2_arrange_64 : decode cX2_arrange 64 = .ok (.aload_n 0, 1) := by decide +kernel
theorem dX2_arrange_65 : decode cX2_arrange 65 = .ok (.aload_n 0, 1) := by decide +kernel
theorem dX2_arrange_66 : decode cX2_arrange 66 = .ok (.getfield 16, 3) := by decide +kernel
theorem dX2_arrange_69 : decode cX2_arrange 69 = .ok (.getfield 23, 3) := by decide +kernel
theorem dX2_arrange_72 : decode cX2_arrange 72 = .ok (.ifCond .eq 12, 3) := by decide +kernel
theorem dX2_arrange_75 : decode cX2_arrange 75 = .ok (.iload 4, 2) := by decide +kernel
theorem dX2_arrange_77 : decode cX2_arrange 77 = .ok (.ifCond .ne 7, 3) := by decide +kernel
theorem dX2_arrange_80 : decode cX2_arrange 80 = .ok (.iconst 1, 1) := by decide +kernel
theorem dX2_arrange_81 : decode cX2_arrange 81 = .ok (.goto 4, 3) := by decide +kernel
theorem dX2_arrange_84 : decode cX2_arrange 84 = .ok (.iconst 0, 1) := by decide +kernel
theorem dX2_arrange_85 : decode cX2_arrange 85 = .ok (.putfield 31, 3) := by decide +kernel
theorem dX2_arrange_88 : decode cX2_arrange 88 = .ok (.return_, 1) := by decide +kernel
theorem dX2_chosen_0 : decode cX2_chosen 0 = .ok (.aload_n 0, 1) := by decide +kernel
theorem dX2_chosen_1 : decode cX2_chosen 1 = .ok (.getfield 31, 3) := by decide +kernel
theorem dX2_chosen_4 : decode cX2_chosen 4 = .ok (.ifCond .eq 10, 3) := by decide +kernel
theorem dX2_chosen_7 : decode cX2_chosen 7 = .ok (.aload_n 0, 1) := by decide +kernel
theorem dX2_chosen_8 : decode cX2_chosen 8 = .ok (.getfield 16, 3) := by decide +kernel
theorem dX2_chosen_11 : decode cX2_chosen 11 = .ok (.goto 7, 3) := by decide +kernel
theorem dX2_chosen_14 : decode cX2_chosen 14 = .ok (.aload_n 0, 1) := by decide +kernel
theorem dX2_chosen_15 : decode cX2_chosen 15 = .ok (.getfield 10, 3) := by decide +kernel
theorem dX2_chosen_18 : decode cX2_chosen 18 = .ok (.areturn, 1) := by decide +kernel
set_option maxRecDepth 20000 in
theorem ggX3_init_X1_init : GoodIn wsX3_init wsX1_init := goodIn_r _ [16, 17, 2, 3, 4, 18, 19, 20, 21, 22, 23, 24, 34, 35, 36, 37, 38, 39, 40, 41] (by decide +kernel) (by decide +kernel)
set_option maxRecDepth 20000 in
theorem gX3_init_X1_init_n36 : GoodIn wsX3_init (wsX1_init) := ggX3_init_X1_init
theorem dX3_init_0 : decode cX3_init 0 = .ok (.aload_n 0, 1) := by decide +kernel
theorem dX3_init_1 : decode cX3_init 1 = .ok (.invokespecial 3, 3) := by decide +kernel
theorem dX3_init_4 : decode cX3_init 4 = .ok (.aload_n 0, 1) := by decide +kernel
theorem dX3_init_5 : decode cX3_init 5 = .ok (.bipush 6, 2) := by decide +kernel
theorem dX3_init_7 : decode cX3_init 7 = .ok (.newarray .int, 2) := by decide +kernel
theorem dX3_init_9 : decode cX3_init 9 = .ok (.putfield 9, 3) := by decide +kernel
theorem dX3_init_12 : decode cX3_init 12 = .ok (.aload_n 0, 1) := by decide +kernel
theorem dX3_init_13 : decode cX3_init 13 = .ok (.bipush 6, 2) := by decide +kernel
theorem dX3_init_15 : decode cX3_init 15 = .ok (.newarray .int, 2) := by decide +kernel
theorem dX3_init_17 : decode cX3_init 17 = .ok (.putfield 15, 3) := by decide +kernel
theorem dX3_init_20 : decode cX3_init 20 = .ok (.aload_n 0, 1) := by decide +kernel
theorem dX3_init_21 : decode cX3_init 21 = .ok (.bipush 6, 2) := by decide +kernel
theorem dX3_init_23 : decode cX3_init 23 = .ok (.newarray .int, 2) := by decide +kernel
theorem dX3_init_25 : decode cX3_init 25 = .ok (.putfield 18, 3) := by decide +kernel
theorem dX3_init_28 : decode cX3_init 28 = .ok (.aload_n 0, 1) := by decide +kernel
theorem dX3_init_29 : decode cX3_init 29 = .ok (.bipush 6, 2) := by decide +kernel
theorem dX3_init_31 : decode cX3_init 31 = .ok (.newarray .int, 2) := by decide +kernel
theorem dX3_init_33 : decode cX3_init 33 = .ok (.putfield 21, 3) := by decide +kernel
theorem dX3_init_36 : decode cX3_init 36 = .ok (.aload_n 0, 1) := by decide +kernel
theorem dX3_init_37 : decode cX3_init 37 = .ok (.bipush 30, 2) := by decide +kernel
theorem dX3_init_39 : decode cX3_init 39 = .ok (.anewarray 24, 3) := by decide +kernel
theorem dX3_init_42 : decode cX3_init 42 = .ok (.putfield 26, 3) := by decide +kernel
theorem dX3_init_45 : decode cX3_init 45 = .ok (.aload_n 0, 1) := by decide +kernel
theorem dX3_init_46 : decode cX3_init 46 = .ok (.bipush 6, 2) := by decide +kernel
theorem dX3_init_48 : decode cX3_init 48 = .ok (.newarray .int, 2) := by decide +kernel
theorem dX3_init_50 : decode cX3_init 50 = .ok (.putfield 30, 3) := by decide +kernel
theorem dX3_init_53 : decode cX3_init 53 = .ok (.aload_n 0, 1) := by decide +kernel
theorem dX3_init_54 : decode cX3_init 54 = .ok (.bipush 6, 2) := by decide +kernel
theorem dX3_init_56 : decode cX3_init 56 = .ok (.newarray .int, 2) := by decide +kernel
theorem dX3_init_58 : decode cX3_init 58 = .ok (.putfield 33, 3) := by decide +kernel
theorem dX3_init_61 : decode cX3_init 61 = .ok (.iconst 0, 1) := by decide +kernel
theorem dX3_init_62 : decode cX3_init 62 = .ok (.istore_n 1, 1) := by decide +kernel
theorem dX3_init_63 : decode cX3_init 63 = .ok (.iload_n 1, 1) := by decide +kernel
theorem dX3_init_64 : decode cX3_init 64 = .ok (.bipush 30, 2) := by decide +kernel
theorem dX3_init_66 : decode cX3_init 66 = .ok (.if_icmp .ge 22, 3) := by decide +kernel
theorem dX3_init_69 : decode cX3_init 69 = .ok (.aload_n 0, 1) := by decide +kernel
theorem dX3_init_70 : decode cX3_init 70 = .ok (.getfield 26, 3) := by decide +kernel
theorem dX3_init_73 : decode cX3_init 73 = .ok (.iload_n 1, 1) := by decide +kernel
theorem dX3_init_74 : decode cX3_init 74 = .ok (.new 24, 3) := by decide +kernel
theorem dX3_init_77 : decode cX3_init 77 = .ok (.dup, 1) := by decide +kernel
theorem dX3_init_78 : decode cX3_init 78 = .ok (.invokespecial 36, 3) := by decide +kernel
theorem dX3_init_81 : decode cX3_init 81 = .ok (.aastore, 1) := by decide +kernel
theorem dX3_init_82 : decode cX3_init 82 = .ok (.iinc 1 1, 3) := by decide +kernel
theorem dX3_init_85 : decode cX3_init 85 = .ok (.goto (-22), 3) := by decide +kernel
theorem dX3_init_88 : decode cX3_init 88 = .ok (.return_, 1) := by decide +kernel
theorem dX3_addColumn_0 : decode cX3_addColumn 0 = .ok (.aload_n 0, 1) := by decide +kernel
theorem dX3_addColumn_1 : decode cX3_addColumn 1 = .ok (.getfield 37, 3) := by decide +kernel
theorem dX3_addColumn_4 : decode cX3_addColumn 4 = .ok (.istore_n 3, 1) := by decide +kernel
theorem dX3_addColumn_5 : decode cX3_addColumn 5 = .ok (.aload_n 0, 1) := by decide +kernel
theorem dX3_addColumn_6 : decode cX3_addColumn 6 = .ok (.getfield 9, 3) := by decide +kernel
theorem dX3_addColumn_9 : decode cX3_addColumn 9 = .ok (.iload_n 3, 1) := by decide +kernel
theorem dX3_addColumn_10 : decode cX3_addColumn 10 = .ok (.iload_n 1, 1) := by decide +kernel
theorem dX3_addColumn_11 : decode cX3_addColumn 11 = .ok (.iastore, 1) := by decide +kernel
theorem dX3_addColumn_12 : decode cX3_addColumn 12 = .ok (.aload_n 0, 1) := by decide +kernel
theorem dX3_addColumn_13 : decode cX3_addColumn 13 = .ok (.getfield 15, 3) := by decide +kernel
theorem dX3_addColumn_16 : decode cX3_addColumn 16 = .ok (.iload_n 3, 1) := by decide +kernel
theorem dX3_addColumn_17 : decode cX3_addColumn 17 = .ok (.iload_n 2, 1) := by decide +kernel
theorem dX3_addColumn_18 : decode cX3_addColumn 18 = .ok (.iastore, 1) := by decide +kernel
theorem dX3_addColumn_19 : decode cX3_addColumn 19 = .ok (.aload_n 0, 1) := by decide +kernel
theorem dX3_addColumn_20 : decode cX3_addColumn 20 = .ok (.dup, 1) := by decide +kernel
theorem dX3_addColumn_21 : decode cX3_addColumn 21 = .ok (.getfield 37, 3) := by decide +kernel
theorem dX3_addColumn_24 : decode cX3_addColumn 24 = .ok (.iconst 1, 1) := by decide +kernel
theorem dX3_addColumn_25 : decode cX3_addColumn 25 = .ok (.iadd, 1) := by decide +kernel
theorem dX3_addColumn_26 : decode cX3_addColumn 26 = .ok (.putfield 37, 3) := by decide +kernel
theorem dX3_addColumn_29 : decode cX3_addColumn 29 = .ok (.iload_n 3, 1) := by decide +kernel
theorem dX3_addColumn_30 : decode cX3_addColumn 30 = .ok (.ireturn, 1) := by decide +kernel
set_option maxRecDepth 20000 in
theorem ggX3_addRow_X1_clear : GoodIn wsX3_addRow wsX1_clear := goodIn_r _ [7, 8, 9, 10, 11, 12, 13, 23, 24, 25, 26, 27, 28, 29, 30] (by decide +kernel) (by decide +kernel)
set_option maxRecDepth 20000 in
theorem gX3_addRow_X1_clear : GoodIn wsX3_addRow (wsV RX3 44 RX1 yX1_clear wsX1_clear) := goodIn_app (goodIn_of _ (by decide +kernel)) ggX3_addRow_X1_clear
theorem dX3_addRow_0 : decode cX3_addRow 0 = .ok (.aload_n 0, 1) := by decide +kernel
theorem dX3_addRow_1 : decode cX3_addRow 1 = .ok (.getfield 26, 3) := by decide +kernel
theorem dX3_addRow_4 : decode cX3_addRow 4 = .ok (.aload_n 0, 1) := by decide +kernel
theorem dX3_addRow_5 : decode cX3_addRow 5 = .ok (.getfield 41, 3) := by decide +kernel
theorem dX3_addRow_8 : decode cX3_addRow 8 = .ok (.aaload, 1) := by decide +kernel
theorem dX3_addRow_9 : decode cX3_addRow 9 = .ok (.invokevirtual 44, 3) := by decide +kernel
theorem dX3_addRow_12 : decode cX3_addRow 12 = .ok (.aload_n 0, 1) := by decide +kernel
theorem dX3_addRow_13 : decode cX3_addRow 13 = .ok (.dup, 1) := by decide +kernel
theorem dX3_addRow_14 : decode cX3_addRow 14 = .ok (.getfield 41, 3) := by decide +kernel
theorem dX3_addRow_17 : decode cX3_addRow 17 = .ok (.iconst 1, 1) := by decide +kernel
theorem dX3_addRow_18 : decode cX3_addRow 18 = .ok (.iadd, 1) := by decide +kernel
theorem dX3_addRow_19 : decode cX3_addRow 19 = .ok (.putfield 41, 3) := by decide +kernel
theorem dX3_addRow_22 : decode cX3_addRow 22 = .ok (.aload_n 0, 1) := by decide +kernel
theorem dX3_addRow_23 : decode cX3_addRow 23 = .ok (.getfield 41, 3) := by decide +kernel
theorem dX3_addRow_26 : decode cX3_addRow 26 = .ok (.iconst 1, 1) := by decide +kernel
theorem dX3_addRow_27 : decode cX3_addRow 27 = .ok (.isub, 1) := by decide +kernel
theorem dX3_addRow_28 : decode cX3_addRow 28 = .ok (.ireturn, 1) := by decide +kernel
set_option maxRecDepth 20000 in
theorem ggX3_copyFrom_X1_copyFrom : GoodIn wsX3_copyFrom wsX1_copyFrom := goodIn_r _ [12, 13, 14, 15, 16, 17, 18, 28, 29, 30, 31, 32, 33, 34, 35] (by decide +kernel) (by decide +kernel)
set_option maxRecDepth 20000 in
theorem gX3_copyFrom_X1_copyFrom : GoodIn wsX3_copyFrom (wsV RX3 47 RX1 yX1_copyFrom wsX1_copyFrom) := goodIn_app (goodIn_of _ (by decide +kernel)) ggX3_copyFrom_X1_copyFrom
theorem dX3_copyFrom_0 : decode cX3_copyFrom 0 = .ok (.aload_n 0, 1) := by decide +kernel
theorem dX3_copyFrom_1 : decode cX3_copyFrom 1 = .ok (.aload_n 1, 1) := by decide +kernel
theorem dX3_copyFrom_2 : decode cX3_copyFrom 2 = .ok (.getfield 37, 3) := by decide +kernel
theorem dX3_copyFrom_5 : decode cX3_copyFrom 5 = .ok (.putfield 37, 3) := by decide +kernel
theorem dX3_copyFrom_8 : decode cX3_copyFrom 8 = .ok (.iconst 0, 1) := by decide +kernel
theorem dX3_copyFrom_9 : decode cX3_copyFrom 9 = .ok (.istore_n 2, 1) := by decide +kernel
theorem dX3_copyFrom_10 : decode cX3_copyFrom 10 = .ok (.iload_n 2, 1) := by decide +kernel
theorem dX3_copyFrom_11 : decode cX3_copyFrom 11 = .ok (.aload_n 0, 1) := by decide +kernel
theorem dX3_copyFrom_12 : decode cX3_copyFrom 12 = .ok (.getfield 37, 3) := by decide +kernel
theorem dX3_copyFrom_15 : decode cX3_copyFrom 15 = .ok (.if_icmp .ge 57, 3) := by decide +kernel
theorem dX3_copyFrom_18 : decode cX3_copyFrom 18 = .ok (.aload_n 0, 1) := by decide +kernel
theorem dX3_copyFrom_19 : decode cX3_copyFrom 19 = .ok (.getfield 9, 3) := by decide +kernel
theorem dX3_copyFrom_22 : decode cX3_copyFrom 22 = .ok (.iload_n 2, 1) := by decide +kernel
theorem dX3_copyFrom_23 : decode cX3_copyFrom 23 = .ok (.aload_n 1, 1) := by decide +kernel
theorem dX3_copyFrom_24 : decode cX3_copyFrom 24 = .ok (.getfield 9, 3) := by decide +kernel
theorem dX3_copyFrom_27 : decode cX3_copyFrom 27 = .ok (.iload_n 2, 1) := by decide +kernel
theorem dX3_copyFrom_28 : decode cX3_copyFrom 28 = .ok (.iaload, 1) := by decide +kernel
theorem dX3_copyFrom_29 : decode cX3_copyFrom 29 = .ok (.iastore, 1) := by decide +kernel
theorem dX3_copyFrom_30 : decode cX3_copyFrom 30 = .ok (.aload_n 0, 1) := by decide +kernel
theorem dX3_copyFrom_31 : decode cX3_copyFrom 31 = .ok (.getfield 15, 3) := by decide +kernel
theorem dX3_copyFrom_34 : decode cX3_copyFrom 34 = .ok (.iload_n 2, 1) := by decide +kernel
theorem dX3_copyFrom_35 : decode cX3_copyFrom 35 = .ok (.aload_n 1, 1) := by decide +kernel
theorem dX3_copyFrom_36 : decode cX3_copyFrom 36 = .ok (.getfield 15, 3) := by decide +kernel
theorem dX3_copyFrom_39 : decode cX3_copyFrom 39 = .ok (.iload_n 2, 1) := by decide +kernel
theorem dX3_copyFrom_40 : decode cX3_copyFrom 40 = .ok (.iaload, 1) := by decide +kernel
theorem dX3_copyFrom_41 : decode cX3_copyFrom 41 = .ok (.iastore, 1) := by decide +kernel
theorem dX3_copyFrom_42 : decode cX3_copyFrom 42 = .ok (.aload_n 0, 1) := by decide +kernel
theorem dX3_copyFrom_43 : decode cX3_copyFrom 43 = .ok (.getfield 18, 3) := by decide +kernel
theorem dX3_copyFrom_46 : decode cX3_copyFrom 46 = .ok (.iload_n 2, 1) := by decide +kernel
theorem dX3_copyFrom_47 : decode cX3_copyFrom 47 = .ok (.aload_n 1, 1) := by decide +kernel
theorem dX3_copyFrom_48 : decode cX3_copyFrom 48 = .ok (.getfield 18, 3) := by decide +kernel
theorem dX3_copyFrom_51 : decode cX3_copyFrom 51 = .ok (.iload_n 2, 1) := by decide +kernel
theorem dX3_copyFrom_52 : decode cX3_copyFrom 52 = .ok (.iaload, 1) := by decide +kernel
theorem dX3_copyFrom_53 : decode cX3_copyFrom 53 = .ok (.iastore, 1) := by decide +kernel
theorem dX3_copyFrom_54 : decode cX3_copyFrom 54 = .ok (.aload_n 0, 1) := by decide +kernel
theorem dX3_copyFrom_55 : decode cX3_copyFrom 55 = .ok (.getfield 21, 3) := by decide +kernel
theorem dX3_copyFrom_58 : decode cX3_copyFrom 58 = .ok (.iload_n 2, 1) := by decide +kernel
theorem dX3_copyFrom_59 : decode cX3_copyFrom 59 = .ok (.aload_n 1, 1) := by decide +kernel
theorem dX3_copyFrom_60 : decode cX3_copyFrom 60 = .ok (.getfield 21, 3) := by decide +kernel
theorem dX3_copyFrom_63 : decode cX3_copyFrom 63 = .ok (.iload_n 2, 1) := by decide +kernel
theorem dX3_copyFrom_64 : decode cX3_copyFrom 64 = .ok (.iaload, 1) := by decide +kernel
theorem dX3_copyFrom_65 : decode cX3_copyFrom 65 = .ok (.iastore, 1) := by decide +kernel
theorem dX3_copyFrom_66 : decode cX3_copyFrom 66 = .ok (.iinc 2 1, 3) := by decide +kernel
theorem dX3_copyFrom_69 : decode cX3_copyFrom 69 = .ok (.goto (-59), 3) := by decide +kernel
theorem dX3_copyFrom_72 : decode cX3_copyFrom 72 = .ok (.aload_n 0, 1) := by decide +kernel
theorem dX3_copyFrom_73 : decode cX3_copyFrom 73 = .ok (.aload_n 1, 1) := by decide +kernel
theorem dX3_copyFrom_74 : decode cX3_copyFrom 74 = .ok (.getfield 41, 3) := by decide +kernel
theorem dX3_copyFrom_77 : decode cX3_copyFrom 77 = .ok (.putfield 41, 3) := by decide +kernel
theorem dX3_copyFrom_80 : decode cX3_copyFrom 80 = .ok (.iconst 0, 1) := by decide +kernel
theorem dX3_copyFrom_81 : decode cX3_copyFrom 81 = .ok (.istore_n 2, 1) := by decide +kernel
theorem dX3_copyFrom_82 : decode cX3_copyFrom 82 = .ok (.iload_n 2, 1) := by decide +kernel
theorem dX3_copyFrom_83 : decode cX3_copyFrom 83 = .ok (.aload_n 0, 1) := by decide +kernel
theorem dX3_copyFrom_84 : decode cX3_copyFrom 84 = .ok (.getfield 41, 3) := by decide +kernel
theorem dX3_copyFrom_87 : decode cX3_copyFrom 87 = .ok (.if_icmp .ge 24, 3) := by decide +kernel
theorem dX3_copyFrom_90 : decode cX3_copyFrom 90 = .ok (.aload_n 0, 1) := by decide +kernel
theorem dX3_copyFrom_91 : decode cX3_copyFrom 91 = .ok (.getfield 26, 3) := by decide +kernel
theorem dX3_copyFrom_94 : decode cX3_copyFrom 94 = .ok (.iload_n 2, 1) := by decide +kernel
theorem dX3_copyFrom_95 : decode cX3_copyFrom 95 = .ok (.aaload, 1) := by decide +kernel
theorem dX3_copyFrom_96 : decode cX3_copyFrom 96 = .ok (.aload_n 1, 1) := by decide +kernel
theorem dX3_copyFrom_97 : decode cX3_copyFrom 97 = .ok (.getfield 26, 3) := by decide +kernel
theorem dX3_copyFrom_100 : decode cX3_copyFrom 100 = .ok (.iload_n 2, 1) := by decide +kernel
theorem dX3_copyFrom_101 : decode cX3_copyFrom 101 = .ok (.aaload, 1) := by decide +kernel
theorem dX3_copyFrom_102 : decode cX3_copyFrom 102 = .ok (.invokevirtual 47, 3) := by decide +kernel
theorem dX3_copyFrom_105 : decode cX3_copyFrom 105 = .ok (.iinc 2 1, 3) := by decide +kernel
theorem dX3_copyFrom_108 : decode cX3_copyFrom 108 = .ok (.goto (-26), 3) := by decide +kernel
theorem dX3_copyFrom_111 : decode cX3_copyFrom 111 = .ok (.return_, 1) := by decide +kernel
theorem dX3_sumUpTo_0 : decode cX3_sumUpTo 0 = .ok (.aload_n 0, 1) := by decide +kernel
theorem dX3_sumUpTo_1 : decode cX3_sumUpTo 1 = .ok (.getfield 9, 3) := by decide +kernel
theorem dX3_sumUpTo_4 : decode cX3_sumUpTo 4 = .ok (.iload_n 2, 1) := by decide +kernel
theorem dX3_sumUpTo_5 : decode cX3_sumUpTo 5 = .ok (.iaload, 1) := by decide +kernel
theorem dX3_sumUpTo_6 : decode cX3_sumUpTo 6 = .ok (.iconst 1, 1) := by decide +kernel
theorem dX3_sumUpTo_7 : decode cX3_sumUpTo 7 = .ok (.if_icmp .ne 5, 3) := by decide +kernel
theorem dX3_sumUpTo_10 : decode cX3_sumUpTo 10 = .ok (.iconst (-1), 1) := by decide +kernel
theorem dX3_sumUpTo_11 : decode cX3_sumUpTo 11 = .ok (.ireturn, 1) := by decide +kernel
theorem dX3_sumUpTo_12 : decode cX3_sumUpTo 12 = .ok (.iload_n 1, 1) := by decide +kernel
theorem dX3_sumUpTo_13 : decode cX3_sumUpTo 13 = .ok (.ifCond .ge 7, 3) := by decide +kernel
theorem dX3_sumUpTo_16 : decode cX3_sumUpTo 16 = .ok (.iconst 0, 1) := by decide +kernel
theorem dX3_sumUpTo_17 : decode cX3_sumUpTo 17 = .ok (.goto 14, 3) := by decide +kernel
theorem dX3_sumUpTo_20 : decode cX3_sumUpTo 20 = .ok (.aload_n 0, 1) := by decide +kernel
theorem dX3_sumUpTo_21 : decode cX3_sumUpTo 21 = .ok (.getfield 26, 3) := by decide +kernel
theorem dX3_sumUpTo_24 : decode cX3_sumUpTo 24 = .ok (.iload_n 1, 1) := by decide +kernel
theorem dX3_sumUpTo_25 : decode cX3_sumUpTo 25 = .ok (.aaload, 1) := by decide +kernel
theorem dX3_sumUpTo_26 : decode cX3_sumUpTo 26 = .ok (.getfield 51, 3) := by decide +kernel
theorem dX3_sumUpTo_29 : decode cX3_sumUpTo 29 = .ok (.iload_n 2, 1) := by decide +kernel
theorem dX3_sumUpTo_30 : decode cX3_sumUpTo 30 = .ok (.iaload, 1) := by decide +kernel
theorem dX3_sumUpTo_31 : decode cX3_sumUpTo 31 = .ok (.ireturn, 1) := by decide +kernel
theorem dX3_linesOfNotes_0 : decode cX3_linesOfNotes 0 = .ok (.iconst 0, 1) := by decide +kernel
theorem dX3_linesOfNotes_1 : decode cX3_linesOfNotes 1 = .ok (.istore_n 1, 1) := by decide +kernel
theorem dX3_linesOfNotes_2 : decode cX3_linesOfNotes 2 = .ok (.iconst 0, 1) := by decide +kernel
theorem dX3_linesOfNotes_3 : decode cX3_linesOfNotes 3 = .ok (.istore_n 2, 1) := by decide +kernel
theorem dX3_linesOfNotes_4 : decode cX3_linesOfNotes 4 = .ok (.iload_n 2, 1) := by decide +kernel
theorem dX3_linesOfNotes_5 : decode cX3_linesOfNotes 5 = .ok (.aload_n 0, 1) := by decide +kernel
theorem dX3_linesOfNotes_6 : decode cX3_linesOfNotes 6 = .ok (.getfield 41, 3) := by decide +kernel
theorem dX3_linesOfNotes_9 : decode cX3_linesOfNotes 9 = .ok (.if_icmp .ge 21, 3) := by decide +kernel
theorem dX3_linesOfNotes_12 : decode cX3_linesOfNotes 12 = .ok (.iload_n 1, 1) := by decide +kernel
theorem dX3_linesOfNotes_13 : decode cX3_linesOfNotes 13 = .ok (.aload_n 0, 1) := by decide +kernel
theorem dX3_linesOfNotes_14 : decode cX3_linesOfNotes 14 = .ok (.getfield 26, 3) := by decide +kernel
theorem dX3_linesOfNotes_17 : decode cX3_linesOfNotes 17 = .ok (.iload_n 2, 1) := by decide +kernel
theorem dX3_linesOfNotes_18 : decode cX3_linesOfNotes 18 = .ok (.aaload, 1) := by decide +kernel
theorem dX3_linesOfNotes_19 : decode cX3_linesOfNotes 19 = .ok (.getfield 54, 3) := by decide +kernel
theorem dX3_linesOfNotes_22 : decode cX3_linesOfNotes 22 = .ok (.iadd, 1) := by decide +kernel
theorem dX3_linesOfNotes_23 : decode cX3_linesOfNotes 23 = .ok (.istore_n 1, 1) := by decide +kernel
theorem dX3_linesOfNotes_24 : decode cX3_linesOfNotes 24 = .ok (.iinc 2 1, 3) := by decide +kernel
theorem dX3_linesOfNotes_27 : decode cX3_linesOfNotes 27 = .ok (.goto (-23), 3) := by decide +kernel
theorem dX3_linesOfNotes_30 : decode cX3_linesOfNotes 30 = .ok (.iload_n 1, 1) := by decide +kernel
theorem dX3_linesOfNotes_31 : decode cX3_linesOfNotes 31 = .ok (.ireturn, 1) := by decide +kernel
theorem dX3_isSpanning_0 : decode cX3_isSpanning 0 = .ok (.iload_n 2, 1) := by decide +kernel
theorem dX3_isSpanning_1 : decode cX3_isSpanning 1 = .ok (.iconst 1, 1) := by decide +kernel
theorem dX3_isSpanning_2 : decode cX3_isSpanning 2 = .ok (.iadd, 1) := by decide +kernel
theorem dX3_isSpanning_3 : decode cX3_isSpanning 3 = .ok (.aload_n 0, 1) := by decide +kernel
theorem dX3_isSpanning_4 : decode cX3_isSpanning 4 = .ok (.getfield 37, 3) := by decide +kernel
theorem dX3_isSpanning_7 : decode cX3_isSpanning 7 = .ok (.if_icmp .ge 23, 3) := by decide +kernel
theorem dX3_isSpanning_10 : decode cX3_isSpanning 10 = .ok (.aload_n 0, 1) := by decide +kernel
theorem dX3_isSpanning_11 : decode cX3_isSpanning 11 = .ok (.getfield 26, 3) := by decide +kernel
theorem dX3_isSpanning_14 : decode cX3_isSpanning 14 = .ok (.iload_n 1, 1) := by decide +kernel
theorem dX3_isSpanning_15 : decode cX3_isSpanning 15 = .ok (.aaload, 1) := by decide +kernel
theorem dX3_isSpanning_16 : decode cX3_isSpanning 16 = .ok (.getfield 57, 3) := by decide +kernel
theorem dX3_isSpanning_19 : decode cX3_isSpanning 19 = .ok (.iload_n 2, 1) := by decide +kernel
theorem dX3_isSpanning_20 : decode cX3_isSpanning 20 = .ok (.iconst 1, 1) := by decide +kernel
theorem dX3_isSpanning_21 : decode cX3_isSpanning 21 = .ok (.iadd, 1) := by decide +kernel
theorem dX3_isSpanning_22 : decode cX3_isSpanning 22 = .ok (.baload, 1) := by decide +kernel
theorem dX3_isSpanning_23 : decode cX3_isSpanning 23 = .ok (.ifCond .eq 7, 3) := by decide +kernel
theorem dX3_isSpanning_26 : decode cX3_isSpanning 26 = .ok (.iconst 1, 1) := by decide +kernel
theorem dX3_isSpanning_27 : decode cX3_isSpanning 27 = .ok (.goto 4, 3) := by decide +kernel
theorem dX3_isSpanning_30 : decode cX3_isSpanning 30 = .ok (.iconst 0, 1) := by decide +kernel
theorem dX3_isSpanning_31 : decode cX3_isSpanning 31 = .ok (.ireturn, 1) := by decide +kernel
set_option maxRecDepth 20000 in
theorem ggX3_reckon_X3_reckonHidden : GoodIn wsX3_reckon wsX3_reckonHidden := goodIn_r _ [7, 2, 8, 9, 52, 53, 54, 55, 56, 57, 58, 59, 60, 61, 62, 63, 64, 65, 66, 67, 68] (by decide +kernel) (by decide +kernel)
set_option maxRecDepth 20000 in
theorem gX3_reckon_X3_reckonHidden : GoodIn wsX3_reckon (wsV RX3 61 RX3 yX3_reckonHidden wsX3_reckonHidden) := goodIn_app (goodIn_of _ (by decide +kernel)) ggX3_reckon_X3_reckonHidden
set_option maxRecDepth 20000 in
theorem ggX3_reckon_X3_reckonNumbers : GoodIn wsX3_reckon wsX3_reckonNumbers := goodIn_r _ [13, 8, 9, 2, 14, 15, 16, 17, 6, 18, 19, 20, 21, 22, 23, 24, 25, 26, 27, 52, 53, 54, 55, 56, 57, 58, 59, 60, 61, 62, 63, 64, 65, 66, 67, 68] (by decide +kernel) (by decide +kernel)
set_option maxRecDepth 20000 in
theorem gX3_reckon_X3_reckonNumbers : GoodIn wsX3_reckon (wsV RX3 65 RX3 yX3_reckonNumbers wsX3_reckonNumbers) := goodIn_app (goodIn_of _ (by decide +kernel)) ggX3_reckon_X3_reckonNumbers
set_option maxRecDepth 20000 in
theorem ggX3_reckon_X3_measureText : GoodIn wsX3_reckon wsX3_measureText := goodIn_r _ [31, 32, 8, 9, 33, 34, 23, 35, 36, 37, 38, 39, 40, 41, 42, 43, 6, 44, 1, 52, 53, 54, 55, 56, 57, 58, 59, 60, 61, 62, 63, 64, 65, 66, 67, 68] (by decide +kernel) (by decide +kernel)
set_option maxRecDepth 20000 in
theorem gX3_reckon_X3_measureText : GoodIn wsX3_reckon (wsV RX3 68 RX3 yX3_measureText wsX3_measureText) := goodIn_app (goodIn_of _ (by decide +kernel)) ggX3_reckon_X3_measureText
set_option maxRecDepth 20000 in
theorem ggX3_reckon_X3_measureNumbers : GoodIn wsX3_reckon wsX3_measureNumbers := goodIn_r _ [48, 32, 8, 9, 33, 34, 23, 35, 36, 37, 49, 50, 6, 51, 52, 53, 54, 55, 56, 57, 58, 59, 60, 61, 62, 63, 64, 65, 66, 67, 68] (by decide +kernel) (by decide +kernel)
set_option maxRecDepth 20000 in
theorem gX3_reckon_X3_measureNumbers : GoodIn wsX3_reckon (wsV RX3 71 RX3 yX3_measureNumbers wsX3_measureNumbers) := goodIn_app (goodIn_of _ (by decide +kernel)) ggX3_reckon_X3_measureNumbers
theorem dX3_reckon_0 : decode cX3_reckon 0 = .ok (.iconst 0, 1) := by decide +kernel
theorem dX3_reckon_1 : decode cX3_reckon 1 = .ok (.istore_n 1, 1) := by decide +kernel
theorem dX3_reckon_2 : decode cX3_reckon 2 = .ok (.iload_n 1, 1) := by decide +kernel
theorem dX3_reckon_3 : decode cX3_reckon 3 = .ok (.aload_n 0, 1) := by decide +kernel
theorem dX3_reckon_4 : decode cX3_reckon 4 = .ok (.getfield 37, 3) := by decide +kernel
theorem dX3_reckon_7 : decode cX3_reckon 7 = .ok (.if_icmp .ge 32, 3) := by decide +kernel
theorem dX3_reckon_10 : decode cX3_reckon 10 = .ok (.aload_n 0, 1) := by decide +kernel
theorem dX3_reckon_11 : decode cX3_reckon 11 = .ok (.getfield 9, 3) := by decide +kernel
theorem dX3_reckon_14 : decode cX3_reckon 14 = .ok (.iload_n 1, 1) := by decide +kernel
theorem dX3_reckon_15 : decode cX3_reckon 15 = .ok (.iaload, 1) := by decide +kernel
theorem dX3_reckon_16 : decode cX3_reckon 16 = .ok (.iconst 1, 1) := by decide +kernel
theorem dX3_reckon_17 : decode cX3_reckon 17 = .ok (.if_icmp .ne 11, 3) := by decide +kernel
theorem dX3_reckon_20 : decode cX3_reckon 20 = .ok (.aload_n 0, 1) := by decide +kernel
theorem dX3_reckon_21 : decode cX3_reckon 21 = .ok (.iload_n 1, 1) := by decide +kernel
theorem dX3_reckon_22 : decode cX3_reckon 22 = .ok (.invokevirtual 61, 3) := by decide +kernel
theorem dX3_reckon_25 : decode cX3_reckon 25 = .ok (.goto 8, 3) := by decide +kernel
theorem dX3_reckon_28 : decode cX3_reckon 28 = .ok (.aload_n 0, 1) := by decide +kernel
theorem dX3_reckon_29 : decode cX3_reckon 29 = .ok (.iload_n 1, 1) := by decide +kernel
theorem dX3_reckon_30 : decode cX3_reckon 30 = .ok (.invokevirtual 65, 3) := by decide +kernel
theorem dX3_reckon_33 : decode cX3_reckon 33 = .ok (.iinc 1 1, 3) := by decide +kernel
theorem dX3_reckon_36 : decode cX3_reckon 36 = .ok (.goto (-34), 3) := by decide +kernel
theorem dX3_reckon_39 : decode cX3_reckon 39 = .ok (.iconst 0, 1) := by decide +kernel
theorem dX3_reckon_40 : decode cX3_reckon 40 = .ok (.istore_n 1, 1) := by decide +kernel
theorem dX3_reckon_41 : decode cX3_reckon 41 = .ok (.iload_n 1, 1) := by decide +kernel
theorem dX3_reckon_42 : decode cX3_reckon 42 = .ok (.aload_n 0, 1) := by decide +kernel
theorem dX3_reckon_43 : decode cX3_reckon 43 = .ok (.getfield 37, 3) := by decide +kernel
theorem dX3_reckon_46 : decode cX3_reckon 46 = .ok (.if_icmp .ge 32, 3) := by decide +kernel
theorem dX3_reckon_49 : decode cX3_reckon 49 = .ok (.aload_n 0, 1) := by decide +kernel
theorem dX3_reckon_50 : decode cX3_reckon 50 = .ok (.getfield 9, 3) := by decide +kernel
theorem dX3_reckon_53 : decode cX3_reckon 53 = .ok (.iload_n 1, 1) := by decide +kernel
theorem dX3_reckon_54 : decode cX3_reckon 54 = .ok (.iaload, 1) := by decide +kernel
theorem dX3_reckon_55 : decode cX3_reckon 55 = .ok (.iconst 1, 1) := by decide +kernel
theorem dX3_reckon_56 : decode cX3_reckon 56 = .ok (.if_icmp .ne 11, 3) := by decide +kernel
theorem dX3_reckon_59 : decode cX3_reckon 59 = .ok (.aload_n 0, 1) := by decide +kernel
theorem dX3_reckon_60 : decode cX3_reckon 60 = .ok (.iload_n 1, 1) := by decide +kernel
theorem dX3_reckon_61 : decode cX3_reckon 61 = .ok (.invokevirtual 68, 3) := by decide +kernel
theorem dX3_reckon_64 : decode cX3_reckon 64 = .ok (.goto 8, 3) := by decide +kernel
theorem dX3_reckon_67 : decode cX3_reckon 67 = .ok (.aload_n 0, 1) := by decide +kernel
theorem dX3_reckon_68 : decode cX3_reckon 68 = .ok (.iload_n 1, 1) := by decide +kernel
theorem dX3_reckon_69 : decode cX3_reckon 69 = .ok (.invokevirtual 71, 3) := by decide +kernel
theorem dX3_reckon_72 : decode cX3_reckon 72 = .ok (.iinc 1 1, 3) := by decide +kernel
theorem dX3_reckon_75 : decode cX3_reckon 75 = .ok (.goto (-34), 3) := by decide +kernel
theorem dX3_reckon_78 : decode cX3_reckon 78 = .ok (.return_, 1) := by decide +kernel
theorem dX3_reckonHidden_0 : decode cX3_reckonHidden 0 = .ok (.iload_n 1, 1) := by decide +kernel
theorem dX3_reckonHidden_1 : decode cX3_reckonHidden 1 = .ok (.ifCond .le 19, 3) := by decide +kernel
theorem dX3_reckonHidden_4 : decode cX3_reckonHidden 4 = .ok (.aload_n 0, 1) := by decide +kernel
theorem dX3_reckonHidden_5 : decode cX3_reckonHidden 5 = .ok (.getfield 9, 3) := by decide +kernel
theorem dX3_reckonHidden_8 : decode cX3_reckonHidden 8 = .ok (.iload_n 1, 1) := by decide +kernel
theorem dX3_reckonHidden_9 : decode cX3_reckonHidden 9 = .ok (.iconst 1, 1) := by decide +kernel
theorem dX3_reckonHidden_10 : decode cX3_reckonHidden 10 = .ok (.isub, 1) := by decide +kernel
theorem dX3_reckonHidden_11 : decode cX3_reckonHidden 11 = .ok (.iaload, 1) := by decide +kernel
theorem dX3_reckonHidden_12 : decode cX3_reckonHidden 12 = .ok (.iconst 1, 1) := by decide +kernel
theorem dX3_reckonHidden_13 : decode cX3_reckonHidden 13 = .ok (.if_icmp .ne 7, 3) := by decide +kernel
theorem dX3_reckonHidden_16 : decode cX3_reckonHidden 16 = .ok (.iconst 1, 1) := by decide +kernel
theorem dX3_reckonHidden_17 : decode cX3_reckonHidden 17 = .ok (.goto 4, 3) := by decide +kernel
theorem dX3_reckonHidden_20 : decode cX3_reckonHidden 20 = .ok (.iconst 0, 1) := by decide +kernel
theorem dX3_reckonHidden_21 : decode cX3_reckonHidden 21 = .ok (.istore_n 2, 1) := by decide +kernel
theorem dX3_reckonHidden_22 : decode cX3_reckonHidden 22 = .ok (.iconst 0, 1) := by decide +kernel
theorem dX3_reckonHidden_23 : decode cX3_reckonHidden 23 = .ok (.istore_n 3, 1) := by decide +kernel
theorem dX3_reckonHidden_24 : decode cX3_reckonHidden 24 = .ok (.iload_n 3, 1) := by decide +kernel
theorem dX3_reckonHidden_25 : decode cX3_reckonHidden 25 = .ok (.aload_n 0, 1) := by decide +kernel
theorem dX3_reckonHidden_26 : decode cX3_reckonHidden 26 = .ok (.getfield 41, 3) := by decide +kernel
theorem dX3_reckonHidden_29 : decode cX3_reckonHidden 29 = .ok (.if_icmp .ge 57, 3) := by decide +kernel
theorem dX3_reckonHidden_32 : decode cX3_reckonHidden 32 = .ok (.aload_n 0, 1) := by decide +kernel
theorem dX3_reckonHidden_33 : decode cX3_reckonHidden 33 = .ok (.getfield 26, 3) := by decide +kernel
theorem dX3_reckonHidden_36 : decode cX3_reckonHidden 36 = .ok (.iload_n 3, 1) := by decide +kernel
theorem dX3_reckonHidden_37 : decode cX3_reckonHidden 37 = .ok (.aaload, 1) := by decide +kernel
theorem dX3_reckonHidden_38 : decode cX3_reckonHidden 38 = .ok (.astore 4, 2) := by decide +kernel
theorem dX3_reckonHidden_40 : decode cX3_reckonHidden 40 = .ok (.aload 4, 2) := by decide +kernel
theorem dX3_reckonHidden_42 : decode cX3_reckonHidden 42 = .ok (.getfield 57, 3) := by decide +kernel
theorem dX3_reckonHidden_45 : decode cX3_reckonHidden 45 = .ok (.iload_n 1, 1) := by decide +kernel
theorem dX3_reckonHidden_46 : decode cX3_reckonHidden 46 = .ok (.iload_n 2, 1) := by decide +kernel
theorem dX3_reckonHidden_47 : decode cX3_reckonHidden 47 = .ok (.ifCond .eq 31, 3) := by decide +kernel
theorem dX3_reckonHidden_50 : decode cX3_reckonHidden 50 = .ok (.aload 4, 2) := by decide +kernel
theorem dX3_reckonHidden_52 : decode cX3_reckonHidden 52 = .ok (.getfield 74, 3) := by decide +kernel
theorem dX3_reckonHidden_55 : decode cX3_reckonHidden 55 = .ok (.iload_n 1, 1) := by decide +kernel
theorem dX3_reckonHidden_56 : decode cX3_reckonHidden 56 = .ok (.iconst 1, 1) := by decide +kernel
theorem dX3_reckonHidden_57 : decode cX3_reckonHidden 57 = .ok (.isub, 1) := by decide +kernel
theorem dX3_reckonHidden_58 : decode cX3_reckonHidden 58 = .ok (.baload, 1) := by decide +kernel
theorem dX3_reckonHidden_59 : decode cX3_reckonHidden 59 = .ok (.ifCond .eq 19, 3) := by decide +kernel
theorem dX3_reckonHidden_62 : decode cX3_reckonHidden 62 = .ok (.aload 4, 2) := by decide +kernel
theorem dX3_reckonHidden_64 : decode cX3_reckonHidden 64 = .ok (.getfield 57, 3) := by decide +kernel
theorem dX3_reckonHidden_67 : decode cX3_reckonHidden 67 = .ok (.iload_n 1, 1) := by decide +kernel
theorem dX3_reckonHidden_68 : decode cX3_reckonHidden 68 = .ok (.iconst 1, 1) := by decide +kernel
theorem dX3_reckonHidden_69 : decode cX3_reckonHidden 69 = .ok (.isub, 1) := by decide +kernel
theorem dX3_reckonHidden_70 : decode cX3_reckonHidden 70 = .ok (.baload, 1) := by decide +kernel
theorem dX3_reckonHidden_71 : decode cX3_reckonHidden 71 = .ok (.ifCond .ne 7, 3) := by decide +kernel
theorem dX3_reckonHidden_74 : decode cX3_reckonHidden 74 = .ok (.iconst 1, 1) := by decide +kernel
theorem dX3_reckonHidden_75 : decode cX3_reckonHidden 75 = .ok (.goto 4, 3) := by decide +kernel
theorem dX3_reckonHidden_78 : decode cX3_reckonHidden 78 = .ok (.iconst 0, 1) := by decide +kernel
theorem dX3_reckonHidden_79 : decode cX3_reckonHidden 79 = .ok (.bastore, 1) := by decide +kernel
theorem dX3_reckonHidden_80 : decode cX3_reckonHidden 80 = .ok (.iinc 3 1, 3) := by decide +kernel
theorem dX3_reckonHidden_83 : decode cX3_reckonHidden 83 = .ok (.goto (-59), 3) := by decide +kernel
theorem dX3_reckonHidden_86 : decode cX3_reckonHidden 86 = .ok (.return_, 1) := by decide +kernel
set_option maxRecDepth 20000 in
theorem ggX3_reckonNumbers_X3_resultOf : GoodIn wsX3_reckonNumbers wsX3_resultOf := goodIn_r _ [9, 10, 11, 12, 13, 14, 15, 16, 17, 18] (by decide +kernel) (by decide +kernel)
set_option maxRecDepth 20000 in
theorem gX3_reckonNumbers_X3_resultOf : GoodIn wsX3_reckonNumbers (va_wsS RX3 80 yX3_resultOf wsX3_resultOf) := goodIn_app (goodIn_of _ (by decide +kernel)) ggX3_reckonNumbers_X3_resultOf
theorem dX3_reckonNumbers_0 : decode cX3_reckonNumbers 0 = .ok (.iconst 0, 1) := by decide +kernel
theorem dX3_reckonNumbers_1 : decode cX3_reckonNumbers 1 = .ok (.istore_n 2, 1) := by decide +kernel
theorem dX3_reckonNumbers_2 : decode cX3_reckonNumbers 2 = .ok (.iconst 0, 1) := by decide +kernel
theorem dX3_reckonNumbers_3 : decode cX3_reckonNumbers 3 = .ok (.istore_n 3, 1) := by decide +kernel
theorem dX3_reckonNumbers_4 : decode cX3_reckonNumbers 4 = .ok (.iload_n 3, 1) := by decide +kernel
theorem dX3_reckonNumbers_5 : decode cX3_reckonNumbers 5 = .ok (.aload_n 0, 1) := by decide +kernel
theorem dX3_reckonNumbers_6 : decode cX3_reckonNumbers 6 = .ok (.getfield 41, 3) := by decide +kernel
theorem dX3_reckonNumbers_9 : decode cX3_reckonNumbers 9 = .ok (.if_icmp .ge 94, 3) := by decide +kernel
theorem dX3_reckonNumbers_12 : decode cX3_reckonNumbers 12 = .ok (.aload_n 0, 1) := by decide +kernel
theorem dX3_reckonNumbers_13 : decode cX3_reckonNumbers 13 = .ok (.getfield 26, 3) := by decide +kernel
theorem dX3_reckonNumbers_16 : decode cX3_reckonNumbers 16 = .ok (.iload_n 3, 1) := by decide +kernel
theorem dX3_reckonNumbers_17 : decode cX3_reckonNumbers 17 = .ok (.aaload, 1) := by decide +kernel
theorem dX3_reckonNumbers_18 : decode cX3_reckonNumbers 18 = .ok (.astore 4, 2) := by decide +kernel
theorem dX3_reckonNumbers_20 : decode cX3_reckonNumbers 20 = .ok (.aload_n 0, 1) := by decide +kernel
theorem dX3_reckonNumbers_21 : decode cX3_reckonNumbers 21 = .ok (.getfield 9, 3) := by decide +kernel
theorem dX3_reckonNumbers_24 : decode cX3_reckonNumbers 24 = .ok (.iload_n 1, 1) := by decide +kernel
theorem dX3_reckonNumbers_25 : decode cX3_reckonNumbers 25 = .ok (.iaload, 1) := by decide +kernel
theorem dX3_reckonNumbers_26 : decode cX3_reckonNumbers 26 = .ok (.ifCond .eq 53, 3) := by decide +kernel
theorem dX3_reckonNumbers_29 : decode cX3_reckonNumbers 29 = .ok (.aload 4, 2) := by decide +kernel
theorem dX3_reckonNumbers_31 : decode cX3_reckonNumbers 31 = .ok (.getfield 77, 3) := by decide +kernel
theorem dX3_reckonNumbers_34 : decode cX3_reckonNumbers 34 = .ok (.aload_n 0, 1) := by decide +kernel
theorem dX3_reckonNumbers_35 : decode cX3_reckonNumbers 35 = .ok (.getfield 18, 3) := by decide +kernel
theorem dX3_reckonNumbers_38 : decode cX3_reckonNumbers 38 = .ok (.iload_n 1, 1) := by decide +kernel
theorem dX3_reckonNumbers_39 : decode cX3_reckonNumbers 39 = .ok (.iaload, 1) := by decide +kernel
theorem dX3_reckonNumbers_40 : decode cX3_reckonNumbers 40 = .ok (.iaload, 1) := by decide +kernel
theorem dX3_reckonNumbers_41 : decode cX3_reckonNumbers 41 = .ok (.i2l, 1) := by decide +kernel
theorem dX3_reckonNumbers_42 : decode cX3_reckonNumbers 42 = .ok (.lstore 5, 2) := by decide +kernel
theorem dX3_reckonNumbers_44 : decode cX3_reckonNumbers 44 = .ok (.aload 4, 2) := by decide +kernel
theorem dX3_reckonNumbers_46 : decode cX3_reckonNumbers 46 = .ok (.getfield 77, 3) := by decide +kernel
theorem dX3_reckonNumbers_49 : decode cX3_reckonNumbers 49 = .ok (.aload_n 0, 1) := by decide +kernel
theorem dX3_reckonNumbers_50 : decode cX3_reckonNumbers 50 = .ok (.getfield 21, 3) := by decide +kernel
theorem dX3_reckonNumbers_53 : decode cX3_reckonNumbers 53 = .ok (.iload_n 1, 1) := by decide +kernel
theorem dX3_reckonNumbers_54 : decode cX3_reckonNumbers 54 = .ok (.iaload, 1) := by decide +kernel
theorem dX3_reckonNumbers_55 : decode cX3_reckonNumbers 55 = .ok (.iaload, 1) := by decide +kernel
theorem dX3_reckonNumbers_56 : decode cX3_reckonNumbers 56 = .ok (.i2l, 1) := by decide +kernel
theorem dX3_reckonNumbers_57 : decode cX3_reckonNumbers 57 = .ok (.lstore 7, 2) := by decide +kernel
theorem dX3_reckonNumbers_59 : decode cX3_reckonNumbers 59 = .ok (.aload 4, 2) := by decide +kernel
theorem dX3_reckonNumbers_61 : decode cX3_reckonNumbers 61 = .ok (.getfield 77, 3) := by decide +kernel
theorem dX3_reckonNumbers_64 : decode cX3_reckonNumbers 64 = .ok (.iload_n 1, 1) := by decide +kernel
theorem dX3_reckonNumbers_65 : decode cX3_reckonNumbers 65 = .ok (.aload_n 0, 1) := by decide +kernel
theorem dX3_reckonNumbers_66 : decode cX3_reckonNumbers 66 = .ok (.getfield 9, 3) := by decide +kernel
theorem dX3_reckonNumbers_69 : decode cX3_reckonNumbers 69 = .ok (.iload_n 1, 1) := by decide +kernel
theorem dX3_reckonNumbers_70 : decode cX3_reckonNumbers 70 = .ok (.iaload, 1) := by decide +kernel
theorem dX3_reckonNumbers_71 : decode cX3_reckonNumbers 71 = .ok (.lload 5, 2) := by decide +kernel
theorem dX3_reckonNumbers_73 : decode cX3_reckonNumbers 73 = .ok (.lload 7, 2) := by decide +kernel
theorem dX3_reckonNumbers_75 : decode cX3_reckonNumbers 75 = .ok (.invokestatic 80, 3) := by decide +kernel
theorem dX3_reckonNumbers_78 : decode cX3_reckonNumbers 78 = .ok (.iastore, 1) := by decide +kernel
theorem dX3_reckonNumbers_79 : decode cX3_reckonNumbers 79 = .ok (.iload_n 2, 1) := by decide +kernel
theorem dX3_reckonNumbers_80 : decode cX3_reckonNumbers 80 = .ok (.aload 4, 2) := by decide +kernel
theorem dX3_reckonNumbers_82 : decode cX3_reckonNumbers 82 = .ok (.getfield 77, 3) := by decide +kernel
theorem dX3_reckonNumbers_85 : decode cX3_reckonNumbers 85 = .ok (.iload_n 1, 1) := by decide +kernel
theorem dX3_reckonNumbers_86 : decode cX3_reckonNumbers 86 = .ok (.iaload, 1) := by decide +kernel
theorem dX3_reckonNumbers_87 : decode cX3_reckonNumbers 87 = .ok (.iadd, 1) := by decide +kernel
theorem dX3_reckonNumbers_88 : decode cX3_reckonNumbers 88 = .ok (.istore_n 2, 1) := by decide +kernel
theorem dX3_reckonNumbers_89 : decode cX3_reckonNumbers 89 = .ok (.aload 4, 2) := by decide +kernel
theorem dX3_reckonNumbers_91 : decode cX3_reckonNumbers 91 = .ok (.getfield 51, 3) := by decide +kernel
theorem dX3_reckonNumbers_94 : decode cX3_reckonNumbers 94 = .ok (.iload_n 1, 1) := by decide +kernel
theorem dX3_reckonNumbers_95 : decode cX3_reckonNumbers 95 = .ok (.iload_n 2, 1) := by decide +kernel
theorem dX3_reckonNumbers_96 : decode cX3_reckonNumbers 96 = .ok (.iastore, 1) := by decide +kernel
theorem dX3_reckonNumbers_97 : decode cX3_reckonNumbers 97 = .ok (.iinc 3 1, 3) := by decide +kernel
theorem dX3_reckonNumbers_100 : decode cX3_reckonNumbers 100 = .ok (.goto (-96), 3) := by decide +kernel
theorem dX3_reckonNumbers_103 : decode cX3_reckonNumbers 103 = .ok (.return_, 1) := by decide +kernel
theorem dX3_resultOf_0 : decode cX3_resultOf 0 = .ok (.iload_n 0, 1) := by decide +kernel
theorem dX3_resultOf_1 : decode cX3_resultOf 1 = .ok (.iconst 2, 1) := by decide +kernel
theorem dX3_resultOf_2 : decode cX3_resultOf 2 = .ok (.if_icmp .ne 11, 3) := by decide +kernel
theorem dX3_resultOf_5 : decode cX3_resultOf 5 = .ok (.lload_n 1, 1) := by decide +kernel
theorem dX3_resultOf_6 : decode cX3_resultOf 6 = .ok (.lload_n 3, 1) := by decide +kernel
theorem dX3_resultOf_7 : decode cX3_resultOf 7 = .ok (.ladd, 1) := by decide +kernel
theorem dX3_resultOf_8 : decode cX3_resultOf 8 = .ok (.lstore 5, 2) := by decide +kernel
theorem dX3_resultOf_10 : decode cX3_resultOf 10 = .ok (.goto 21, 3) := by decide +kernel
theorem dX3_resultOf_13 : decode cX3_resultOf 13 = .ok (.iload_n 0, 1) := by decide +kernel
theorem dX3_resultOf_14 : decode cX3_resultOf 14 = .ok (.iconst 3, 1) := by decide +kernel
theorem dX3_resultOf_15 : decode cX3_resultOf 15 = .ok (.if_icmp .ne 11, 3) := by decide +kernel
theorem dX3_resultOf_18 : decode cX3_resultOf 18 = .ok (.lload_n 1, 1) := by decide +kernel
theorem dX3_resultOf_19 : decode cX3_resultOf 19 = .ok (.lload_n 3, 1) := by decide +kernel
theorem dX3_resultOf_20 : decode cX3_resultOf 20 = .ok (.lsub, 1) := by decide +kernel
theorem dX3_resultOf_21 : decode cX3_resultOf 21 = .ok (.lstore 5, 2) := by decide +kernel
theorem dX3_resultOf_23 : decode cX3_resultOf 23 = .ok (.goto 8, 3) := by decide +kernel
theorem dX3_resultOf_26 : decode cX3_resultOf 26 = .ok (.lload_n 1, 1) := by decide +kernel
theorem dX3_resultOf_27 : decode cX3_resultOf 27 = .ok (.lload_n 3, 1) := by decide +kernel
theorem dX3_resultOf_28 : decode cX3_resultOf 28 = .ok (.lmul, 1) := by decide +kernel
theorem dX3_resultOf_29 : decode cX3_resultOf 29 = .ok (.lstore 5, 2) := by decide +kernel
theorem dX3_resultOf_31 : decode cX3_resultOf 31 = .ok (.ldc2_w 84, 3) := by decide +kernel
theorem dX3_resultOf_34 : decode cX3_resultOf 34 = .ok (.ldc2_w 86, 3) := by decide +kernel
theorem dX3_resultOf_37 : decode cX3_resultOf 37 = .ok (.lload 5, 2) := by decide +kernel
theorem dX3_resultOf_39 : decode cX3_resultOf 39 = .ok (.invokestatic 88, 3) := by decide +kernel
theorem dX3_resultOf_42 : decode cX3_resultOf 42 = .ok (.invokestatic 94, 3) := by decide +kernel
theorem dX3_resultOf_45 : decode cX3_resultOf 45 = .ok (.l2i, 1) := by decide +kernel
theorem dX3_resultOf_46 : decode cX3_resultOf 46 = .ok (.ireturn, 1) := by decide +kernel
set_option maxRecDepth 20000 in
theorem ggX3_measureText_X3_isSpanning : GoodIn wsX3_measureText wsX3_isSpanning := goodIn_r _ [17, 18, 3, 19, 20, 21, 22, 23, 24, 25, 26, 27, 28, 29, 30, 31, 32, 33, 34, 35] (by decide +kernel) (by decide +kernel)
set_option maxRecDepth 20000 in
theorem gX3_measureText_X3_isSpanning : GoodIn wsX3_measureText (wsV RX3 97 RX3 yX3_isSpanning wsX3_isSpanning) := goodIn_app (goodIn_of _ (by decide +kernel)) ggX3_measureText_X3_isSpanning
theorem dX3_measureText_0 : decode cX3_measureText 0 = .ok (.aload_n 0, 1) := by decide +kernel
theorem dX3_measureText_1 : decode cX3_measureText 1 = .ok (.getfield 15, 3) := by decide +kernel
theorem dX3_measureText_4 : decode cX3_measureText 4 = .ok (.iload_n 1, 1) := by decide +kernel
theorem dX3_measureText_5 : decode cX3_measureText 5 = .ok (.iaload, 1) := by decide +kernel
theorem dX3_measureText_6 : decode cX3_measureText 6 = .ok (.istore_n 2, 1) := by decide +kernel
theorem dX3_measureText_7 : decode cX3_measureText 7 = .ok (.iconst 0, 1) := by decide +kernel
theorem dX3_measureText_8 : decode cX3_measureText 8 = .ok (.istore_n 3, 1) := by decide +kernel
theorem dX3_measureText_9 : decode cX3_measureText 9 = .ok (.iconst 0, 1) := by decide +kernel
theorem dX3_measureText_10 : decode cX3_measureText 10 = .ok (.istore 4, 2) := by decide +kernel
theorem dX3_measureText_12 : decode cX3_measureText 12 = .ok (.iload 4, 2) := by decide +kernel
theorem dX3_measureText_14 : decode cX3_measureText 14 = .ok (.aload_n 0, 1) := by decide +kernel
theorem dX3_measureText_15 : decode cX3_measureText 15 = .ok (.getfield 41, 3) := by decide +kernel
theorem dX3_measureText_18 : decode cX3_measureText 18 = .ok (.if_icmp .ge 68, 3) := by decide +kernel
theorem dX3_measureText_21 : decode cX3_measureText 21 = .ok (.aload_n 0, 1) := by decide +kernel
theorem dX3_measureText_22 : decode cX3_measureText 22 = .ok (.getfield 26, 3) := by decide +kernel
theorem dX3_measureText_25 : decode cX3_measureText 25 = .ok (.iload 4, 2) := by decide +kernel
theorem dX3_measureText_27 : decode cX3_measureText 27 = .ok (.aaload, 1) := by decide +kernel
theorem dX3_measureText_28 : decode cX3_measureText 28 = .ok (.getfield 57, 3) := by decide +kernel
theorem dX3_measureText_31 : decode cX3_measureText 31 = .ok (.iload_n 1, 1) := by decide +kernel
theorem dX3_measureText_32 : decode cX3_measureText 32 = .ok (.baload, 1) := by decide +kernel
theorem dX3_measureText_33 : decode cX3_measureText 33 = .ok (.ifCond .ne 47, 3) := by decide +kernel
theorem dX3_measureText_36 : decode cX3_measureText 36 = .ok (.aload_n 0, 1) := by decide +kernel
theorem dX3_measureText_37 : decode cX3_measureText 37 = .ok (.iload 4, 2) := by decide +kernel
theorem dX3_measureText_39 : decode cX3_measureText 39 = .ok (.iload_n 1, 1) := by decide +kernel
theorem dX3_measureText_40 : decode cX3_measureText 40 = .ok (.invokevirtual 97, 3) := by decide +kernel
theorem dX3_measureText_43 : decode cX3_measureText 43 = .ok (.ifCond .ne 37, 3) := by decide +kernel
theorem dX3_measureText_46 : decode cX3_measureText 46 = .ok (.iload_n 2, 1) := by decide +kernel
theorem dX3_measureText_47 : decode cX3_measureText 47 = .ok (.aload_n 0, 1) := by decide +kernel
theorem dX3_measureText_48 : decode cX3_measureText 48 = .ok (.getfield 26, 3) := by decide +kernel
theorem dX3_measureText_51 : decode cX3_measureText 51 = .ok (.iload 4, 2) := by decide +kernel
theorem dX3_measureText_53 : decode cX3_measureText 53 = .ok (.aaload, 1) := by decide +kernel
theorem dX3_measureText_54 : decode cX3_measureText 54 = .ok (.getfield 101, 3) := by decide +kernel
theorem dX3_measureText_57 : decode cX3_measureText 57 = .ok (.iload_n 1, 1) := by decide +kernel
theorem dX3_measureText_58 : decode cX3_measureText 58 = .ok (.iaload, 1) := by decide +kernel
theorem dX3_measureText_59 : decode cX3_measureText 59 = .ok (.invokestatic 104, 3) := by decide +kernel
theorem dX3_measureText_62 : decode cX3_measureText 62 = .ok (.istore_n 2, 1) := by decide +kernel
theorem dX3_measureText_63 : decode cX3_measureText 63 = .ok (.iload_n 3, 1) := by decide +kernel
theorem dX3_measureText_64 : decode cX3_measureText 64 = .ok (.aload_n 0, 1) := by decide +kernel
theorem dX3_measureText_65 : decode cX3_measureText 65 = .ok (.getfield 26, 3) := by decide +kernel
theorem dX3_measureText_68 : decode cX3_measureText 68 = .ok (.iload 4, 2) := by decide +kernel
theorem dX3_measureText_70 : decode cX3_measureText 70 = .ok (.aaload, 1) := by decide +kernel
theorem dX3_measureText_71 : decode cX3_measureText 71 = .ok (.getfield 107, 3) := by decide +kernel
theorem dX3_measureText_74 : decode cX3_measureText 74 = .ok (.iload_n 1, 1) := by decide +kernel
theorem dX3_measureText_75 : decode cX3_measureText 75 = .ok (.iaload, 1) := by decide +kernel
theorem dX3_measureText_76 : decode cX3_measureText 76 = .ok (.invokestatic 104, 3) := by decide +kernel
theorem dX3_measureText_79 : decode cX3_measureText 79 = .ok (.istore_n 3, 1) := by decide +kernel
theorem dX3_measureText_80 : decode cX3_measureText 80 = .ok (.iinc 4 1, 3) := by decide +kernel
theorem dX3_measureText_83 : decode cX3_measureText 83 = .ok (.goto (-71), 3) := by decide +kernel
theorem dX3_measureText_86 : decode cX3_measureText 86 = .ok (.aload_n 0, 1) := by decide +kernel
theorem dX3_measureText_87 : decode cX3_measureText 87 = .ok (.getfield 30, 3) := by decide +kernel
theorem dX3_measureText_90 : decode cX3_measureText 90 = .ok (.iload_n 1, 1) := by decide +kernel
theorem dX3_measureText_91 : decode cX3_measureText 91 = .ok (.iload_n 2, 1) := by decide +kernel
theorem dX3_measureText_92 : decode cX3_measureText 92 = .ok (.iastore, 1) := by decide +kernel
theorem dX3_measureText_93 : decode cX3_measureText 93 = .ok (.aload_n 0, 1) := by decide +kernel
theorem dX3_measureText_94 : decode cX3_measureText 94 = .ok (.getfield 33, 3) := by decide +kernel
theorem dX3_measureText_97 : decode cX3_measureText 97 = .ok (.iload_n 1, 1) := by decide +kernel
theorem dX3_measureText_98 : decode cX3_measureText 98 = .ok (.iload_n 2, 1) := by decide +kernel
theorem dX3_measureText_99 : decode cX3_measureText 99 = .ok (.bipush 30, 2) := by decide +kernel
theorem dX3_measureText_101 : decode cX3_measureText 101 = .ok (.iload_n 3, 1) := by decide +kernel
theorem dX3_measureText_102 : decode cX3_measureText 102 = .ok (.invokestatic 110, 3) := by decide +kernel
theorem dX3_measureText_105 : decode cX3_measureText 105 = .ok (.invokestatic 104, 3) := by decide +kernel
theorem dX3_measureText_108 : decode cX3_measureText 108 = .ok (.iastore, 1) := by decide +kernel
theorem dX3_measureText_109 : decode cX3_measureText 109 = .ok (.return_, 1) := by decide +kernel
set_option maxRecDepth 20000 in
theorem ggX3_measureNumbers_X3_sizeOf : GoodIn wsX3_measureNumbers wsX3_sizeOf := goodIn_r _ [13] (by decide +kernel) (by decide +kernel)
set_option maxRecDepth 20000 in
theorem gX3_measureNumbers_X3_sizeOf : GoodIn wsX3_measureNumbers (va_wsS RX3 112 yX3_sizeOf wsX3_sizeOf) := goodIn_app (goodIn_of _ (by decide +kernel)) ggX3_measureNumbers_X3_sizeOf
theorem dX3_measureNumbers_0 : decode cX3_measureNumbers 0 = .ok (.aload_n 0, 1) := by decide +kernel
theorem dX3_measureNumbers_1 : decode cX3_measureNumbers 1 = .ok (.getfield 15, 3) := by decide +kernel
theorem dX3_measureNumbers_4 : decode cX3_measureNumbers 4 = .ok (.iload_n 1, 1) := by decide +kernel
theorem dX3_measureNumbers_5 : decode cX3_measureNumbers 5 = .ok (.iaload, 1) := by decide +kernel
theorem dX3_measureNumbers_6 : decode cX3_measureNumbers 6 = .ok (.istore_n 2, 1) := by decide +kernel
theorem dX3_measureNumbers_7 : decode cX3_measureNumbers 7 = .ok (.iconst 0, 1) := by decide +kernel
theorem dX3_measureNumbers_8 : decode cX3_measureNumbers 8 = .ok (.istore_n 3, 1) := by decide +kernel
theorem dX3_measureNumbers_9 : decode cX3_measureNumbers 9 = .ok (.iload_n 3, 1) := by decide +kernel
theorem dX3_measureNumbers_10 : decode cX3_measureNumbers 10 = .ok (.aload_n 0, 1) := by decide +kernel
theorem dX3_measureNumbers_11 : decode cX3_measureNumbers 11 = .ok (.getfield 41, 3) := by decide +kernel
theorem dX3_measureNumbers_14 : decode cX3_measureNumbers 14 = .ok (.if_icmp .ge 47, 3) := by decide +kernel
theorem dX3_measureNumbers_17 : decode cX3_measureNumbers 17 = .ok (.iload_n 2, 1) := by decide +kernel
theorem dX3_measureNumbers_18 : decode cX3_measureNumbers 18 = .ok (.aload_n 0, 1) := by decide +kernel
theorem dX3_measureNumbers_19 : decode cX3_measureNumbers 19 = .ok (.getfield 26, 3) := by decide +kernel
theorem dX3_measureNumbers_22 : decode cX3_measureNumbers 22 = .ok (.iload_n 3, 1) := by decide +kernel
theorem dX3_measureNumbers_23 : decode cX3_measureNumbers 23 = .ok (.aaload, 1) := by decide +kernel
theorem dX3_measureNumbers_24 : decode cX3_measureNumbers 24 = .ok (.getfield 77, 3) := by decide +kernel
theorem dX3_measureNumbers_27 : decode cX3_measureNumbers 27 = .ok (.iload_n 1, 1) := by decide +kernel
theorem dX3_measureNumbers_28 : decode cX3_measureNumbers 28 = .ok (.iaload, 1) := by decide +kernel
theorem dX3_measureNumbers_29 : decode cX3_measureNumbers 29 = .ok (.invokestatic 112, 3) := by decide +kernel
theorem dX3_measureNumbers_32 : decode cX3_measureNumbers 32 = .ok (.invokestatic 104, 3) := by decide +kernel
theorem dX3_measureNumbers_35 : decode cX3_measureNumbers 35 = .ok (.istore_n 2, 1) := by decide +kernel
theorem dX3_measureNumbers_36 : decode cX3_measureNumbers 36 = .ok (.iload_n 2, 1) := by decide +kernel
theorem dX3_measureNumbers_37 : decode cX3_measureNumbers 37 = .ok (.aload_n 0, 1) := by decide +kernel
theorem dX3_measureNumbers_38 : decode cX3_measureNumbers 38 = .ok (.getfield 26, 3) := by decide +kernel
theorem dX3_measureNumbers_41 : decode cX3_measureNumbers 41 = .ok (.iload_n 3, 1) := by decide +kernel
theorem dX3_measureNumbers_42 : decode cX3_measureNumbers 42 = .ok (.aaload, 1) := by decide +kernel
theorem dX3_measureNumbers_43 : decode cX3_measureNumbers 43 = .ok (.getfield 51, 3) := by decide +kernel
theorem dX3_measureNumbers_46 : decode cX3_measureNumbers 46 = .ok (.iload_n 1, 1) := by decide +kernel
theorem dX3_measureNumbers_47 : decode cX3_measureNumbers 47 = .ok (.iaload, 1) := by decide +kernel
theorem dX3_measureNumbers_48 : decode cX3_measureNumbers 48 = .ok (.invokestatic 112, 3) := by decide +kernel
theorem dX3_measureNumbers_51 : decode cX3_measureNumbers 51 = .ok (.invokestatic 104, 3) := by decide +kernel
theorem dX3_measureNumbers_54 : decode cX3_measureNumbers 54 = .ok (.istore_n 2, 1) := by decide +kernel
theorem dX3_measureNumbers_55 : decode cX3_measureNumbers 55 = .ok (.iinc 3 1, 3) := by decide +kernel
theorem dX3_measureNumbers_58 : decode cX3_measureNumbers 58 = .ok (.goto (-49), 3) := by decide +kernel
theorem dX3_measureNumbers_61 : decode cX3_measureNumbers 61 = .ok (.aload_n 0, 1) := by decide +kernel
theorem dX3_measureNumbers_62 : decode cX3_measureNumbers 62 = .ok (.getfield 30, 3) := by decide +kernel
theorem dX3_measureNumbers_65 : decode cX3_measureNumbers 65 = .ok (.iload_n 1, 1) := by decide +kernel
theorem dX3_measureNumbers_66 : decode cX3_measureNumbers 66 = .ok (.iload_n 2, 1) := by decide +kernel
theorem dX3_measureNumbers_67 : decode cX3_measureNumbers 67 = .ok (.iastore, 1) := by decide +kernel
theorem dX3_measureNumbers_68 : decode cX3_measureNumbers 68 = .ok (.aload_n 0, 1) := by decide +kernel
theorem dX3_measureNumbers_69 : decode cX3_measureNumbers 69 = .ok (.getfield 33, 3) := by decide +kernel
theorem dX3_measureNumbers_72 : decode cX3_measureNumbers 72 = .ok (.iload_n 1, 1) := by decide +kernel
theorem dX3_measureNumbers_73 : decode cX3_measureNumbers 73 = .ok (.iload_n 2, 1) := by decide +kernel
theorem dX3_measureNumbers_74 : decode cX3_measureNumbers 74 = .ok (.iastore, 1) := by decide +kernel
theorem dX3_measureNumbers_75 : decode cX3_measureNumbers 75 = .ok (.return_, 1) := by decide +kernel
theorem dX3_sizeOf_0 : decode cX3_sizeOf 0 = .ok (.iload_n 0, 1) := by decide +kernel
theorem dX3_sizeOf_1 : decode cX3_sizeOf 1 = .ok (.ifCond .ge 7, 3) := by decide +kernel
theorem dX3_sizeOf_4 : decode cX3_sizeOf 4 = .ok (.iconst 2, 1) := by decide +kernel
theorem dX3_sizeOf_5 : decode cX3_sizeOf 5 = .ok (.goto 4, 3) := by decide +kernel
theorem dX3_sizeOf_8 : decode cX3_sizeOf 8 = .ok (.iconst 1, 1) := by decide +kernel
theorem dX3_sizeOf_9 : decode cX3_sizeOf 9 = .ok (.istore_n 1, 1) := by decide +kernel
theorem dX3_sizeOf_10 : decode cX3_sizeOf 10 = .ok (.iload_n 0, 1) := by decide +kernel
theorem dX3_sizeOf_11 : decode cX3_sizeOf 11 = .ok (.bipush 10, 2) := by decide +kernel
theorem dX3_sizeOf_13 : decode cX3_sizeOf 13 = .ok (.idiv, 1) := by decide +kernel
theorem dX3_sizeOf_14 : decode cX3_sizeOf 14 = .ok (.istore_n 2, 1) := by decide +kernel
theorem dX3_sizeOf_15 : decode cX3_sizeOf 15 = .ok (.iload_n 2, 1) := by decide +kernel
theorem dX3_sizeOf_16 : decode cX3_sizeOf 16 = .ok (.ifCond .eq 14, 3) := by decide +kernel
theorem dX3_sizeOf_19 : decode cX3_sizeOf 19 = .ok (.iinc 1 1, 3) := by decide +kernel
theorem dX3_sizeOf_22 : decode cX3_sizeOf 22 = .ok (.iload_n 2, 1) := by decide +kernel
theorem dX3_sizeOf_23 : decode cX3_sizeOf 23 = .ok (.bipush 10, 2) := by decide +kernel
theorem dX3_sizeOf_25 : decode cX3_sizeOf 25 = .ok (.idiv, 1) := by decide +kernel
theorem dX3_sizeOf_26 : decode cX3_sizeOf 26 = .ok (.istore_n 2, 1) := by decide +kernel
theorem dX3_sizeOf_27 : decode cX3_sizeOf 27 = .ok (.goto (-12), 3) := by decide +kernel
theorem dX3_sizeOf_30 : decode cX3_sizeOf 30 = .ok (.iload_n 1, 1) := by decide +kernel
theorem dX3_sizeOf_31 : decode cX3_sizeOf 31 = .ok (.ireturn, 1) := by decide +kernel
end
section
set_option maxRecDepth 20000 in
theorem ggX4_init_X3_init : GoodIn wsX4_init wsX3_init := goodIn_r _ [23, 24, 2, 3, 25, 26, 27, 28, 29, 30, 31, 32, 33, 34, 35, 36, 37, 38, 39, 40, 41, 42, 43, 44, 45, 64, 65, 66, 67, 68, 69, 70, 71, 72, 98, 99, 100, 101, 102, 103, 104, 105] (by decide +kernel) (by decide +kernel)
set_option maxRecDepth 20000 in
theorem gX4_init_X3_init : GoodIn wsX4_init (wsX3_init) := ggX4_init_X3_init
set_option maxRecDepth 20000 in
theorem ggX4_init_X2_init : GoodIn wsX4_init wsX2_init := goodIn_r _ [47, 48, 2, 3, 49, 18, 19, 50, 51, 52, 53, 54, 25, 55, 56, 57, 58, 59, 60, 61, 62, 63, 84, 85, 86, 87, 88, 89, 90, 91, 92, 93, 94, 95, 96, 97, 81, 82, 83] (by decide +kernel) (by decide +kernel)
set_option maxRecDepth 20000 in
theorem gX4_init_X2_init_n18 : GoodIn wsX4_init (wsX2_init) := ggX4_init_X2_init
set_option maxRecDepth 20000 in
theorem ggX4_init_X0_init : GoodIn wsX4_init wsX0_init := goodIn_r _ [53, 54, 2, 3, 25, 55, 56, 57, 58, 59, 60, 61, 62, 63, 84, 85, 86, 87, 88, 89, 90, 91, 92, 93, 94, 95, 96, 97] (by decide +kernel) (by decide +kernel)
set_option maxRecDepth 20000 in
theorem gX4_init_X0_init_n42 : GoodIn wsX4_init (wsX0_init) := ggX4_init_X0_init
theorem dX4_init_0 : decode cX4_init 0 = .ok (.aload_n 0, 1) := by decide +kernel
theorem dX4_init_1 : decode cX4_init 1 = .ok (.invokespecial 3, 3) := by decide +kernel
theorem dX4_init_4 : decode cX4_init 4 = .ok (.aload_n 0, 1) := by decide +kernel
theorem dX4_init_5 : decode cX4_init 5 = .ok (.new 9, 3) := by decide +kernel
theorem dX4_init_8 : decode cX4_init 8 = .ok (.dup, 1) := by decide +kernel
theorem dX4_init_9 : decode cX4_init 9 = .ok (.invokespecial 11, 3) := by decide +kernel
theorem dX4_init_12 : decode cX4_init 12 = .ok (.putfield 12, 3) := by decide +kernel
theorem dX4_init_15 : decode cX4_init 15 = .ok (.aload_n 0, 1) := by decide +kernel
theorem dX4_init_16 : decode cX4_init 16 = .ok (.new 16, 3) := by decide +kernel
theorem dX4_init_19 : decode cX4_init 19 = .ok (.dup, 1) := by decide +kernel
theorem dX4_init_20 : decode cX4_init 20 = .ok (.invokespecial 18, 3) := by decide +kernel
theorem dX4_init_23 : decode cX4_init 23 = .ok (.putfield 19, 3) := by decide +kernel
theorem dX4_init_26 : decode cX4_init 26 = .ok (.aload_n 0, 1) := by decide +kernel
theorem dX4_init_27 : decode cX4_init 27 = .ok (.bipush 40, 2) := by decide +kernel
theorem dX4_init_29 : decode cX4_init 29 = .ok (.putfield 23, 3) := by decide +kernel
theorem dX4_init_32 : decode cX4_init 32 = .ok (.aload_n 0, 1) := by decide +kernel
theorem dX4_init_33 : decode cX4_init 33 = .ok (.bipush 30, 2) := by decide +kernel
theorem dX4_init_35 : decode cX4_init 35 = .ok (.putfield 27, 3) := by decide +kernel
theorem dX4_init_38 : decode cX4_init 38 = .ok (.aload_n 0, 1) := by decide +kernel
theorem dX4_init_39 : decode cX4_init 39 = .ok (.iconst 1, 1) := by decide +kernel
theorem dX4_init_40 : decode cX4_init 40 = .ok (.putfield 30, 3) := by decide +kernel
theorem dX4_init_43 : decode cX4_init 43 = .ok (.aload_n 0, 1) := by decide +kernel
theorem dX4_init_44 : decode cX4_init 44 = .ok (.new 9, 3) := by decide +kernel
theorem dX4_init_47 : decode cX4_init 47 = .ok (.dup, 1) := by decide +kernel
theorem dX4_init_48 : decode cX4_init 48 = .ok (.invokespecial 11, 3) := by decide +kernel
theorem dX4_init_51 : decode cX4_init 51 = .ok (.putfield 34, 3) := by decide +kernel
theorem dX4_init_54 : decode cX4_init 54 = .ok (.aload_n 0, 1) := by decide +kernel
theorem dX4_init_55 : decode cX4_init 55 = .ok (.new 16, 3) := by decide +kernel
theorem dX4_init_58 : decode cX4_init 58 = .ok (.dup, 1) := by decide +kernel
theorem dX4_init_59 : decode cX4_init 59 = .ok (.invokespecial 18, 3) := by decide +kernel
theorem dX4_init_62 : decode cX4_init 62 = .ok (.putfield 37, 3) := by decide +kernel
theorem dX4_init_65 : decode cX4_init 65 = .ok (.aload_n 0, 1) := by decide +kernel
theorem dX4_init_66 : decode cX4_init 66 = .ok (.new 40, 3) := by decide +kernel
theorem dX4_init_69 : decode cX4_init 69 = .ok (.dup, 1) := by decide +kernel
theorem dX4_init_70 : decode cX4_init 70 = .ok (.invokespecial 42, 3) := by decide +kernel
theorem dX4_init_73 : decode cX4_init 73 = .ok (.putfield 43, 3) := by decide +kernel
theorem dX4_init_76 : decode cX4_init 76 = .ok (.return_, 1) := by decide +kernel
set_option maxRecDepth 20000 in
theorem ggX4_column_X4_requireRange : GoodIn wsX4_column wsX4_requireRange := goodIn_ca (goodIn_r _ [6, 7, 8] (by decide +kernel) (by decide +kernel)) (goodIn_sub (fun _ h => List.mem_cons_of_mem _ (List.mem_append_left _ (List.mem_append_right _ h))) (by decide +kernel))
set_option maxRecDepth 20000 in
theorem gX4_column_X4_requireRange : GoodIn wsX4_column (va_wsS RX4 47 yX4_requireRange wsX4_requireRange) := goodIn_app (goodIn_of _ (by decide +kernel)) ggX4_column_X4_requireRange
set_option maxRecDepth 20000 in
theorem ggX4_column_X4_requireSpareColumn : GoodIn wsX4_column wsX4_requireSpareColumn := goodIn_ca (goodIn_r _ [12, 13, 14, 2, 23, 24, 25, 26, 27, 28, 29, 30, 31, 32, 33, 34, 35, 36, 37, 38, 39] (by decide +kernel) (by decide +kernel)) (goodIn_sub (fun _ h => List.mem_cons_of_mem _ (List.mem_append_right _ h)) (by decide +kernel))
set_option maxRecDepth 20000 in
theorem gX4_column_X4_requireSpareColumn : GoodIn wsX4_column (wsV RX4 51 RX4 yX4_requireSpareColumn wsX4_requireSpareColumn) := goodIn_app (goodIn_of _ (by decide +kernel)) ggX4_column_X4_requireSpareColumn
set_option maxRecDepth 20000 in
theorem ggX4_column_X3_addColumn : GoodIn wsX4_column wsX3_addColumn := goodIn_r _ [19, 20, 21, 22, 31, 32, 33, 34, 35, 36, 37, 38, 39] (by decide +kernel) (by decide +kernel)
set_option maxRecDepth 20000 in
theorem gX4_column_X3_addColumn : GoodIn wsX4_column (wsV RX4 54 RX3 yX3_addColumn wsX3_addColumn) := goodIn_app (goodIn_of _ (by decide +kernel)) ggX4_column_X3_addColumn
theorem dX4_column_0 : decode cX4_column 0 = .ok (.iload_n 2, 1) := by decide +kernel
theorem dX4_column_1 : decode cX4_column 1 = .ok (.iconst 1, 1) := by decide +kernel
theorem dX4_column_2 : decode cX4_column 2 = .ok (.bipush 12, 2) := by decide +kernel
theorem dX4_column_4 : decode cX4_column 4 = .ok (.invokestatic 47, 3) := by decide +kernel
theorem dX4_column_7 : decode cX4_column 7 = .ok (.aload_n 0, 1) := by decide +kernel
theorem dX4_column_8 : decode cX4_column 8 = .ok (.invokevirtual 51, 3) := by decide +kernel
theorem dX4_column_11 : decode cX4_column 11 = .ok (.aload_n 0, 1) := by decide +kernel
theorem dX4_column_12 : decode cX4_column 12 = .ok (.iconst 1, 1) := by decide +kernel
theorem dX4_column_13 : decode cX4_column 13 = .ok (.putfield 30, 3) := by decide +kernel
theorem dX4_column_16 : decode cX4_column 16 = .ok (.aload_n 0, 1) := by decide +kernel
theorem dX4_column_17 : decode cX4_column 17 = .ok (.getfield 12, 3) := by decide +kernel
theorem dX4_column_20 : decode cX4_column 20 = .ok (.iload_n 1, 1) := by decide +kernel
theorem dX4_column_21 : decode cX4_column 21 = .ok (.ifCond .eq 7, 3) := by decide +kernel
theorem dX4_column_24 : decode cX4_column 24 = .ok (.iconst 1, 1) := by decide +kernel
theorem dX4_column_25 : decode cX4_column 25 = .ok (.goto 4, 3) := by decide +kernel
theorem dX4_column_28 : decode cX4_column 28 = .ok (.iconst 0, 1) := by decide +kernel
theorem dX4_column_29 : decode cX4_column 29 = .ok (.iload_n 2, 1) := by decide +kernel
theorem dX4_column_30 : decode cX4_column 30 = .ok (.invokevirtual 54, 3) := by decide +kernel
theorem dX4_column_33 : decode cX4_column 33 = .ok (.ireturn, 1) := by decide +kernel
set_option maxRecDepth 20000 in
theorem ggX4_row_X3_addRow : GoodIn wsX4_row wsX3_addRow := goodIn_r _ [9, 10, 11, 12, 13, 14, 15, 16, 17, 18, 19, 20, 21, 22, 31, 32, 33, 34, 35, 36, 37, 38, 39, 40, 41, 42, 43, 44, 45, 46, 47] (by decide +kernel) (by decide +kernel)
set_option maxRecDepth 20000 in
theorem gX4_row_X3_addRow : GoodIn wsX4_row (wsV RX4 82 RX3 yX3_addRow wsX3_addRow) := goodIn_app (goodIn_of _ (by decide +kernel)) ggX4_row_X3_addRow
theorem dX4_row_0 : decode cX4_row 0 = .ok (.aload_n 0, 1) := by decide +kernel
theorem dX4_row_1 : decode cX4_row 1 = .ok (.getfield 12, 3) := by decide +kernel
theorem dX4_row_4 : decode cX4_row 4 = .ok (.getfield 72, 3) := by decide +kernel
theorem dX4_row_7 : decode cX4_row 7 = .ok (.bipush 30, 2) := by decide +kernel
theorem dX4_row_9 : decode cX4_row 9 = .ok (.if_icmp .lt 13, 3) := by decide +kernel
theorem dX4_row_12 : decode cX4_row 12 = .ok (.new 75, 3) := by decide +kernel
theorem dX4_row_15 : decode cX4_row 15 = .ok (.dup, 1) := by decide +kernel
theorem dX4_row_16 : decode cX4_row 16 = .ok (.ldc 77, 2) := by decide +kernel
theorem dX4_row_18 : decode cX4_row 18 = .ok (.invokespecial 79, 3) := by decide +kernel
theorem dX4_row_21 : decode cX4_row 21 = .ok (.athrow, 1) := by decide +kernel
theorem dX4_row_22 : decode cX4_row 22 = .ok (.aload_n 0, 1) := by decide +kernel
theorem dX4_row_23 : decode cX4_row 23 = .ok (.iconst 1, 1) := by decide +kernel
theorem dX4_row_24 : decode cX4_row 24 = .ok (.putfield 30, 3) := by decide +kernel
theorem dX4_row_27 : decode cX4_row 27 = .ok (.aload_n 0, 1) := by decide +kernel
theorem dX4_row_28 : decode cX4_row 28 = .ok (.getfield 12, 3) := by decide +kernel
theorem dX4_row_31 : decode cX4_row 31 = .ok (.invokevirtual 82, 3) := by decide +kernel
theorem dX4_row_34 : decode cX4_row 34 = .ok (.ireturn, 1) := by decide +kernel
set_option maxRecDepth 20000 in
theorem ggX4_number_X4_requireNumberCell : GoodIn wsX4_number wsX4_requireNumberCell := goodIn_ca (goodIn_ca (goodIn_r _ [7, 8, 9, 10, 6, 11, 12, 13, 2, 14, 15, 16, 17, 18, 19, 20, 21, 22, 23, 24, 25, 26, 27, 28, 29, 30, 31, 32, 33, 34, 35, 36, 37, 38, 39, 40, 41, 42, 43] (by decide +kernel) (by decide +kernel)) (goodIn_sub (fun _ h => List.mem_cons_of_mem _ (List.mem_append_left _ (List.mem_append_right _ h))) (by decide +kernel))) (goodIn_sub (fun _ h => List.mem_cons_of_mem _ (List.mem_append_right _ h)) (by decide +kernel))
set_option maxRecDepth 20000 in
theorem gX4_number_X4_requireNumberCell : GoodIn wsX4_number (wsV RX4 92 RX4 yX4_requireNumberCell wsX4_requireNumberCell) := goodIn_app (goodIn_of _ (by decide +kernel)) ggX4_number_X4_requireNumberCell
theorem dX4_number_0 : decode cX4_number 0 = .ok (.aload_n 0, 1) := by decide +kernel
theorem dX4_number_1 : decode cX4_number 1 = .ok (.iload_n 1, 1) := by decide +kernel
theorem dX4_number_2 : decode cX4_number 2 = .ok (.iload_n 2, 1) := by decide +kernel
theorem dX4_number_3 : decode cX4_number 3 = .ok (.iload_n 3, 1) := by decide +kernel
theorem dX4_number_4 : decode cX4_number 4 = .ok (.invokevirtual 92, 3) := by decide +kernel
theorem dX4_number_7 : decode cX4_number 7 = .ok (.aload_n 0, 1) := by decide +kernel
theorem dX4_number_8 : decode cX4_number 8 = .ok (.iconst 1, 1) := by decide +kernel
theorem dX4_number_9 : decode cX4_number 9 = .ok (.putfield 30, 3) := by decide +kernel
theorem dX4_number_12 : decode cX4_number 12 = .ok (.aload_n 0, 1) := by decide +kernel
theorem dX4_number_13 : decode cX4_number 13 = .ok (.getfield 12, 3) := by decide +kernel
theorem dX4_number_16 : decode cX4_number 16 = .ok (.getfield 95, 3) := by decide +kernel
theorem dX4_number_19 : decode cX4_number 19 = .ok (.iload_n 1, 1) := by decide +kernel
theorem dX4_number_20 : decode cX4_number 20 = .ok (.aaload, 1) := by decide +kernel
theorem dX4_number_21 : decode cX4_number 21 = .ok (.getfield 99, 3) := by decide +kernel
theorem dX4_number_24 : decode cX4_number 24 = .ok (.iload_n 2, 1) := by decide +kernel
theorem dX4_number_25 : decode cX4_number 25 = .ok (.iaload, 1) := by decide +kernel
theorem dX4_number_26 : decode cX4_number 26 = .ok (.istore 4, 2) := by decide +kernel
theorem dX4_number_28 : decode cX4_number 28 = .ok (.aload_n 0, 1) := by decide +kernel
theorem dX4_number_29 : decode cX4_number 29 = .ok (.getfield 12, 3) := by decide +kernel
theorem dX4_number_32 : decode cX4_number 32 = .ok (.getfield 95, 3) := by decide +kernel
theorem dX4_number_35 : decode cX4_number 35 = .ok (.iload_n 1, 1) := by decide +kernel
theorem dX4_number_36 : decode cX4_number 36 = .ok (.aaload, 1) := by decide +kernel
theorem dX4_number_37 : decode cX4_number 37 = .ok (.getfield 99, 3) := by decide +kernel
theorem dX4_number_40 : decode cX4_number 40 = .ok (.iload_n 2, 1) := by decide +kernel
theorem dX4_number_41 : decode cX4_number 41 = .ok (.iload_n 3, 1) := by decide +kernel
theorem dX4_number_42 : decode cX4_number 42 = .ok (.iastore, 1) := by decide +kernel
theorem dX4_number_43 : decode cX4_number 43 = .ok (.iload 4, 2) := by decide +kernel
theorem dX4_number_45 : decode cX4_number 45 = .ok (.ireturn, 1) := by decide +kernel
set_option maxRecDepth 20000 in
theorem ggX4_text_X4_requireRow : GoodIn wsX4_text wsX4_requireRow := goodIn_ca (goodIn_r _ [11, 12, 13, 6, 27, 28, 29, 30, 31, 32, 33, 34, 35, 36, 37, 38, 39, 40, 41, 42, 43] (by decide +kernel) (by decide +kernel)) (goodIn_sub (fun _ h => List.mem_cons_of_mem _ (List.mem_append_left _ (List.mem_append_right _ h))) (by decide +kernel))
set_option maxRecDepth 20000 in
theorem gX4_text_X4_requireRow : GoodIn wsX4_text (wsV RX4 86 RX4 yX4_requireRow wsX4_requireRow) := goodIn_app (goodIn_of _ (by decide +kernel)) ggX4_text_X4_requireRow
set_option maxRecDepth 20000 in
theorem ggX4_text_X4_requireColumn : GoodIn wsX4_text wsX4_requireColumn := goodIn_ca (goodIn_r _ [17, 12, 13, 6, 27, 28, 29, 30, 31, 32, 33, 34, 35, 36, 37, 38, 39, 40, 41, 42, 43] (by decide +kernel) (by decide +kernel)) (goodIn_sub (fun _ h => List.mem_cons_of_mem _ (List.mem_append_left _ (List.mem_append_right _ h))) (by decide +kernel))
set_option maxRecDepth 20000 in
theorem gX4_text_X4_requireColumn : GoodIn wsX4_text (wsV RX4 58 RX4 yX4_requireColumn wsX4_requireColumn) := goodIn_app (goodIn_of _ (by decide +kernel)) ggX4_text_X4_requireColumn
set_option maxRecDepth 20000 in
theorem ggX4_text_X4_requireKind : GoodIn wsX4_text wsX4_requireKind := goodIn_ca (goodIn_r _ [21, 22, 23, 6, 27, 28, 29, 30, 31, 32, 33, 34, 35, 36, 37, 38, 39, 40, 41, 42, 43] (by decide +kernel) (by decide +kernel)) (goodIn_sub (fun _ h => List.mem_cons_of_mem _ (List.mem_append_right _ h)) (by decide +kernel))
set_option maxRecDepth 20000 in
theorem gX4_text_X4_requireKind : GoodIn wsX4_text (wsV RX4 104 RX4 yX4_requireKind wsX4_requireKind) := goodIn_app (goodIn_of _ (by decide +kernel)) ggX4_text_X4_requireKind
set_option maxRecDepth 20000 in
theorem ggX4_text_X4_requireRange : GoodIn wsX4_text wsX4_requireRange := goodIn_ca (goodIn_r _ [26, 22, 23] (by decide +kernel) (by decide +kernel)) (goodIn_sub (fun _ h => List.mem_cons_of_mem _ (List.mem_append_right _ h)) (by decide +kernel))
set_option maxRecDepth 20000 in
theorem gX4_text_X4_requireRange : GoodIn wsX4_text (va_wsS RX4 47 yX4_requireRange wsX4_requireRange) := goodIn_app (goodIn_of _ (by decide +kernel)) ggX4_text_X4_requireRange
theorem dX4_text_0 : decode cX4_text 0 = .ok (.aload_n 0, 1) := by decide +kernel
theorem dX4_text_1 : decode cX4_text 1 = .ok (.iload_n 1, 1) := by decide +kernel
theorem dX4_text_2 : decode cX4_text 2 = .ok (.invokevirtual 86, 3) := by decide +kernel
theorem dX4_text_5 : decode cX4_text 5 = .ok (.aload_n 0, 1) := by decide +kernel
theorem dX4_text_6 : decode cX4_text 6 = .ok (.iload_n 2, 1) := by decide +kernel
theorem dX4_text_7 : decode cX4_text 7 = .ok (.invokevirtual 58, 3) := by decide +kernel
theorem dX4_text_10 : decode cX4_text 10 = .ok (.aload_n 0, 1) := by decide +kernel
theorem dX4_text_11 : decode cX4_text 11 = .ok (.iload_n 2, 1) := by decide +kernel
theorem dX4_text_12 : decode cX4_text 12 = .ok (.iconst 1, 1) := by decide +kernel
theorem dX4_text_13 : decode cX4_text 13 = .ok (.invokevirtual 104, 3) := by decide +kernel
theorem dX4_text_16 : decode cX4_text 16 = .ok (.iload_n 3, 1) := by decide +kernel
theorem dX4_text_17 : decode cX4_text 17 = .ok (.iconst 0, 1) := by decide +kernel
theorem dX4_text_18 : decode cX4_text 18 = .ok (.sipush 200, 3) := by decide +kernel
theorem dX4_text_21 : decode cX4_text 21 = .ok (.invokestatic 47, 3) := by decide +kernel
theorem dX4_text_24 : decode cX4_text 24 = .ok (.iload 4, 2) := by decide +kernel
theorem dX4_text_26 : decode cX4_text 26 = .ok (.iconst 0, 1) := by decide +kernel
theorem dX4_text_27 : decode cX4_text 27 = .ok (.bipush 12, 2) := by decide +kernel
theorem dX4_text_29 : decode cX4_text 29 = .ok (.iload_n 3, 1) := by decide +kernel
theorem dX4_text_30 : decode cX4_text 30 = .ok (.invokestatic 108, 3) := by decide +kernel
theorem dX4_text_33 : decode cX4_text 33 = .ok (.invokestatic 47, 3) := by decide +kernel
theorem dX4_text_36 : decode cX4_text 36 = .ok (.aload_n 0, 1) := by decide +kernel
theorem dX4_text_37 : decode cX4_text 37 = .ok (.iconst 1, 1) := by decide +kernel
theorem dX4_text_38 : decode cX4_text 38 = .ok (.putfield 30, 3) := by decide +kernel
theorem dX4_text_41 : decode cX4_text 41 = .ok (.aload_n 0, 1) := by decide +kernel
theorem dX4_text_42 : decode cX4_text 42 = .ok (.getfield 12, 3) := by decide +kernel
theorem dX4_text_45 : decode cX4_text 45 = .ok (.getfield 95, 3) := by decide +kernel
theorem dX4_text_48 : decode cX4_text 48 = .ok (.iload_n 1, 1) := by decide +kernel
theorem dX4_text_49 : decode cX4_text 49 = .ok (.aaload, 1) := by decide +kernel
theorem dX4_text_50 : decode cX4_text 50 = .ok (.getfield 113, 3) := by decide +kernel
theorem dX4_text_53 : decode cX4_text 53 = .ok (.iload_n 2, 1) := by decide +kernel
theorem dX4_text_54 : decode cX4_text 54 = .ok (.iaload, 1) := by decide +kernel
theorem dX4_text_55 : decode cX4_text 55 = .ok (.istore 5, 2) := by decide +kernel
theorem dX4_text_57 : decode cX4_text 57 = .ok (.aload_n 0, 1) := by decide +kernel
theorem dX4_text_58 : decode cX4_text 58 = .ok (.getfield 12, 3) := by decide +kernel
theorem dX4_text_61 : decode cX4_text 61 = .ok (.getfield 95, 3) := by decide +kernel
theorem dX4_text_64 : decode cX4_text 64 = .ok (.iload_n 1, 1) := by decide +kernel
theorem dX4_text_65 : decode cX4_text 65 = .ok (.aaload, 1) := by decide +kernel
theorem dX4_text_66 : decode cX4_text 66 = .ok (.getfield 113, 3) := by decide +kernel
theorem dX4_text_69 : decode cX4_text 69 = .ok (.iload_n 2, 1) := by decide +kernel
theorem dX4_text_70 : decode cX4_text 70 = .ok (.iload_n 3, 1) := by decide +kernel
theorem dX4_text_71 : decode cX4_text 71 = .ok (.iastore, 1) := by decide +kernel
theorem dX4_text_72 : decode cX4_text 72 = .ok (.aload_n 0, 1) := by decide +kernel
theorem dX4_text_73 : decode cX4_text 73 = .ok (.getfield 12, 3) := by decide +kernel
theorem dX4_text_76 : decode cX4_text 76 = .ok (.getfield 95, 3) := by decide +kernel
theorem dX4_text_79 : decode cX4_text 79 = .ok (.iload_n 1, 1) := by decide +kernel
theorem dX4_text_80 : decode cX4_text 80 = .ok (.aaload, 1) := by decide +kernel
theorem dX4_text_81 : decode cX4_text 81 = .ok (.getfield 116, 3) := by decide +kernel
theorem dX4_text_84 : decode cX4_text 84 = .ok (.iload_n 2, 1) := by decide +kernel
theorem dX4_text_85 : decode cX4_text 85 = .ok (.iload 4, 2) := by decide +kernel
theorem dX4_text_87 : decode cX4_text 87 = .ok (.iastore, 1) := by decide +kernel
theorem dX4_text_88 : decode cX4_text 88 = .ok (.iload 5, 2) := by decide +kernel
theorem dX4_text_90 : decode cX4_text 90 = .ok (.ireturn, 1) := by decide +kernel
set_option maxRecDepth 20000 in
theorem ggX4_span_X4_requireRow : GoodIn wsX4_span wsX4_requireRow := goodIn_ca (goodIn_r _ [9, 10, 11, 3, 151, 152, 153, 154, 155, 156, 157, 158, 159, 160, 161, 162, 163, 164, 165, 166, 167] (by decide +kernel) (by decide +kernel)) (goodIn_sub (fun _ h => List.mem_cons_of_mem _ (List.mem_append_right _ h)) (by decide +kernel))
set_option maxRecDepth 20000 in
theorem gX4_span_X4_requireRow : GoodIn wsX4_span (wsV RX4 86 RX4 yX4_requireRow wsX4_requireRow) := goodIn_app (goodIn_of _ (by decide +kernel)) ggX4_span_X4_requireRow
set_option maxRecDepth 20000 in
theorem ggX4_span_X4_requireColumn : GoodIn wsX4_span wsX4_requireColumn := goodIn_ca (goodIn_r _ [15, 10, 11, 3, 151, 152, 153, 154, 155, 156, 157, 158, 159, 160, 161, 162, 163, 164, 165, 166, 167] (by decide +kernel) (by decide +kernel)) (goodIn_sub (fun _ h => List.mem_cons_of_mem _ (List.mem_append_right _ h)) (by decide +kernel))
set_option maxRecDepth 20000 in
theorem gX4_span_X4_requireColumn : GoodIn wsX4_span (wsV RX4 58 RX4 yX4_requireColumn wsX4_requireColumn) := goodIn_app (goodIn_of _ (by decide +kernel)) ggX4_span_X4_requireColumn
set_option maxRecDepth 20000 in
theorem ggX4_span_X4_requireKind : GoodIn wsX4_span wsX4_requireKind := goodIn_ca (goodIn_r _ [19, 1, 2, 3, 151, 152, 153, 154, 155, 156, 157, 158, 159, 160, 161, 162, 163, 164, 165, 166, 167] (by decide +kernel) (by decide +kernel)) (goodIn_sub (fun _ h => List.mem_cons_of_mem _ (List.mem_append_left _ (List.mem_append_right _ h))) (by decide +kernel))
set_option maxRecDepth 20000 in
theorem gX4_span_X4_requireKind : GoodIn wsX4_span (wsV RX4 104 RX4 yX4_requireKind wsX4_requireKind) := goodIn_app (goodIn_of _ (by decide +kernel)) ggX4_span_X4_requireKind
set_option maxRecDepth 20000 in
theorem ggX4_span_X4_refresh : GoodIn wsX4_span wsX4_refresh := goodIn_r _ [23, 4, 3, 24, 25, 26, 27, 28, 29, 30, 31, 32, 33, 34, 35, 36, 37, 38, 39, 40, 41, 42, 43, 44, 45, 46, 47, 48, 49, 50, 51, 52, 53, 54, 55, 56, 57, 58, 59, 60, 61, 62, 63, 64, 65, 66, 67, 68, 69, 70, 71, 72, 73, 74, 75, 76, 77, 78, 79, 80, 81, 82, 83, 84, 85, 86, 87, 88, 89, 90, 91, 92, 93, 94, 95, 96, 97, 98, 99, 100, 101, 102, 103, 104, 105, 106, 107, 108, 109, 110, 111, 112, 113, 114, 115, 116, 117, 118, 119, 120, 121, 122, 123, 124, 125, 126, 127, 128, 129, 130, 131, 132, 133, 134, 135, 136, 137, 138, 139, 140, 141, 142, 143, 144, 145, 146, 147, 148, 149, 150, 151, 152, 153, 154, 155, 156, 157, 158, 159, 160, 161, 162, 163, 164, 165, 166, 167, 168, 169, 170, 171, 172, 173, 174, 175, 176, 177, 178, 179, 180, 181, 182, 183, 184, 185, 186, 187, 188, 189, 190, 191, 192] (by decide +kernel) (by decide +kernel)
set_option maxRecDepth 20000 in
theorem gX4_span_X4_refresh : GoodIn wsX4_span (wsV RX4 131 RX4 yX4_refresh wsX4_refresh) := goodIn_app (goodIn_of _ (by decide +kernel)) ggX4_span_X4_refresh
theorem dX4_span_0 : decode cX4_span 0 = .ok (.aload_n 0, 1) := by decide +kernel
theorem dX4_span_1 : decode cX4_span 1 = .ok (.iload_n 1, 1) := by decide +kernel
theorem dX4_span_2 : decode cX4_span 2 = .ok (.invokevirtual 86, 3) := by decide +kernel
theorem dX4_span_5 : decode cX4_span 5 = .ok (.aload_n 0, 1) := by decide +kernel
theorem dX4_span_6 : decode cX4_span 6 = .ok (.iload_n 2, 1) := by decide +kernel
theorem dX4_span_7 : decode cX4_span 7 = .ok (.invokevirtual 58, 3) := by decide +kernel
theorem dX4_span_10 : decode cX4_span 10 = .ok (.aload_n 0, 1) := by decide +kernel
theorem dX4_span_11 : decode cX4_span 11 = .ok (.iload_n 2, 1) := by decide +kernel
theorem dX4_span_12 : decode cX4_span 12 = .ok (.iconst 1, 1) := by decide +kernel
theorem dX4_span_13 : decode cX4_span 13 = .ok (.invokevirtual 104, 3) := by decide +kernel
theorem dX4_span_16 : decode cX4_span 16 = .ok (.iload_n 2, 1) := by decide +kernel
theorem dX4_span_17 : decode cX4_span 17 = .ok (.iconst 1, 1) := by decide +kernel
theorem dX4_span_18 : decode cX4_span 18 = .ok (.iadd, 1) := by decide +kernel
theorem dX4_span_19 : decode cX4_span 19 = .ok (.aload_n 0, 1) := by decide +kernel
theorem dX4_span_20 : decode cX4_span 20 = .ok (.getfield 12, 3) := by decide +kernel
theorem dX4_span_23 : decode cX4_span 23 = .ok (.getfield 119, 3) := by decide +kernel
theorem dX4_span_26 : decode cX4_span 26 = .ok (.if_icmp .lt 13, 3) := by decide +kernel
theorem dX4_span_29 : decode cX4_span 29 = .ok (.new 122, 3) := by decide +kernel
theorem dX4_span_32 : decode cX4_span 32 = .ok (.dup, 1) := by decide +kernel
theorem dX4_span_33 : decode cX4_span 33 = .ok (.ldc 124, 2) := by decide +kernel
theorem dX4_span_35 : decode cX4_span 35 = .ok (.invokespecial 126, 3) := by decide +kernel
theorem dX4_span_38 : decode cX4_span 38 = .ok (.athrow, 1) := by decide +kernel
theorem dX4_span_39 : decode cX4_span 39 = .ok (.aload_n 0, 1) := by decide +kernel
theorem dX4_span_40 : decode cX4_span 40 = .ok (.iconst 1, 1) := by decide +kernel
theorem dX4_span_41 : decode cX4_span 41 = .ok (.putfield 30, 3) := by decide +kernel
theorem dX4_span_44 : decode cX4_span 44 = .ok (.aload_n 0, 1) := by decide +kernel
theorem dX4_span_45 : decode cX4_span 45 = .ok (.getfield 12, 3) := by decide +kernel
theorem dX4_span_48 : decode cX4_span 48 = .ok (.getfield 95, 3) := by decide +kernel
theorem dX4_span_51 : decode cX4_span 51 = .ok (.iload_n 1, 1) := by decide +kernel
theorem dX4_span_52 : decode cX4_span 52 = .ok (.aaload, 1) := by decide +kernel
theorem dX4_span_53 : decode cX4_span 53 = .ok (.getfield 127, 3) := by decide +kernel
theorem dX4_span_56 : decode cX4_span 56 = .ok (.iload_n 2, 1) := by decide +kernel
theorem dX4_span_57 : decode cX4_span 57 = .ok (.iload_n 3, 1) := by decide +kernel
theorem dX4_span_58 : decode cX4_span 58 = .ok (.bastore, 1) := by decide +kernel
theorem dX4_span_59 : decode cX4_span 59 = .ok (.aload_n 0, 1) := by decide +kernel
theorem dX4_span_60 : decode cX4_span 60 = .ok (.invokevirtual 131, 3) := by decide +kernel
theorem dX4_span_63 : decode cX4_span 63 = .ok (.aload_n 0, 1) := by decide +kernel
theorem dX4_span_64 : decode cX4_span 64 = .ok (.getfield 12, 3) := by decide +kernel
theorem dX4_span_67 : decode cX4_span 67 = .ok (.getfield 95, 3) := by decide +kernel
theorem dX4_span_70 : decode cX4_span 70 = .ok (.iload_n 1, 1) := by decide +kernel
theorem dX4_span_71 : decode cX4_span 71 = .ok (.aaload, 1) := by decide +kernel
theorem dX4_span_72 : decode cX4_span 72 = .ok (.getfield 134, 3) := by decide +kernel
theorem dX4_span_75 : decode cX4_span 75 = .ok (.iload_n 2, 1) := by decide +kernel
theorem dX4_span_76 : decode cX4_span 76 = .ok (.iconst 1, 1) := by decide +kernel
theorem dX4_span_77 : decode cX4_span 77 = .ok (.iadd, 1) := by decide +kernel
theorem dX4_span_78 : decode cX4_span 78 = .ok (.baload, 1) := by decide +kernel
theorem dX4_span_79 : decode cX4_span 79 = .ok (.ireturn, 1) := by decide +kernel
set_option maxRecDepth 20000 in
theorem ggX4_note_X4_requireRow : GoodIn wsX4_note wsX4_requireRow := goodIn_ca (goodIn_r _ [7, 8, 9, 2, 15, 16, 17, 18, 19, 20, 21, 22, 23, 24, 25, 26, 27, 28, 29, 30, 31] (by decide +kernel) (by decide +kernel)) (goodIn_sub (fun _ h => List.mem_cons_of_mem _ (List.mem_append_left _ (List.mem_append_right _ h))) (by decide +kernel))
set_option maxRecDepth 20000 in
theorem gX4_note_X4_requireRow : GoodIn wsX4_note (wsV RX4 86 RX4 yX4_requireRow wsX4_requireRow) := goodIn_app (goodIn_of _ (by decide +kernel)) ggX4_note_X4_requireRow
set_option maxRecDepth 20000 in
theorem ggX4_note_X4_requireRange : GoodIn wsX4_note wsX4_requireRange := goodIn_ca (goodIn_r _ [12, 13, 14] (by decide +kernel) (by decide +kernel)) (goodIn_sub (fun _ h => List.mem_cons_of_mem _ (List.mem_append_right _ h)) (by decide +kernel))
set_option maxRecDepth 20000 in
theorem gX4_note_X4_requireRange : GoodIn wsX4_note (va_wsS RX4 47 yX4_requireRange wsX4_requireRange) := goodIn_app (goodIn_of _ (by decide +kernel)) ggX4_note_X4_requireRange
theorem dX4_note_0 : decode cX4_note 0 = .ok (.aload_n 0, 1) := by decide +kernel
theorem dX4_note_1 : decode cX4_note 1 = .ok (.iload_n 1, 1) := by decide +kernel
theorem dX4_note_2 : decode cX4_note 2 = .ok (.invokevirtual 86, 3) := by decide +kernel
theorem dX4_note_5 : decode cX4_note 5 = .ok (.iload_n 2, 1) := by decide +kernel
theorem dX4_note_6 : decode cX4_note 6 = .ok (.iconst 0, 1) := by decide +kernel
theorem dX4_note_7 : decode cX4_note 7 = .ok (.iconst 5, 1) := by decide +kernel
theorem dX4_note_8 : decode cX4_note 8 = .ok (.invokestatic 47, 3) := by decide +kernel
theorem dX4_note_11 : decode cX4_note 11 = .ok (.aload_n 0, 1) := by decide +kernel
theorem dX4_note_12 : decode cX4_note 12 = .ok (.iconst 1, 1) := by decide +kernel
theorem dX4_note_13 : decode cX4_note 13 = .ok (.putfield 30, 3) := by decide +kernel
theorem dX4_note_16 : decode cX4_note 16 = .ok (.aload_n 0, 1) := by decide +kernel
theorem dX4_note_17 : decode cX4_note 17 = .ok (.getfield 12, 3) := by decide +kernel
theorem dX4_note_20 : decode cX4_note 20 = .ok (.getfield 95, 3) := by decide +kernel
theorem dX4_note_23 : decode cX4_note 23 = .ok (.iload_n 1, 1) := by decide +kernel
theorem dX4_note_24 : decode cX4_note 24 = .ok (.aaload, 1) := by decide +kernel
theorem dX4_note_25 : decode cX4_note 25 = .ok (.getfield 137, 3) := by decide +kernel
theorem dX4_note_28 : decode cX4_note 28 = .ok (.istore_n 3, 1) := by decide +kernel
theorem dX4_note_29 : decode cX4_note 29 = .ok (.aload_n 0, 1) := by decide +kernel
theorem dX4_note_30 : decode cX4_note 30 = .ok (.getfield 12, 3) := by decide +kernel
theorem dX4_note_33 : decode cX4_note 33 = .ok (.getfield 95, 3) := by decide +kernel
theorem dX4_note_36 : decode cX4_note 36 = .ok (.iload_n 1, 1) := by decide +kernel
theorem dX4_note_37 : decode cX4_note 37 = .ok (.aaload, 1) := by decide +kernel
theorem dX4_note_38 : decode cX4_note 38 = .ok (.iload_n 2, 1) := by decide +kernel
theorem dX4_note_39 : decode cX4_note 39 = .ok (.putfield 137, 3) := by decide +kernel
theorem dX4_note_42 : decode cX4_note 42 = .ok (.iload_n 3, 1) := by decide +kernel
theorem dX4_note_43 : decode cX4_note 43 = .ok (.ireturn, 1) := by decide +kernel
set_option maxRecDepth 20000 in
theorem ggX4_keep_X4_requireRow : GoodIn wsX4_keep wsX4_requireRow := goodIn_ca (goodIn_r _ [7, 8, 9, 2, 10, 11, 12, 13, 14, 15, 16, 17, 18, 19, 20, 21, 22, 23, 24, 25, 26] (by decide +kernel) (by decide +kernel)) (goodIn_sub (fun _ h => List.mem_cons_of_mem _ (List.mem_append_right _ h)) (by decide +kernel))
set_option maxRecDepth 20000 in
theorem gX4_keep_X4_requireRow : GoodIn wsX4_keep (wsV RX4 86 RX4 yX4_requireRow wsX4_requireRow) := goodIn_app (goodIn_of _ (by decide +kernel)) ggX4_keep_X4_requireRow
theorem dX4_keep_0 : decode cX4_keep 0 = .ok (.aload_n 0, 1) := by decide +kernel
theorem dX4_keep_1 : decode cX4_keep 1 = .ok (.iload_n 1, 1) := by decide +kernel
theorem dX4_keep_2 : decode cX4_keep 2 = .ok (.invokevirtual 86, 3) := by decide +kernel
theorem dX4_keep_5 : decode cX4_keep 5 = .ok (.aload_n 0, 1) := by decide +kernel
theorem dX4_keep_6 : decode cX4_keep 6 = .ok (.iconst 1, 1) := by decide +kernel
theorem dX4_keep_7 : decode cX4_keep 7 = .ok (.putfield 30, 3) := by decide +kernel
theorem dX4_keep_10 : decode cX4_keep 10 = .ok (.aload_n 0, 1) := by decide +kernel
theorem dX4_keep_11 : decode cX4_keep 11 = .ok (.getfield 12, 3) := by decide +kernel
theorem dX4_keep_14 : decode cX4_keep 14 = .ok (.getfield 95, 3) := by decide +kernel
theorem dX4_keep_17 : decode cX4_keep 17 = .ok (.iload_n 1, 1) := by decide +kernel
theorem dX4_keep_18 : decode cX4_keep 18 = .ok (.aaload, 1) := by decide +kernel
theorem dX4_keep_19 : decode cX4_keep 19 = .ok (.getfield 140, 3) := by decide +kernel
theorem dX4_keep_22 : decode cX4_keep 22 = .ok (.istore_n 3, 1) := by decide +kernel
theorem dX4_keep_23 : decode cX4_keep 23 = .ok (.aload_n 0, 1) := by decide +kernel
theorem dX4_keep_24 : decode cX4_keep 24 = .ok (.getfield 12, 3) := by decide +kernel
theorem dX4_keep_27 : decode cX4_keep 27 = .ok (.getfield 95, 3) := by decide +kernel
theorem dX4_keep_30 : decode cX4_keep 30 = .ok (.iload_n 1, 1) := by decide +kernel
theorem dX4_keep_31 : decode cX4_keep 31 = .ok (.aaload, 1) := by decide +kernel
theorem dX4_keep_32 : decode cX4_keep 32 = .ok (.iload_n 2, 1) := by decide +kernel
theorem dX4_keep_33 : decode cX4_keep 33 = .ok (.putfield 140, 3) := by decide +kernel
theorem dX4_keep_36 : decode cX4_keep 36 = .ok (.iload_n 3, 1) := by decide +kernel
theorem dX4_keep_37 : decode cX4_keep 37 = .ok (.ireturn, 1) := by decide +kernel
set_option maxRecDepth 20000 in
theorem ggX4_paper_X4_requireRange : GoodIn wsX4_paper wsX4_requireRange := goodIn_ca (goodIn_r _ [8, 9, 10] (by decide +kernel) (by decide +kernel)) (goodIn_sub (fun _ h => List.mem_cons_of_mem _ (List.mem_append_right _ h)) (by decide +kernel))
set_option maxRecDepth 20000 in
theorem gX4_paper_X4_requireRange : GoodIn wsX4_paper (va_wsS RX4 47 yX4_requireRange wsX4_requireRange) := goodIn_app (goodIn_of _ (by decide +kernel)) ggX4_paper_X4_requireRange
set_option maxRecDepth 20000 in
theorem ggX4_paper_X4_refresh : GoodIn wsX4_paper wsX4_refresh := goodIn_r _ [14, 1, 15, 4, 2, 3, 16, 17, 18, 19, 20, 21, 22, 23, 24, 25, 26, 27, 28, 29, 30, 31, 32, 33, 34, 35, 36, 37, 38, 39, 40, 41, 42, 43, 44, 45, 46, 47, 48, 49, 50, 51, 52, 53, 54, 55, 56, 57, 58, 59, 60, 61, 62, 63, 64, 65, 66, 67, 68, 69, 70, 71, 72, 73, 74, 75, 76, 77, 78, 79, 80, 81, 82, 83, 84, 85, 86, 87, 88, 89, 90, 91, 92, 93, 94, 95, 96, 97, 98, 99, 100, 101, 102, 103, 104, 105, 106, 107, 108, 109, 110, 111, 112, 113, 114, 115, 116, 117, 118, 119, 120, 121, 122, 123, 124, 125, 126, 127, 128, 129, 130, 131, 132, 133, 134, 135, 136, 137, 138, 139, 148, 149, 150, 151, 152, 153, 154, 155, 156, 157, 158, 159, 160, 161, 162, 163, 164, 165, 166, 167, 168, 169, 170, 171, 172, 173, 174, 175, 176, 177, 178, 179, 180, 181, 182, 183, 184, 185, 186, 187, 188, 189] (by decide +kernel) (by decide +kernel)
set_option maxRecDepth 20000 in
theorem gX4_paper_X4_refresh : GoodIn wsX4_paper (wsV RX4 131 RX4 yX4_refresh wsX4_refresh) := goodIn_app (goodIn_of _ (by decide +kernel)) ggX4_paper_X4_refresh
set_option maxRecDepth 20000 in
theorem ggX4_paper_X2_chosen : GoodIn wsX4_paper wsX2_chosen := goodIn_r _ [143, 78, 77, 76, 173, 174, 175] (by decide +kernel) (by decide +kernel)
set_option maxRecDepth 20000 in
theorem gX4_paper_X2_chosen : GoodIn wsX4_paper (wsV RX4 143 RX2 yX2_chosen wsX2_chosen) := goodIn_app (goodIn_of _ (by decide +kernel)) ggX4_paper_X2_chosen
set_option maxRecDepth 20000 in
theorem ggX4_paper_X0_pagesOrNone : GoodIn wsX4_paper wsX0_pagesOrNone := goodIn_r _ [147, 85, 86, 176, 177, 178, 179, 180, 181, 182, 183, 184, 185, 186, 187, 188, 189] (by decide +kernel) (by decide +kernel)
set_option maxRecDepth 20000 in
theorem gX4_paper_X0_pagesOrNone : GoodIn wsX4_paper (wsV RX4 147 RX0 yX0_pagesOrNone wsX0_pagesOrNone) := goodIn_app (goodIn_of _ (by decide +kernel)) ggX4_paper_X0_pagesOrNone
theorem dX4_paper_0 : decode cX4_paper 0 = .ok (.iload_n 1, 1) := by decide +kernel
theorem dX4_paper_1 : decode cX4_paper 1 = .ok (.bipush 10, 2) := by decide +kernel
theorem dX4_paper_3 : decode cX4_paper 3 = .ok (.bipush 60, 2) := by decide +kernel
theorem dX4_paper_5 : decode cX4_paper 5 = .ok (.invokestatic 47, 3) := by decide +kernel
theorem dX4_paper_8 : decode cX4_paper 8 = .ok (.iload_n 2, 1) := by decide +kernel
theorem dX4_paper_9 : decode cX4_paper 9 = .ok (.bipush 10, 2) := by decide +kernel
theorem dX4_paper_11 : decode cX4_paper 11 = .ok (.bipush 60, 2) := by decide +kernel
theorem dX4_paper_13 : decode cX4_paper 13 = .ok (.invokestatic 47, 3) := by decide +kernel
theorem dX4_paper_16 : decode cX4_paper 16 = .ok (.aload_n 0, 1) := by decide +kernel
theorem dX4_paper_17 : decode cX4_paper 17 = .ok (.iconst 1, 1) := by decide +kernel
theorem dX4_paper_18 : decode cX4_paper 18 = .ok (.putfield 30, 3) := by decide +kernel
theorem dX4_paper_21 : decode cX4_paper 21 = .ok (.aload_n 0, 1) := by decide +kernel
theorem dX4_paper_22 : decode cX4_paper 22 = .ok (.iload_n 1, 1) := by decide +kernel
theorem dX4_paper_23 : decode cX4_paper 23 = .ok (.putfield 23, 3) := by decide +kernel
theorem dX4_paper_26 : decode cX4_paper 26 = .ok (.aload_n 0, 1) := by decide +kernel
theorem dX4_paper_27 : decode cX4_paper 27 = .ok (.iload_n 2, 1) := by decide +kernel
theorem dX4_paper_28 : decode cX4_paper 28 = .ok (.putfield 27, 3) := by decide +kernel
theorem dX4_paper_31 : decode cX4_paper 31 = .ok (.aload_n 0, 1) := by decide +kernel
theorem dX4_paper_32 : decode cX4_paper 32 = .ok (.invokevirtual 131, 3) := by decide +kernel
theorem dX4_paper_35 : decode cX4_paper 35 = .ok (.aload_n 0, 1) := by decide +kernel
theorem dX4_paper_36 : decode cX4_paper 36 = .ok (.getfield 19, 3) := by decide +kernel
theorem dX4_paper_39 : decode cX4_paper 39 = .ok (.invokevirtual 143, 3) := by decide +kernel
theorem dX4_paper_42 : decode cX4_paper 42 = .ok (.invokevirtual 147, 3) := by decide +kernel
theorem dX4_paper_45 : decode cX4_paper 45 = .ok (.ireturn, 1) := by decide +kernel
set_option maxRecDepth 20000 in
theorem ggX4_cell_X4_requireRow : GoodIn wsX4_cell wsX4_requireRow := goodIn_ca (goodIn_r _ [5, 6, 7, 8, 163, 164, 165, 166, 167, 168, 169, 170, 171, 172, 173, 174, 175, 176, 177, 178, 179] (by decide +kernel) (by decide +kernel)) (goodIn_sub (fun _ h => List.mem_cons_of_mem _ (List.mem_append_left _ (List.mem_append_right _ h))) (by decide +kernel))
set_option maxRecDepth 20000 in
theorem gX4_cell_X4_requireRow : GoodIn wsX4_cell (wsV RX4 86 RX4 yX4_requireRow wsX4_requireRow) := goodIn_app (goodIn_of _ (by decide +kernel)) ggX4_cell_X4_requireRow
set_option maxRecDepth 20000 in
theorem ggX4_cell_X4_requireColumn : GoodIn wsX4_cell wsX4_requireColumn := goodIn_ca (goodIn_r _ [12, 6, 7, 8, 163, 164, 165, 166, 167, 168, 169, 170, 171, 172, 173, 174, 175, 176, 177, 178, 179] (by decide +kernel) (by decide +kernel)) (goodIn_sub (fun _ h => List.mem_cons_of_mem _ (List.mem_append_left _ (List.mem_append_right _ h))) (by decide +kernel))
set_option maxRecDepth 20000 in
theorem gX4_cell_X4_requireColumn : GoodIn wsX4_cell (wsV RX4 58 RX4 yX4_requireColumn wsX4_requireColumn) := goodIn_app (goodIn_of _ (by decide +kernel)) ggX4_cell_X4_requireColumn
set_option maxRecDepth 20000 in
theorem ggX4_cell_X4_requireRange : GoodIn wsX4_cell wsX4_requireRange := goodIn_ca (goodIn_r _ [15, 16, 17] (by decide +kernel) (by decide +kernel)) (goodIn_sub (fun _ h => List.mem_cons_of_mem _ (List.mem_append_right _ h)) (by decide +kernel))
set_option maxRecDepth 20000 in
theorem gX4_cell_X4_requireRange : GoodIn wsX4_cell (va_wsS RX4 47 yX4_requireRange wsX4_requireRange) := goodIn_app (goodIn_of _ (by decide +kernel)) ggX4_cell_X4_requireRange
set_option maxRecDepth 20000 in
theorem ggX4_cell_X4_refresh : GoodIn wsX4_cell wsX4_refresh := goodIn_r _ [21, 22, 8, 23, 24, 25, 26, 27, 28, 29, 30, 31, 32, 33, 34, 35, 36, 37, 38, 39, 40, 41, 42, 43, 44, 45, 46, 47, 48, 49, 50, 51, 52, 53, 54, 55, 56, 57, 58, 59, 60, 61, 62, 63, 64, 65, 66, 67, 68, 69, 70, 71, 72, 73, 74, 75, 76, 77, 78, 79, 80, 81, 82, 83, 84, 85, 86, 87, 88, 89, 90, 91, 92, 93, 94, 95, 96, 97, 98, 99, 100, 101, 102, 103, 104, 105, 106, 107, 108, 109, 110, 111, 112, 113, 114, 115, 116, 117, 118, 119, 120, 121, 122, 123, 124, 125, 126, 127, 128, 129, 130, 131, 132, 133, 134, 135, 136, 137, 138, 139, 140, 141, 142, 143, 144, 145, 146, 147, 148, 149, 163, 164, 165, 166, 167, 168, 169, 170, 171, 172, 173, 174, 175, 176, 177, 178, 179, 180, 181, 182, 183, 184, 185, 186, 187, 188, 189, 190, 191, 192, 193, 194, 195, 196, 197, 198, 199, 200, 201, 202, 203, 204] (by decide +kernel) (by decide +kernel)
set_option maxRecDepth 20000 in
theorem gX4_cell_X4_refresh : GoodIn wsX4_cell (wsV RX4 131 RX4 yX4_refresh wsX4_refresh) := goodIn_app (goodIn_of _ (by decide +kernel)) ggX4_cell_X4_refresh
set_option maxRecDepth 20000 in
theorem ggX4_cell_X4_factOfCell : GoodIn wsX4_cell wsX4_factOfCell := goodIn_r _ [153, 23, 8, 154, 155, 156, 84, 157, 88, 87, 86, 158, 119, 120, 92, 121, 103, 116, 63, 52, 64, 122, 71, 72, 29, 73, 31, 38, 159, 160, 161, 162, 32, 163, 164, 165, 166, 167, 168, 169, 170, 171, 172, 173, 174, 175, 176, 177, 178, 179, 180, 181, 182, 183, 184, 185, 186, 187, 191, 192, 193, 194, 195, 196, 197, 198, 199, 200, 201, 202, 203, 204, 188, 189, 190] (by decide +kernel) (by decide +kernel)
set_option maxRecDepth 20000 in
theorem gX4_cell_X4_factOfCell : GoodIn wsX4_cell (wsV RX4 150 RX4 yX4_factOfCell wsX4_factOfCell) := goodIn_app (goodIn_of _ (by decide +kernel)) ggX4_cell_X4_factOfCell
theorem dX4_cell_0 : decode cX4_cell 0 = .ok (.aload_n 0, 1) := by decide +kernel
theorem dX4_cell_1 : decode cX4_cell 1 = .ok (.iload_n 1, 1) := by decide +kernel
theorem dX4_cell_2 : decode cX4_cell 2 = .ok (.invokevirtual 86, 3) := by decide +kernel
theorem dX4_cell_5 : decode cX4_cell 5 = .ok (.aload_n 0, 1) := by decide +kernel
theorem dX4_cell_6 : decode cX4_cell 6 = .ok (.iload_n 2, 1) := by decide +kernel
theorem dX4_cell_7 : decode cX4_cell 7 = .ok (.invokevirtual 58, 3) := by decide +kernel
theorem dX4_cell_10 : decode cX4_cell 10 = .ok (.iload_n 3, 1) := by decide +kernel
theorem dX4_cell_11 : decode cX4_cell 11 = .ok (.iconst 0, 1) := by decide +kernel
theorem dX4_cell_12 : decode cX4_cell 12 = .ok (.iconst 3, 1) := by decide +kernel
theorem dX4_cell_13 : decode cX4_cell 13 = .ok (.invokestatic 47, 3) := by decide +kernel
theorem dX4_cell_16 : decode cX4_cell 16 = .ok (.aload_n 0, 1) := by decide +kernel
theorem dX4_cell_17 : decode cX4_cell 17 = .ok (.invokevirtual 131, 3) := by decide +kernel
theorem dX4_cell_20 : decode cX4_cell 20 = .ok (.aload_n 0, 1) := by decide +kernel
theorem dX4_cell_21 : decode cX4_cell 21 = .ok (.iload_n 1, 1) := by decide +kernel
theorem dX4_cell_22 : decode cX4_cell 22 = .ok (.iload_n 2, 1) := by decide +kernel
theorem dX4_cell_23 : decode cX4_cell 23 = .ok (.iload_n 3, 1) := by decide +kernel
theorem dX4_cell_24 : decode cX4_cell 24 = .ok (.invokevirtual 150, 3) := by decide +kernel
theorem dX4_cell_27 : decode cX4_cell 27 = .ok (.ireturn, 1) := by decide +kernel
set_option maxRecDepth 20000 in
theorem ggX4_ofColumn_X4_requireColumn : GoodIn wsX4_ofColumn wsX4_requireColumn := goodIn_ca (goodIn_r _ [5, 6, 7, 8, 158, 159, 160, 161, 162, 163, 164, 165, 166, 167, 168, 169, 170, 171, 172, 173, 174] (by decide +kernel) (by decide +kernel)) (goodIn_sub (fun _ h => List.mem_cons_of_mem _ (List.mem_append_left _ (List.mem_append_right _ h))) (by decide +kernel))
set_option maxRecDepth 20000 in
theorem gX4_ofColumn_X4_requireColumn : GoodIn wsX4_ofColumn (wsV RX4 58 RX4 yX4_requireColumn wsX4_requireColumn) := goodIn_app (goodIn_of _ (by decide +kernel)) ggX4_ofColumn_X4_requireColumn
set_option maxRecDepth 20000 in
theorem ggX4_ofColumn_X4_requireRange : GoodIn wsX4_ofColumn wsX4_requireRange := goodIn_ca (goodIn_r _ [11, 12, 13] (by decide +kernel) (by decide +kernel)) (goodIn_sub (fun _ h => List.mem_cons_of_mem _ (List.mem_append_right _ h)) (by decide +kernel))
set_option maxRecDepth 20000 in
theorem gX4_ofColumn_X4_requireRange : GoodIn wsX4_ofColumn (va_wsS RX4 47 yX4_requireRange wsX4_requireRange) := goodIn_app (goodIn_of _ (by decide +kernel)) ggX4_ofColumn_X4_requireRange
set_option maxRecDepth 20000 in
theorem ggX4_ofColumn_X4_refresh : GoodIn wsX4_ofColumn wsX4_refresh := goodIn_r _ [17, 18, 8, 19, 20, 21, 22, 23, 24, 25, 26, 27, 28, 29, 30, 31, 32, 33, 34, 35, 36, 37, 38, 39, 40, 41, 42, 43, 44, 45, 46, 47, 48, 49, 50, 51, 52, 53, 54, 55, 56, 57, 58, 59, 60, 61, 62, 63, 64, 65, 66, 67, 68, 69, 70, 71, 72, 73, 74, 75, 76, 77, 78, 79, 80, 81, 82, 83, 84, 85, 86, 87, 88, 89, 90, 91, 92, 93, 94, 95, 96, 97, 98, 99, 100, 101, 102, 103, 104, 105, 106, 107, 108, 109, 110, 111, 112, 113, 114, 115, 116, 117, 118, 119, 120, 121, 122, 123, 124, 125, 126, 127, 128, 129, 130, 131, 132, 133, 134, 135, 136, 137, 138, 139, 140, 141, 142, 143, 144, 145, 158, 159, 160, 161, 162, 163, 164, 165, 166, 167, 168, 169, 170, 171, 172, 173, 174, 175, 176, 177, 178, 179, 180, 181, 182, 183, 184, 185, 186, 187, 188, 189, 190, 191, 192, 193, 194, 195, 196, 197, 198, 199] (by decide +kernel) (by decide +kernel)
set_option maxRecDepth 20000 in
theorem gX4_ofColumn_X4_refresh : GoodIn wsX4_ofColumn (wsV RX4 131 RX4 yX4_refresh wsX4_refresh) := goodIn_app (goodIn_of _ (by decide +kernel)) ggX4_ofColumn_X4_refresh
set_option maxRecDepth 20000 in
theorem ggX4_ofColumn_X4_factOfColumn : GoodIn wsX4_ofColumn wsX4_factOfColumn := goodIn_r _ [149, 19, 8, 150, 151, 152, 80, 153, 84, 83, 82, 154, 155, 156, 25, 157, 28, 34, 158, 159, 160, 161, 162, 163, 164, 165, 166, 167, 168, 169, 170, 171, 172, 173, 174, 186, 187, 188, 189, 190, 191, 192, 193, 194, 195, 196, 197, 198, 199, 183, 184, 185, 175, 176, 177, 178, 179, 180, 181, 182] (by decide +kernel) (by decide +kernel)
set_option maxRecDepth 20000 in
theorem gX4_ofColumn_X4_factOfColumn : GoodIn wsX4_ofColumn (wsV RX4 154 RX4 yX4_factOfColumn wsX4_factOfColumn) := goodIn_app (goodIn_of _ (by decide +kernel)) ggX4_ofColumn_X4_factOfColumn
theorem dX4_ofColumn_0 : decode cX4_ofColumn 0 = .ok (.aload_n 0, 1) := by decide +kernel
theorem dX4_ofColumn_1 : decode cX4_ofColumn 1 = .ok (.iload_n 1, 1) := by decide +kernel
theorem dX4_ofColumn_2 : decode cX4_ofColumn 2 = .ok (.invokevirtual 58, 3) := by decide +kernel
theorem dX4_ofColumn_5 : decode cX4_ofColumn 5 = .ok (.iload_n 2, 1) := by decide +kernel
theorem dX4_ofColumn_6 : decode cX4_ofColumn 6 = .ok (.iconst 0, 1) := by decide +kernel
theorem dX4_ofColumn_7 : decode cX4_ofColumn 7 = .ok (.iconst 4, 1) := by decide +kernel
theorem dX4_ofColumn_8 : decode cX4_ofColumn 8 = .ok (.invokestatic 47, 3) := by decide +kernel
theorem dX4_ofColumn_11 : decode cX4_ofColumn 11 = .ok (.aload_n 0, 1) := by decide +kernel
theorem dX4_ofColumn_12 : decode cX4_ofColumn 12 = .ok (.invokevirtual 131, 3) := by decide +kernel
theorem dX4_ofColumn_15 : decode cX4_ofColumn 15 = .ok (.aload_n 0, 1) := by decide +kernel
theorem dX4_ofColumn_16 : decode cX4_ofColumn 16 = .ok (.iload_n 1, 1) := by decide +kernel
theorem dX4_ofColumn_17 : decode cX4_ofColumn 17 = .ok (.iload_n 2, 1) := by decide +kernel
theorem dX4_ofColumn_18 : decode cX4_ofColumn 18 = .ok (.invokevirtual 154, 3) := by decide +kernel
theorem dX4_ofColumn_21 : decode cX4_ofColumn 21 = .ok (.ireturn, 1) := by decide +kernel
set_option maxRecDepth 20000 in
theorem ggX4_ofRow_X4_requireRow : GoodIn wsX4_ofRow wsX4_requireRow := goodIn_ca (goodIn_r _ [5, 6, 7, 8, 154, 155, 156, 157, 158, 159, 160, 161, 162, 163, 164, 165, 166, 167, 168, 169, 170] (by decide +kernel) (by decide +kernel)) (goodIn_sub (fun _ h => List.mem_cons_of_mem _ (List.mem_append_left _ (List.mem_append_right _ h))) (by decide +kernel))
set_option maxRecDepth 20000 in
theorem gX4_ofRow_X4_requireRow : GoodIn wsX4_ofRow (wsV RX4 86 RX4 yX4_requireRow wsX4_requireRow) := goodIn_app (goodIn_of _ (by decide +kernel)) ggX4_ofRow_X4_requireRow
set_option maxRecDepth 20000 in
theorem ggX4_ofRow_X4_requireRange : GoodIn wsX4_ofRow wsX4_requireRange := goodIn_ca (goodIn_r _ [11, 12, 13] (by decide +kernel) (by decide +kernel)) (goodIn_sub (fun _ h => List.mem_cons_of_mem _ (List.mem_append_right _ h)) (by decide +kernel))
set_option maxRecDepth 20000 in
theorem gX4_ofRow_X4_requireRange : GoodIn wsX4_ofRow (va_wsS RX4 47 yX4_requireRange wsX4_requireRange) := goodIn_app (goodIn_of _ (by decide +kernel)) ggX4_ofRow_X4_requireRange
set_option maxRecDepth 20000 in
theorem ggX4_ofRow_X4_refresh : GoodIn wsX4_ofRow wsX4_refresh := goodIn_r _ [17, 18, 8, 19, 20, 21, 22, 23, 24, 25, 26, 27, 28, 29, 30, 31, 32, 33, 34, 35, 36, 37, 38, 39, 40, 41, 42, 43, 44, 45, 46, 47, 48, 49, 50, 51, 52, 53, 54, 55, 56, 57, 58, 59, 60, 61, 62, 63, 64, 65, 66, 67, 68, 69, 70, 71, 72, 73, 74, 75, 76, 77, 78, 79, 80, 81, 82, 83, 84, 85, 86, 87, 88, 89, 90, 91, 92, 93, 94, 95, 96, 97, 98, 99, 100, 101, 102, 103, 104, 105, 106, 107, 108, 109, 110, 111, 112, 113, 114, 115, 116, 117, 118, 119, 120, 121, 122, 123, 124, 125, 126, 127, 128, 129, 130, 131, 132, 133, 134, 135, 136, 137, 138, 139, 140, 141, 142, 143, 144, 145, 154, 155, 156, 157, 158, 159, 160, 161, 162, 163, 164, 165, 166, 167, 168, 169, 170, 171, 172, 173, 174, 175, 176, 177, 178, 179, 180, 181, 182, 183, 184, 185, 186, 187, 188, 189, 190, 191, 192, 193, 194, 195] (by decide +kernel) (by decide +kernel)
set_option maxRecDepth 20000 in
theorem gX4_ofRow_X4_refresh : GoodIn wsX4_ofRow (wsV RX4 131 RX4 yX4_refresh wsX4_refresh) := goodIn_app (goodIn_of _ (by decide +kernel)) ggX4_ofRow_X4_refresh
set_option maxRecDepth 20000 in
theorem ggX4_ofRow_X4_factOfRow : GoodIn wsX4_ofRow wsX4_factOfRow := goodIn_r _ [149, 19, 150, 151, 152, 80, 153, 84, 83, 82, 154, 155, 156, 157, 158, 159, 160, 161, 182, 183, 184, 185, 186, 187, 188, 189, 190, 191, 192, 193, 194, 195, 179, 180, 181] (by decide +kernel) (by decide +kernel)
set_option maxRecDepth 20000 in
theorem gX4_ofRow_X4_factOfRow : GoodIn wsX4_ofRow (wsV RX4 157 RX4 yX4_factOfRow wsX4_factOfRow) := goodIn_app (goodIn_of _ (by decide +kernel)) ggX4_ofRow_X4_factOfRow
theorem dX4_ofRow_0 : decode cX4_ofRow 0 = .ok (.aload_n 0, 1) := by decide +kernel
theorem dX4_ofRow_1 : decode cX4_ofRow 1 = .ok (.iload_n 1, 1) := by decide +kernel
theorem dX4_ofRow_2 : decode cX4_ofRow 2 = .ok (.invokevirtual 86, 3) := by decide +kernel
theorem dX4_ofRow_5 : decode cX4_ofRow 5 = .ok (.iload_n 2, 1) := by decide +kernel
theorem dX4_ofRow_6 : decode cX4_ofRow 6 = .ok (.iconst 0, 1) := by decide +kernel
theorem dX4_ofRow_7 : decode cX4_ofRow 7 = .ok (.iconst 2, 1) := by decide +kernel
theorem dX4_ofRow_8 : decode cX4_ofRow 8 = .ok (.invokestatic 47, 3) := by decide +kernel
theorem dX4_ofRow_11 : decode cX4_ofRow 11 = .ok (.aload_n 0, 1) := by decide +kernel
theorem dX4_ofRow_12 : decode cX4_ofRow 12 = .ok (.invokevirtual 131, 3) := by decide +kernel
theorem dX4_ofRow_15 : decode cX4_ofRow 15 = .ok (.aload_n 0, 1) := by decide +kernel
theorem dX4_ofRow_16 : decode cX4_ofRow 16 = .ok (.iload_n 1, 1) := by decide +kernel
theorem dX4_ofRow_17 : decode cX4_ofRow 17 = .ok (.iload_n 2, 1) := by decide +kernel
theorem dX4_ofRow_18 : decode cX4_ofRow 18 = .ok (.invokevirtual 157, 3) := by decide +kernel
theorem dX4_ofRow_21 : decode cX4_ofRow 21 = .ok (.ireturn, 1) := by decide +kernel
set_option maxRecDepth 20000 in
theorem ggX4_ofPage_X4_refresh : GoodIn wsX4_ofPage wsX4_refresh := goodIn_r _ [5, 6, 7, 8, 9, 10, 11, 12, 13, 14, 15, 16, 17, 18, 19, 20, 21, 22, 23, 24, 25, 26, 27, 28, 29, 30, 31, 32, 33, 34, 35, 36, 37, 38, 39, 40, 41, 42, 43, 44, 45, 46, 47, 48, 49, 50, 51, 52, 53, 54, 55, 56, 57, 58, 59, 60, 61, 62, 63, 64, 65, 66, 67, 68, 69, 70, 71, 72, 73, 74, 75, 76, 77, 78, 79, 80, 81, 82, 83, 84, 85, 86, 87, 88, 89, 90, 91, 92, 93, 94, 95, 96, 97, 98, 99, 100, 101, 102, 103, 104, 105, 106, 107, 108, 109, 110, 111, 112, 113, 114, 115, 116, 117, 118, 119, 120, 121, 122, 123, 124, 125, 126, 127, 128, 129, 130, 131, 132, 133, 134, 161, 162, 163, 164, 165, 166, 167, 168, 169, 170, 171, 172, 173, 174, 175, 176, 177, 178, 179, 180, 181, 182, 183, 184, 185, 186, 187, 188, 189, 190, 191, 192, 193, 194, 195, 196, 197, 198, 199, 200, 201, 202] (by decide +kernel) (by decide +kernel)
set_option maxRecDepth 20000 in
theorem gX4_ofPage_X4_refresh : GoodIn wsX4_ofPage (wsV RX4 131 RX4 yX4_refresh wsX4_refresh) := goodIn_app (goodIn_of _ (by decide +kernel)) ggX4_ofPage_X4_refresh
set_option maxRecDepth 20000 in
theorem ggX4_ofPage_X4_requirePage : GoodIn wsX4_ofPage wsX4_requirePage := goodIn_ca (goodIn_r _ [138, 139, 140, 8, 141, 142, 143, 69, 144, 73, 72, 71, 161, 162, 163, 164, 165, 166, 167, 168, 189, 190, 191, 192, 193, 194, 195, 196, 197, 198, 199, 200, 201, 202, 186, 187, 188] (by decide +kernel) (by decide +kernel)) (goodIn_sub (fun _ h => List.mem_cons_of_mem _ (List.mem_append_left _ (List.mem_append_right _ h))) (by decide +kernel))
set_option maxRecDepth 20000 in
theorem gX4_ofPage_X4_requirePage : GoodIn wsX4_ofPage (wsV RX4 160 RX4 yX4_requirePage wsX4_requirePage) := goodIn_app (goodIn_of _ (by decide +kernel)) ggX4_ofPage_X4_requirePage
set_option maxRecDepth 20000 in
theorem ggX4_ofPage_X4_requireRange : GoodIn wsX4_ofPage wsX4_requireRange := goodIn_ca (goodIn_r _ [147, 148, 149] (by decide +kernel) (by decide +kernel)) (goodIn_sub (fun _ h => List.mem_cons_of_mem _ (List.mem_append_right _ h)) (by decide +kernel))
set_option maxRecDepth 20000 in
theorem gX4_ofPage_X4_requireRange : GoodIn wsX4_ofPage (va_wsS RX4 47 yX4_requireRange wsX4_requireRange) := goodIn_app (goodIn_of _ (by decide +kernel)) ggX4_ofPage_X4_requireRange
set_option maxRecDepth 20000 in
theorem ggX4_ofPage_X4_factOfPage : GoodIn wsX4_ofPage wsX4_factOfPage := goodIn_r _ [153, 8, 7, 141, 142, 143, 69, 144, 73, 72, 71, 154, 155, 156, 77, 157, 114, 134, 158, 159, 160, 161, 162, 163, 164, 165, 166, 167, 168, 189, 190, 191, 192, 193, 194, 195, 196, 197, 198, 199, 200, 201, 202, 186, 187, 188, 169, 170, 171, 172, 173, 174, 175, 176, 177, 178, 179, 180, 181, 182, 183, 184, 185] (by decide +kernel) (by decide +kernel)
set_option maxRecDepth 20000 in
theorem gX4_ofPage_X4_factOfPage : GoodIn wsX4_ofPage (wsV RX4 163 RX4 yX4_factOfPage wsX4_factOfPage) := goodIn_app (goodIn_of _ (by decide +kernel)) ggX4_ofPage_X4_factOfPage
theorem dX4_ofPage_0 : decode cX4_ofPage 0 = .ok (.aload_n 0, 1) := by decide +kernel
theorem dX4_ofPage_1 : decode cX4_ofPage 1 = .ok (.invokevirtual 131, 3) := by decide +kernel
theorem dX4_ofPage_4 : decode cX4_ofPage 4 = .ok (.aload_n 0, 1) := by decide +kernel
theorem dX4_ofPage_5 : decode cX4_ofPage 5 = .ok (.iload_n 1, 1) := by decide +kernel
theorem dX4_ofPage_6 : decode cX4_ofPage 6 = .ok (.invokevirtual 160, 3) := by decide +kernel
theorem dX4_ofPage_9 : decode cX4_ofPage 9 = .ok (.iload_n 2, 1) := by decide +kernel
theorem dX4_ofPage_10 : decode cX4_ofPage 10 = .ok (.iconst 0, 1) := by decide +kernel
theorem dX4_ofPage_11 : decode cX4_ofPage 11 = .ok (.iconst 4, 1) := by decide +kernel
theorem dX4_ofPage_12 : decode cX4_ofPage 12 = .ok (.invokestatic 47, 3) := by decide +kernel
theorem dX4_ofPage_15 : decode cX4_ofPage 15 = .ok (.aload_n 0, 1) := by decide +kernel
theorem dX4_ofPage_16 : decode cX4_ofPage 16 = .ok (.iload_n 1, 1) := by decide +kernel
theorem dX4_ofPage_17 : decode cX4_ofPage 17 = .ok (.iload_n 2, 1) := by decide +kernel
theorem dX4_ofPage_18 : decode cX4_ofPage 18 = .ok (.invokevirtual 163, 3) := by decide +kernel
theorem dX4_ofPage_21 : decode cX4_ofPage 21 = .ok (.ireturn, 1) := by decide +kernel
set_option maxRecDepth 20000 in
theorem ggX4_carried_X4_refresh : GoodIn wsX4_carried wsX4_refresh := goodIn_r _ [7, 8, 2, 1, 9, 10, 11, 12, 13, 14, 15, 16, 17, 18, 19, 20, 21, 22, 23, 24, 25, 26, 27, 28, 29, 30, 31, 32, 33, 34, 35, 36, 37, 38, 39, 40, 41, 42, 43, 44, 45, 46, 47, 48, 49, 50, 51, 52, 53, 54, 55, 56, 57, 58, 59, 60, 61, 62, 63, 64, 65, 66, 67, 68, 69, 70, 71, 72, 73, 74, 75, 76, 77, 78, 79, 80, 81, 82, 83, 84, 85, 86, 87, 88, 89, 90, 91, 92, 93, 94, 95, 96, 97, 98, 99, 100, 101, 102, 103, 104, 105, 106, 107, 108, 109, 110, 111, 112, 113, 114, 115, 116, 117, 118, 119, 120, 121, 122, 123, 124, 125, 126, 127, 128, 129, 130, 131, 132, 133, 134, 157, 158, 159, 160, 161, 162, 163, 164, 165, 166, 167, 168, 169, 170, 171, 172, 173, 174, 175, 176, 177, 178, 179, 180, 181, 182, 183, 184, 185, 186, 187, 188, 189, 190, 191, 192, 193, 194, 195, 196, 197, 198] (by decide +kernel) (by decide +kernel)
set_option maxRecDepth 20000 in
theorem gX4_carried_X4_refresh : GoodIn wsX4_carried (wsV RX4 131 RX4 yX4_refresh wsX4_refresh) := goodIn_app (goodIn_of _ (by decide +kernel)) ggX4_carried_X4_refresh
set_option maxRecDepth 20000 in
theorem ggX4_carried_X4_requirePage : GoodIn wsX4_carried wsX4_requirePage := goodIn_ca (goodIn_r _ [138, 139, 140, 1, 141, 142, 143, 69, 144, 73, 72, 71, 157, 158, 159, 160, 161, 162, 163, 164, 185, 186, 187, 188, 189, 190, 191, 192, 193, 194, 195, 196, 197, 198, 182, 183, 184] (by decide +kernel) (by decide +kernel)) (goodIn_sub (fun _ h => List.mem_cons_of_mem _ (List.mem_append_right _ h)) (by decide +kernel))
set_option maxRecDepth 20000 in
theorem gX4_carried_X4_requirePage : GoodIn wsX4_carried (wsV RX4 160 RX4 yX4_requirePage wsX4_requirePage) := goodIn_app (goodIn_of _ (by decide +kernel)) ggX4_carried_X4_requirePage
set_option maxRecDepth 20000 in
theorem ggX4_carried_X4_requireColumn : GoodIn wsX4_carried wsX4_requireColumn := goodIn_ca (goodIn_r _ [148, 139, 140, 2, 157, 158, 159, 160, 161, 162, 163, 164, 165, 166, 167, 168, 169, 170, 171, 172, 173] (by decide +kernel) (by decide +kernel)) (goodIn_sub (fun _ h => List.mem_cons_of_mem _ (List.mem_append_right _ h)) (by decide +kernel))
set_option maxRecDepth 20000 in
theorem gX4_carried_X4_requireColumn : GoodIn wsX4_carried (wsV RX4 58 RX4 yX4_requireColumn wsX4_requireColumn) := goodIn_app (goodIn_of _ (by decide +kernel)) ggX4_carried_X4_requireColumn
set_option maxRecDepth 20000 in
theorem ggX4_carried_X2_chosen : GoodIn wsX4_carried wsX2_chosen := goodIn_r _ [144, 73, 72, 71, 182, 183, 184] (by decide +kernel) (by decide +kernel)
set_option maxRecDepth 20000 in
theorem gX4_carried_X2_chosen : GoodIn wsX4_carried (wsV RX4 143 RX2 yX2_chosen wsX2_chosen) := goodIn_app (goodIn_of _ (by decide +kernel)) ggX4_carried_X2_chosen
set_option maxRecDepth 20000 in
theorem ggX4_carried_X0_carriedOn : GoodIn wsX4_carried wsX0_carriedOn := goodIn_r _ [152, 116, 153, 154, 155, 14, 156, 17, 23, 185, 186, 187, 188, 189, 190, 191, 192, 193, 194, 195, 196, 197, 198, 165, 166, 167, 168, 169, 170, 171, 172, 173, 174, 175, 176, 177, 178, 179, 180, 181] (by decide +kernel) (by decide +kernel)
set_option maxRecDepth 20000 in
theorem gX4_carried_X0_carriedOn : GoodIn wsX4_carried (wsV RX4 166 RX0 yX0_carriedOn wsX0_carriedOn) := goodIn_app (goodIn_of _ (by decide +kernel)) ggX4_carried_X0_carriedOn
theorem dX4_carried_0 : decode cX4_carried 0 = .ok (.aload_n 0, 1) := by decide +kernel
theorem dX4_carried_1 : decode cX4_carried 1 = .ok (.invokevirtual 131, 3) := by decide +kernel
theorem dX4_carried_4 : decode cX4_carried 4 = .ok (.aload_n 0, 1) := by decide +kernel
theorem dX4_carried_5 : decode cX4_carried 5 = .ok (.iload_n 1, 1) := by decide +kernel
theorem dX4_carried_6 : decode cX4_carried 6 = .ok (.invokevirtual 160, 3) := by decide +kernel
theorem dX4_carried_9 : decode cX4_carried 9 = .ok (.aload_n 0, 1) := by decide +kernel
theorem dX4_carried_10 : decode cX4_carried 10 = .ok (.iload_n 2, 1) := by decide +kernel
theorem dX4_carried_11 : decode cX4_carried 11 = .ok (.invokevirtual 58, 3) := by decide +kernel
theorem dX4_carried_14 : decode cX4_carried 14 = .ok (.aload_n 0, 1) := by decide +kernel
theorem dX4_carried_15 : decode cX4_carried 15 = .ok (.getfield 19, 3) := by decide +kernel
theorem dX4_carried_18 : decode cX4_carried 18 = .ok (.invokevirtual 143, 3) := by decide +kernel
theorem dX4_carried_21 : decode cX4_carried 21 = .ok (.aload_n 0, 1) := by decide +kernel
theorem dX4_carried_22 : decode cX4_carried 22 = .ok (.getfield 12, 3) := by decide +kernel
theorem dX4_carried_25 : decode cX4_carried 25 = .ok (.iload_n 1, 1) := by decide +kernel
theorem dX4_carried_26 : decode cX4_carried 26 = .ok (.iload_n 2, 1) := by decide +kernel
theorem dX4_carried_27 : decode cX4_carried 27 = .ok (.invokevirtual 166, 3) := by decide +kernel
theorem dX4_carried_30 : decode cX4_carried 30 = .ok (.ireturn, 1) := by decide +kernel
set_option maxRecDepth 20000 in
theorem ggX4_many_X4_requireRange : GoodIn wsX4_many wsX4_requireRange := goodIn_ca (goodIn_r _ [4, 5, 6] (by decide +kernel) (by decide +kernel)) (goodIn_sub (fun _ h => List.mem_cons_of_mem _ (List.mem_append_right _ h)) (by decide +kernel))
set_option maxRecDepth 20000 in
theorem gX4_many_X4_requireRange : GoodIn wsX4_many (va_wsS RX4 47 yX4_requireRange wsX4_requireRange) := goodIn_app (goodIn_of _ (by decide +kernel)) ggX4_many_X4_requireRange
set_option maxRecDepth 20000 in
theorem ggX4_many_X4_refresh : GoodIn wsX4_many wsX4_refresh := goodIn_r _ [10, 11, 12, 13, 14, 15, 16, 17, 18, 19, 20, 21, 22, 23, 24, 25, 26, 27, 28, 29, 30, 31, 32, 33, 34, 35, 36, 37, 38, 39, 40, 41, 42, 43, 44, 45, 46, 47, 48, 49, 50, 51, 52, 53, 54, 55, 56, 57, 58, 59, 60, 61, 62, 63, 64, 65, 66, 67, 68, 69, 70, 71, 72, 73, 74, 75, 76, 77, 78, 79, 80, 81, 82, 83, 84, 85, 86, 87, 88, 89, 90, 91, 92, 93, 94, 95, 96, 97, 98, 99, 100, 101, 102, 103, 104, 105, 106, 107, 108, 109, 110, 111, 112, 113, 114, 115, 116, 117, 118, 119, 120, 121, 122, 123, 124, 125, 126, 127, 128, 129, 130, 131, 132, 133, 134, 135, 136, 137, 138, 139, 165, 166, 167, 168, 169, 170, 171, 172, 173, 174, 175, 176, 177, 178, 179, 180, 181, 182, 183, 184, 185, 186, 187, 188, 189, 190, 191, 192, 193, 194, 195, 196, 197, 198, 199, 200, 201, 202, 203, 204, 205, 206] (by decide +kernel) (by decide +kernel)
set_option maxRecDepth 20000 in
theorem gX4_many_X4_refresh : GoodIn wsX4_many (wsV RX4 131 RX4 yX4_refresh wsX4_refresh) := goodIn_app (goodIn_of _ (by decide +kernel)) ggX4_many_X4_refresh
set_option maxRecDepth 20000 in
theorem ggX4_many_X4_factOfTable : GoodIn wsX4_many wsX4_factOfTable := goodIn_r _ [143, 13, 12, 144, 145, 146, 74, 147, 78, 77, 76, 148, 149, 150, 82, 151, 85, 86, 152, 95, 96, 97, 93, 153, 154, 155, 156, 107, 157, 158, 159, 19, 160, 27, 28, 161, 162, 163, 164, 126, 139, 165, 166, 167, 168, 169, 170, 171, 172, 173, 174, 175, 176, 177, 178, 179, 180, 181, 193, 194, 195, 196, 197, 198, 199, 200, 201, 202, 203, 204, 205, 206, 190, 191, 192, 182, 183, 184, 185, 186, 187, 188, 189] (by decide +kernel) (by decide +kernel)
set_option maxRecDepth 20000 in
theorem gX4_many_X4_factOfTable : GoodIn wsX4_many (wsV RX4 170 RX4 yX4_factOfTable wsX4_factOfTable) := goodIn_app (goodIn_of _ (by decide +kernel)) ggX4_many_X4_factOfTable
theorem dX4_many_0 : decode cX4_many 0 = .ok (.iload_n 1, 1) := by decide +kernel
theorem dX4_many_1 : decode cX4_many 1 = .ok (.iconst 0, 1) := by decide +kernel
theorem dX4_many_2 : decode cX4_many 2 = .ok (.bipush 7, 2) := by decide +kernel
theorem dX4_many_4 : decode cX4_many 4 = .ok (.invokestatic 47, 3) := by decide +kernel
theorem dX4_many_7 : decode cX4_many 7 = .ok (.aload_n 0, 1) := by decide +kernel
theorem dX4_many_8 : decode cX4_many 8 = .ok (.invokevirtual 131, 3) := by decide +kernel
theorem dX4_many_11 : decode cX4_many 11 = .ok (.aload_n 0, 1) := by decide +kernel
theorem dX4_many_12 : decode cX4_many 12 = .ok (.iload_n 1, 1) := by decide +kernel
theorem dX4_many_13 : decode cX4_many 13 = .ok (.invokevirtual 170, 3) := by decide +kernel
theorem dX4_many_16 : decode cX4_many 16 = .ok (.ireturn, 1) := by decide +kernel
set_option maxRecDepth 20000 in
theorem ggX4_pagesWith_X4_requireRange : GoodIn wsX4_pagesWith wsX4_requireRange := goodIn_ca (goodIn_r _ [4, 5, 6] (by decide +kernel) (by decide +kernel)) (goodIn_sub (fun _ h => List.mem_cons_of_mem _ (List.mem_append_right _ h)) (by decide +kernel))
set_option maxRecDepth 20000 in
theorem gX4_pagesWith_X4_requireRange : GoodIn wsX4_pagesWith (va_wsS RX4 47 yX4_requireRange wsX4_requireRange) := goodIn_app (goodIn_of _ (by decide +kernel)) ggX4_pagesWith_X4_requireRange
set_option maxRecDepth 20000 in
theorem ggX4_pagesWith_X4_refresh : GoodIn wsX4_pagesWith wsX4_refresh := goodIn_r _ [10, 11, 12, 13, 14, 15, 16, 17, 18, 19, 20, 21, 22, 23, 24, 25, 26, 27, 28, 29, 30, 31, 32, 33, 34, 35, 36, 37, 38, 39, 40, 41, 42, 43, 44, 45, 46, 47, 48, 49, 50, 51, 52, 53, 54, 55, 56, 57, 58, 59, 60, 61, 62, 63, 64, 65, 66, 67, 68, 69, 70, 71, 72, 73, 74, 75, 76, 77, 78, 79, 80, 81, 82, 83, 84, 85, 86, 87, 88, 89, 90, 91, 92, 93, 94, 95, 96, 97, 98, 99, 100, 101, 102, 103, 104, 105, 106, 107, 108, 109, 110, 111, 112, 113, 114, 115, 116, 117, 118, 119, 120, 121, 122, 123, 124, 125, 126, 127, 128, 129, 130, 131, 132, 133, 134, 135, 136, 137, 138, 139, 150, 151, 152, 153, 154, 155, 156, 157, 158, 159, 160, 161, 162, 163, 164, 165, 166, 167, 168, 169, 170, 171, 172, 173, 174, 175, 176, 177, 178, 179, 180, 181, 182, 183, 184, 185, 186, 187, 188, 189, 190, 191] (by decide +kernel) (by decide +kernel)
set_option maxRecDepth 20000 in
theorem gX4_pagesWith_X4_refresh : GoodIn wsX4_pagesWith (wsV RX4 131 RX4 yX4_refresh wsX4_refresh) := goodIn_app (goodIn_of _ (by decide +kernel)) ggX4_pagesWith_X4_refresh
set_option maxRecDepth 20000 in
theorem ggX4_pagesWith_X4_pagesIn : GoodIn wsX4_pagesWith wsX4_pagesIn := goodIn_r _ [143, 144, 12, 145, 80, 81, 82, 83, 84, 85, 86, 87, 88, 89, 90, 91, 92, 93, 94, 95, 96, 97, 98, 99, 100, 101, 102, 103, 104, 105, 106, 53, 42, 54, 107, 108, 109, 110, 111, 112, 61, 62, 19, 63, 21, 28, 113, 114, 115, 116, 117, 118, 119, 120, 121, 122, 123, 124, 125, 126, 127, 128, 129, 130, 131, 132, 133, 134, 135, 136, 137, 138, 139, 146, 147, 148, 149, 150, 151, 152, 153, 154, 155, 156, 157, 178, 179, 180, 181, 182, 183, 184, 185, 186, 187, 188, 189, 190, 191, 158, 159, 160, 161, 162, 163, 164, 165, 166, 167, 168, 169, 170, 171, 172, 173, 174] (by decide +kernel) (by decide +kernel)
set_option maxRecDepth 20000 in
theorem gX4_pagesWith_X4_pagesIn : GoodIn wsX4_pagesWith (wsV RX4 180 RX4 yX4_pagesIn wsX4_pagesIn) := goodIn_app (goodIn_of _ (by decide +kernel)) ggX4_pagesWith_X4_pagesIn
theorem dX4_pagesWith_0 : decode cX4_pagesWith 0 = .ok (.iload_n 1, 1) := by decide +kernel
theorem dX4_pagesWith_1 : decode cX4_pagesWith 1 = .ok (.bipush 10, 2) := by decide +kernel
theorem dX4_pagesWith_3 : decode cX4_pagesWith 3 = .ok (.bipush 60, 2) := by decide +kernel
theorem dX4_pagesWith_5 : decode cX4_pagesWith 5 = .ok (.invokestatic 47, 3) := by decide +kernel
theorem dX4_pagesWith_8 : decode cX4_pagesWith 8 = .ok (.iload_n 2, 1) := by decide +kernel
theorem dX4_pagesWith_9 : decode cX4_pagesWith 9 = .ok (.bipush 10, 2) := by decide +kernel
theorem dX4_pagesWith_11 : decode cX4_pagesWith 11 = .ok (.bipush 60, 2) := by decide +kernel
theorem dX4_pagesWith_13 : decode cX4_pagesWith 13 = .ok (.invokestatic 47, 3) := by decide +kernel
theorem dX4_pagesWith_16 : decode cX4_pagesWith 16 = .ok (.aload_n 0, 1) := by decide +kernel
theorem dX4_pagesWith_17 : decode cX4_pagesWith 17 = .ok (.invokevirtual 131, 3) := by decide +kernel
theorem dX4_pagesWith_20 : decode cX4_pagesWith 20 = .ok (.iload_n 3, 1) := by decide +kernel
theorem dX4_pagesWith_21 : decode cX4_pagesWith 21 = .ok (.ifCond .eq 12, 3) := by decide +kernel
theorem dX4_pagesWith_24 : decode cX4_pagesWith 24 = .ok (.aload_n 0, 1) := by decide +kernel
theorem dX4_pagesWith_25 : decode cX4_pagesWith 25 = .ok (.iload_n 2, 1) := by decide +kernel
theorem dX4_pagesWith_26 : decode cX4_pagesWith 26 = .ok (.iload_n 1, 1) := by decide +kernel
theorem dX4_pagesWith_27 : decode cX4_pagesWith 27 = .ok (.invokevirtual 180, 3) := by decide +kernel
theorem dX4_pagesWith_30 : decode cX4_pagesWith 30 = .ok (.goto 9, 3) := by decide +kernel
theorem dX4_pagesWith_33 : decode cX4_pagesWith 33 = .ok (.aload_n 0, 1) := by decide +kernel
theorem dX4_pagesWith_34 : decode cX4_pagesWith 34 = .ok (.iload_n 1, 1) := by decide +kernel
theorem dX4_pagesWith_35 : decode cX4_pagesWith 35 = .ok (.iload_n 2, 1) := by decide +kernel
theorem dX4_pagesWith_36 : decode cX4_pagesWith 36 = .ok (.invokevirtual 180, 3) := by decide +kernel
theorem dX4_pagesWith_39 : decode cX4_pagesWith 39 = .ok (.ireturn, 1) := by decide +kernel
end
section
set_option maxRecDepth 20000 in
theorem ggX4_changedBy_X4_requireNumberCell : GoodIn wsX4_changedBy wsX4_requireNumberCell := goodIn_ca (goodIn_ca (goodIn_r _ [12, 13, 14, 15, 11, 16, 17, 18, 3, 19, 20, 21, 22, 23, 24, 25, 26, 27, 28, 29, 30, 31, 196, 197, 198, 199, 200, 201, 202, 203, 204, 205, 206, 207, 208, 209, 210, 211, 212] (by decide +kernel) (by decide +kernel)) (goodIn_sub (fun _ h => List.mem_cons_of_mem _ (List.mem_append_left _ (List.mem_append_right _ h))) (by decide +kernel))) (goodIn_sub (fun _ h => List.mem_cons_of_mem _ (List.mem_append_right _ h)) (by decide +kernel))
set_option maxRecDepth 20000 in
theorem gX4_changedBy_X4_requireNumberCell : GoodIn wsX4_changedBy (wsV RX4 92 RX4 yX4_requireNumberCell wsX4_requireNumberCell) := goodIn_app (goodIn_of _ (by decide +kernel)) ggX4_changedBy_X4_requireNumberCell
set_option maxRecDepth 20000 in
theorem ggX4_changedBy_X4_refresh : GoodIn wsX4_changedBy wsX4_refresh := goodIn_r _ [35, 36, 3, 1, 37, 38, 39, 40, 41, 42, 43, 44, 45, 46, 47, 48, 49, 50, 51, 52, 53, 54, 55, 56, 57, 58, 59, 60, 61, 62, 63, 64, 6, 65, 66, 67, 68, 69, 70, 71, 72, 73, 74, 5, 7, 75, 76, 77, 78, 79, 80, 81, 82, 83, 84, 85, 86, 87, 88, 89, 90, 91, 92, 93, 94, 95, 96, 97, 98, 99, 100, 101, 102, 103, 104, 105, 106, 107, 108, 109, 110, 111, 112, 113, 114, 115, 116, 117, 118, 119, 120, 121, 122, 123, 124, 125, 126, 127, 128, 129, 130, 131, 132, 133, 134, 135, 136, 137, 138, 139, 140, 141, 142, 143, 144, 145, 146, 147, 148, 149, 150, 151, 152, 153, 154, 155, 156, 157, 158, 159, 196, 197, 198, 199, 200, 201, 202, 203, 204, 205, 206, 207, 208, 209, 210, 211, 212, 213, 214, 215, 216, 217, 218, 219, 220, 235, 236, 237, 221, 222, 223, 224, 225, 226, 227, 228, 229, 230, 231, 232, 233, 234] (by decide +kernel) (by decide +kernel)
set_option maxRecDepth 20000 in
theorem gX4_changedBy_X4_refresh : GoodIn wsX4_changedBy (wsV RX4 131 RX4 yX4_refresh wsX4_refresh) := goodIn_app (goodIn_of _ (by decide +kernel)) ggX4_changedBy_X4_refresh
set_option maxRecDepth 20000 in
theorem ggX4_changedBy_X2_chosen : GoodIn wsX4_changedBy wsX2_chosen := goodIn_r _ [163, 98, 97, 96, 235, 236, 237] (by decide +kernel) (by decide +kernel)
set_option maxRecDepth 20000 in
theorem gX4_changedBy_X2_chosen : GoodIn wsX4_changedBy (wsV RX4 143 RX2 yX2_chosen wsX2_chosen) := goodIn_app (goodIn_of _ (by decide +kernel)) ggX4_changedBy_X2_chosen
set_option maxRecDepth 20000 in
theorem ggX4_changedBy_X3_copyFrom : GoodIn wsX4_changedBy wsX3_copyFrom := goodIn_r _ [167, 44, 45, 73, 56, 57, 50, 51, 168, 169, 170, 171, 172, 173, 174, 175, 176, 177, 178, 204, 205, 206, 207, 208, 209, 210, 211, 212, 213, 214, 215, 216, 217, 218, 219, 220] (by decide +kernel) (by decide +kernel)
set_option maxRecDepth 20000 in
theorem gX4_changedBy_X3_copyFrom : GoodIn wsX4_changedBy (wsV RX4 183 RX3 yX3_copyFrom wsX3_copyFrom) := goodIn_app (goodIn_of _ (by decide +kernel)) ggX4_changedBy_X3_copyFrom
set_option maxRecDepth 20000 in
theorem ggX4_changedBy_X4_layoutOfTrial : GoodIn wsX4_changedBy wsX4_layoutOfTrial := goodIn_r _ [182, 2, 183, 37, 38, 39, 40, 41, 42, 43, 44, 45, 46, 47, 48, 49, 50, 51, 52, 53, 54, 55, 56, 57, 58, 59, 60, 61, 62, 63, 64, 6, 65, 66, 67, 68, 69, 70, 71, 72, 73, 74, 5, 7, 75, 76, 77, 78, 79, 80, 81, 82, 83, 84, 85, 86, 87, 88, 89, 90, 91, 92, 93, 94, 95, 96, 97, 98, 99, 100, 101, 102, 103, 104, 105, 106, 107, 108, 109, 110, 111, 112, 113, 114, 115, 116, 117, 118, 119, 120, 121, 122, 123, 124, 125, 126, 127, 128, 129, 130, 131, 132, 133, 134, 135, 136, 137, 138, 139, 140, 141, 142, 143, 144, 145, 146, 147, 148, 149, 150, 151, 152, 153, 154, 155, 156, 157, 158, 159, 160, 161, 162, 163, 196, 197, 198, 199, 200, 201, 202, 203, 204, 205, 206, 207, 208, 209, 210, 211, 212, 213, 214, 215, 216, 217, 218, 219, 220, 235, 236, 237, 221, 222, 223, 224, 225, 226, 227, 228, 229, 230, 231, 232, 233, 234] (by decide +kernel) (by decide +kernel)
set_option maxRecDepth 20000 in
theorem gX4_changedBy_X4_layoutOfTrial : GoodIn wsX4_changedBy (wsV RX4 187 RX4 yX4_layoutOfTrial wsX4_layoutOfTrial) := goodIn_app (goodIn_of _ (by decide +kernel)) ggX4_changedBy_X4_layoutOfTrial
set_option maxRecDepth 20000 in
theorem ggX4_changedBy_X4_isPageOther : GoodIn wsX4_changedBy wsX4_isPageOther := goodIn_r _ [187, 3, 2, 188, 189, 190, 102, 191, 141, 192, 193, 194, 42, 195, 45, 51, 221, 222, 223, 224, 225, 226, 227, 228, 229, 230, 231, 232, 233, 234, 196, 197, 198, 199, 200, 201, 202, 203, 204, 205, 206, 207, 208, 209, 210, 211, 212, 213, 214, 215, 216, 217, 218, 219, 220] (by decide +kernel) (by decide +kernel)
set_option maxRecDepth 20000 in
theorem gX4_changedBy_X4_isPageOther : GoodIn wsX4_changedBy (wsV RX4 193 RX4 yX4_isPageOther wsX4_isPageOther) := goodIn_app (goodIn_of _ (by decide +kernel)) ggX4_changedBy_X4_isPageOther
theorem dX4_changedBy_0 : decode cX4_changedBy 0 = .ok (.aload_n 0, 1) := by decide +kernel
theorem dX4_changedBy_1 : decode cX4_changedBy 1 = .ok (.iload_n 1, 1) := by decide +kernel
theorem dX4_changedBy_2 : decode cX4_changedBy 2 = .ok (.iload_n 2, 1) := by decide +kernel
theorem dX4_changedBy_3 : decode cX4_changedBy 3 = .ok (.iload_n 3, 1) := by decide +kernel
theorem dX4_changedBy_4 : decode cX4_changedBy 4 = .ok (.invokevirtual 92, 3) := by decide +kernel
theorem dX4_changedBy_7 : decode cX4_changedBy 7 = .ok (.aload_n 0, 1) := by decide +kernel
theorem dX4_changedBy_8 : decode cX4_changedBy 8 = .ok (.invokevirtual 131, 3) := by decide +kernel
theorem dX4_changedBy_11 : decode cX4_changedBy 11 = .ok (.aload_n 0, 1) := by decide +kernel
theorem dX4_changedBy_12 : decode cX4_changedBy 12 = .ok (.getfield 19, 3) := by decide +kernel
theorem dX4_changedBy_15 : decode cX4_changedBy 15 = .ok (.invokevirtual 143, 3) := by decide +kernel
theorem dX4_changedBy_18 : decode cX4_changedBy 18 = .ok (.astore 4, 2) := by decide +kernel
theorem dX4_changedBy_20 : decode cX4_changedBy 20 = .ok (.aload_n 0, 1) := by decide +kernel
theorem dX4_changedBy_21 : decode cX4_changedBy 21 = .ok (.getfield 34, 3) := by decide +kernel
theorem dX4_changedBy_24 : decode cX4_changedBy 24 = .ok (.aload_n 0, 1) := by decide +kernel
theorem dX4_changedBy_25 : decode cX4_changedBy 25 = .ok (.getfield 12, 3) := by decide +kernel
theorem dX4_changedBy_28 : decode cX4_changedBy 28 = .ok (.invokevirtual 183, 3) := by decide +kernel
theorem dX4_changedBy_31 : decode cX4_changedBy 31 = .ok (.aload_n 0, 1) := by decide +kernel
theorem dX4_changedBy_32 : decode cX4_changedBy 32 = .ok (.getfield 34, 3) := by decide +kernel
theorem dX4_changedBy_35 : decode cX4_changedBy 35 = .ok (.getfield 95, 3) := by decide +kernel
theorem dX4_changedBy_38 : decode cX4_changedBy 38 = .ok (.iload_n 1, 1) := by decide +kernel
theorem dX4_changedBy_39 : decode cX4_changedBy 39 = .ok (.aaload, 1) := by decide +kernel
theorem dX4_changedBy_40 : decode cX4_changedBy 40 = .ok (.getfield 99, 3) := by decide +kernel
theorem dX4_changedBy_43 : decode cX4_changedBy 43 = .ok (.iload_n 2, 1) := by decide +kernel
theorem dX4_changedBy_44 : decode cX4_changedBy 44 = .ok (.iload_n 3, 1) := by decide +kernel
theorem dX4_changedBy_45 : decode cX4_changedBy 45 = .ok (.iastore, 1) := by decide +kernel
theorem dX4_changedBy_46 : decode cX4_changedBy 46 = .ok (.aload_n 0, 1) := by decide +kernel
theorem dX4_changedBy_47 : decode cX4_changedBy 47 = .ok (.invokevirtual 187, 3) := by decide +kernel
theorem dX4_changedBy_50 : decode cX4_changedBy 50 = .ok (.astore 5, 2) := by decide +kernel
theorem dX4_changedBy_52 : decode cX4_changedBy 52 = .ok (.aload 4, 2) := by decide +kernel
theorem dX4_changedBy_54 : decode cX4_changedBy 54 = .ok (.getfield 174, 3) := by decide +kernel
theorem dX4_changedBy_57 : decode cX4_changedBy 57 = .ok (.aload 5, 2) := by decide +kernel
theorem dX4_changedBy_59 : decode cX4_changedBy 59 = .ok (.getfield 174, 3) := by decide +kernel
theorem dX4_changedBy_62 : decode cX4_changedBy 62 = .ok (.invokestatic 190, 3) := by decide +kernel
theorem dX4_changedBy_65 : decode cX4_changedBy 65 = .ok (.istore 6, 2) := by decide +kernel
theorem dX4_changedBy_67 : decode cX4_changedBy 67 = .ok (.iconst 0, 1) := by decide +kernel
theorem dX4_changedBy_68 : decode cX4_changedBy 68 = .ok (.istore 7, 2) := by decide +kernel
theorem dX4_changedBy_70 : decode cX4_changedBy 70 = .ok (.iconst 0, 1) := by decide +kernel
theorem dX4_changedBy_71 : decode cX4_changedBy 71 = .ok (.istore 8, 2) := by decide +kernel
theorem dX4_changedBy_73 : decode cX4_changedBy 73 = .ok (.iload 8, 2) := by decide +kernel
theorem dX4_changedBy_75 : decode cX4_changedBy 75 = .ok (.iload 6, 2) := by decide +kernel
theorem dX4_changedBy_77 : decode cX4_changedBy 77 = .ok (.if_icmp .ge 57, 3) := by decide +kernel
theorem dX4_changedBy_80 : decode cX4_changedBy 80 = .ok (.iload 8, 2) := by decide +kernel
theorem dX4_changedBy_82 : decode cX4_changedBy 82 = .ok (.aload 4, 2) := by decide +kernel
theorem dX4_changedBy_84 : decode cX4_changedBy 84 = .ok (.getfield 174, 3) := by decide +kernel
theorem dX4_changedBy_87 : decode cX4_changedBy 87 = .ok (.if_icmp .ge 17, 3) := by decide +kernel
theorem dX4_changedBy_90 : decode cX4_changedBy 90 = .ok (.iload 8, 2) := by decide +kernel
theorem dX4_changedBy_92 : decode cX4_changedBy 92 = .ok (.aload 5, 2) := by decide +kernel
theorem dX4_changedBy_94 : decode cX4_changedBy 94 = .ok (.getfield 174, 3) := by decide +kernel
theorem dX4_changedBy_97 : decode cX4_changedBy 97 = .ok (.if_icmp .ge 7, 3) := by decide +kernel
theorem dX4_changedBy_100 : decode cX4_changedBy 100 = .ok (.iconst 1, 1) := by decide +kernel
theorem dX4_changedBy_101 : decode cX4_changedBy 101 = .ok (.goto 4, 3) := by decide +kernel
theorem dX4_changedBy_104 : decode cX4_changedBy 104 = .ok (.iconst 0, 1) := by decide +kernel
theorem dX4_changedBy_105 : decode cX4_changedBy 105 = .ok (.istore 9, 2) := by decide +kernel
theorem dX4_changedBy_107 : decode cX4_changedBy 107 = .ok (.iload 9, 2) := by decide +kernel
theorem dX4_changedBy_109 : decode cX4_changedBy 109 = .ok (.ifCond .eq 16, 3) := by decide +kernel
theorem dX4_changedBy_112 : decode cX4_changedBy 112 = .ok (.aload_n 0, 1) := by decide +kernel
theorem dX4_changedBy_113 : decode cX4_changedBy 113 = .ok (.aload 4, 2) := by decide +kernel
theorem dX4_changedBy_115 : decode cX4_changedBy 115 = .ok (.aload 5, 2) := by decide +kernel
theorem dX4_changedBy_117 : decode cX4_changedBy 117 = .ok (.iload 8, 2) := by decide +kernel
theorem dX4_changedBy_119 : decode cX4_changedBy 119 = .ok (.invokevirtual 193, 3) := by decide +kernel
theorem dX4_changedBy_122 : decode cX4_changedBy 122 = .ok (.ifCond .eq 6, 3) := by decide +kernel
theorem dX4_changedBy_125 : decode cX4_changedBy 125 = .ok (.iinc 7 1, 3) := by decide +kernel
theorem dX4_changedBy_128 : decode cX4_changedBy 128 = .ok (.iinc 8 1, 3) := by decide +kernel
theorem dX4_changedBy_131 : decode cX4_changedBy 131 = .ok (.goto (-58), 3) := by decide +kernel
theorem dX4_changedBy_134 : decode cX4_changedBy 134 = .ok (.iload 7, 2) := by decide +kernel
theorem dX4_changedBy_136 : decode cX4_changedBy 136 = .ok (.ireturn, 1) := by decide +kernel
set_option maxRecDepth 20000 in
theorem ggX4_digest_X4_refresh : GoodIn wsX4_digest wsX4_refresh := goodIn_r _ [8, 9, 2, 3, 10, 11, 12, 13, 14, 15, 16, 17, 18, 19, 20, 21, 22, 23, 24, 25, 26, 27, 28, 29, 30, 31, 32, 33, 34, 35, 36, 37, 38, 39, 40, 41, 42, 43, 44, 45, 46, 47, 48, 49, 50, 51, 52, 53, 54, 55, 56, 57, 58, 59, 60, 61, 62, 63, 64, 65, 66, 67, 68, 69, 70, 71, 72, 73, 74, 75, 76, 77, 78, 79, 80, 81, 82, 83, 84, 85, 86, 87, 88, 89, 90, 91, 92, 93, 94, 95, 96, 97, 98, 99, 100, 101, 102, 103, 104, 105, 106, 107, 108, 109, 110, 111, 112, 113, 114, 115, 116, 117, 118, 119, 120, 121, 122, 123, 124, 125, 126, 127, 128, 129, 130, 131, 132, 133, 134, 135, 212, 213, 214, 215, 216, 217, 218, 219, 220, 221, 222, 223, 224, 225, 226, 227, 228, 243, 244, 245, 246, 247, 248, 249, 250, 251, 252, 253, 229, 230, 231, 232, 233, 234, 235, 236, 237, 238, 239, 240, 241, 242] (by decide +kernel) (by decide +kernel)
set_option maxRecDepth 20000 in
theorem gX4_digest_X4_refresh : GoodIn wsX4_digest (wsV RX4 131 RX4 yX4_refresh wsX4_refresh) := goodIn_app (goodIn_of _ (by decide +kernel)) ggX4_digest_X4_refresh
set_option maxRecDepth 20000 in
theorem ggX4_digest_X4_factOfTable : GoodIn wsX4_digest wsX4_factOfTable := goodIn_r _ [139, 3, 2, 140, 141, 142, 70, 143, 74, 73, 72, 144, 145, 146, 78, 147, 81, 82, 148, 91, 92, 93, 89, 149, 150, 151, 152, 103, 153, 154, 155, 15, 156, 23, 24, 157, 158, 159, 160, 122, 135, 212, 213, 214, 215, 216, 217, 218, 219, 220, 221, 222, 223, 224, 225, 226, 227, 228, 229, 230, 231, 232, 233, 234, 235, 236, 237, 238, 239, 240, 241, 242, 251, 252, 253, 243, 244, 245, 246, 247, 248, 249, 250] (by decide +kernel) (by decide +kernel)
set_option maxRecDepth 20000 in
theorem gX4_digest_X4_factOfTable : GoodIn wsX4_digest (wsV RX4 170 RX4 yX4_factOfTable wsX4_factOfTable) := goodIn_app (goodIn_of _ (by decide +kernel)) ggX4_digest_X4_factOfTable
set_option maxRecDepth 20000 in
theorem ggX4_digest_X4_digestWith : GoodIn wsX4_digest wsX4_digestWith := goodIn_r _ [163, 164] (by decide +kernel) (by decide +kernel)
set_option maxRecDepth 20000 in
theorem gX4_digest_X4_digestWith : GoodIn wsX4_digest (va_wsS RX4 199 yX4_digestWith wsX4_digestWith) := goodIn_app (goodIn_of _ (by decide +kernel)) ggX4_digest_X4_digestWith
set_option maxRecDepth 20000 in
theorem ggX4_digest_X4_factOfColumn : GoodIn wsX4_digest wsX4_factOfColumn := goodIn_r _ [168, 3, 2, 140, 141, 142, 70, 143, 74, 73, 72, 169, 170, 171, 15, 172, 18, 24, 212, 213, 214, 215, 216, 217, 218, 219, 220, 221, 222, 223, 224, 225, 226, 227, 228, 229, 230, 231, 232, 233, 234, 235, 236, 237, 238, 239, 240, 241, 242, 251, 252, 253, 243, 244, 245, 246, 247, 248, 249, 250] (by decide +kernel) (by decide +kernel)
set_option maxRecDepth 20000 in
theorem gX4_digest_X4_factOfColumn : GoodIn wsX4_digest (wsV RX4 154 RX4 yX4_factOfColumn wsX4_factOfColumn) := goodIn_app (goodIn_of _ (by decide +kernel)) ggX4_digest_X4_factOfColumn
set_option maxRecDepth 20000 in
theorem ggX4_digest_X4_digestWithRow : GoodIn wsX4_digest wsX4_digestWithRow := goodIn_r _ [176, 2, 177, 178, 179, 7, 180, 3, 140, 141, 142, 70, 143, 74, 73, 72, 161, 162, 163, 164, 181, 182, 183, 184, 185, 105, 106, 78, 107, 89, 102, 49, 38, 50, 108, 57, 58, 15, 59, 17, 24, 169, 170, 171, 172, 18, 212, 213, 214, 215, 216, 217, 218, 219, 220, 221, 222, 223, 224, 225, 226, 227, 228, 229, 230, 231, 232, 233, 234, 235, 236, 237, 238, 239, 240, 241, 242, 251, 252, 253, 243, 244, 245, 246, 247, 248, 249, 250] (by decide +kernel) (by decide +kernel)
set_option maxRecDepth 20000 in
theorem gX4_digest_X4_digestWithRow : GoodIn wsX4_digest (wsV RX4 203 RX4 yX4_digestWithRow wsX4_digestWithRow) := goodIn_app (goodIn_of _ (by decide +kernel)) ggX4_digest_X4_digestWithRow
set_option maxRecDepth 20000 in
theorem ggX4_digest_X2_chosen : GoodIn wsX4_digest wsX2_chosen := goodIn_r _ [143, 74, 73, 72, 251, 252, 253] (by decide +kernel) (by decide +kernel)
set_option maxRecDepth 20000 in
theorem gX4_digest_X2_chosen : GoodIn wsX4_digest (wsV RX4 143 RX2 yX2_chosen wsX2_chosen) := goodIn_app (goodIn_of _ (by decide +kernel)) ggX4_digest_X2_chosen
set_option maxRecDepth 20000 in
theorem ggX4_digest_X4_digestWithPage : GoodIn wsX4_digest wsX4_digestWithPage := goodIn_r _ [189, 2, 3, 190, 191, 192, 7, 193, 140, 141, 142, 70, 143, 74, 73, 72, 194, 195, 196, 78, 197, 115, 135, 198, 199, 200, 161, 162, 163, 164, 201, 202, 203, 204, 117, 205, 170, 171, 15, 172, 18, 24, 212, 213, 214, 215, 216, 217, 218, 219, 220, 221, 222, 223, 224, 225, 226, 227, 228, 229, 230, 231, 232, 233, 234, 235, 236, 237, 238, 239, 240, 241, 242, 251, 252, 253, 243, 244, 245, 246, 247, 248, 249, 250] (by decide +kernel) (by decide +kernel)
set_option maxRecDepth 20000 in
theorem gX4_digest_X4_digestWithPage : GoodIn wsX4_digest (wsV RX4 206 RX4 yX4_digestWithPage wsX4_digestWithPage) := goodIn_app (goodIn_of _ (by decide +kernel)) ggX4_digest_X4_digestWithPage
set_option maxRecDepth 20000 in
theorem ggX4_digest_X4_pagesIn : GoodIn wsX4_digest wsX4_pagesIn := goodIn_r _ [209, 210, 2, 211, 76, 77, 78, 79, 80, 81, 82, 83, 84, 85, 86, 87, 88, 89, 90, 91, 92, 93, 94, 95, 96, 97, 98, 99, 100, 101, 102, 49, 38, 50, 103, 104, 105, 106, 107, 108, 57, 58, 15, 59, 17, 24, 109, 110, 111, 112, 113, 114, 115, 116, 117, 118, 119, 120, 121, 122, 123, 124, 125, 126, 127, 128, 129, 130, 131, 132, 133, 134, 135, 144, 145, 146, 147, 212, 213, 214, 215, 216, 217, 218, 219, 229, 230, 231, 232, 233, 234, 235, 236, 237, 238, 239, 240, 241, 242, 220, 221, 222, 223, 224, 225, 226, 227, 228, 243, 244, 245, 246, 247, 248, 249, 250] (by decide +kernel) (by decide +kernel)
set_option maxRecDepth 20000 in
theorem gX4_digest_X4_pagesIn : GoodIn wsX4_digest (wsV RX4 180 RX4 yX4_pagesIn wsX4_pagesIn) := goodIn_app (goodIn_of _ (by decide +kernel)) ggX4_digest_X4_pagesIn
theorem dX4_digest_0 : decode cX4_digest 0 = .ok (.aload_n 0, 1) := by decide +kernel
theorem dX4_digest_1 : decode cX4_digest 1 = .ok (.invokevirtual 131, 3) := by decide +kernel
theorem dX4_digest_4 : decode cX4_digest 4 = .ok (.ldc2_w 197, 3) := by decide +kernel
theorem dX4_digest_7 : decode cX4_digest 7 = .ok (.lstore_n 1, 1) := by decide +kernel
theorem dX4_digest_8 : decode cX4_digest 8 = .ok (.iconst 0, 1) := by decide +kernel
theorem dX4_digest_9 : decode cX4_digest 9 = .ok (.istore_n 3, 1) := by decide +kernel
theorem dX4_digest_10 : decode cX4_digest 10 = .ok (.iload_n 3, 1) := by decide +kernel
theorem dX4_digest_11 : decode cX4_digest 11 = .ok (.bipush 7, 2) := by decide +kernel
theorem dX4_digest_13 : decode cX4_digest 13 = .ok (.if_icmp .gt 19, 3) := by decide +kernel
theorem dX4_digest_16 : decode cX4_digest 16 = .ok (.lload_n 1, 1) := by decide +kernel
theorem dX4_digest_17 : decode cX4_digest 17 = .ok (.aload_n 0, 1) := by decide +kernel
theorem dX4_digest_18 : decode cX4_digest 18 = .ok (.iload_n 3, 1) := by decide +kernel
theorem dX4_digest_19 : decode cX4_digest 19 = .ok (.invokevirtual 170, 3) := by decide +kernel
theorem dX4_digest_22 : decode cX4_digest 22 = .ok (.invokestatic 199, 3) := by decide +kernel
theorem dX4_digest_25 : decode cX4_digest 25 = .ok (.lstore_n 1, 1) := by decide +kernel
theorem dX4_digest_26 : decode cX4_digest 26 = .ok (.iinc 3 1, 3) := by decide +kernel
theorem dX4_digest_29 : decode cX4_digest 29 = .ok (.goto (-19), 3) := by decide +kernel
theorem dX4_digest_32 : decode cX4_digest 32 = .ok (.iconst 0, 1) := by decide +kernel
theorem dX4_digest_33 : decode cX4_digest 33 = .ok (.istore_n 3, 1) := by decide +kernel
theorem dX4_digest_34 : decode cX4_digest 34 = .ok (.iload_n 3, 1) := by decide +kernel
theorem dX4_digest_35 : decode cX4_digest 35 = .ok (.aload_n 0, 1) := by decide +kernel
theorem dX4_digest_36 : decode cX4_digest 36 = .ok (.getfield 12, 3) := by decide +kernel
theorem dX4_digest_39 : decode cX4_digest 39 = .ok (.getfield 119, 3) := by decide +kernel
theorem dX4_digest_42 : decode cX4_digest 42 = .ok (.if_icmp .ge 36, 3) := by decide +kernel
theorem dX4_digest_45 : decode cX4_digest 45 = .ok (.iconst 0, 1) := by decide +kernel
theorem dX4_digest_46 : decode cX4_digest 46 = .ok (.istore 4, 2) := by decide +kernel
theorem dX4_digest_48 : decode cX4_digest 48 = .ok (.iload 4, 2) := by decide +kernel
theorem dX4_digest_50 : decode cX4_digest 50 = .ok (.iconst 4, 1) := by decide +kernel
theorem dX4_digest_51 : decode cX4_digest 51 = .ok (.if_icmp .gt 21, 3) := by decide +kernel
theorem dX4_digest_54 : decode cX4_digest 54 = .ok (.lload_n 1, 1) := by decide +kernel
theorem dX4_digest_55 : decode cX4_digest 55 = .ok (.aload_n 0, 1) := by decide +kernel
theorem dX4_digest_56 : decode cX4_digest 56 = .ok (.iload_n 3, 1) := by decide +kernel
theorem dX4_digest_57 : decode cX4_digest 57 = .ok (.iload 4, 2) := by decide +kernel
theorem dX4_digest_59 : decode cX4_digest 59 = .ok (.invokevirtual 154, 3) := by decide +kernel
theorem dX4_digest_62 : decode cX4_digest 62 = .ok (.invokestatic 199, 3) := by decide +kernel
theorem dX4_digest_65 : decode cX4_digest 65 = .ok (.lstore_n 1, 1) := by decide +kernel
theorem dX4_digest_66 : decode cX4_digest 66 = .ok (.iinc 4 1, 3) := by decide +kernel
theorem dX4_digest_69 : decode cX4_digest 69 = .ok (.goto (-21), 3) := by decide +kernel
theorem dX4_digest_72 : decode cX4_digest 72 = .ok (.iinc 3 1, 3) := by decide +kernel
theorem dX4_digest_75 : decode cX4_digest 75 = .ok (.goto (-41), 3) := by decide +kernel
theorem dX4_digest_78 : decode cX4_digest 78 = .ok (.iconst 0, 1) := by decide +kernel
theorem dX4_digest_79 : decode cX4_digest 79 = .ok (.istore_n 3, 1) := by decide +kernel
theorem dX4_digest_80 : decode cX4_digest 80 = .ok (.iload_n 3, 1) := by decide +kernel
theorem dX4_digest_81 : decode cX4_digest 81 = .ok (.aload_n 0, 1) := by decide +kernel
theorem dX4_digest_82 : decode cX4_digest 82 = .ok (.getfield 12, 3) := by decide +kernel
theorem dX4_digest_85 : decode cX4_digest 85 = .ok (.getfield 72, 3) := by decide +kernel
theorem dX4_digest_88 : decode cX4_digest 88 = .ok (.if_icmp .ge 16, 3) := by decide +kernel
theorem dX4_digest_91 : decode cX4_digest 91 = .ok (.aload_n 0, 1) := by decide +kernel
theorem dX4_digest_92 : decode cX4_digest 92 = .ok (.lload_n 1, 1) := by decide +kernel
theorem dX4_digest_93 : decode cX4_digest 93 = .ok (.iload_n 3, 1) := by decide +kernel
theorem dX4_digest_94 : decode cX4_digest 94 = .ok (.invokevirtual 203, 3) := by decide +kernel
theorem dX4_digest_97 : decode cX4_digest 97 = .ok (.lstore_n 1, 1) := by decide +kernel
theorem dX4_digest_98 : decode cX4_digest 98 = .ok (.iinc 3 1, 3) := by decide +kernel
theorem dX4_digest_101 : decode cX4_digest 101 = .ok (.goto (-21), 3) := by decide +kernel
theorem dX4_digest_104 : decode cX4_digest 104 = .ok (.aload_n 0, 1) := by decide +kernel
theorem dX4_digest_105 : decode cX4_digest 105 = .ok (.getfield 19, 3) := by decide +kernel
theorem dX4_digest_108 : decode cX4_digest 108 = .ok (.invokevirtual 143, 3) := by decide +kernel
theorem dX4_digest_111 : decode cX4_digest 111 = .ok (.getfield 174, 3) := by decide +kernel
theorem dX4_digest_114 : decode cX4_digest 114 = .ok (.istore_n 3, 1) := by decide +kernel
theorem dX4_digest_115 : decode cX4_digest 115 = .ok (.iconst 0, 1) := by decide +kernel
theorem dX4_digest_116 : decode cX4_digest 116 = .ok (.istore 4, 2) := by decide +kernel
theorem dX4_digest_118 : decode cX4_digest 118 = .ok (.iload 4, 2) := by decide +kernel
theorem dX4_digest_120 : decode cX4_digest 120 = .ok (.iload_n 3, 1) := by decide +kernel
theorem dX4_digest_121 : decode cX4_digest 121 = .ok (.if_icmp .ge 17, 3) := by decide +kernel
theorem dX4_digest_124 : decode cX4_digest 124 = .ok (.aload_n 0, 1) := by decide +kernel
theorem dX4_digest_125 : decode cX4_digest 125 = .ok (.lload_n 1, 1) := by decide +kernel
theorem dX4_digest_126 : decode cX4_digest 126 = .ok (.iload 4, 2) := by decide +kernel
theorem dX4_digest_128 : decode cX4_digest 128 = .ok (.invokevirtual 206, 3) := by decide +kernel
theorem dX4_digest_131 : decode cX4_digest 131 = .ok (.lstore_n 1, 1) := by decide +kernel
theorem dX4_digest_132 : decode cX4_digest 132 = .ok (.iinc 4 1, 3) := by decide +kernel
theorem dX4_digest_135 : decode cX4_digest 135 = .ok (.goto (-17), 3) := by decide +kernel
theorem dX4_digest_138 : decode cX4_digest 138 = .ok (.lload_n 1, 1) := by decide +kernel
theorem dX4_digest_139 : decode cX4_digest 139 = .ok (.aload_n 0, 1) := by decide +kernel
theorem dX4_digest_140 : decode cX4_digest 140 = .ok (.bipush 30, 2) := by decide +kernel
theorem dX4_digest_142 : decode cX4_digest 142 = .ok (.bipush 20, 2) := by decide +kernel
theorem dX4_digest_144 : decode cX4_digest 144 = .ok (.invokevirtual 180, 3) := by decide +kernel
theorem dX4_digest_147 : decode cX4_digest 147 = .ok (.invokestatic 199, 3) := by decide +kernel
theorem dX4_digest_150 : decode cX4_digest 150 = .ok (.lstore_n 1, 1) := by decide +kernel
theorem dX4_digest_151 : decode cX4_digest 151 = .ok (.lload_n 1, 1) := by decide +kernel
theorem dX4_digest_152 : decode cX4_digest 152 = .ok (.aload_n 0, 1) := by decide +kernel
theorem dX4_digest_153 : decode cX4_digest 153 = .ok (.bipush 20, 2) := by decide +kernel
theorem dX4_digest_155 : decode cX4_digest 155 = .ok (.bipush 30, 2) := by decide +kernel
theorem dX4_digest_157 : decode cX4_digest 157 = .ok (.invokevirtual 180, 3) := by decide +kernel
theorem dX4_digest_160 : decode cX4_digest 160 = .ok (.invokestatic 199, 3) := by decide +kernel
theorem dX4_digest_163 : decode cX4_digest 163 = .ok (.lreturn, 1) := by decide +kernel
theorem dX4_requireRange_0 : decode cX4_requireRange 0 = .ok (.iload_n 0, 1) := by decide +kernel
theorem dX4_requireRange_1 : decode cX4_requireRange 1 = .ok (.iload_n 1, 1) := by decide +kernel
theorem dX4_requireRange_2 : decode cX4_requireRange 2 = .ok (.if_icmp .lt 8, 3) := by decide +kernel
theorem dX4_requireRange_5 : decode cX4_requireRange 5 = .ok (.iload_n 0, 1) := by decide +kernel
theorem dX4_requireRange_6 : decode cX4_requireRange 6 = .ok (.iload_n 2, 1) := by decide +kernel
theorem dX4_requireRange_7 : decode cX4_requireRange 7 = .ok (.if_icmp .le 13, 3) := by decide +kernel
theorem dX4_requireRange_10 : decode cX4_requireRange 10 = .ok (.new 122, 3) := by decide +kernel
theorem dX4_requireRange_13 : decode cX4_requireRange 13 = .ok (.dup, 1) := by decide +kernel
theorem dX4_requireRange_14 : decode cX4_requireRange 14 = .ok (.ldc 209, 2) := by decide +kernel
theorem dX4_requireRange_16 : decode cX4_requireRange 16 = .ok (.invokespecial 126, 3) := by decide +kernel
theorem dX4_requireRange_19 : decode cX4_requireRange 19 = .ok (.athrow, 1) := by decide +kernel
theorem dX4_requireRange_20 : decode cX4_requireRange 20 = .ok (.return_, 1) := by decide +kernel
theorem dX4_requireRow_0 : decode cX4_requireRow 0 = .ok (.iload_n 1, 1) := by decide +kernel
theorem dX4_requireRow_1 : decode cX4_requireRow 1 = .ok (.ifCond .lt 14, 3) := by decide +kernel
theorem dX4_requireRow_4 : decode cX4_requireRow 4 = .ok (.iload_n 1, 1) := by decide +kernel
theorem dX4_requireRow_5 : decode cX4_requireRow 5 = .ok (.aload_n 0, 1) := by decide +kernel
theorem dX4_requireRow_6 : decode cX4_requireRow 6 = .ok (.getfield 12, 3) := by decide +kernel
theorem dX4_requireRow_9 : decode cX4_requireRow 9 = .ok (.getfield 72, 3) := by decide +kernel
theorem dX4_requireRow_12 : decode cX4_requireRow 12 = .ok (.if_icmp .lt 13, 3) := by decide +kernel
theorem dX4_requireRow_15 : decode cX4_requireRow 15 = .ok (.new 211, 3) := by decide +kernel
theorem dX4_requireRow_18 : decode cX4_requireRow 18 = .ok (.dup, 1) := by decide +kernel
theorem dX4_requireRow_19 : decode cX4_requireRow 19 = .ok (.ldc 213, 2) := by decide +kernel
theorem dX4_requireRow_21 : decode cX4_requireRow 21 = .ok (.invokespecial 215, 3) := by decide +kernel
theorem dX4_requireRow_24 : decode cX4_requireRow 24 = .ok (.athrow, 1) := by decide +kernel
theorem dX4_requireRow_25 : decode cX4_requireRow 25 = .ok (.return_, 1) := by decide +kernel
theorem dX4_requireColumn_0 : decode cX4_requireColumn 0 = .ok (.iload_n 1, 1) := by decide +kernel
theorem dX4_requireColumn_1 : decode cX4_requireColumn 1 = .ok (.ifCond .lt 14, 3) := by decide +kernel
theorem dX4_requireColumn_4 : decode cX4_requireColumn 4 = .ok (.iload_n 1, 1) := by decide +kernel
theorem dX4_requireColumn_5 : decode cX4_requireColumn 5 = .ok (.aload_n 0, 1) := by decide +kernel
theorem dX4_requireColumn_6 : decode cX4_requireColumn 6 = .ok (.getfield 12, 3) := by decide +kernel
theorem dX4_requireColumn_9 : decode cX4_requireColumn 9 = .ok (.getfield 119, 3) := by decide +kernel
theorem dX4_requireColumn_12 : decode cX4_requireColumn 12 = .ok (.if_icmp .lt 13, 3) := by decide +kernel
theorem dX4_requireColumn_15 : decode cX4_requireColumn 15 = .ok (.new 211, 3) := by decide +kernel
theorem dX4_requireColumn_18 : decode cX4_requireColumn 18 = .ok (.dup, 1) := by decide +kernel
theorem dX4_requireColumn_19 : decode cX4_requireColumn 19 = .ok (.ldc 216, 2) := by decide +kernel
theorem dX4_requireColumn_21 : decode cX4_requireColumn 21 = .ok (.invokespecial 215, 3) := by decide +kernel
theorem dX4_requireColumn_24 : decode cX4_requireColumn 24 = .ok (.athrow, 1) := by decide +kernel
theorem dX4_requireColumn_25 : decode cX4_requireColumn 25 = .ok (.return_, 1) := by decide +kernel
set_option maxRecDepth 20000 in
theorem ggX4_requirePage_X2_chosen : GoodIn wsX4_requirePage wsX2_chosen := goodIn_r _ [8, 9, 10, 11, 34, 35, 36] (by decide +kernel) (by decide +kernel)
set_option maxRecDepth 20000 in
theorem gX4_requirePage_X2_chosen : GoodIn wsX4_requirePage (wsV RX4 143 RX2 yX2_chosen wsX2_chosen) := goodIn_app (goodIn_of _ (by decide +kernel)) ggX4_requirePage_X2_chosen
theorem dX4_requirePage_0 : decode cX4_requirePage 0 = .ok (.iload_n 1, 1) := by decide +kernel
theorem dX4_requirePage_1 : decode cX4_requirePage 1 = .ok (.ifCond .lt 17, 3) := by decide +kernel
theorem dX4_requirePage_4 : decode cX4_requirePage 4 = .ok (.iload_n 1, 1) := by decide +kernel
theorem dX4_requirePage_5 : decode cX4_requirePage 5 = .ok (.aload_n 0, 1) := by decide +kernel
theorem dX4_requirePage_6 : decode cX4_requirePage 6 = .ok (.getfield 19, 3) := by decide +kernel
theorem dX4_requirePage_9 : decode cX4_requirePage 9 = .ok (.invokevirtual 143, 3) := by decide +kernel
theorem dX4_requirePage_12 : decode cX4_requirePage 12 = .ok (.getfield 174, 3) := by decide +kernel
theorem dX4_requirePage_15 : decode cX4_requirePage 15 = .ok (.if_icmp .lt 13, 3) := by decide +kernel
theorem dX4_requirePage_18 : decode cX4_requirePage 18 = .ok (.new 211, 3) := by decide +kernel
theorem dX4_requirePage_21 : decode cX4_requirePage 21 = .ok (.dup, 1) := by decide +kernel
theorem dX4_requirePage_22 : decode cX4_requirePage 22 = .ok (.ldc 218, 2) := by decide +kernel
theorem dX4_requirePage_24 : decode cX4_requirePage 24 = .ok (.invokespecial 215, 3) := by decide +kernel
theorem dX4_requirePage_27 : decode cX4_requirePage 27 = .ok (.athrow, 1) := by decide +kernel
theorem dX4_requirePage_28 : decode cX4_requirePage 28 = .ok (.return_, 1) := by decide +kernel
theorem dX4_requireKind_0 : decode cX4_requireKind 0 = .ok (.aload_n 0, 1) := by decide +kernel
theorem dX4_requireKind_1 : decode cX4_requireKind 1 = .ok (.getfield 12, 3) := by decide +kernel
theorem dX4_requireKind_4 : decode cX4_requireKind 4 = .ok (.getfield 220, 3) := by decide +kernel
theorem dX4_requireKind_7 : decode cX4_requireKind 7 = .ok (.iload_n 1, 1) := by decide +kernel
theorem dX4_requireKind_8 : decode cX4_requireKind 8 = .ok (.iaload, 1) := by decide +kernel
theorem dX4_requireKind_9 : decode cX4_requireKind 9 = .ok (.iload_n 2, 1) := by decide +kernel
theorem dX4_requireKind_10 : decode cX4_requireKind 10 = .ok (.if_icmp .eq 13, 3) := by decide +kernel
theorem dX4_requireKind_13 : decode cX4_requireKind 13 = .ok (.new 122, 3) := by decide +kernel
theorem dX4_requireKind_16 : decode cX4_requireKind 16 = .ok (.dup, 1) := by decide +kernel
theorem dX4_requireKind_17 : decode cX4_requireKind 17 = .ok (.ldc 223, 2) := by decide +kernel
theorem dX4_requireKind_19 : decode cX4_requireKind 19 = .ok (.invokespecial 126, 3) := by decide +kernel
theorem dX4_requireKind_22 : decode cX4_requireKind 22 = .ok (.athrow, 1) := by decide +kernel
theorem dX4_requireKind_23 : decode cX4_requireKind 23 = .ok (.return_, 1) := by decide +kernel
theorem dX4_requireSpareColumn_0 : decode cX4_requireSpareColumn 0 = .ok (.aload_n 0, 1) := by decide +kernel
theorem dX4_requireSpareColumn_1 : decode cX4_requireSpareColumn 1 = .ok (.getfield 12, 3) := by decide +kernel
theorem dX4_requireSpareColumn_4 : decode cX4_requireSpareColumn 4 = .ok (.getfield 119, 3) := by decide +kernel
theorem dX4_requireSpareColumn_7 : decode cX4_requireSpareColumn 7 = .ok (.bipush 6, 2) := by decide +kernel
theorem dX4_requireSpareColumn_9 : decode cX4_requireSpareColumn 9 = .ok (.if_icmp .lt 13, 3) := by decide +kernel
theorem dX4_requireSpareColumn_12 : decode cX4_requireSpareColumn 12 = .ok (.new 75, 3) := by decide +kernel
theorem dX4_requireSpareColumn_15 : decode cX4_requireSpareColumn 15 = .ok (.dup, 1) := by decide +kernel
theorem dX4_requireSpareColumn_16 : decode cX4_requireSpareColumn 16 = .ok (.ldc 227, 2) := by decide +kernel
theorem dX4_requireSpareColumn_18 : decode cX4_requireSpareColumn 18 = .ok (.invokespecial 79, 3) := by decide +kernel
theorem dX4_requireSpareColumn_21 : decode cX4_requireSpareColumn 21 = .ok (.athrow, 1) := by decide +kernel
theorem dX4_requireSpareColumn_22 : decode cX4_requireSpareColumn 22 = .ok (.return_, 1) := by decide +kernel
set_option maxRecDepth 20000 in
theorem ggX4_requireNumberCell_X4_requireRow : GoodIn wsX4_requireNumberCell wsX4_requireRow := goodIn_ca (goodIn_r _ [5, 6, 7, 8, 22, 23, 24, 25, 26, 27, 28, 29, 30, 31, 32, 33, 34, 35, 36, 37, 38] (by decide +kernel) (by decide +kernel)) (goodIn_sub (fun _ h => List.mem_cons_of_mem _ (List.mem_append_left _ (List.mem_append_right _ h))) (by decide +kernel))
set_option maxRecDepth 20000 in
theorem gX4_requireNumberCell_X4_requireRow : GoodIn wsX4_requireNumberCell (wsV RX4 86 RX4 yX4_requireRow wsX4_requireRow) := goodIn_app (goodIn_of _ (by decide +kernel)) ggX4_requireNumberCell_X4_requireRow
set_option maxRecDepth 20000 in
theorem ggX4_requireNumberCell_X4_requireColumn : GoodIn wsX4_requireNumberCell wsX4_requireColumn := goodIn_ca (goodIn_r _ [12, 6, 7, 8, 22, 23, 24, 25, 26, 27, 28, 29, 30, 31, 32, 33, 34, 35, 36, 37, 38] (by decide +kernel) (by decide +kernel)) (goodIn_sub (fun _ h => List.mem_cons_of_mem _ (List.mem_append_left _ (List.mem_append_right _ h))) (by decide +kernel))
set_option maxRecDepth 20000 in
theorem gX4_requireNumberCell_X4_requireColumn : GoodIn wsX4_requireNumberCell (wsV RX4 58 RX4 yX4_requireColumn wsX4_requireColumn) := goodIn_app (goodIn_of _ (by decide +kernel)) ggX4_requireNumberCell_X4_requireColumn
set_option maxRecDepth 20000 in
theorem ggX4_requireNumberCell_X4_requireKind : GoodIn wsX4_requireNumberCell wsX4_requireKind := goodIn_ca (goodIn_r _ [16, 17, 18, 8, 22, 23, 24, 25, 26, 27, 28, 29, 30, 31, 32, 33, 34, 35, 36, 37, 38] (by decide +kernel) (by decide +kernel)) (goodIn_sub (fun _ h => List.mem_cons_of_mem _ (List.mem_append_right _ h)) (by decide +kernel))
set_option maxRecDepth 20000 in
theorem gX4_requireNumberCell_X4_requireKind : GoodIn wsX4_requireNumberCell (wsV RX4 104 RX4 yX4_requireKind wsX4_requireKind) := goodIn_app (goodIn_of _ (by decide +kernel)) ggX4_requireNumberCell_X4_requireKind
set_option maxRecDepth 20000 in
theorem ggX4_requireNumberCell_X4_requireRange : GoodIn wsX4_requireNumberCell wsX4_requireRange := goodIn_ca (goodIn_r _ [21, 17, 18] (by decide +kernel) (by decide +kernel)) (goodIn_sub (fun _ h => List.mem_cons_of_mem _ (List.mem_append_right _ h)) (by decide +kernel))
set_option maxRecDepth 20000 in
theorem gX4_requireNumberCell_X4_requireRange : GoodIn wsX4_requireNumberCell (va_wsS RX4 47 yX4_requireRange wsX4_requireRange) := goodIn_app (goodIn_of _ (by decide +kernel)) ggX4_requireNumberCell_X4_requireRange
theorem dX4_requireNumberCell_0 : decode cX4_requireNumberCell 0 = .ok (.aload_n 0, 1) := by decide +kernel
theorem dX4_requireNumberCell_1 : decode cX4_requireNumberCell 1 = .ok (.iload_n 1, 1) := by decide +kernel
theorem dX4_requireNumberCell_2 : decode cX4_requireNumberCell 2 = .ok (.invokevirtual 86, 3) := by decide +kernel
theorem dX4_requireNumberCell_5 : decode cX4_requireNumberCell 5 = .ok (.aload_n 0, 1) := by decide +kernel
theorem dX4_requireNumberCell_6 : decode cX4_requireNumberCell 6 = .ok (.iload_n 2, 1) := by decide +kernel
theorem dX4_requireNumberCell_7 : decode cX4_requireNumberCell 7 = .ok (.invokevirtual 58, 3) := by decide +kernel
theorem dX4_requireNumberCell_10 : decode cX4_requireNumberCell 10 = .ok (.aload_n 0, 1) := by decide +kernel
theorem dX4_requireNumberCell_11 : decode cX4_requireNumberCell 11 = .ok (.iload_n 2, 1) := by decide +kernel
theorem dX4_requireNumberCell_12 : decode cX4_requireNumberCell 12 = .ok (.iconst 0, 1) := by decide +kernel
theorem dX4_requireNumberCell_13 : decode cX4_requireNumberCell 13 = .ok (.invokevirtual 104, 3) := by decide +kernel
theorem dX4_requireNumberCell_16 : decode cX4_requireNumberCell 16 = .ok (.iload_n 3, 1) := by decide +kernel
theorem dX4_requireNumberCell_17 : decode cX4_requireNumberCell 17 = .ok (.sipush (-9999), 3) := by decide +kernel
theorem dX4_requireNumberCell_20 : decode cX4_requireNumberCell 20 = .ok (.sipush 9999, 3) := by decide +kernel
theorem dX4_requireNumberCell_23 : decode cX4_requireNumberCell 23 = .ok (.invokestatic 47, 3) := by decide +kernel
theorem dX4_requireNumberCell_26 : decode cX4_requireNumberCell 26 = .ok (.return_, 1) := by decide +kernel
set_option maxRecDepth 20000 in
theorem ggX4_refresh_X3_reckon : GoodIn wsX4_refresh wsX3_reckon := goodIn_r _ [10, 11, 12, 13, 14, 15, 9, 16, 17, 18, 19, 20, 21, 22, 23, 24, 25, 26, 27, 28, 29, 30, 31, 32, 33, 34, 35, 36, 37, 38, 39, 40, 41, 42, 43, 44, 45, 46, 47, 48, 49, 50, 51, 52, 53, 54, 55, 56, 57, 58, 59, 60, 138, 139, 140, 141, 142, 143, 144, 145, 146, 147, 148, 149, 150, 151, 152, 153, 154] (by decide +kernel) (by decide +kernel)
set_option maxRecDepth 20000 in
theorem gX4_refresh_X3_reckon : GoodIn wsX4_refresh (wsV RX4 229 RX3 yX3_reckon wsX3_reckon) := goodIn_app (goodIn_of _ (by decide +kernel)) ggX4_refresh_X3_reckon
set_option maxRecDepth 20000 in
theorem ggX4_refresh_X2_arrange : GoodIn wsX4_refresh wsX2_arrange := goodIn_r _ [65, 66, 67, 68, 69, 70, 71, 72, 73, 74, 75, 76, 77, 78, 79, 80, 81, 82, 83, 84, 85, 86, 87, 88, 89, 90, 91, 92, 93, 94, 95, 96, 43, 32, 44, 97, 98, 99, 100, 101, 102, 51, 52, 9, 53, 11, 18, 103, 104, 105, 106, 107, 108, 109, 110, 111, 112, 113, 114, 115, 116, 117, 118, 119, 120, 121, 122, 123, 124, 125, 126, 127, 128, 129, 155, 156, 157, 158, 159, 160, 161, 162, 163, 164, 165, 166, 167, 168, 169, 170, 171, 138, 139, 140, 141, 142, 143, 144, 145, 146, 147, 148, 149, 150, 151, 152, 153, 154] (by decide +kernel) (by decide +kernel)
set_option maxRecDepth 20000 in
theorem gX4_refresh_X2_arrange : GoodIn wsX4_refresh (wsV RX4 232 RX2 yX2_arrange wsX2_arrange) := goodIn_app (goodIn_of _ (by decide +kernel)) ggX4_refresh_X2_arrange
theorem dX4_refresh_0 : decode cX4_refresh 0 = .ok (.aload_n 0, 1) := by decide +kernel
theorem dX4_refresh_1 : decode cX4_refresh 1 = .ok (.getfield 30, 3) := by decide +kernel
theorem dX4_refresh_4 : decode cX4_refresh 4 = .ok (.ifCond .eq 34, 3) := by decide +kernel
theorem dX4_refresh_7 : decode cX4_refresh 7 = .ok (.aload_n 0, 1) := by decide +kernel
theorem dX4_refresh_8 : decode cX4_refresh 8 = .ok (.getfield 12, 3) := by decide +kernel
theorem dX4_refresh_11 : decode cX4_refresh 11 = .ok (.invokevirtual 229, 3) := by decide +kernel
theorem dX4_refresh_14 : decode cX4_refresh 14 = .ok (.aload_n 0, 1) := by decide +kernel
theorem dX4_refresh_15 : decode cX4_refresh 15 = .ok (.getfield 19, 3) := by decide +kernel
theorem dX4_refresh_18 : decode cX4_refresh 18 = .ok (.aload_n 0, 1) := by decide +kernel
theorem dX4_refresh_19 : decode cX4_refresh 19 = .ok (.getfield 12, 3) := by decide +kernel
theorem dX4_refresh_22 : decode cX4_refresh 22 = .ok (.aload_n 0, 1) := by decide +kernel
theorem dX4_refresh_23 : decode cX4_refresh 23 = .ok (.getfield 23, 3) := by decide +kernel
theorem dX4_refresh_26 : decode cX4_refresh 26 = .ok (.aload_n 0, 1) := by decide +kernel
theorem dX4_refresh_27 : decode cX4_refresh 27 = .ok (.getfield 27, 3) := by decide +kernel
theorem dX4_refresh_30 : decode cX4_refresh 30 = .ok (.invokevirtual 232, 3) := by decide +kernel
theorem dX4_refresh_33 : decode cX4_refresh 33 = .ok (.aload_n 0, 1) := by decide +kernel
theorem dX4_refresh_34 : decode cX4_refresh 34 = .ok (.iconst 0, 1) := by decide +kernel
theorem dX4_refresh_35 : decode cX4_refresh 35 = .ok (.putfield 30, 3) := by decide +kernel
theorem dX4_refresh_38 : decode cX4_refresh 38 = .ok (.return_, 1) := by decide +kernel
set_option maxRecDepth 20000 in
theorem ggX4_layoutOfTrial_X3_reckon : GoodIn wsX4_layoutOfTrial wsX3_reckon := goodIn_r _ [9, 10, 11, 12, 13, 14, 8, 15, 16, 17, 18, 19, 20, 21, 22, 23, 24, 25, 26, 27, 28, 29, 30, 31, 32, 33, 34, 35, 36, 37, 38, 39, 40, 41, 42, 43, 44, 45, 46, 47, 48, 49, 50, 51, 52, 53, 54, 55, 56, 57, 58, 59, 141, 142, 143, 144, 145, 146, 147, 148, 149, 150, 151, 152, 153, 154, 155, 156, 157] (by decide +kernel) (by decide +kernel)
set_option maxRecDepth 20000 in
theorem gX4_layoutOfTrial_X3_reckon : GoodIn wsX4_layoutOfTrial (wsV RX4 229 RX3 yX3_reckon wsX3_reckon) := goodIn_app (goodIn_of _ (by decide +kernel)) ggX4_layoutOfTrial_X3_reckon
set_option maxRecDepth 20000 in
theorem ggX4_layoutOfTrial_X2_arrange : GoodIn wsX4_layoutOfTrial wsX2_arrange := goodIn_r _ [64, 65, 66, 67, 68, 69, 70, 71, 72, 73, 74, 75, 76, 77, 78, 79, 80, 81, 82, 83, 84, 85, 86, 87, 88, 89, 90, 91, 92, 93, 94, 95, 42, 31, 43, 96, 97, 98, 99, 100, 101, 50, 51, 8, 52, 10, 17, 102, 103, 104, 105, 106, 107, 108, 109, 110, 111, 112, 113, 114, 115, 116, 117, 118, 119, 120, 121, 122, 123, 124, 125, 126, 127, 128, 158, 159, 160, 161, 162, 163, 164, 165, 166, 167, 168, 169, 170, 171, 172, 173, 174, 141, 142, 143, 144, 145, 146, 147, 148, 149, 150, 151, 152, 153, 154, 155, 156, 157] (by decide +kernel) (by decide +kernel)
set_option maxRecDepth 20000 in
theorem gX4_layoutOfTrial_X2_arrange : GoodIn wsX4_layoutOfTrial (wsV RX4 232 RX2 yX2_arrange wsX2_arrange) := goodIn_app (goodIn_of _ (by decide +kernel)) ggX4_layoutOfTrial_X2_arrange
set_option maxRecDepth 20000 in
theorem ggX4_layoutOfTrial_X2_chosen : GoodIn wsX4_layoutOfTrial wsX2_chosen := goodIn_r _ [132, 67, 66, 65, 158, 159, 160] (by decide +kernel) (by decide +kernel)
set_option maxRecDepth 20000 in
theorem gX4_layoutOfTrial_X2_chosen : GoodIn wsX4_layoutOfTrial (wsV RX4 143 RX2 yX2_chosen wsX2_chosen) := goodIn_app (goodIn_of _ (by decide +kernel)) ggX4_layoutOfTrial_X2_chosen
theorem dX4_layoutOfTrial_0 : decode cX4_layoutOfTrial 0 = .ok (.aload_n 0, 1) := by decide +kernel
theorem dX4_layoutOfTrial_1 : decode cX4_layoutOfTrial 1 = .ok (.getfield 34, 3) := by decide +kernel
theorem dX4_layoutOfTrial_4 : decode cX4_layoutOfTrial 4 = .ok (.invokevirtual 229, 3) := by decide +kernel
theorem dX4_layoutOfTrial_7 : decode cX4_layoutOfTrial 7 = .ok (.aload_n 0, 1) := by decide +kernel
theorem dX4_layoutOfTrial_8 : decode cX4_layoutOfTrial 8 = .ok (.getfield 37, 3) := by decide +kernel
theorem dX4_layoutOfTrial_11 : decode cX4_layoutOfTrial 11 = .ok (.aload_n 0, 1) := by decide +kernel
theorem dX4_layoutOfTrial_12 : decode cX4_layoutOfTrial 12 = .ok (.getfield 34, 3) := by decide +kernel
theorem dX4_layoutOfTrial_15 : decode cX4_layoutOfTrial 15 = .ok (.aload_n 0, 1) := by decide +kernel
theorem dX4_layoutOfTrial_16 : decode cX4_layoutOfTrial 16 = .ok (.getfield 23, 3) := by decide +kernel
theorem dX4_layoutOfTrial_19 : decode cX4_layoutOfTrial 19 = .ok (.aload_n 0, 1) := by decide +kernel
theorem dX4_layoutOfTrial_20 : decode cX4_layoutOfTrial 20 = .ok (.getfield 27, 3) := by decide +kernel
theorem dX4_layoutOfTrial_23 : decode cX4_layoutOfTrial 23 = .ok (.invokevirtual 232, 3) := by decide +kernel
theorem dX4_layoutOfTrial_26 : decode cX4_layoutOfTrial 26 = .ok (.aload_n 0, 1) := by decide +kernel
theorem dX4_layoutOfTrial_27 : decode cX4_layoutOfTrial 27 = .ok (.getfield 37, 3) := by decide +kernel
theorem dX4_layoutOfTrial_30 : decode cX4_layoutOfTrial 30 = .ok (.invokevirtual 143, 3) := by decide +kernel
theorem dX4_layoutOfTrial_33 : decode cX4_layoutOfTrial 33 = .ok (.areturn, 1) := by decide +kernel
set_option maxRecDepth 20000 in
theorem ggX4_pagesIn_X0_arrange : GoodIn wsX4_pagesIn wsX0_arrange := goodIn_r _ [7, 8, 9, 10, 11, 12, 13, 14, 15, 6, 16, 17, 18, 19, 20, 21, 22, 23, 24, 25, 26, 27, 28, 29, 30, 31, 32, 33, 34, 35, 36, 37, 38, 39, 40, 41, 42, 43, 44, 45, 46, 47, 48, 49, 50, 51, 52, 53, 54, 55, 56, 57, 58, 59, 60, 61, 62, 63, 64, 65, 66, 67, 68, 69, 70, 71, 72, 85, 86, 87, 88, 89, 90, 91, 92, 93, 94, 95, 96, 97, 98, 99, 100, 101, 102, 103, 104, 105, 106, 107, 108, 109, 110, 111, 112, 113, 114, 115] (by decide +kernel) (by decide +kernel)
set_option maxRecDepth 20000 in
theorem gX4_pagesIn_X0_arrange : GoodIn wsX4_pagesIn (wsV RX4 236 RX0 yX0_arrange wsX0_arrange) := goodIn_app (goodIn_of _ (by decide +kernel)) ggX4_pagesIn_X0_arrange
set_option maxRecDepth 20000 in
theorem ggX4_pagesIn_X0_pagesOrNone : GoodIn wsX4_pagesIn wsX0_pagesOrNone := goodIn_r _ [76, 9, 10, 85, 86, 87, 88, 89, 90, 91, 92, 93, 94, 95, 96, 97, 98] (by decide +kernel) (by decide +kernel)
set_option maxRecDepth 20000 in
theorem gX4_pagesIn_X0_pagesOrNone : GoodIn wsX4_pagesIn (wsV RX4 147 RX0 yX0_pagesOrNone wsX0_pagesOrNone) := goodIn_app (goodIn_of _ (by decide +kernel)) ggX4_pagesIn_X0_pagesOrNone
theorem dX4_pagesIn_0 : decode cX4_pagesIn 0 = .ok (.aload_n 0, 1) := by decide +kernel
theorem dX4_pagesIn_1 : decode cX4_pagesIn 1 = .ok (.getfield 43, 3) := by decide +kernel
theorem dX4_pagesIn_4 : decode cX4_pagesIn 4 = .ok (.aload_n 0, 1) := by decide +kernel
theorem dX4_pagesIn_5 : decode cX4_pagesIn 5 = .ok (.getfield 12, 3) := by decide +kernel
theorem dX4_pagesIn_8 : decode cX4_pagesIn 8 = .ok (.iload_n 1, 1) := by decide +kernel
theorem dX4_pagesIn_9 : decode cX4_pagesIn 9 = .ok (.iload_n 2, 1) := by decide +kernel
theorem dX4_pagesIn_10 : decode cX4_pagesIn 10 = .ok (.invokevirtual 236, 3) := by decide +kernel
theorem dX4_pagesIn_13 : decode cX4_pagesIn 13 = .ok (.aload_n 0, 1) := by decide +kernel
theorem dX4_pagesIn_14 : decode cX4_pagesIn 14 = .ok (.getfield 43, 3) := by decide +kernel
theorem dX4_pagesIn_17 : decode cX4_pagesIn 17 = .ok (.invokevirtual 147, 3) := by decide +kernel
theorem dX4_pagesIn_20 : decode cX4_pagesIn 20 = .ok (.ireturn, 1) := by decide +kernel
set_option maxRecDepth 20000 in
theorem ggX4_isPageOther_X0_carriedOn : GoodIn wsX4_isPageOther wsX0_carriedOn := goodIn_r _ [7, 8, 9, 10, 11, 12, 13, 14, 15, 16, 17, 18, 19, 20, 21, 22, 23, 24, 25, 26, 27, 28, 29, 38, 39, 40, 41, 42, 43, 44, 45, 46, 47, 48, 49, 50, 51, 52, 53, 54] (by decide +kernel) (by decide +kernel)
set_option maxRecDepth 20000 in
theorem gX4_isPageOther_X0_carriedOn : GoodIn wsX4_isPageOther (wsV RX4 166 RX0 yX0_carriedOn wsX0_carriedOn) := goodIn_app (goodIn_of _ (by decide +kernel)) ggX4_isPageOther_X0_carriedOn
theorem dX4_isPageOther_0 : decode cX4_isPageOther 0 = .ok (.aload_n 1, 1) := by decide +kernel
theorem dX4_isPageOther_1 : decode cX4_isPageOther 1 = .ok (.getfield 237, 3) := by decide +kernel
theorem dX4_isPageOther_4 : decode cX4_isPageOther 4 = .ok (.iload_n 3, 1) := by decide +kernel
theorem dX4_isPageOther_5 : decode cX4_isPageOther 5 = .ok (.iaload, 1) := by decide +kernel
theorem dX4_isPageOther_6 : decode cX4_isPageOther 6 = .ok (.aload_n 2, 1) := by decide +kernel
theorem dX4_isPageOther_7 : decode cX4_isPageOther 7 = .ok (.getfield 237, 3) := by decide +kernel
theorem dX4_isPageOther_10 : decode cX4_isPageOther 10 = .ok (.iload_n 3, 1) := by decide +kernel
theorem dX4_isPageOther_11 : decode cX4_isPageOther 11 = .ok (.iaload, 1) := by decide +kernel
theorem dX4_isPageOther_12 : decode cX4_isPageOther 12 = .ok (.if_icmp .ne 18, 3) := by decide +kernel
theorem dX4_isPageOther_15 : decode cX4_isPageOther 15 = .ok (.aload_n 1, 1) := by decide +kernel
theorem dX4_isPageOther_16 : decode cX4_isPageOther 16 = .ok (.getfield 240, 3) := by decide +kernel
theorem dX4_isPageOther_19 : decode cX4_isPageOther 19 = .ok (.iload_n 3, 1) := by decide +kernel
theorem dX4_isPageOther_20 : decode cX4_isPageOther 20 = .ok (.iaload, 1) := by decide +kernel
theorem dX4_isPageOther_21 : decode cX4_isPageOther 21 = .ok (.aload_n 2, 1) := by decide +kernel
theorem dX4_isPageOther_22 : decode cX4_isPageOther 22 = .ok (.getfield 240, 3) := by decide +kernel
theorem dX4_isPageOther_25 : decode cX4_isPageOther 25 = .ok (.iload_n 3, 1) := by decide +kernel
theorem dX4_isPageOther_26 : decode cX4_isPageOther 26 = .ok (.iaload, 1) := by decide +kernel
theorem dX4_isPageOther_27 : decode cX4_isPageOther 27 = .ok (.if_icmp .eq 5, 3) := by decide +kernel
theorem dX4_isPageOther_30 : decode cX4_isPageOther 30 = .ok (.iconst 1, 1) := by decide +kernel
theorem dX4_isPageOther_31 : decode cX4_isPageOther 31 = .ok (.ireturn, 1) := by decide +kernel
theorem dX4_isPageOther_32 : decode cX4_isPageOther 32 = .ok (.iconst 0, 1) := by decide +kernel
theorem dX4_isPageOther_33 : decode cX4_isPageOther 33 = .ok (.istore 4, 2) := by decide +kernel
theorem dX4_isPageOther_35 : decode cX4_isPageOther 35 = .ok (.iload 4, 2) := by decide +kernel
theorem dX4_isPageOther_37 : decode cX4_isPageOther 37 = .ok (.aload_n 0, 1) := by decide +kernel
theorem dX4_isPageOther_38 : decode cX4_isPageOther 38 = .ok (.getfield 12, 3) := by decide +kernel
theorem dX4_isPageOther_41 : decode cX4_isPageOther 41 = .ok (.getfield 119, 3) := by decide +kernel
theorem dX4_isPageOther_44 : decode cX4_isPageOther 44 = .ok (.if_icmp .ge 36, 3) := by decide +kernel
theorem dX4_isPageOther_47 : decode cX4_isPageOther 47 = .ok (.aload_n 1, 1) := by decide +kernel
theorem dX4_isPageOther_48 : decode cX4_isPageOther 48 = .ok (.aload_n 0, 1) := by decide +kernel
theorem dX4_isPageOther_49 : decode cX4_isPageOther 49 = .ok (.getfield 12, 3) := by decide +kernel
theorem dX4_isPageOther_52 : decode cX4_isPageOther 52 = .ok (.iload_n 3, 1) := by decide +kernel
theorem dX4_isPageOther_53 : decode cX4_isPageOther 53 = .ok (.iload 4, 2) := by decide +kernel
theorem dX4_isPageOther_55 : decode cX4_isPageOther 55 = .ok (.invokevirtual 166, 3) := by decide +kernel
theorem dX4_isPageOther_58 : decode cX4_isPageOther 58 = .ok (.aload_n 2, 1) := by decide +kernel
theorem dX4_isPageOther_59 : decode cX4_isPageOther 59 = .ok (.aload_n 0, 1) := by decide +kernel
theorem dX4_isPageOther_60 : decode cX4_isPageOther 60 = .ok (.getfield 34, 3) := by decide +kernel
theorem dX4_isPageOther_63 : decode cX4_isPageOther 63 = .ok (.iload_n 3, 1) := by decide +kernel
end
section
theorem dX4_isPageOther_64 : decode cX4_isPageOther 64 = .ok (.iload 4, 2) := by decide +kernel
theorem dX4_isPageOther_66 : decode cX4_isPageOther 66 = .ok (.invokevirtual 166, 3) := by decide +kernel
theorem dX4_isPageOther_69 : decode cX4_isPageOther 69 = .ok (.if_icmp .eq 5, 3) := by decide +kernel
theorem dX4_isPageOther_72 : decode cX4_isPageOther 72 = .ok (.iconst 1, 1) := by decide +kernel
theorem dX4_isPageOther_73 : decode cX4_isPageOther 73 = .ok (.ireturn, 1) := by decide +kernel
theorem dX4_isPageOther_74 : decode cX4_isPageOther 74 = .ok (.iinc 4 1, 3) := by decide +kernel
theorem dX4_isPageOther_77 : decode cX4_isPageOther 77 = .ok (.goto (-42), 3) := by decide +kernel
theorem dX4_isPageOther_80 : decode cX4_isPageOther 80 = .ok (.iconst 0, 1) := by decide +kernel
theorem dX4_isPageOther_81 : decode cX4_isPageOther 81 = .ok (.ireturn, 1) := by decide +kernel
set_option maxRecDepth 20000 in
theorem ggX4_factOfTable_X2_chosen : GoodIn wsX4_factOfTable wsX2_chosen := goodIn_r _ [7, 8, 9, 10, 72, 73, 74] (by decide +kernel) (by decide +kernel)
set_option maxRecDepth 20000 in
theorem gX4_factOfTable_X2_chosen : GoodIn wsX4_factOfTable (wsV RX4 143 RX2 yX2_chosen wsX2_chosen) := goodIn_app (goodIn_of _ (by decide +kernel)) ggX4_factOfTable_X2_chosen
set_option maxRecDepth 20000 in
theorem ggX4_factOfTable_X0_pagesOrNone : GoodIn wsX4_factOfTable wsX0_pagesOrNone := goodIn_r _ [15, 16, 17, 58, 59, 60, 61, 62, 63, 64, 65, 66, 67, 68, 69, 70, 71] (by decide +kernel) (by decide +kernel)
set_option maxRecDepth 20000 in
theorem gX4_factOfTable_X0_pagesOrNone : GoodIn wsX4_factOfTable (wsV RX4 147 RX0 yX0_pagesOrNone wsX0_pagesOrNone) := goodIn_app (goodIn_of _ (by decide +kernel)) ggX4_factOfTable_X0_pagesOrNone
set_option maxRecDepth 20000 in
theorem ggX4_factOfTable_X0_tableWidth : GoodIn wsX4_factOfTable wsX0_tableWidth := goodIn_r _ [21, 22, 49, 50, 51, 52, 53, 54, 55, 56, 57, 58, 59, 60, 61, 62, 63, 64, 65, 66, 67, 68, 69, 70, 71] (by decide +kernel) (by decide +kernel)
set_option maxRecDepth 20000 in
theorem gX4_factOfTable_X0_tableWidth : GoodIn wsX4_factOfTable (wsV RX4 249 RX0 yX0_tableWidth wsX0_tableWidth) := goodIn_app (goodIn_of _ (by decide +kernel)) ggX4_factOfTable_X0_tableWidth
set_option maxRecDepth 20000 in
theorem ggX4_factOfTable_X0_heightOfRows : GoodIn wsX4_factOfTable wsX0_heightOfRows := goodIn_r _ [26, 27, 49, 50, 51, 52, 53, 54, 55, 56, 57, 58, 59, 60, 61, 62, 63, 64, 65, 66, 67, 68, 69, 70, 71] (by decide +kernel) (by decide +kernel)
set_option maxRecDepth 20000 in
theorem gX4_factOfTable_X0_heightOfRows : GoodIn wsX4_factOfTable (wsV RX4 253 RX0 yX0_heightOfRows wsX0_heightOfRows) := goodIn_app (goodIn_of _ (by decide +kernel)) ggX4_factOfTable_X0_heightOfRows
set_option maxRecDepth 20000 in
theorem ggX4_factOfTable_X3_linesOfNotes : GoodIn wsX4_factOfTable wsX3_linesOfNotes := goodIn_r _ [32, 33, 34, 49, 50, 51, 52, 53, 54, 55, 56, 57, 75, 76, 77, 78, 79, 80, 81, 82] (by decide +kernel) (by decide +kernel)
set_option maxRecDepth 20000 in
theorem gX4_factOfTable_X3_linesOfNotes : GoodIn wsX4_factOfTable (wsV RX4 256 RX3 yX3_linesOfNotes wsX3_linesOfNotes) := goodIn_app (goodIn_of _ (by decide +kernel)) ggX4_factOfTable_X3_linesOfNotes
set_option maxRecDepth 20000 in
theorem ggX4_factOfTable_X0_notesElsewhere : GoodIn wsX4_factOfTable wsX0_notesElsewhere := goodIn_r _ [38, 39, 40, 49, 50, 51, 52, 53, 54, 55, 56, 57, 58, 59, 60, 61, 62, 63, 64, 65, 66, 67, 68, 69, 70, 71] (by decide +kernel) (by decide +kernel)
set_option maxRecDepth 20000 in
theorem gX4_factOfTable_X0_notesElsewhere : GoodIn wsX4_factOfTable (wsV RX4 259 RX0 yX0_notesElsewhere wsX0_notesElsewhere) := goodIn_app (goodIn_of _ (by decide +kernel)) ggX4_factOfTable_X0_notesElsewhere
theorem dX4_factOfTable_0 : decode cX4_factOfTable 0 = .ok (.aload_n 0, 1) := by decide +kernel
theorem dX4_factOfTable_1 : decode cX4_factOfTable 1 = .ok (.getfield 19, 3) := by decide +kernel
theorem dX4_factOfTable_4 : decode cX4_factOfTable 4 = .ok (.invokevirtual 143, 3) := by decide +kernel
theorem dX4_factOfTable_7 : decode cX4_factOfTable 7 = .ok (.astore_n 2, 1) := by decide +kernel
theorem dX4_factOfTable_8 : decode cX4_factOfTable 8 = .ok (.iload_n 1, 1) := by decide +kernel
theorem dX4_factOfTable_9 : decode cX4_factOfTable 9 = .ok (.tableswitch 163 0 7 #[47, 55, 63, 68, 95, 115, 135, 143], 47) := by decide +kernel
theorem dX4_factOfTable_56 : decode cX4_factOfTable 56 = .ok (.aload_n 0, 1) := by decide +kernel
theorem dX4_factOfTable_57 : decode cX4_factOfTable 57 = .ok (.getfield 12, 3) := by decide +kernel
theorem dX4_factOfTable_60 : decode cX4_factOfTable 60 = .ok (.getfield 119, 3) := by decide +kernel
theorem dX4_factOfTable_63 : decode cX4_factOfTable 63 = .ok (.ireturn, 1) := by decide +kernel
theorem dX4_factOfTable_64 : decode cX4_factOfTable 64 = .ok (.aload_n 0, 1) := by decide +kernel
theorem dX4_factOfTable_65 : decode cX4_factOfTable 65 = .ok (.getfield 12, 3) := by decide +kernel
theorem dX4_factOfTable_68 : decode cX4_factOfTable 68 = .ok (.getfield 72, 3) := by decide +kernel
theorem dX4_factOfTable_71 : decode cX4_factOfTable 71 = .ok (.ireturn, 1) := by decide +kernel
theorem dX4_factOfTable_72 : decode cX4_factOfTable 72 = .ok (.aload_n 2, 1) := by decide +kernel
theorem dX4_factOfTable_73 : decode cX4_factOfTable 73 = .ok (.invokevirtual 147, 3) := by decide +kernel
theorem dX4_factOfTable_76 : decode cX4_factOfTable 76 = .ok (.ireturn, 1) := by decide +kernel
theorem dX4_factOfTable_77 : decode cX4_factOfTable 77 = .ok (.aload_n 2, 1) := by decide +kernel
theorem dX4_factOfTable_78 : decode cX4_factOfTable 78 = .ok (.getfield 243, 3) := by decide +kernel
theorem dX4_factOfTable_81 : decode cX4_factOfTable 81 = .ok (.ifCond .eq 21, 3) := by decide +kernel
theorem dX4_factOfTable_84 : decode cX4_factOfTable 84 = .ok (.aload_n 0, 1) := by decide +kernel
theorem dX4_factOfTable_85 : decode cX4_factOfTable 85 = .ok (.getfield 19, 3) := by decide +kernel
theorem dX4_factOfTable_88 : decode cX4_factOfTable 88 = .ok (.getfield 246, 3) := by decide +kernel
theorem dX4_factOfTable_91 : decode cX4_factOfTable 91 = .ok (.ifCond .eq 7, 3) := by decide +kernel
theorem dX4_factOfTable_94 : decode cX4_factOfTable 94 = .ok (.iconst 1, 1) := by decide +kernel
theorem dX4_factOfTable_95 : decode cX4_factOfTable 95 = .ok (.goto 8, 3) := by decide +kernel
theorem dX4_factOfTable_98 : decode cX4_factOfTable 98 = .ok (.iconst 0, 1) := by decide +kernel
theorem dX4_factOfTable_99 : decode cX4_factOfTable 99 = .ok (.goto 4, 3) := by decide +kernel
theorem dX4_factOfTable_102 : decode cX4_factOfTable 102 = .ok (.iconst (-1), 1) := by decide +kernel
theorem dX4_factOfTable_103 : decode cX4_factOfTable 103 = .ok (.ireturn, 1) := by decide +kernel
theorem dX4_factOfTable_104 : decode cX4_factOfTable 104 = .ok (.aload_n 2, 1) := by decide +kernel
theorem dX4_factOfTable_105 : decode cX4_factOfTable 105 = .ok (.getfield 243, 3) := by decide +kernel
theorem dX4_factOfTable_108 : decode cX4_factOfTable 108 = .ok (.ifCond .eq 14, 3) := by decide +kernel
theorem dX4_factOfTable_111 : decode cX4_factOfTable 111 = .ok (.aload_n 2, 1) := by decide +kernel
theorem dX4_factOfTable_112 : decode cX4_factOfTable 112 = .ok (.aload_n 0, 1) := by decide +kernel
theorem dX4_factOfTable_113 : decode cX4_factOfTable 113 = .ok (.getfield 12, 3) := by decide +kernel
theorem dX4_factOfTable_116 : decode cX4_factOfTable 116 = .ok (.invokevirtual 249, 3) := by decide +kernel
theorem dX4_factOfTable_119 : decode cX4_factOfTable 119 = .ok (.goto 4, 3) := by decide +kernel
theorem dX4_factOfTable_122 : decode cX4_factOfTable 122 = .ok (.iconst (-1), 1) := by decide +kernel
theorem dX4_factOfTable_123 : decode cX4_factOfTable 123 = .ok (.ireturn, 1) := by decide +kernel
theorem dX4_factOfTable_124 : decode cX4_factOfTable 124 = .ok (.aload_n 2, 1) := by decide +kernel
theorem dX4_factOfTable_125 : decode cX4_factOfTable 125 = .ok (.getfield 243, 3) := by decide +kernel
theorem dX4_factOfTable_128 : decode cX4_factOfTable 128 = .ok (.ifCond .eq 14, 3) := by decide +kernel
theorem dX4_factOfTable_131 : decode cX4_factOfTable 131 = .ok (.aload_n 2, 1) := by decide +kernel
theorem dX4_factOfTable_132 : decode cX4_factOfTable 132 = .ok (.aload_n 0, 1) := by decide +kernel
theorem dX4_factOfTable_133 : decode cX4_factOfTable 133 = .ok (.getfield 12, 3) := by decide +kernel
theorem dX4_factOfTable_136 : decode cX4_factOfTable 136 = .ok (.invokevirtual 253, 3) := by decide +kernel
theorem dX4_factOfTable_139 : decode cX4_factOfTable 139 = .ok (.goto 4, 3) := by decide +kernel
theorem dX4_factOfTable_142 : decode cX4_factOfTable 142 = .ok (.iconst (-1), 1) := by decide +kernel
theorem dX4_factOfTable_143 : decode cX4_factOfTable 143 = .ok (.ireturn, 1) := by decide +kernel
theorem dX4_factOfTable_144 : decode cX4_factOfTable 144 = .ok (.aload_n 0, 1) := by decide +kernel
theorem dX4_factOfTable_145 : decode cX4_factOfTable 145 = .ok (.getfield 12, 3) := by decide +kernel
theorem dX4_factOfTable_148 : decode cX4_factOfTable 148 = .ok (.invokevirtual 256, 3) := by decide +kernel
theorem dX4_factOfTable_151 : decode cX4_factOfTable 151 = .ok (.ireturn, 1) := by decide +kernel
theorem dX4_factOfTable_152 : decode cX4_factOfTable 152 = .ok (.aload_n 2, 1) := by decide +kernel
theorem dX4_factOfTable_153 : decode cX4_factOfTable 153 = .ok (.getfield 243, 3) := by decide +kernel
theorem dX4_factOfTable_156 : decode cX4_factOfTable 156 = .ok (.ifCond .eq 14, 3) := by decide +kernel
theorem dX4_factOfTable_159 : decode cX4_factOfTable 159 = .ok (.aload_n 2, 1) := by decide +kernel
theorem dX4_factOfTable_160 : decode cX4_factOfTable 160 = .ok (.aload_n 0, 1) := by decide +kernel
theorem dX4_factOfTable_161 : decode cX4_factOfTable 161 = .ok (.getfield 12, 3) := by decide +kernel
theorem dX4_factOfTable_164 : decode cX4_factOfTable 164 = .ok (.invokevirtual 259, 3) := by decide +kernel
theorem dX4_factOfTable_167 : decode cX4_factOfTable 167 = .ok (.goto 4, 3) := by decide +kernel
theorem dX4_factOfTable_170 : decode cX4_factOfTable 170 = .ok (.iconst (-1), 1) := by decide +kernel
theorem dX4_factOfTable_171 : decode cX4_factOfTable 171 = .ok (.ireturn, 1) := by decide +kernel
theorem dX4_factOfTable_172 : decode cX4_factOfTable 172 = .ok (.iconst (-1), 1) := by decide +kernel
theorem dX4_factOfTable_173 : decode cX4_factOfTable 173 = .ok (.ireturn, 1) := by decide +kernel
set_option maxRecDepth 20000 in
theorem ggX4_factOfColumn_X2_chosen : GoodIn wsX4_factOfColumn wsX2_chosen := goodIn_r _ [7, 8, 9, 10, 49, 50, 51] (by decide +kernel) (by decide +kernel)
set_option maxRecDepth 20000 in
theorem gX4_factOfColumn_X2_chosen : GoodIn wsX4_factOfColumn (wsV RX4 143 RX2 yX2_chosen wsX2_chosen) := goodIn_app (goodIn_of _ (by decide +kernel)) ggX4_factOfColumn_X2_chosen
set_option maxRecDepth 20000 in
theorem ggX4_factOfColumn_X3_sumUpTo : GoodIn wsX4_factOfColumn wsX3_sumUpTo := goodIn_r _ [15, 16, 17, 26, 27, 28, 29, 30, 31, 32, 33, 34, 52, 53, 54, 55, 56, 57, 58, 59] (by decide +kernel) (by decide +kernel)
set_option maxRecDepth 20000 in
theorem gX4_factOfColumn_X3_sumUpTo : GoodIn wsX4_factOfColumn (wsV RX4 271 RX3 yX3_sumUpTo wsX3_sumUpTo) := goodIn_app (goodIn_of _ (by decide +kernel)) ggX4_factOfColumn_X3_sumUpTo
theorem dX4_factOfColumn_0 : decode cX4_factOfColumn 0 = .ok (.aload_n 0, 1) := by decide +kernel
theorem dX4_factOfColumn_1 : decode cX4_factOfColumn 1 = .ok (.getfield 19, 3) := by decide +kernel
theorem dX4_factOfColumn_4 : decode cX4_factOfColumn 4 = .ok (.invokevirtual 143, 3) := by decide +kernel
theorem dX4_factOfColumn_7 : decode cX4_factOfColumn 7 = .ok (.astore_n 3, 1) := by decide +kernel
theorem dX4_factOfColumn_8 : decode cX4_factOfColumn 8 = .ok (.iload_n 2, 1) := by decide +kernel
theorem dX4_factOfColumn_9 : decode cX4_factOfColumn 9 = .ok (.tableswitch 101 0 4 #[35, 45, 55, 65, 83], 35) := by decide +kernel
theorem dX4_factOfColumn_44 : decode cX4_factOfColumn 44 = .ok (.aload_n 0, 1) := by decide +kernel
theorem dX4_factOfColumn_45 : decode cX4_factOfColumn 45 = .ok (.getfield 12, 3) := by decide +kernel
theorem dX4_factOfColumn_48 : decode cX4_factOfColumn 48 = .ok (.getfield 220, 3) := by decide +kernel
theorem dX4_factOfColumn_51 : decode cX4_factOfColumn 51 = .ok (.iload_n 1, 1) := by decide +kernel
theorem dX4_factOfColumn_52 : decode cX4_factOfColumn 52 = .ok (.iaload, 1) := by decide +kernel
theorem dX4_factOfColumn_53 : decode cX4_factOfColumn 53 = .ok (.ireturn, 1) := by decide +kernel
theorem dX4_factOfColumn_54 : decode cX4_factOfColumn 54 = .ok (.aload_n 0, 1) := by decide +kernel
theorem dX4_factOfColumn_55 : decode cX4_factOfColumn 55 = .ok (.getfield 12, 3) := by decide +kernel
theorem dX4_factOfColumn_58 : decode cX4_factOfColumn 58 = .ok (.getfield 262, 3) := by decide +kernel
theorem dX4_factOfColumn_61 : decode cX4_factOfColumn 61 = .ok (.iload_n 1, 1) := by decide +kernel
theorem dX4_factOfColumn_62 : decode cX4_factOfColumn 62 = .ok (.iaload, 1) := by decide +kernel
theorem dX4_factOfColumn_63 : decode cX4_factOfColumn 63 = .ok (.ireturn, 1) := by decide +kernel
theorem dX4_factOfColumn_64 : decode cX4_factOfColumn 64 = .ok (.aload_n 0, 1) := by decide +kernel
theorem dX4_factOfColumn_65 : decode cX4_factOfColumn 65 = .ok (.getfield 12, 3) := by decide +kernel
theorem dX4_factOfColumn_68 : decode cX4_factOfColumn 68 = .ok (.getfield 265, 3) := by decide +kernel
theorem dX4_factOfColumn_71 : decode cX4_factOfColumn 71 = .ok (.iload_n 1, 1) := by decide +kernel
theorem dX4_factOfColumn_72 : decode cX4_factOfColumn 72 = .ok (.iaload, 1) := by decide +kernel
theorem dX4_factOfColumn_73 : decode cX4_factOfColumn 73 = .ok (.ireturn, 1) := by decide +kernel
theorem dX4_factOfColumn_74 : decode cX4_factOfColumn 74 = .ok (.aload_n 3, 1) := by decide +kernel
theorem dX4_factOfColumn_75 : decode cX4_factOfColumn 75 = .ok (.getfield 243, 3) := by decide +kernel
theorem dX4_factOfColumn_78 : decode cX4_factOfColumn 78 = .ok (.ifCond .eq 12, 3) := by decide +kernel
theorem dX4_factOfColumn_81 : decode cX4_factOfColumn 81 = .ok (.aload_n 3, 1) := by decide +kernel
theorem dX4_factOfColumn_82 : decode cX4_factOfColumn 82 = .ok (.getfield 268, 3) := by decide +kernel
theorem dX4_factOfColumn_85 : decode cX4_factOfColumn 85 = .ok (.iload_n 1, 1) := by decide +kernel
theorem dX4_factOfColumn_86 : decode cX4_factOfColumn 86 = .ok (.iaload, 1) := by decide +kernel
theorem dX4_factOfColumn_87 : decode cX4_factOfColumn 87 = .ok (.goto 4, 3) := by decide +kernel
theorem dX4_factOfColumn_90 : decode cX4_factOfColumn 90 = .ok (.iconst (-1), 1) := by decide +kernel
theorem dX4_factOfColumn_91 : decode cX4_factOfColumn 91 = .ok (.ireturn, 1) := by decide +kernel
theorem dX4_factOfColumn_92 : decode cX4_factOfColumn 92 = .ok (.aload_n 0, 1) := by decide +kernel
theorem dX4_factOfColumn_93 : decode cX4_factOfColumn 93 = .ok (.getfield 12, 3) := by decide +kernel
theorem dX4_factOfColumn_96 : decode cX4_factOfColumn 96 = .ok (.aload_n 0, 1) := by decide +kernel
theorem dX4_factOfColumn_97 : decode cX4_factOfColumn 97 = .ok (.getfield 12, 3) := by decide +kernel
theorem dX4_factOfColumn_100 : decode cX4_factOfColumn 100 = .ok (.getfield 72, 3) := by decide +kernel
theorem dX4_factOfColumn_103 : decode cX4_factOfColumn 103 = .ok (.iconst 1, 1) := by decide +kernel
theorem dX4_factOfColumn_104 : decode cX4_factOfColumn 104 = .ok (.isub, 1) := by decide +kernel
theorem dX4_factOfColumn_105 : decode cX4_factOfColumn 105 = .ok (.iload_n 1, 1) := by decide +kernel
theorem dX4_factOfColumn_106 : decode cX4_factOfColumn 106 = .ok (.invokevirtual 271, 3) := by decide +kernel
theorem dX4_factOfColumn_109 : decode cX4_factOfColumn 109 = .ok (.ireturn, 1) := by decide +kernel
theorem dX4_factOfColumn_110 : decode cX4_factOfColumn 110 = .ok (.iconst (-1), 1) := by decide +kernel
theorem dX4_factOfColumn_111 : decode cX4_factOfColumn 111 = .ok (.ireturn, 1) := by decide +kernel
set_option maxRecDepth 20000 in
theorem ggX4_factOfRow_X2_chosen : GoodIn wsX4_factOfRow wsX2_chosen := goodIn_r _ [6, 7, 8, 9, 32, 33, 34] (by decide +kernel) (by decide +kernel)
set_option maxRecDepth 20000 in
theorem gX4_factOfRow_X2_chosen : GoodIn wsX4_factOfRow (wsV RX4 143 RX2 yX2_chosen wsX2_chosen) := goodIn_app (goodIn_of _ (by decide +kernel)) ggX4_factOfRow_X2_chosen
theorem dX4_factOfRow_0 : decode cX4_factOfRow 0 = .ok (.aload_n 0, 1) := by decide +kernel
theorem dX4_factOfRow_1 : decode cX4_factOfRow 1 = .ok (.getfield 19, 3) := by decide +kernel
theorem dX4_factOfRow_4 : decode cX4_factOfRow 4 = .ok (.invokevirtual 143, 3) := by decide +kernel
theorem dX4_factOfRow_7 : decode cX4_factOfRow 7 = .ok (.astore_n 3, 1) := by decide +kernel
theorem dX4_factOfRow_8 : decode cX4_factOfRow 8 = .ok (.aload_n 3, 1) := by decide +kernel
theorem dX4_factOfRow_9 : decode cX4_factOfRow 9 = .ok (.getfield 243, 3) := by decide +kernel
theorem dX4_factOfRow_12 : decode cX4_factOfRow 12 = .ok (.ifCond .ne 5, 3) := by decide +kernel
theorem dX4_factOfRow_15 : decode cX4_factOfRow 15 = .ok (.iconst (-1), 1) := by decide +kernel
theorem dX4_factOfRow_16 : decode cX4_factOfRow 16 = .ok (.ireturn, 1) := by decide +kernel
theorem dX4_factOfRow_17 : decode cX4_factOfRow 17 = .ok (.iload_n 2, 1) := by decide +kernel
theorem dX4_factOfRow_18 : decode cX4_factOfRow 18 = .ok (.tableswitch 47 0 2 #[26, 33, 40], 26) := by decide +kernel
theorem dX4_factOfRow_44 : decode cX4_factOfRow 44 = .ok (.aload_n 3, 1) := by decide +kernel
theorem dX4_factOfRow_45 : decode cX4_factOfRow 45 = .ok (.getfield 274, 3) := by decide +kernel
theorem dX4_factOfRow_48 : decode cX4_factOfRow 48 = .ok (.iload_n 1, 1) := by decide +kernel
theorem dX4_factOfRow_49 : decode cX4_factOfRow 49 = .ok (.iaload, 1) := by decide +kernel
theorem dX4_factOfRow_50 : decode cX4_factOfRow 50 = .ok (.ireturn, 1) := by decide +kernel
theorem dX4_factOfRow_51 : decode cX4_factOfRow 51 = .ok (.aload_n 3, 1) := by decide +kernel
theorem dX4_factOfRow_52 : decode cX4_factOfRow 52 = .ok (.getfield 277, 3) := by decide +kernel
theorem dX4_factOfRow_55 : decode cX4_factOfRow 55 = .ok (.iload_n 1, 1) := by decide +kernel
theorem dX4_factOfRow_56 : decode cX4_factOfRow 56 = .ok (.iaload, 1) := by decide +kernel
theorem dX4_factOfRow_57 : decode cX4_factOfRow 57 = .ok (.ireturn, 1) := by decide +kernel
theorem dX4_factOfRow_58 : decode cX4_factOfRow 58 = .ok (.aload_n 3, 1) := by decide +kernel
theorem dX4_factOfRow_59 : decode cX4_factOfRow 59 = .ok (.getfield 280, 3) := by decide +kernel
theorem dX4_factOfRow_62 : decode cX4_factOfRow 62 = .ok (.iload_n 1, 1) := by decide +kernel
theorem dX4_factOfRow_63 : decode cX4_factOfRow 63 = .ok (.iaload, 1) := by decide +kernel
theorem dX4_factOfRow_64 : decode cX4_factOfRow 64 = .ok (.ireturn, 1) := by decide +kernel
theorem dX4_factOfRow_65 : decode cX4_factOfRow 65 = .ok (.iconst (-1), 1) := by decide +kernel
theorem dX4_factOfRow_66 : decode cX4_factOfRow 66 = .ok (.ireturn, 1) := by decide +kernel
set_option maxRecDepth 20000 in
theorem ggX4_factOfCell_X2_chosen : GoodIn wsX4_factOfCell wsX2_chosen := goodIn_r _ [7, 8, 9, 10, 72, 73, 74] (by decide +kernel) (by decide +kernel)
set_option maxRecDepth 20000 in
theorem gX4_factOfCell_X2_chosen : GoodIn wsX4_factOfCell (wsV RX4 143 RX2 yX2_chosen wsX2_chosen) := goodIn_app (goodIn_of _ (by decide +kernel)) ggX4_factOfCell_X2_chosen
set_option maxRecDepth 20000 in
theorem ggX4_factOfCell_X0_heightOfCell : GoodIn wsX4_factOfCell wsX0_heightOfCell := goodIn_r _ [15, 16, 17, 18, 19, 20, 21, 22, 23, 24, 25, 26, 27, 41, 42, 43, 44, 45, 46, 47, 48, 49, 50, 51, 52, 53, 54, 55, 56, 57, 58, 59, 60, 61, 62, 63, 64, 65, 66, 67, 68, 69, 70, 71] (by decide +kernel) (by decide +kernel)
set_option maxRecDepth 20000 in
theorem gX4_factOfCell_X0_heightOfCell : GoodIn wsX4_factOfCell (wsV RX4 283 RX0 yX0_heightOfCell wsX0_heightOfCell) := goodIn_app (goodIn_of _ (by decide +kernel)) ggX4_factOfCell_X0_heightOfCell
set_option maxRecDepth 20000 in
theorem ggX4_factOfCell_X3_sumUpTo : GoodIn wsX4_factOfCell wsX3_sumUpTo := goodIn_r _ [31, 32, 27, 41, 42, 43, 44, 45, 46, 47, 48, 49, 50, 51, 52, 53, 54, 55, 56, 57] (by decide +kernel) (by decide +kernel)
set_option maxRecDepth 20000 in
theorem gX4_factOfCell_X3_sumUpTo : GoodIn wsX4_factOfCell (wsV RX4 271 RX3 yX3_sumUpTo wsX3_sumUpTo) := goodIn_app (goodIn_of _ (by decide +kernel)) ggX4_factOfCell_X3_sumUpTo
theorem dX4_factOfCell_0 : decode cX4_factOfCell 0 = .ok (.aload_n 0, 1) := by decide +kernel
theorem dX4_factOfCell_1 : decode cX4_factOfCell 1 = .ok (.getfield 19, 3) := by decide +kernel
theorem dX4_factOfCell_4 : decode cX4_factOfCell 4 = .ok (.invokevirtual 143, 3) := by decide +kernel
theorem dX4_factOfCell_7 : decode cX4_factOfCell 7 = .ok (.astore 4, 2) := by decide +kernel
theorem dX4_factOfCell_9 : decode cX4_factOfCell 9 = .ok (.aload_n 0, 1) := by decide +kernel
theorem dX4_factOfCell_10 : decode cX4_factOfCell 10 = .ok (.getfield 12, 3) := by decide +kernel
theorem dX4_factOfCell_13 : decode cX4_factOfCell 13 = .ok (.getfield 95, 3) := by decide +kernel
theorem dX4_factOfCell_16 : decode cX4_factOfCell 16 = .ok (.iload_n 1, 1) := by decide +kernel
theorem dX4_factOfCell_17 : decode cX4_factOfCell 17 = .ok (.aaload, 1) := by decide +kernel
theorem dX4_factOfCell_18 : decode cX4_factOfCell 18 = .ok (.astore 5, 2) := by decide +kernel
theorem dX4_factOfCell_20 : decode cX4_factOfCell 20 = .ok (.iload_n 3, 1) := by decide +kernel
theorem dX4_factOfCell_21 : decode cX4_factOfCell 21 = .ok (.tableswitch 112 0 3 #[31, 62, 86, 102], 31) := by decide +kernel
theorem dX4_factOfCell_52 : decode cX4_factOfCell 52 = .ok (.aload_n 0, 1) := by decide +kernel
theorem dX4_factOfCell_53 : decode cX4_factOfCell 53 = .ok (.getfield 12, 3) := by decide +kernel
theorem dX4_factOfCell_56 : decode cX4_factOfCell 56 = .ok (.getfield 220, 3) := by decide +kernel
theorem dX4_factOfCell_59 : decode cX4_factOfCell 59 = .ok (.iload_n 2, 1) := by decide +kernel
theorem dX4_factOfCell_60 : decode cX4_factOfCell 60 = .ok (.iaload, 1) := by decide +kernel
theorem dX4_factOfCell_61 : decode cX4_factOfCell 61 = .ok (.iconst 1, 1) := by decide +kernel
theorem dX4_factOfCell_62 : decode cX4_factOfCell 62 = .ok (.if_icmp .ne 13, 3) := by decide +kernel
theorem dX4_factOfCell_65 : decode cX4_factOfCell 65 = .ok (.aload 5, 2) := by decide +kernel
theorem dX4_factOfCell_67 : decode cX4_factOfCell 67 = .ok (.getfield 113, 3) := by decide +kernel
theorem dX4_factOfCell_70 : decode cX4_factOfCell 70 = .ok (.iload_n 2, 1) := by decide +kernel
theorem dX4_factOfCell_71 : decode cX4_factOfCell 71 = .ok (.iaload, 1) := by decide +kernel
theorem dX4_factOfCell_72 : decode cX4_factOfCell 72 = .ok (.goto 10, 3) := by decide +kernel
theorem dX4_factOfCell_75 : decode cX4_factOfCell 75 = .ok (.aload 5, 2) := by decide +kernel
theorem dX4_factOfCell_77 : decode cX4_factOfCell 77 = .ok (.getfield 99, 3) := by decide +kernel
theorem dX4_factOfCell_80 : decode cX4_factOfCell 80 = .ok (.iload_n 2, 1) := by decide +kernel
theorem dX4_factOfCell_81 : decode cX4_factOfCell 81 = .ok (.iaload, 1) := by decide +kernel
theorem dX4_factOfCell_82 : decode cX4_factOfCell 82 = .ok (.ireturn, 1) := by decide +kernel
theorem dX4_factOfCell_83 : decode cX4_factOfCell 83 = .ok (.aload 4, 2) := by decide +kernel
theorem dX4_factOfCell_85 : decode cX4_factOfCell 85 = .ok (.getfield 243, 3) := by decide +kernel
theorem dX4_factOfCell_88 : decode cX4_factOfCell 88 = .ok (.ifCond .eq 17, 3) := by decide +kernel
theorem dX4_factOfCell_91 : decode cX4_factOfCell 91 = .ok (.aload 4, 2) := by decide +kernel
theorem dX4_factOfCell_93 : decode cX4_factOfCell 93 = .ok (.aload_n 0, 1) := by decide +kernel
theorem dX4_factOfCell_94 : decode cX4_factOfCell 94 = .ok (.getfield 12, 3) := by decide +kernel
theorem dX4_factOfCell_97 : decode cX4_factOfCell 97 = .ok (.iload_n 1, 1) := by decide +kernel
theorem dX4_factOfCell_98 : decode cX4_factOfCell 98 = .ok (.iload_n 2, 1) := by decide +kernel
theorem dX4_factOfCell_99 : decode cX4_factOfCell 99 = .ok (.invokevirtual 283, 3) := by decide +kernel
theorem dX4_factOfCell_102 : decode cX4_factOfCell 102 = .ok (.goto 4, 3) := by decide +kernel
theorem dX4_factOfCell_105 : decode cX4_factOfCell 105 = .ok (.iconst (-1), 1) := by decide +kernel
theorem dX4_factOfCell_106 : decode cX4_factOfCell 106 = .ok (.ireturn, 1) := by decide +kernel
theorem dX4_factOfCell_107 : decode cX4_factOfCell 107 = .ok (.aload 5, 2) := by decide +kernel
theorem dX4_factOfCell_109 : decode cX4_factOfCell 109 = .ok (.getfield 134, 3) := by decide +kernel
theorem dX4_factOfCell_112 : decode cX4_factOfCell 112 = .ok (.iload_n 2, 1) := by decide +kernel
theorem dX4_factOfCell_113 : decode cX4_factOfCell 113 = .ok (.baload, 1) := by decide +kernel
theorem dX4_factOfCell_114 : decode cX4_factOfCell 114 = .ok (.ifCond .eq 7, 3) := by decide +kernel
theorem dX4_factOfCell_117 : decode cX4_factOfCell 117 = .ok (.iconst 1, 1) := by decide +kernel
theorem dX4_factOfCell_118 : decode cX4_factOfCell 118 = .ok (.goto 4, 3) := by decide +kernel
theorem dX4_factOfCell_121 : decode cX4_factOfCell 121 = .ok (.iconst 0, 1) := by decide +kernel
theorem dX4_factOfCell_122 : decode cX4_factOfCell 122 = .ok (.ireturn, 1) := by decide +kernel
theorem dX4_factOfCell_123 : decode cX4_factOfCell 123 = .ok (.aload_n 0, 1) := by decide +kernel
theorem dX4_factOfCell_124 : decode cX4_factOfCell 124 = .ok (.getfield 12, 3) := by decide +kernel
theorem dX4_factOfCell_127 : decode cX4_factOfCell 127 = .ok (.iload_n 1, 1) := by decide +kernel
theorem dX4_factOfCell_128 : decode cX4_factOfCell 128 = .ok (.iload_n 2, 1) := by decide +kernel
theorem dX4_factOfCell_129 : decode cX4_factOfCell 129 = .ok (.invokevirtual 271, 3) := by decide +kernel
theorem dX4_factOfCell_132 : decode cX4_factOfCell 132 = .ok (.ireturn, 1) := by decide +kernel
theorem dX4_factOfCell_133 : decode cX4_factOfCell 133 = .ok (.iconst (-1), 1) := by decide +kernel
theorem dX4_factOfCell_134 : decode cX4_factOfCell 134 = .ok (.ireturn, 1) := by decide +kernel
set_option maxRecDepth 20000 in
theorem ggX4_factOfPage_X2_chosen : GoodIn wsX4_factOfPage wsX2_chosen := goodIn_r _ [7, 8, 9, 10, 43, 44, 45] (by decide +kernel) (by decide +kernel)
set_option maxRecDepth 20000 in
theorem gX4_factOfPage_X2_chosen : GoodIn wsX4_factOfPage (wsV RX4 143 RX2 yX2_chosen wsX2_chosen) := goodIn_app (goodIn_of _ (by decide +kernel)) ggX4_factOfPage_X2_chosen
set_option maxRecDepth 20000 in
theorem ggX4_factOfPage_X0_readAloud : GoodIn wsX4_factOfPage wsX0_readAloud := goodIn_r _ [15, 16, 17, 18, 19, 14, 20, 46, 47, 48, 49, 50, 51, 52, 53, 54, 29, 30, 31, 32, 33, 34, 35, 36, 37, 38, 39, 40, 41, 42, 55, 56, 57, 58, 59, 60, 61, 62] (by decide +kernel) (by decide +kernel)
set_option maxRecDepth 20000 in
theorem gX4_factOfPage_X0_readAloud : GoodIn wsX4_factOfPage (wsV RX4 289 RX0 yX0_readAloud wsX0_readAloud) := goodIn_app (goodIn_of _ (by decide +kernel)) ggX4_factOfPage_X0_readAloud
theorem dX4_factOfPage_0 : decode cX4_factOfPage 0 = .ok (.aload_n 0, 1) := by decide +kernel
theorem dX4_factOfPage_1 : decode cX4_factOfPage 1 = .ok (.getfield 19, 3) := by decide +kernel
theorem dX4_factOfPage_4 : decode cX4_factOfPage 4 = .ok (.invokevirtual 143, 3) := by decide +kernel
theorem dX4_factOfPage_7 : decode cX4_factOfPage 7 = .ok (.astore_n 3, 1) := by decide +kernel
theorem dX4_factOfPage_8 : decode cX4_factOfPage 8 = .ok (.iload_n 2, 1) := by decide +kernel
theorem dX4_factOfPage_9 : decode cX4_factOfPage 9 = .ok (.tableswitch 73 0 4 #[35, 42, 49, 56, 63], 35) := by decide +kernel
theorem dX4_factOfPage_44 : decode cX4_factOfPage 44 = .ok (.aload_n 3, 1) := by decide +kernel
theorem dX4_factOfPage_45 : decode cX4_factOfPage 45 = .ok (.getfield 237, 3) := by decide +kernel
theorem dX4_factOfPage_48 : decode cX4_factOfPage 48 = .ok (.iload_n 1, 1) := by decide +kernel
theorem dX4_factOfPage_49 : decode cX4_factOfPage 49 = .ok (.iaload, 1) := by decide +kernel
theorem dX4_factOfPage_50 : decode cX4_factOfPage 50 = .ok (.ireturn, 1) := by decide +kernel
theorem dX4_factOfPage_51 : decode cX4_factOfPage 51 = .ok (.aload_n 3, 1) := by decide +kernel
theorem dX4_factOfPage_52 : decode cX4_factOfPage 52 = .ok (.getfield 240, 3) := by decide +kernel
theorem dX4_factOfPage_55 : decode cX4_factOfPage 55 = .ok (.iload_n 1, 1) := by decide +kernel
theorem dX4_factOfPage_56 : decode cX4_factOfPage 56 = .ok (.iaload, 1) := by decide +kernel
theorem dX4_factOfPage_57 : decode cX4_factOfPage 57 = .ok (.ireturn, 1) := by decide +kernel
theorem dX4_factOfPage_58 : decode cX4_factOfPage 58 = .ok (.aload_n 3, 1) := by decide +kernel
theorem dX4_factOfPage_59 : decode cX4_factOfPage 59 = .ok (.getfield 286, 3) := by decide +kernel
theorem dX4_factOfPage_62 : decode cX4_factOfPage 62 = .ok (.iload_n 1, 1) := by decide +kernel
theorem dX4_factOfPage_63 : decode cX4_factOfPage 63 = .ok (.iaload, 1) := by decide +kernel
theorem dX4_factOfPage_64 : decode cX4_factOfPage 64 = .ok (.ireturn, 1) := by decide +kernel
theorem dX4_factOfPage_65 : decode cX4_factOfPage 65 = .ok (.aload_n 3, 1) := by decide +kernel
theorem dX4_factOfPage_66 : decode cX4_factOfPage 66 = .ok (.getfield 177, 3) := by decide +kernel
theorem dX4_factOfPage_69 : decode cX4_factOfPage 69 = .ok (.iload_n 1, 1) := by decide +kernel
theorem dX4_factOfPage_70 : decode cX4_factOfPage 70 = .ok (.iaload, 1) := by decide +kernel
theorem dX4_factOfPage_71 : decode cX4_factOfPage 71 = .ok (.ireturn, 1) := by decide +kernel
theorem dX4_factOfPage_72 : decode cX4_factOfPage 72 = .ok (.aload_n 3, 1) := by decide +kernel
theorem dX4_factOfPage_73 : decode cX4_factOfPage 73 = .ok (.aload_n 0, 1) := by decide +kernel
theorem dX4_factOfPage_74 : decode cX4_factOfPage 74 = .ok (.getfield 12, 3) := by decide +kernel
theorem dX4_factOfPage_77 : decode cX4_factOfPage 77 = .ok (.iload_n 1, 1) := by decide +kernel
theorem dX4_factOfPage_78 : decode cX4_factOfPage 78 = .ok (.invokevirtual 289, 3) := by decide +kernel
theorem dX4_factOfPage_81 : decode cX4_factOfPage 81 = .ok (.ireturn, 1) := by decide +kernel
theorem dX4_factOfPage_82 : decode cX4_factOfPage 82 = .ok (.iconst (-1), 1) := by decide +kernel
theorem dX4_factOfPage_83 : decode cX4_factOfPage 83 = .ok (.ireturn, 1) := by decide +kernel
theorem dX4_digestWith_0 : decode cX4_digestWith 0 = .ok (.lload_n 0, 1) := by decide +kernel
theorem dX4_digestWith_1 : decode cX4_digestWith 1 = .ok (.ldc2_w 293, 3) := by decide +kernel
theorem dX4_digestWith_4 : decode cX4_digestWith 4 = .ok (.lmul, 1) := by decide +kernel
theorem dX4_digestWith_5 : decode cX4_digestWith 5 = .ok (.iload_n 2, 1) := by decide +kernel
theorem dX4_digestWith_6 : decode cX4_digestWith 6 = .ok (.i2l, 1) := by decide +kernel
theorem dX4_digestWith_7 : decode cX4_digestWith 7 = .ok (.ladd, 1) := by decide +kernel
theorem dX4_digestWith_8 : decode cX4_digestWith 8 = .ok (.lreturn, 1) := by decide +kernel
set_option maxRecDepth 20000 in
theorem ggX4_digestWithRow_X4_factOfRow : GoodIn wsX4_digestWithRow wsX4_factOfRow := goodIn_r _ [6, 7, 8, 9, 10, 11, 12, 13, 14, 15, 46, 47, 48, 49, 50, 51, 52, 53, 63, 64, 65, 66, 67, 68, 69, 70, 71, 72, 73, 74, 75, 76, 77, 78, 79] (by decide +kernel) (by decide +kernel)
set_option maxRecDepth 20000 in
theorem gX4_digestWithRow_X4_factOfRow : GoodIn wsX4_digestWithRow (wsV RX4 157 RX4 yX4_factOfRow wsX4_factOfRow) := goodIn_app (goodIn_of _ (by decide +kernel)) ggX4_digestWithRow_X4_factOfRow
set_option maxRecDepth 20000 in
theorem ggX4_digestWithRow_X4_digestWith : GoodIn wsX4_digestWithRow wsX4_digestWith := goodIn_r _ [18, 19] (by decide +kernel) (by decide +kernel)
set_option maxRecDepth 20000 in
theorem gX4_digestWithRow_X4_digestWith : GoodIn wsX4_digestWithRow (va_wsS RX4 199 yX4_digestWith wsX4_digestWith) := goodIn_app (goodIn_of _ (by decide +kernel)) ggX4_digestWithRow_X4_digestWith
set_option maxRecDepth 20000 in
theorem ggX4_digestWithRow_X4_factOfCell : GoodIn wsX4_digestWithRow wsX4_factOfCell := goodIn_r _ [23, 7, 1, 8, 9, 10, 11, 12, 13, 14, 15, 24, 25, 26, 27, 28, 29, 30, 31, 32, 33, 34, 35, 36, 37, 38, 39, 40, 41, 42, 43, 44, 45, 46, 47, 48, 49, 50, 51, 52, 53, 54, 55, 56, 57, 58, 59, 60, 61, 62, 80, 81, 82, 83, 84, 85, 86, 87, 63, 64, 65, 66, 67, 68, 69, 70, 71, 72, 73, 74, 75, 76, 77, 78, 79] (by decide +kernel) (by decide +kernel)
set_option maxRecDepth 20000 in
theorem gX4_digestWithRow_X4_factOfCell : GoodIn wsX4_digestWithRow (wsV RX4 150 RX4 yX4_factOfCell wsX4_factOfCell) := goodIn_app (goodIn_of _ (by decide +kernel)) ggX4_digestWithRow_X4_factOfCell
theorem dX4_digestWithRow_0 : decode cX4_digestWithRow 0 = .ok (.lload_n 1, 1) := by decide +kernel
theorem dX4_digestWithRow_1 : decode cX4_digestWithRow 1 = .ok (.lstore 4, 2) := by decide +kernel
theorem dX4_digestWithRow_3 : decode cX4_digestWithRow 3 = .ok (.iconst 0, 1) := by decide +kernel
theorem dX4_digestWithRow_4 : decode cX4_digestWithRow 4 = .ok (.istore 6, 2) := by decide +kernel
theorem dX4_digestWithRow_6 : decode cX4_digestWithRow 6 = .ok (.iload 6, 2) := by decide +kernel
theorem dX4_digestWithRow_8 : decode cX4_digestWithRow 8 = .ok (.iconst 2, 1) := by decide +kernel
theorem dX4_digestWithRow_9 : decode cX4_digestWithRow 9 = .ok (.if_icmp .gt 23, 3) := by decide +kernel
theorem dX4_digestWithRow_12 : decode cX4_digestWithRow 12 = .ok (.lload 4, 2) := by decide +kernel
theorem dX4_digestWithRow_14 : decode cX4_digestWithRow 14 = .ok (.aload_n 0, 1) := by decide +kernel
theorem dX4_digestWithRow_15 : decode cX4_digestWithRow 15 = .ok (.iload_n 3, 1) := by decide +kernel
theorem dX4_digestWithRow_16 : decode cX4_digestWithRow 16 = .ok (.iload 6, 2) := by decide +kernel
theorem dX4_digestWithRow_18 : decode cX4_digestWithRow 18 = .ok (.invokevirtual 157, 3) := by decide +kernel
theorem dX4_digestWithRow_21 : decode cX4_digestWithRow 21 = .ok (.invokestatic 199, 3) := by decide +kernel
theorem dX4_digestWithRow_24 : decode cX4_digestWithRow 24 = .ok (.lstore 4, 2) := by decide +kernel
theorem dX4_digestWithRow_26 : decode cX4_digestWithRow 26 = .ok (.iinc 6 1, 3) := by decide +kernel
theorem dX4_digestWithRow_29 : decode cX4_digestWithRow 29 = .ok (.goto (-23), 3) := by decide +kernel
theorem dX4_digestWithRow_32 : decode cX4_digestWithRow 32 = .ok (.iconst 0, 1) := by decide +kernel
theorem dX4_digestWithRow_33 : decode cX4_digestWithRow 33 = .ok (.istore 6, 2) := by decide +kernel
theorem dX4_digestWithRow_35 : decode cX4_digestWithRow 35 = .ok (.iload 6, 2) := by decide +kernel
theorem dX4_digestWithRow_37 : decode cX4_digestWithRow 37 = .ok (.aload_n 0, 1) := by decide +kernel
theorem dX4_digestWithRow_38 : decode cX4_digestWithRow 38 = .ok (.getfield 12, 3) := by decide +kernel
theorem dX4_digestWithRow_41 : decode cX4_digestWithRow 41 = .ok (.getfield 119, 3) := by decide +kernel
theorem dX4_digestWithRow_44 : decode cX4_digestWithRow 44 = .ok (.if_icmp .ge 40, 3) := by decide +kernel
theorem dX4_digestWithRow_47 : decode cX4_digestWithRow 47 = .ok (.iconst 0, 1) := by decide +kernel
theorem dX4_digestWithRow_48 : decode cX4_digestWithRow 48 = .ok (.istore 7, 2) := by decide +kernel
theorem dX4_digestWithRow_50 : decode cX4_digestWithRow 50 = .ok (.iload 7, 2) := by decide +kernel
theorem dX4_digestWithRow_52 : decode cX4_digestWithRow 52 = .ok (.iconst 3, 1) := by decide +kernel
theorem dX4_digestWithRow_53 : decode cX4_digestWithRow 53 = .ok (.if_icmp .gt 25, 3) := by decide +kernel
theorem dX4_digestWithRow_56 : decode cX4_digestWithRow 56 = .ok (.lload 4, 2) := by decide +kernel
theorem dX4_digestWithRow_58 : decode cX4_digestWithRow 58 = .ok (.aload_n 0, 1) := by decide +kernel
theorem dX4_digestWithRow_59 : decode cX4_digestWithRow 59 = .ok (.iload_n 3, 1) := by decide +kernel
theorem dX4_digestWithRow_60 : decode cX4_digestWithRow 60 = .ok (.iload 6, 2) := by decide +kernel
theorem dX4_digestWithRow_62 : decode cX4_digestWithRow 62 = .ok (.iload 7, 2) := by decide +kernel
theorem dX4_digestWithRow_64 : decode cX4_digestWithRow 64 = .ok (.invokevirtual 150, 3) := by decide +kernel
theorem dX4_digestWithRow_67 : decode cX4_digestWithRow 67 = .ok (.invokestatic 199, 3) := by decide +kernel
theorem dX4_digestWithRow_70 : decode cX4_digestWithRow 70 = .ok (.lstore 4, 2) := by decide +kernel
theorem dX4_digestWithRow_72 : decode cX4_digestWithRow 72 = .ok (.iinc 7 1, 3) := by decide +kernel
theorem dX4_digestWithRow_75 : decode cX4_digestWithRow 75 = .ok (.goto (-25), 3) := by decide +kernel
theorem dX4_digestWithRow_78 : decode cX4_digestWithRow 78 = .ok (.iinc 6 1, 3) := by decide +kernel
theorem dX4_digestWithRow_81 : decode cX4_digestWithRow 81 = .ok (.goto (-46), 3) := by decide +kernel
theorem dX4_digestWithRow_84 : decode cX4_digestWithRow 84 = .ok (.lload 4, 2) := by decide +kernel
theorem dX4_digestWithRow_86 : decode cX4_digestWithRow 86 = .ok (.lreturn, 1) := by decide +kernel
set_option maxRecDepth 20000 in
theorem ggX4_digestWithPage_X4_factOfPage : GoodIn wsX4_digestWithPage wsX4_factOfPage := goodIn_r _ [7, 2, 1, 8, 9, 10, 11, 12, 13, 14, 15, 16, 17, 18, 19, 20, 21, 22, 23, 24, 25, 42, 43, 44, 45, 46, 47, 48, 49, 59, 60, 61, 62, 63, 64, 65, 66, 67, 68, 69, 70, 71, 72, 73, 74, 75, 50, 51, 52, 53, 54, 55, 56, 57, 58, 76, 77, 78, 79, 80, 81, 82, 83] (by decide +kernel) (by decide +kernel)
set_option maxRecDepth 20000 in
theorem gX4_digestWithPage_X4_factOfPage : GoodIn wsX4_digestWithPage (wsV RX4 163 RX4 yX4_factOfPage wsX4_factOfPage) := goodIn_app (goodIn_of _ (by decide +kernel)) ggX4_digestWithPage_X4_factOfPage
set_option maxRecDepth 20000 in
theorem ggX4_digestWithPage_X4_digestWith : GoodIn wsX4_digestWithPage wsX4_digestWith := goodIn_r _ [28, 29] (by decide +kernel) (by decide +kernel)
set_option maxRecDepth 20000 in
theorem gX4_digestWithPage_X4_digestWith : GoodIn wsX4_digestWithPage (va_wsS RX4 199 yX4_digestWith wsX4_digestWith) := goodIn_app (goodIn_of _ (by decide +kernel)) ggX4_digestWithPage_X4_digestWith
set_option maxRecDepth 20000 in
theorem ggX4_digestWithPage_X2_chosen : GoodIn wsX4_digestWithPage wsX2_chosen := goodIn_r _ [12, 13, 14, 15, 73, 74, 75] (by decide +kernel) (by decide +kernel)
set_option maxRecDepth 20000 in
theorem gX4_digestWithPage_X2_chosen : GoodIn wsX4_digestWithPage (wsV RX4 143 RX2 yX2_chosen wsX2_chosen) := goodIn_app (goodIn_of _ (by decide +kernel)) ggX4_digestWithPage_X2_chosen
set_option maxRecDepth 20000 in
theorem ggX4_digestWithPage_X0_carriedOn : GoodIn wsX4_digestWithPage wsX0_carriedOn := goodIn_r _ [33, 34, 35, 36, 37, 38, 39, 40, 41, 59, 60, 61, 62, 63, 64, 65, 66, 67, 68, 69, 70, 71, 72, 50, 51, 52, 53, 54, 55, 56, 57, 58, 76, 77, 78, 79, 80, 81, 82, 83] (by decide +kernel) (by decide +kernel)
set_option maxRecDepth 20000 in
theorem gX4_digestWithPage_X0_carriedOn : GoodIn wsX4_digestWithPage (wsV RX4 166 RX0 yX0_carriedOn wsX0_carriedOn) := goodIn_app (goodIn_of _ (by decide +kernel)) ggX4_digestWithPage_X0_carriedOn
theorem dX4_digestWithPage_0 : decode cX4_digestWithPage 0 = .ok (.lload_n 1, 1) := by decide +kernel
theorem dX4_digestWithPage_1 : decode cX4_digestWithPage 1 = .ok (.lstore 4, 2) := by decide +kernel
theorem dX4_digestWithPage_3 : decode cX4_digestWithPage 3 = .ok (.iconst 0, 1) := by decide +kernel
theorem dX4_digestWithPage_4 : decode cX4_digestWithPage 4 = .ok (.istore 6, 2) := by decide +kernel
theorem dX4_digestWithPage_6 : decode cX4_digestWithPage 6 = .ok (.iload 6, 2) := by decide +kernel
theorem dX4_digestWithPage_8 : decode cX4_digestWithPage 8 = .ok (.iconst 4, 1) := by decide +kernel
theorem dX4_digestWithPage_9 : decode cX4_digestWithPage 9 = .ok (.if_icmp .gt 23, 3) := by decide +kernel
theorem dX4_digestWithPage_12 : decode cX4_digestWithPage 12 = .ok (.lload 4, 2) := by decide +kernel
theorem dX4_digestWithPage_14 : decode cX4_digestWithPage 14 = .ok (.aload_n 0, 1) := by decide +kernel
theorem dX4_digestWithPage_15 : decode cX4_digestWithPage 15 = .ok (.iload_n 3, 1) := by decide +kernel
theorem dX4_digestWithPage_16 : decode cX4_digestWithPage 16 = .ok (.iload 6, 2) := by decide +kernel
theorem dX4_digestWithPage_18 : decode cX4_digestWithPage 18 = .ok (.invokevirtual 163, 3) := by decide +kernel
theorem dX4_digestWithPage_21 : decode cX4_digestWithPage 21 = .ok (.invokestatic 199, 3) := by decide +kernel
theorem dX4_digestWithPage_24 : decode cX4_digestWithPage 24 = .ok (.lstore 4, 2) := by decide +kernel
theorem dX4_digestWithPage_26 : decode cX4_digestWithPage 26 = .ok (.iinc 6 1, 3) := by decide +kernel
theorem dX4_digestWithPage_29 : decode cX4_digestWithPage 29 = .ok (.goto (-23), 3) := by decide +kernel
theorem dX4_digestWithPage_32 : decode cX4_digestWithPage 32 = .ok (.iconst 0, 1) := by decide +kernel
theorem dX4_digestWithPage_33 : decode cX4_digestWithPage 33 = .ok (.istore 6, 2) := by decide +kernel
theorem dX4_digestWithPage_35 : decode cX4_digestWithPage 35 = .ok (.iload 6, 2) := by decide +kernel
theorem dX4_digestWithPage_37 : decode cX4_digestWithPage 37 = .ok (.aload_n 0, 1) := by decide +kernel
theorem dX4_digestWithPage_38 : decode cX4_digestWithPage 38 = .ok (.getfield 12, 3) := by decide +kernel
theorem dX4_digestWithPage_41 : decode cX4_digestWithPage 41 = .ok (.getfield 119, 3) := by decide +kernel
theorem dX4_digestWithPage_44 : decode cX4_digestWithPage 44 = .ok (.if_icmp .ge 33, 3) := by decide +kernel
theorem dX4_digestWithPage_47 : decode cX4_digestWithPage 47 = .ok (.lload 4, 2) := by decide +kernel
theorem dX4_digestWithPage_49 : decode cX4_digestWithPage 49 = .ok (.aload_n 0, 1) := by decide +kernel
theorem dX4_digestWithPage_50 : decode cX4_digestWithPage 50 = .ok (.getfield 19, 3) := by decide +kernel
theorem dX4_digestWithPage_53 : decode cX4_digestWithPage 53 = .ok (.invokevirtual 143, 3) := by decide +kernel
theorem dX4_digestWithPage_56 : decode cX4_digestWithPage 56 = .ok (.aload_n 0, 1) := by decide +kernel
theorem dX4_digestWithPage_57 : decode cX4_digestWithPage 57 = .ok (.getfield 12, 3) := by decide +kernel
theorem dX4_digestWithPage_60 : decode cX4_digestWithPage 60 = .ok (.iload_n 3, 1) := by decide +kernel
theorem dX4_digestWithPage_61 : decode cX4_digestWithPage 61 = .ok (.iload 6, 2) := by decide +kernel
theorem dX4_digestWithPage_63 : decode cX4_digestWithPage 63 = .ok (.invokevirtual 166, 3) := by decide +kernel
theorem dX4_digestWithPage_66 : decode cX4_digestWithPage 66 = .ok (.invokestatic 199, 3) := by decide +kernel
theorem dX4_digestWithPage_69 : decode cX4_digestWithPage 69 = .ok (.lstore 4, 2) := by decide +kernel
theorem dX4_digestWithPage_71 : decode cX4_digestWithPage 71 = .ok (.iinc 6 1, 3) := by decide +kernel
theorem dX4_digestWithPage_74 : decode cX4_digestWithPage 74 = .ok (.goto (-39), 3) := by decide +kernel
theorem dX4_digestWithPage_77 : decode cX4_digestWithPage 77 = .ok (.lload 4, 2) := by decide +kernel
theorem dX4_digestWithPage_79 : decode cX4_digestWithPage 79 = .ok (.lreturn, 1) := by decide +kernel
theorem dJ9_max_7cf53_0 : decode cJ9_max_7cf53 0 = .ok (.iload_n 0, 1) := by decide +kernel
theorem dJ9_max_7cf53_1 : decode cJ9_max_7cf53 1 = .ok (.iload_n 1, 1) := by decide +kernel
theorem dJ9_max_7cf53_2 : decode cJ9_max_7cf53 2 = .ok (.if_icmp .lt 7, 3) := by decide +kernel
theorem dJ9_max_7cf53_5 : decode cJ9_max_7cf53 5 = .ok (.iload_n 0, 1) := by decide +kernel
theorem dJ9_max_7cf53_6 : decode cJ9_max_7cf53 6 = .ok (.goto 4, 3) := by decide +kernel
theorem dJ9_max_7cf53_9 : decode cJ9_max_7cf53 9 = .ok (.iload_n 1, 1) := by decide +kernel
theorem dJ9_max_7cf53_10 : decode cJ9_max_7cf53 10 = .ok (.ireturn, 1) := by decide +kernel
theorem dJ9_max_f86c9_0 : decode cJ9_max_f86c9 0 = .ok (.lload_n 0, 1) := by decide +kernel
theorem dJ9_max_f86c9_1 : decode cJ9_max_f86c9 1 = .ok (.lload_n 2, 1) := by decide +kernel
theorem dJ9_max_f86c9_2 : decode cJ9_max_f86c9 2 = .ok (.lcmp, 1) := by decide +kernel
theorem dJ9_max_f86c9_3 : decode cJ9_max_f86c9 3 = .ok (.ifCond .lt 7, 3) := by decide +kernel
theorem dJ9_max_f86c9_6 : decode cJ9_max_f86c9 6 = .ok (.lload_n 0, 1) := by decide +kernel
theorem dJ9_max_f86c9_7 : decode cJ9_max_f86c9 7 = .ok (.goto 4, 3) := by decide +kernel
theorem dJ9_max_f86c9_10 : decode cJ9_max_f86c9 10 = .ok (.lload_n 2, 1) := by decide +kernel
theorem dJ9_max_f86c9_11 : decode cJ9_max_f86c9 11 = .ok (.lreturn, 1) := by decide +kernel
theorem dJ9_min_7cf53_0 : decode cJ9_min_7cf53 0 = .ok (.iload_n 0, 1) := by decide +kernel
theorem dJ9_min_7cf53_1 : decode cJ9_min_7cf53 1 = .ok (.iload_n 1, 1) := by decide +kernel
theorem dJ9_min_7cf53_2 : decode cJ9_min_7cf53 2 = .ok (.if_icmp .gt 7, 3) := by decide +kernel
theorem dJ9_min_7cf53_5 : decode cJ9_min_7cf53 5 = .ok (.iload_n 0, 1) := by decide +kernel
theorem dJ9_min_7cf53_6 : decode cJ9_min_7cf53 6 = .ok (.goto 4, 3) := by decide +kernel
theorem dJ9_min_7cf53_9 : decode cJ9_min_7cf53 9 = .ok (.iload_n 1, 1) := by decide +kernel
theorem dJ9_min_7cf53_10 : decode cJ9_min_7cf53 10 = .ok (.ireturn, 1) := by decide +kernel
theorem dJ9_min_f86c9_0 : decode cJ9_min_f86c9 0 = .ok (.lload_n 0, 1) := by decide +kernel
theorem dJ9_min_f86c9_1 : decode cJ9_min_f86c9 1 = .ok (.lload_n 2, 1) := by decide +kernel
theorem dJ9_min_f86c9_2 : decode cJ9_min_f86c9 2 = .ok (.lcmp, 1) := by decide +kernel
theorem dJ9_min_f86c9_3 : decode cJ9_min_f86c9 3 = .ok (.ifCond .gt 7, 3) := by decide +kernel
theorem dJ9_min_f86c9_6 : decode cJ9_min_f86c9 6 = .ok (.lload_n 0, 1) := by decide +kernel
theorem dJ9_min_f86c9_7 : decode cJ9_min_f86c9 7 = .ok (.goto 4, 3) := by decide +kernel
theorem dJ9_min_f86c9_10 : decode cJ9_min_f86c9 10 = .ok (.lload_n 2, 1) := by decide +kernel
theorem dJ9_min_f86c9_11 : decode cJ9_min_f86c9 11 = .ok (.lreturn, 1) := by decide +kernel
theorem dL_below_0 : decode cL_below 0 = .ok (.iload_n 0, 1) := by decide +kernel
theorem dL_below_1 : decode cL_below 1 = .ok (.ldc 7, 2) := by decide +kernel
theorem dL_below_3 : decode cL_below 3 = .ok (.iand, 1) := by decide +kernel
theorem dL_below_4 : decode cL_below 4 = .ok (.iload_n 1, 1) := by decide +kernel
theorem dL_below_5 : decode cL_below 5 = .ok (.irem, 1) := by decide +kernel
theorem dL_below_6 : decode cL_below 6 = .ok (.ireturn, 1) := by decide +kernel
theorem dL_cell_0 : decode cL_cell 0 = .ok (.iload_n 1, 1) := by decide +kernel
theorem dL_cell_1 : decode cL_cell 1 = .ok (.aload_n 0, 1) := by decide +kernel
theorem dL_cell_2 : decode cL_cell 2 = .ok (.arraylength, 1) := by decide +kernel
theorem dL_cell_3 : decode cL_cell 3 = .ok (.if_icmp .ge 9, 3) := by decide +kernel
theorem dL_cell_6 : decode cL_cell 6 = .ok (.aload_n 0, 1) := by decide +kernel
theorem dL_cell_7 : decode cL_cell 7 = .ok (.iload_n 1, 1) := by decide +kernel
theorem dL_cell_8 : decode cL_cell 8 = .ok (.iaload, 1) := by decide +kernel
theorem dL_cell_9 : decode cL_cell 9 = .ok (.goto 9, 3) := by decide +kernel
theorem dL_cell_12 : decode cL_cell 12 = .ok (.ldc 8, 2) := by decide +kernel
theorem dL_cell_14 : decode cL_cell 14 = .ok (.iload_n 1, 1) := by decide +kernel
theorem dL_cell_15 : decode cL_cell 15 = .ok (.iconst 3, 1) := by decide +kernel
theorem dL_cell_16 : decode cL_cell 16 = .ok (.iadd, 1) := by decide +kernel
theorem dL_cell_17 : decode cL_cell 17 = .ok (.imul, 1) := by decide +kernel
theorem dL_cell_18 : decode cL_cell 18 = .ok (.ireturn, 1) := by decide +kernel
end
section
set_option maxRecDepth 20000 in
theorem ggL_law_X4_init : GoodIn wsL_law wsX4_init := goodIn_r _ [11, 12, 13, 14, 15, 16, 17, 18, 19, 20, 21, 22, 23, 24, 25, 26, 27, 28, 29, 30, 31, 32, 33, 34, 35, 4, 36, 37, 38, 39, 40, 41, 42, 43, 44, 45, 46, 47, 48, 49, 50, 51, 3, 52, 53, 54, 55, 56, 57, 58, 59, 60, 61, 62, 63, 64, 65, 66, 67, 68, 69, 70, 71, 72, 410, 411, 412, 413, 414, 415, 416, 417, 418, 402, 403, 404, 405, 406, 407, 408, 409, 419, 420, 421, 422, 423, 424, 425, 426, 427, 428, 429, 430, 431, 432, 433, 434, 435, 436, 437, 438, 439, 440, 441, 442, 443] (by decide +kernel) (by decide +kernel)
set_option maxRecDepth 20000 in
theorem gL_law_X4_init : GoodIn wsL_law (wsX4_init) := ggL_law_X4_init
set_option maxRecDepth 20000 in
theorem ggL_law_L_cell : GoodIn wsL_law wsL_cell := goodIn_r _ [76, 77] (by decide +kernel) (by decide +kernel)
set_option maxRecDepth 20000 in
theorem gL_law_L_cell : GoodIn wsL_law (va_wsS RL 12 yL_cell wsL_cell) := goodIn_app (goodIn_of _ (by decide +kernel)) ggL_law_L_cell
set_option maxRecDepth 20000 in
theorem ggL_law_L_below : GoodIn wsL_law wsL_below := goodIn_r _ [80, 81] (by decide +kernel) (by decide +kernel)
set_option maxRecDepth 20000 in
theorem gL_law_L_below : GoodIn wsL_law (va_wsS RL 18 yL_below wsL_below) := goodIn_app (goodIn_of _ (by decide +kernel)) ggL_law_L_below
set_option maxRecDepth 20000 in
theorem ggL_law_X4_column : GoodIn wsL_law wsX4_column := goodIn_ca (goodIn_ca (goodIn_r _ [85, 25, 18, 86, 87, 2, 88, 89, 90, 91, 92, 93, 94, 95, 96, 97, 98, 99, 17, 100, 101, 36, 37, 402, 403, 404, 405, 406, 407, 408, 409, 410, 411, 412, 413, 414, 415, 416, 417, 418] (by decide +kernel) (by decide +kernel)) (goodIn_sub (fun _ h => List.mem_append_left _ (List.mem_append_left _ (List.mem_append_right _ h))) (by decide +kernel))) (goodIn_sub (fun _ h => List.mem_append_left _ (List.mem_append_right _ h)) (by decide +kernel))
set_option maxRecDepth 20000 in
theorem gL_law_X4_column : GoodIn wsL_law (wsV RL 22 RX4 yX4_column wsX4_column) := goodIn_app (goodIn_of _ (by decide +kernel)) ggL_law_X4_column
set_option maxRecDepth 20000 in
theorem ggL_law_X4_many : GoodIn wsL_law wsX4_many := goodIn_ca (goodIn_r _ [105, 86, 87, 2, 88, 89, 90, 106, 107, 108, 109, 25, 18, 22, 23, 24, 110, 111, 112, 17, 113, 101, 36, 114, 115, 116, 117, 118, 41, 119, 120, 121, 122, 38, 39, 123, 124, 125, 126, 127, 128, 129, 7, 130, 131, 132, 133, 134, 135, 136, 137, 37, 138, 139, 140, 42, 43, 141, 6, 8, 142, 143, 144, 145, 146, 147, 148, 149, 150, 151, 152, 153, 154, 155, 21, 156, 59, 60, 157, 158, 159, 160, 30, 161, 162, 163, 164, 165, 166, 167, 168, 169, 170, 64, 171, 172, 173, 174, 175, 176, 177, 178, 179, 180, 181, 182, 183, 65, 184, 185, 186, 187, 188, 189, 190, 191, 192, 68, 69, 70, 71, 72, 193, 194, 195, 196, 67, 197, 198, 199, 200, 201, 202, 203, 204, 205, 206, 207, 208, 66, 209, 210, 211, 212, 213, 214, 215, 216, 217, 218, 219, 220, 221, 222, 223, 224, 225, 226, 227, 228, 229, 230, 231, 232, 233, 402, 403, 404, 405, 406, 407, 408, 409, 410, 411, 412, 413, 414, 415, 416, 417, 418, 436, 437, 438, 439, 440, 441, 442, 443, 419, 420, 421, 422, 423, 424, 425, 426, 427, 428, 429, 430, 431, 432, 433, 434, 435] (by decide +kernel) (by decide +kernel)) (goodIn_sub (fun _ h => List.mem_append_left _ (List.mem_append_left _ (List.mem_append_right _ h))) (by decide +kernel))
set_option maxRecDepth 20000 in
theorem gL_law_X4_many : GoodIn wsL_law (wsV RL 26 RX4 yX4_many wsX4_many) := goodIn_app (goodIn_of _ (by decide +kernel)) ggL_law_X4_many
set_option maxRecDepth 20000 in
theorem ggL_law_X4_row : GoodIn wsL_law wsX4_row := goodIn_ca (goodIn_r _ [237, 95, 96, 18, 25, 238, 239, 240, 17, 241, 41, 118, 242, 243, 244, 45, 245, 49, 50, 51, 52, 246, 247, 402, 403, 404, 405, 406, 407, 408, 409, 410, 411, 412, 413, 414, 415, 416, 417, 418, 436, 437, 438, 439, 440, 441, 442, 443] (by decide +kernel) (by decide +kernel)) (goodIn_sub (fun _ h => List.mem_append_left _ (List.mem_append_right _ h)) (by decide +kernel))
set_option maxRecDepth 20000 in
theorem gL_law_X4_row : GoodIn wsL_law (wsV RL 30 RX4 yX4_row wsX4_row) := goodIn_app (goodIn_of _ (by decide +kernel)) ggL_law_X4_row
set_option maxRecDepth 20000 in
theorem ggL_law_X4_note : GoodIn wsL_law wsX4_note := goodIn_ca (goodIn_ca (goodIn_r _ [251, 25, 18, 252, 253, 254, 2, 255, 256, 257, 86, 87, 88, 89, 90, 402, 403, 404, 405, 406, 407, 408, 409, 410, 411, 412, 413, 414, 415, 416, 417, 418, 436, 437, 438, 439, 440, 441, 442, 443] (by decide +kernel) (by decide +kernel)) (goodIn_sub (fun _ h => List.mem_append_right _ h) (by decide +kernel))) (goodIn_sub (fun _ h => List.mem_append_left _ (List.mem_append_left _ (List.mem_append_right _ h))) (by decide +kernel))
set_option maxRecDepth 20000 in
theorem gL_law_X4_note : GoodIn wsL_law (wsV RL 34 RX4 yX4_note wsX4_note) := goodIn_app (goodIn_of _ (by decide +kernel)) ggL_law_X4_note
set_option maxRecDepth 20000 in
theorem ggL_law_X4_keep : GoodIn wsL_law wsX4_keep := goodIn_ca (goodIn_r _ [261, 25, 18, 252, 253, 254, 2, 255, 256, 257, 402, 403, 404, 405, 406, 407, 408, 409, 410, 411, 412, 413, 414, 415, 416, 417, 418, 436, 437, 438, 439, 440, 441, 442, 443] (by decide +kernel) (by decide +kernel)) (goodIn_sub (fun _ h => List.mem_append_right _ h) (by decide +kernel))
set_option maxRecDepth 20000 in
theorem gL_law_X4_keep : GoodIn wsL_law (wsV RL 37 RX4 yX4_keep wsX4_keep) := goodIn_app (goodIn_of _ (by decide +kernel)) ggL_law_X4_keep
set_option maxRecDepth 20000 in
theorem ggL_law_X4_span : GoodIn wsL_law wsX4_span := goodIn_ca (goodIn_ca (goodIn_r _ [265, 89, 90, 18, 25, 252, 253, 254, 2, 255, 256, 257, 266, 267, 268, 269, 270, 271, 272, 273, 106, 107, 108, 109, 22, 23, 24, 110, 111, 112, 17, 113, 101, 36, 114, 115, 116, 117, 118, 41, 119, 120, 121, 122, 38, 39, 123, 124, 125, 126, 127, 128, 129, 7, 130, 131, 132, 133, 134, 135, 136, 137, 37, 138, 139, 140, 42, 43, 141, 6, 8, 142, 143, 144, 145, 146, 147, 148, 149, 150, 151, 152, 153, 154, 155, 21, 156, 59, 60, 157, 158, 159, 160, 30, 161, 162, 163, 164, 165, 166, 167, 168, 169, 170, 64, 171, 172, 173, 174, 175, 176, 177, 178, 179, 180, 181, 182, 183, 65, 184, 185, 186, 187, 188, 189, 190, 191, 192, 68, 69, 70, 71, 72, 193, 194, 195, 196, 67, 197, 198, 199, 200, 201, 202, 203, 204, 205, 206, 207, 208, 66, 402, 403, 404, 405, 406, 407, 408, 409, 410, 411, 412, 413, 414, 415, 416, 417, 418, 436, 437, 438, 439, 440, 441, 442, 443, 419, 420, 421, 422, 423, 424, 425, 426, 427, 428, 429, 430, 431, 432, 433, 434, 435] (by decide +kernel) (by decide +kernel)) (goodIn_sub (fun _ h => List.mem_append_left _ (List.mem_append_left _ (List.mem_append_right _ h))) (by decide +kernel))) (goodIn_sub (fun _ h => List.mem_append_right _ h) (by decide +kernel))
set_option maxRecDepth 20000 in
theorem gL_law_X4_span : GoodIn wsL_law (wsV RL 41 RX4 yX4_span wsX4_span) := goodIn_app (goodIn_of _ (by decide +kernel)) ggL_law_X4_span
set_option maxRecDepth 20000 in
theorem ggL_law_X4_text : GoodIn wsL_law wsX4_text := goodIn_ca (goodIn_ca (goodIn_r _ [277, 278, 6, 7, 8, 25, 18, 252, 253, 254, 2, 255, 256, 257, 266, 267, 268, 269, 270, 271, 272, 273, 89, 90, 86, 87, 88, 402, 403, 404, 405, 406, 407, 408, 409, 410, 411, 412, 413, 414, 415, 416, 417, 418, 436, 437, 438, 439, 440, 441, 442, 443] (by decide +kernel) (by decide +kernel)) (goodIn_sub (fun _ h => List.mem_append_right _ h) (by decide +kernel))) (goodIn_sub (fun _ h => List.mem_append_left _ (List.mem_append_left _ (List.mem_append_right _ h))) (by decide +kernel))
set_option maxRecDepth 20000 in
theorem gL_law_X4_text : GoodIn wsL_law (wsV RL 50 RX4 yX4_text wsX4_text) := goodIn_app (goodIn_of _ (by decide +kernel)) ggL_law_X4_text
set_option maxRecDepth 20000 in
theorem ggL_law_X4_number : GoodIn wsL_law wsX4_number := goodIn_ca (goodIn_ca (goodIn_r _ [282, 25, 18, 283, 284, 285, 2, 286, 252, 253, 254, 255, 256, 257, 266, 267, 268, 269, 270, 271, 272, 273, 89, 90, 86, 87, 88, 402, 403, 404, 405, 406, 407, 408, 409, 410, 411, 412, 413, 414, 415, 416, 417, 418, 436, 437, 438, 439, 440, 441, 442, 443] (by decide +kernel) (by decide +kernel)) (goodIn_sub (fun _ h => List.mem_append_right _ h) (by decide +kernel))) (goodIn_sub (fun _ h => List.mem_append_left _ (List.mem_append_left _ (List.mem_append_right _ h))) (by decide +kernel))
set_option maxRecDepth 20000 in
theorem gL_law_X4_number : GoodIn wsL_law (wsV RL 54 RX4 yX4_number wsX4_number) := goodIn_app (goodIn_of _ (by decide +kernel)) ggL_law_X4_number
end
section
theorem goodIn_cons {big a : List Cond} {c : Cond} (hc : GoodIn big [c]) (ha : GoodIn big a) : GoodIn big (c :: a) := fun w h => (List.mem_cons.mp h).elim (fun e => hc w (by rw [e]; exact List.mem_singleton.mpr rfl)) (ha w)
set_option maxRecDepth 20000 in
theorem gl_c : GoodIn wsL_law [.code yL_isLaid cL_isLaid 17 (some .boolean)] := goodIn_r _ [302] (by decide +kernel) (by decide +kernel)
set_option maxRecDepth 20000 in
theorem gl_r1 : GoodIn wsL_law wsL_isLaid_r1 := goodIn_r _ [303, 139, 7, 140, 102, 103, 104, 2, 105, 86, 87, 88, 89, 90, 106, 107, 108, 109, 25, 18, 22, 23, 24, 110] (by decide +kernel) (by decide +kernel)
set_option maxRecDepth 20000 in
theorem gl_r2 : GoodIn wsL_law wsL_isLaid_r2 := goodIn_r _ [111, 112, 17, 113, 101, 36, 114, 115, 116, 117, 118, 41, 119, 120, 121, 122, 38, 39, 123, 124, 125, 126, 127, 128] (by decide +kernel) (by decide +kernel)
set_option maxRecDepth 20000 in
theorem gl_r3 : GoodIn wsL_law wsL_isLaid_r3 := goodIn_r _ [129, 130, 131, 132, 133, 134, 135, 136, 137, 37, 138, 42, 43, 141, 6, 8, 142, 143, 144, 145, 146, 147, 148, 149] (by decide +kernel) (by decide +kernel)
set_option maxRecDepth 20000 in
theorem gl_r4 : GoodIn wsL_law wsL_isLaid_r4 := goodIn_r _ [150, 151, 152, 153, 154, 155, 21, 156, 59, 60, 157, 158, 159, 160, 30, 161, 162, 163, 164, 165, 166, 167, 168, 169] (by decide +kernel) (by decide +kernel)
set_option maxRecDepth 20000 in
theorem gl_r5 : GoodIn wsL_law wsL_isLaid_r5 := goodIn_r _ [170, 64, 171, 172, 173, 174, 175, 176, 177, 178, 179, 180, 181, 182, 183, 65, 184, 185, 186, 187, 188, 189, 190, 191] (by decide +kernel) (by decide +kernel)
set_option maxRecDepth 20000 in
theorem gl_r6 : GoodIn wsL_law wsL_isLaid_r6 := goodIn_r _ [192, 68, 69, 70, 71, 72, 193, 194, 195, 196, 67, 197, 198, 199, 200, 201, 202, 203, 204, 205, 206, 207, 208, 66] (by decide +kernel) (by decide +kernel)
set_option maxRecDepth 20000 in
theorem gl_r7 : GoodIn wsL_law wsL_isLaid_r7 := goodIn_r _ [209, 210, 211, 212, 213, 214, 215, 216, 217, 218, 219, 220, 221, 222, 223, 224, 225, 226, 227, 228, 229, 230, 231, 232] (by decide +kernel) (by decide +kernel)
set_option maxRecDepth 20000 in
theorem gl_r8 : GoodIn wsL_law wsL_isLaid_r8 := goodIn_r _ [233, 304, 305, 306, 307, 266, 267, 268, 269, 256, 257, 308, 309, 310, 311, 312, 313, 314, 315, 316, 317, 318, 319, 320] (by decide +kernel) (by decide +kernel)
set_option maxRecDepth 20000 in
theorem gl_r9 : GoodIn wsL_law wsL_isLaid_r9 := goodIn_r _ [321, 322, 323, 324, 325, 326, 327, 328, 329, 330, 331, 332, 333, 334, 335, 336, 337, 338, 252, 253, 254, 255, 339, 340] (by decide +kernel) (by decide +kernel)
set_option maxRecDepth 20000 in
theorem gl_r10 : GoodIn wsL_law wsL_isLaid_r10 := goodIn_r _ [341, 342, 343, 344, 345, 346, 347, 348, 349, 350, 351, 352, 353, 354, 355, 356, 357, 358, 359, 360, 361, 362, 75, 363] (by decide +kernel) (by decide +kernel)
set_option maxRecDepth 20000 in
theorem gl_x4 : GoodIn wsL_law wsX40 := goodIn_r _ [402, 403, 404, 405, 406, 407, 408, 409] (by decide +kernel) (by decide +kernel)
set_option maxRecDepth 20000 in
theorem gl_x3 : GoodIn wsL_law wsX30 := goodIn_r _ [410, 411, 412, 413, 414, 415, 416, 417, 418] (by decide +kernel) (by decide +kernel)
set_option maxRecDepth 20000 in
theorem gl_x1 : GoodIn wsL_law wsX10 := goodIn_r _ [436, 437, 438, 439, 440, 441, 442, 443] (by decide +kernel) (by decide +kernel)
set_option maxRecDepth 20000 in
theorem gl_x2 : GoodIn wsL_law wsX20 := goodIn_r _ [419, 420, 421] (by decide +kernel) (by decide +kernel)
set_option maxRecDepth 20000 in
theorem gl_x0 : GoodIn wsL_law wsX00 := goodIn_r _ [422, 423, 424, 425, 426, 427, 428, 429, 430, 431, 432, 433, 434, 435] (by decide +kernel) (by decide +kernel)
set_option maxRecDepth 20000 in
theorem ggL_law_L_isLaid : GoodIn wsL_law wsL_isLaid := goodIn_cons gl_c (goodIn_app (goodIn_app (goodIn_app (goodIn_app (goodIn_app (goodIn_app (goodIn_app (goodIn_app gl_r1 (goodIn_app gl_r2 (goodIn_app gl_r3 (goodIn_app gl_r4 (goodIn_app gl_r5 (goodIn_app gl_r6 (goodIn_app gl_r7 (goodIn_app gl_r8 (goodIn_app gl_r9 (gl_r10)))))))))) gl_x4) gl_x3) gl_x1) gl_x2) gl_x0) (goodIn_sub (fun _ h => List.mem_append_left _ (List.mem_append_left _ (List.mem_append_right _ h))) (by decide +kernel))) (goodIn_sub (fun _ h => List.mem_append_right _ h) (by decide +kernel)))
end
section
set_option maxRecDepth 20000 in
theorem ggL_law_X4_paper : GoodIn wsL_law wsX4_paper := goodIn_ca (goodIn_r _ [290, 25, 23, 24, 22, 86, 87, 2, 88, 89, 90, 106, 107, 108, 109, 18, 110, 111, 112, 17, 113, 101, 36, 114, 115, 116, 117, 118, 41, 119, 120, 121, 122, 38, 39, 123, 124, 125, 126, 127, 128, 129, 7, 130, 131, 132, 133, 134, 135, 136, 137, 37, 138, 139, 140, 42, 43, 141, 6, 8, 142, 143, 144, 145, 146, 147, 148, 149, 150, 151, 152, 153, 154, 155, 21, 156, 59, 60, 157, 158, 159, 160, 30, 161, 162, 163, 164, 165, 166, 167, 168, 169, 170, 64, 171, 172, 173, 174, 175, 176, 177, 178, 179, 180, 181, 182, 183, 65, 184, 185, 186, 187, 188, 189, 190, 191, 192, 68, 69, 70, 71, 72, 193, 194, 195, 196, 67, 197, 198, 199, 200, 201, 202, 203, 204, 205, 206, 207, 208, 66, 213, 214, 215, 216, 217, 218, 219, 220, 402, 403, 404, 405, 406, 407, 408, 409, 410, 411, 412, 413, 414, 415, 416, 417, 418, 436, 437, 438, 439, 440, 441, 442, 443, 419, 420, 421, 422, 423, 424, 425, 426, 427, 428, 429, 430, 431, 432, 433, 434, 435] (by decide +kernel) (by decide +kernel)) (goodIn_sub (fun _ h => List.mem_append_left _ (List.mem_append_left _ (List.mem_append_right _ h))) (by decide +kernel))
set_option maxRecDepth 20000 in
theorem gL_law_X4_paper : GoodIn wsL_law (wsV RL 58 RX4 yX4_paper wsX4_paper) := goodIn_app (goodIn_of _ (by decide +kernel)) ggL_law_X4_paper
set_option maxRecDepth 20000 in
theorem ggL_law_X4_pagesWith : GoodIn wsL_law wsX4_pagesWith := goodIn_ca (goodIn_r _ [294, 86, 87, 2, 88, 89, 90, 106, 107, 108, 109, 25, 18, 22, 23, 24, 110, 111, 112, 17, 113, 101, 36, 114, 115, 116, 117, 118, 41, 119, 120, 121, 122, 38, 39, 123, 124, 125, 126, 127, 128, 129, 7, 130, 131, 132, 133, 134, 135, 136, 137, 37, 138, 139, 140, 42, 43, 141, 6, 8, 142, 143, 144, 145, 146, 147, 148, 149, 150, 151, 152, 153, 154, 155, 21, 156, 59, 60, 157, 158, 159, 160, 30, 161, 162, 163, 164, 165, 166, 167, 168, 169, 170, 64, 171, 172, 173, 174, 175, 176, 177, 178, 179, 180, 181, 182, 183, 65, 184, 185, 186, 187, 188, 189, 190, 191, 192, 68, 69, 70, 71, 72, 193, 194, 195, 196, 67, 197, 198, 199, 200, 201, 202, 203, 204, 205, 206, 207, 208, 66, 295, 296, 297, 298, 31, 299, 217, 218, 219, 220, 402, 403, 404, 405, 406, 407, 408, 409, 410, 411, 412, 413, 414, 415, 416, 417, 418, 436, 437, 438, 439, 440, 441, 442, 443, 419, 420, 421, 422, 423, 424, 425, 426, 427, 428, 429, 430, 431, 432, 433, 434, 435] (by decide +kernel) (by decide +kernel)) (goodIn_sub (fun _ h => List.mem_append_left _ (List.mem_append_left _ (List.mem_append_right _ h))) (by decide +kernel))
set_option maxRecDepth 20000 in
theorem gL_law_X4_pagesWith : GoodIn wsL_law (wsV RL 61 RX4 yX4_pagesWith wsX4_pagesWith) := goodIn_app (goodIn_of _ (by decide +kernel)) ggL_law_X4_pagesWith
set_option maxRecDepth 20000 in
theorem gL_law_L_isLaid : GoodIn wsL_law (va_wsS RL 65 yL_isLaid wsL_isLaid) := goodIn_app (goodIn_of _ (by decide +kernel)) ggL_law_L_isLaid
set_option maxRecDepth 20000 in
theorem ggL_law_X4_digest : GoodIn wsL_law wsX4_digest := goodIn_r _ [367, 368, 18, 22, 106, 107, 108, 2, 109, 25, 23, 24, 110, 111, 112, 17, 113, 101, 36, 114, 115, 116, 117, 118, 41, 119, 120, 121, 122, 38, 39, 123, 124, 125, 126, 127, 128, 129, 7, 130, 131, 132, 133, 134, 135, 136, 137, 37, 138, 139, 140, 42, 43, 141, 6, 8, 142, 143, 144, 145, 146, 147, 148, 149, 150, 151, 152, 153, 154, 155, 21, 156, 59, 60, 157, 158, 159, 160, 30, 161, 162, 163, 164, 165, 166, 167, 168, 169, 170, 64, 171, 172, 173, 174, 175, 176, 177, 178, 179, 180, 181, 182, 183, 65, 184, 185, 186, 187, 188, 189, 190, 191, 192, 68, 69, 70, 71, 72, 193, 194, 195, 196, 67, 197, 198, 199, 200, 201, 202, 203, 204, 205, 206, 207, 208, 66, 209, 210, 211, 212, 213, 214, 215, 216, 217, 218, 219, 220, 221, 222, 223, 224, 225, 226, 227, 228, 229, 230, 231, 232, 233, 369, 370, 371, 372, 308, 309, 310, 311, 312, 313, 314, 315, 373, 374, 375, 376, 339, 340, 341, 342, 356, 357, 358, 359, 360, 377, 378, 379, 380, 324, 325, 326, 327, 328, 329, 330, 331, 332, 333, 334, 347, 348, 349, 350, 351, 295, 296, 297, 298, 31, 299, 402, 403, 404, 405, 406, 407, 408, 409, 410, 411, 412, 413, 414, 415, 416, 417, 418, 422, 423, 424, 425, 426, 427, 428, 429, 430, 431, 432, 433, 434, 435, 436, 437, 438, 439, 440, 441, 442, 443, 419, 420, 421] (by decide +kernel) (by decide +kernel)
set_option maxRecDepth 20000 in
theorem gL_law_X4_digest : GoodIn wsL_law (wsV RL 69 RX4 yX4_digest wsX4_digest) := goodIn_app (goodIn_of _ (by decide +kernel)) ggL_law_X4_digest
set_option maxRecDepth 20000 in
theorem ggL_law_X4_cell : GoodIn wsL_law wsX4_cell := goodIn_ca (goodIn_ca (goodIn_r _ [355, 252, 253, 254, 2, 255, 256, 257, 18, 266, 267, 268, 269, 86, 87, 88, 89, 90, 106, 107, 108, 109, 25, 22, 23, 24, 110, 111, 112, 17, 113, 101, 36, 114, 115, 116, 117, 118, 41, 119, 120, 121, 122, 38, 39, 123, 124, 125, 126, 127, 128, 129, 7, 130, 131, 132, 133, 134, 135, 136, 137, 37, 138, 139, 140, 42, 43, 141, 6, 8, 142, 143, 144, 145, 146, 147, 148, 149, 150, 151, 152, 153, 154, 155, 21, 156, 59, 60, 157, 158, 159, 160, 30, 161, 162, 163, 164, 165, 166, 167, 168, 169, 170, 64, 171, 172, 173, 174, 175, 176, 177, 178, 179, 180, 181, 182, 183, 65, 184, 185, 186, 187, 188, 189, 190, 191, 192, 68, 69, 70, 71, 72, 193, 194, 195, 196, 67, 197, 198, 199, 200, 201, 202, 203, 204, 205, 206, 207, 208, 66, 356, 357, 358, 359, 213, 214, 215, 216, 360, 312, 313, 314, 315, 402, 403, 404, 405, 406, 407, 408, 409, 410, 411, 412, 413, 414, 415, 416, 417, 418, 436, 437, 438, 439, 440, 441, 442, 443, 419, 420, 421, 422, 423, 424, 425, 426, 427, 428, 429, 430, 431, 432, 433, 434, 435] (by decide +kernel) (by decide +kernel)) (goodIn_sub (fun _ h => List.mem_append_right _ h) (by decide +kernel))) (goodIn_sub (fun _ h => List.mem_append_left _ (List.mem_append_left _ (List.mem_append_right _ h))) (by decide +kernel))
set_option maxRecDepth 20000 in
theorem gL_law_X4_cell : GoodIn wsL_law (wsV RL 73 RX4 yX4_cell wsX4_cell) := goodIn_app (goodIn_of _ (by decide +kernel)) ggL_law_X4_cell
set_option maxRecDepth 20000 in
theorem ggL_law_X4_changedBy : GoodIn wsL_law wsX4_changedBy := goodIn_ca (goodIn_ca (goodIn_r _ [384, 22, 26, 18, 385, 139, 7, 140, 283, 284, 285, 2, 286, 252, 253, 254, 255, 256, 257, 266, 267, 268, 269, 270, 271, 272, 273, 89, 90, 86, 87, 88, 106, 107, 108, 109, 25, 23, 24, 110, 111, 112, 17, 113, 101, 36, 114, 115, 116, 117, 118, 41, 119, 120, 121, 122, 38, 39, 123, 124, 125, 126, 127, 128, 129, 130, 131, 132, 133, 134, 135, 136, 137, 37, 138, 42, 43, 141, 6, 8, 142, 143, 144, 145, 146, 147, 148, 149, 150, 151, 152, 153, 154, 155, 21, 156, 59, 60, 157, 158, 159, 160, 30, 161, 162, 163, 164, 165, 166, 167, 168, 169, 170, 64, 171, 172, 173, 174, 175, 176, 177, 178, 179, 180, 181, 182, 183, 65, 184, 185, 186, 187, 188, 189, 190, 191, 192, 68, 69, 70, 71, 72, 193, 194, 195, 196, 67, 197, 198, 199, 200, 201, 202, 203, 204, 205, 206, 207, 208, 66, 213, 214, 215, 216, 386, 387, 388, 389, 390, 391, 392, 45, 393, 49, 50, 51, 52, 246, 247, 394, 395, 396, 397, 27, 398, 399, 400, 401, 347, 348, 349, 350, 351, 313, 314, 315, 402, 403, 404, 405, 406, 407, 408, 409, 410, 411, 412, 413, 414, 415, 416, 417, 418, 436, 437, 438, 439, 440, 441, 442, 443, 422, 423, 424, 425, 426, 427, 428, 429, 430, 431, 432, 433, 434, 435, 419, 420, 421] (by decide +kernel) (by decide +kernel)) (goodIn_sub (fun _ h => List.mem_append_right _ h) (by decide +kernel))) (goodIn_sub (fun _ h => List.mem_append_left _ (List.mem_append_left _ (List.mem_append_right _ h))) (by decide +kernel))
set_option maxRecDepth 20000 in
theorem gL_law_X4_changedBy : GoodIn wsL_law (wsV RL 75 RX4 yX4_changedBy wsX4_changedBy) := goodIn_app (goodIn_of _ (by decide +kernel)) ggL_law_X4_changedBy
theorem dL_law_0 : decode cL_law 0 = .ok (.new 9, 3) := by decide +kernel
theorem dL_law_3 : decode cL_law 3 = .ok (.dup, 1) := by decide +kernel
theorem dL_law_4 : decode cL_law 4 = .ok (.invokespecial 11, 3) := by decide +kernel
theorem dL_law_7 : decode cL_law 7 = .ok (.astore_n 1, 1) := by decide +kernel
theorem dL_law_8 : decode cL_law 8 = .ok (.iconst 2, 1) := by decide +kernel
theorem dL_law_9 : decode cL_law 9 = .ok (.aload_n 0, 1) := by decide +kernel
theorem dL_law_10 : decode cL_law 10 = .ok (.iconst 0, 1) := by decide +kernel
theorem dL_law_11 : decode cL_law 11 = .ok (.invokestatic 12, 3) := by decide +kernel
theorem dL_law_14 : decode cL_law 14 = .ok (.iconst 4, 1) := by decide +kernel
theorem dL_law_15 : decode cL_law 15 = .ok (.invokestatic 18, 3) := by decide +kernel
theorem dL_law_18 : decode cL_law 18 = .ok (.iadd, 1) := by decide +kernel
theorem dL_law_19 : decode cL_law 19 = .ok (.istore_n 2, 1) := by decide +kernel
theorem dL_law_20 : decode cL_law 20 = .ok (.iload_n 2, 1) := by decide +kernel
theorem dL_law_21 : decode cL_law 21 = .ok (.newarray .boolean, 2) := by decide +kernel
theorem dL_law_23 : decode cL_law 23 = .ok (.astore_n 3, 1) := by decide +kernel
theorem dL_law_24 : decode cL_law 24 = .ok (.iconst 0, 1) := by decide +kernel
theorem dL_law_25 : decode cL_law 25 = .ok (.istore 4, 2) := by decide +kernel
theorem dL_law_27 : decode cL_law 27 = .ok (.iload 4, 2) := by decide +kernel
theorem dL_law_29 : decode cL_law 29 = .ok (.iload_n 2, 1) := by decide +kernel
theorem dL_law_30 : decode cL_law 30 = .ok (.if_icmp .ge 61, 3) := by decide +kernel
theorem dL_law_33 : decode cL_law 33 = .ok (.aload_n 3, 1) := by decide +kernel
theorem dL_law_34 : decode cL_law 34 = .ok (.iload 4, 2) := by decide +kernel
theorem dL_law_36 : decode cL_law 36 = .ok (.aload_n 0, 1) := by decide +kernel
theorem dL_law_37 : decode cL_law 37 = .ok (.iload 4, 2) := by decide +kernel
theorem dL_law_39 : decode cL_law 39 = .ok (.invokestatic 12, 3) := by decide +kernel
theorem dL_law_42 : decode cL_law 42 = .ok (.iconst 3, 1) := by decide +kernel
theorem dL_law_43 : decode cL_law 43 = .ok (.invokestatic 18, 3) := by decide +kernel
theorem dL_law_46 : decode cL_law 46 = .ok (.ifCond .le 7, 3) := by decide +kernel
theorem dL_law_49 : decode cL_law 49 = .ok (.iconst 1, 1) := by decide +kernel
theorem dL_law_50 : decode cL_law 50 = .ok (.goto 4, 3) := by decide +kernel
theorem dL_law_53 : decode cL_law 53 = .ok (.iconst 0, 1) := by decide +kernel
theorem dL_law_54 : decode cL_law 54 = .ok (.bastore, 1) := by decide +kernel
theorem dL_law_55 : decode cL_law 55 = .ok (.aload_n 1, 1) := by decide +kernel
theorem dL_law_56 : decode cL_law 56 = .ok (.aload_n 3, 1) := by decide +kernel
theorem dL_law_57 : decode cL_law 57 = .ok (.iload 4, 2) := by decide +kernel
theorem dL_law_59 : decode cL_law 59 = .ok (.baload, 1) := by decide +kernel
theorem dL_law_60 : decode cL_law 60 = .ok (.iconst 1, 1) := by decide +kernel
theorem dL_law_61 : decode cL_law 61 = .ok (.aload_n 0, 1) := by decide +kernel
theorem dL_law_62 : decode cL_law 62 = .ok (.iload 4, 2) := by decide +kernel
theorem dL_law_64 : decode cL_law 64 = .ok (.invokestatic 12, 3) := by decide +kernel
theorem dL_law_67 : decode cL_law 67 = .ok (.iconst 3, 1) := by decide +kernel
theorem dL_law_68 : decode cL_law 68 = .ok (.ishr, 1) := by decide +kernel
theorem dL_law_69 : decode cL_law 69 = .ok (.bipush 12, 2) := by decide +kernel
theorem dL_law_71 : decode cL_law 71 = .ok (.invokestatic 18, 3) := by decide +kernel
theorem dL_law_74 : decode cL_law 74 = .ok (.iadd, 1) := by decide +kernel
theorem dL_law_75 : decode cL_law 75 = .ok (.invokevirtual 22, 3) := by decide +kernel
theorem dL_law_78 : decode cL_law 78 = .ok (.iload 4, 2) := by decide +kernel
theorem dL_law_80 : decode cL_law 80 = .ok (.if_icmp .eq 5, 3) := by decide +kernel
theorem dL_law_83 : decode cL_law 83 = .ok (.iconst 0, 1) := by decide +kernel
theorem dL_law_84 : decode cL_law 84 = .ok (.ireturn, 1) := by decide +kernel
theorem dL_law_85 : decode cL_law 85 = .ok (.iinc 4 1, 3) := by decide +kernel
theorem dL_law_88 : decode cL_law 88 = .ok (.goto (-61), 3) := by decide +kernel
theorem dL_law_91 : decode cL_law 91 = .ok (.bipush 30, 2) := by decide +kernel
theorem dL_law_93 : decode cL_law 93 = .ok (.newarray .int, 2) := by decide +kernel
theorem dL_law_95 : decode cL_law 95 = .ok (.astore 4, 2) := by decide +kernel
theorem dL_law_97 : decode cL_law 97 = .ok (.bipush 30, 2) := by decide +kernel
theorem dL_law_99 : decode cL_law 99 = .ok (.newarray .boolean, 2) := by decide +kernel
theorem dL_law_101 : decode cL_law 101 = .ok (.astore 5, 2) := by decide +kernel
theorem dL_law_103 : decode cL_law 103 = .ok (.iconst 0, 1) := by decide +kernel
theorem dL_law_104 : decode cL_law 104 = .ok (.istore 6, 2) := by decide +kernel
theorem dL_law_106 : decode cL_law 106 = .ok (.iload 6, 2) := by decide +kernel
theorem dL_law_108 : decode cL_law 108 = .ok (.bipush 60, 2) := by decide +kernel
theorem dL_law_110 : decode cL_law 110 = .ok (.if_icmp .ge 543, 3) := by decide +kernel
theorem dL_law_113 : decode cL_law 113 = .ok (.aload_n 0, 1) := by decide +kernel
theorem dL_law_114 : decode cL_law 114 = .ok (.iload 6, 2) := by decide +kernel
theorem dL_law_116 : decode cL_law 116 = .ok (.bipush 16, 2) := by decide +kernel
theorem dL_law_118 : decode cL_law 118 = .ok (.irem, 1) := by decide +kernel
theorem dL_law_119 : decode cL_law 119 = .ok (.invokestatic 12, 3) := by decide +kernel
theorem dL_law_122 : decode cL_law 122 = .ok (.iload 6, 2) := by decide +kernel
theorem dL_law_124 : decode cL_law 124 = .ok (.bipush 16, 2) := by decide +kernel
theorem dL_law_126 : decode cL_law 126 = .ok (.idiv, 1) := by decide +kernel
theorem dL_law_127 : decode cL_law 127 = .ok (.iconst 2, 1) := by decide +kernel
theorem dL_law_128 : decode cL_law 128 = .ok (.imul, 1) := by decide +kernel
theorem dL_law_129 : decode cL_law 129 = .ok (.ishr, 1) := by decide +kernel
theorem dL_law_130 : decode cL_law 130 = .ok (.bipush 7, 2) := by decide +kernel
theorem dL_law_132 : decode cL_law 132 = .ok (.iload 6, 2) := by decide +kernel
theorem dL_law_134 : decode cL_law 134 = .ok (.imul, 1) := by decide +kernel
theorem dL_law_135 : decode cL_law 135 = .ok (.iadd, 1) := by decide +kernel
theorem dL_law_136 : decode cL_law 136 = .ok (.istore 7, 2) := by decide +kernel
theorem dL_law_138 : decode cL_law 138 = .ok (.aload_n 1, 1) := by decide +kernel
theorem dL_law_139 : decode cL_law 139 = .ok (.iconst 1, 1) := by decide +kernel
theorem dL_law_140 : decode cL_law 140 = .ok (.invokevirtual 26, 3) := by decide +kernel
theorem dL_law_143 : decode cL_law 143 = .ok (.istore 8, 2) := by decide +kernel
theorem dL_law_145 : decode cL_law 145 = .ok (.iload 8, 2) := by decide +kernel
theorem dL_law_147 : decode cL_law 147 = .ok (.ifCond .ne 7, 3) := by decide +kernel
theorem dL_law_150 : decode cL_law 150 = .ok (.iconst (-1), 1) := by decide +kernel
theorem dL_law_151 : decode cL_law 151 = .ok (.goto 12, 3) := by decide +kernel
theorem dL_law_154 : decode cL_law 154 = .ok (.iload 7, 2) := by decide +kernel
theorem dL_law_156 : decode cL_law 156 = .ok (.iconst 3, 1) := by decide +kernel
theorem dL_law_157 : decode cL_law 157 = .ok (.ishr, 1) := by decide +kernel
theorem dL_law_158 : decode cL_law 158 = .ok (.iload 8, 2) := by decide +kernel
theorem dL_law_160 : decode cL_law 160 = .ok (.invokestatic 18, 3) := by decide +kernel
theorem dL_law_163 : decode cL_law 163 = .ok (.istore 9, 2) := by decide +kernel
theorem dL_law_165 : decode cL_law 165 = .ok (.iload 7, 2) := by decide +kernel
theorem dL_law_167 : decode cL_law 167 = .ok (.iconst 5, 1) := by decide +kernel
theorem dL_law_168 : decode cL_law 168 = .ok (.ishr, 1) := by decide +kernel
theorem dL_law_169 : decode cL_law 169 = .ok (.iload_n 2, 1) := by decide +kernel
theorem dL_law_170 : decode cL_law 170 = .ok (.invokestatic 18, 3) := by decide +kernel
theorem dL_law_173 : decode cL_law 173 = .ok (.istore 10, 2) := by decide +kernel
theorem dL_law_175 : decode cL_law 175 = .ok (.iload 8, 2) := by decide +kernel
theorem dL_law_177 : decode cL_law 177 = .ok (.iconst 3, 1) := by decide +kernel
theorem dL_law_178 : decode cL_law 178 = .ok (.if_icmp .ge 7, 3) := by decide +kernel
theorem dL_law_181 : decode cL_law 181 = .ok (.iconst 0, 1) := by decide +kernel
theorem dL_law_182 : decode cL_law 182 = .ok (.goto 10, 3) := by decide +kernel
theorem dL_law_185 : decode cL_law 185 = .ok (.iload 7, 2) := by decide +kernel
theorem dL_law_187 : decode cL_law 187 = .ok (.bipush 6, 2) := by decide +kernel
theorem dL_law_189 : decode cL_law 189 = .ok (.invokestatic 18, 3) := by decide +kernel
theorem dL_law_192 : decode cL_law 192 = .ok (.tableswitch 180 0 3 #[32, 50, 80, 126], 32) := by decide +kernel
theorem dL_law_224 : decode cL_law 224 = .ok (.iload 8, 2) := by decide +kernel
theorem dL_law_226 : decode cL_law 226 = .ok (.bipush 30, 2) := by decide +kernel
theorem dL_law_228 : decode cL_law 228 = .ok (.if_icmp .ge 223, 3) := by decide +kernel
theorem dL_law_231 : decode cL_law 231 = .ok (.aload_n 1, 1) := by decide +kernel
theorem dL_law_232 : decode cL_law 232 = .ok (.invokevirtual 30, 3) := by decide +kernel
theorem dL_law_235 : decode cL_law 235 = .ok (.iload 8, 2) := by decide +kernel
theorem dL_law_237 : decode cL_law 237 = .ok (.if_icmp .eq 214, 3) := by decide +kernel
theorem dL_law_240 : decode cL_law 240 = .ok (.iconst 0, 1) := by decide +kernel
theorem dL_law_241 : decode cL_law 241 = .ok (.ireturn, 1) := by decide +kernel
theorem dL_law_242 : decode cL_law 242 = .ok (.aload 4, 2) := by decide +kernel
theorem dL_law_244 : decode cL_law 244 = .ok (.iload 9, 2) := by decide +kernel
theorem dL_law_246 : decode cL_law 246 = .ok (.iload 7, 2) := by decide +kernel
theorem dL_law_248 : decode cL_law 248 = .ok (.iconst 4, 1) := by decide +kernel
theorem dL_law_249 : decode cL_law 249 = .ok (.ishr, 1) := by decide +kernel
theorem dL_law_250 : decode cL_law 250 = .ok (.bipush 6, 2) := by decide +kernel
theorem dL_law_252 : decode cL_law 252 = .ok (.invokestatic 18, 3) := by decide +kernel
theorem dL_law_255 : decode cL_law 255 = .ok (.iastore, 1) := by decide +kernel
theorem dL_law_256 : decode cL_law 256 = .ok (.aload_n 1, 1) := by decide +kernel
theorem dL_law_257 : decode cL_law 257 = .ok (.iload 9, 2) := by decide +kernel
theorem dL_law_259 : decode cL_law 259 = .ok (.aload 4, 2) := by decide +kernel
theorem dL_law_261 : decode cL_law 261 = .ok (.iload 9, 2) := by decide +kernel
theorem dL_law_263 : decode cL_law 263 = .ok (.iaload, 1) := by decide +kernel
theorem dL_law_264 : decode cL_law 264 = .ok (.invokevirtual 34, 3) := by decide +kernel
theorem dL_law_267 : decode cL_law 267 = .ok (.ifCond .ge 184, 3) := by decide +kernel
theorem dL_law_270 : decode cL_law 270 = .ok (.iconst 0, 1) := by decide +kernel
theorem dL_law_271 : decode cL_law 271 = .ok (.ireturn, 1) := by decide +kernel
theorem dL_law_272 : decode cL_law 272 = .ok (.iload 7, 2) := by decide +kernel
theorem dL_law_274 : decode cL_law 274 = .ok (.iconst 4, 1) := by decide +kernel
theorem dL_law_275 : decode cL_law 275 = .ok (.ishr, 1) := by decide +kernel
theorem dL_law_276 : decode cL_law 276 = .ok (.iconst 2, 1) := by decide +kernel
theorem dL_law_277 : decode cL_law 277 = .ok (.invokestatic 18, 3) := by decide +kernel
theorem dL_law_280 : decode cL_law 280 = .ok (.ifCond .ne 7, 3) := by decide +kernel
theorem dL_law_283 : decode cL_law 283 = .ok (.iconst 1, 1) := by decide +kernel
theorem dL_law_284 : decode cL_law 284 = .ok (.goto 4, 3) := by decide +kernel
theorem dL_law_287 : decode cL_law 287 = .ok (.iconst 0, 1) := by decide +kernel
theorem dL_law_288 : decode cL_law 288 = .ok (.istore 11, 2) := by decide +kernel
theorem dL_law_290 : decode cL_law 290 = .ok (.aload_n 1, 1) := by decide +kernel
theorem dL_law_291 : decode cL_law 291 = .ok (.iload 9, 2) := by decide +kernel
theorem dL_law_293 : decode cL_law 293 = .ok (.iload 11, 2) := by decide +kernel
theorem dL_law_295 : decode cL_law 295 = .ok (.invokevirtual 37, 3) := by decide +kernel
theorem dL_law_298 : decode cL_law 298 = .ok (.aload 5, 2) := by decide +kernel
theorem dL_law_300 : decode cL_law 300 = .ok (.iload 9, 2) := by decide +kernel
theorem dL_law_302 : decode cL_law 302 = .ok (.baload, 1) := by decide +kernel
theorem dL_law_303 : decode cL_law 303 = .ok (.if_icmp .eq 5, 3) := by decide +kernel
theorem dL_law_306 : decode cL_law 306 = .ok (.iconst 0, 1) := by decide +kernel
theorem dL_law_307 : decode cL_law 307 = .ok (.ireturn, 1) := by decide +kernel
theorem dL_law_308 : decode cL_law 308 = .ok (.aload 5, 2) := by decide +kernel
theorem dL_law_310 : decode cL_law 310 = .ok (.iload 9, 2) := by decide +kernel
theorem dL_law_312 : decode cL_law 312 = .ok (.iload 11, 2) := by decide +kernel
theorem dL_law_314 : decode cL_law 314 = .ok (.bastore, 1) := by decide +kernel
theorem dL_law_315 : decode cL_law 315 = .ok (.goto 136, 3) := by decide +kernel
theorem dL_law_318 : decode cL_law 318 = .ok (.aload_n 3, 1) := by decide +kernel
theorem dL_law_319 : decode cL_law 319 = .ok (.iload 10, 2) := by decide +kernel
theorem dL_law_321 : decode cL_law 321 = .ok (.baload, 1) := by decide +kernel
theorem dL_law_322 : decode cL_law 322 = .ok (.ifCond .eq 129, 3) := by decide +kernel
theorem dL_law_325 : decode cL_law 325 = .ok (.iload 10, 2) := by decide +kernel
theorem dL_law_327 : decode cL_law 327 = .ok (.iconst 1, 1) := by decide +kernel
theorem dL_law_328 : decode cL_law 328 = .ok (.iadd, 1) := by decide +kernel
theorem dL_law_329 : decode cL_law 329 = .ok (.iload_n 2, 1) := by decide +kernel
theorem dL_law_330 : decode cL_law 330 = .ok (.if_icmp .ge 121, 3) := by decide +kernel
theorem dL_law_333 : decode cL_law 333 = .ok (.aload_n 1, 1) := by decide +kernel
theorem dL_law_334 : decode cL_law 334 = .ok (.iload 9, 2) := by decide +kernel
theorem dL_law_336 : decode cL_law 336 = .ok (.iload 10, 2) := by decide +kernel
theorem dL_law_338 : decode cL_law 338 = .ok (.iload 7, 2) := by decide +kernel
theorem dL_law_340 : decode cL_law 340 = .ok (.bipush 6, 2) := by decide +kernel
theorem dL_law_342 : decode cL_law 342 = .ok (.ishr, 1) := by decide +kernel
theorem dL_law_343 : decode cL_law 343 = .ok (.iconst 2, 1) := by decide +kernel
theorem dL_law_344 : decode cL_law 344 = .ok (.invokestatic 18, 3) := by decide +kernel
theorem dL_law_347 : decode cL_law 347 = .ok (.ifCond .ne 7, 3) := by decide +kernel
theorem dL_law_350 : decode cL_law 350 = .ok (.iconst 1, 1) := by decide +kernel
theorem dL_law_351 : decode cL_law 351 = .ok (.goto 4, 3) := by decide +kernel
theorem dL_law_354 : decode cL_law 354 = .ok (.iconst 0, 1) := by decide +kernel
theorem dL_law_355 : decode cL_law 355 = .ok (.invokevirtual 41, 3) := by decide +kernel
theorem dL_law_358 : decode cL_law 358 = .ok (.ifCond .eq 93, 3) := by decide +kernel
theorem dL_law_361 : decode cL_law 361 = .ok (.aload_n 3, 1) := by decide +kernel
theorem dL_law_362 : decode cL_law 362 = .ok (.iload 10, 2) := by decide +kernel
theorem dL_law_364 : decode cL_law 364 = .ok (.iconst 1, 1) := by decide +kernel
theorem dL_law_365 : decode cL_law 365 = .ok (.iadd, 1) := by decide +kernel
theorem dL_law_366 : decode cL_law 366 = .ok (.baload, 1) := by decide +kernel
theorem dL_law_367 : decode cL_law 367 = .ok (.ifCond .ne 84, 3) := by decide +kernel
theorem dL_law_370 : decode cL_law 370 = .ok (.iconst 0, 1) := by decide +kernel
theorem dL_law_371 : decode cL_law 371 = .ok (.ireturn, 1) := by decide +kernel
theorem dL_law_372 : decode cL_law 372 = .ok (.iload 7, 2) := by decide +kernel
theorem dL_law_374 : decode cL_law 374 = .ok (.iconst 4, 1) := by decide +kernel
theorem dL_law_375 : decode cL_law 375 = .ok (.ishr, 1) := by decide +kernel
theorem dL_law_376 : decode cL_law 376 = .ok (.bipush 90, 2) := by decide +kernel
theorem dL_law_378 : decode cL_law 378 = .ok (.invokestatic 18, 3) := by decide +kernel
theorem dL_law_381 : decode cL_law 381 = .ok (.istore 12, 2) := by decide +kernel
theorem dL_law_383 : decode cL_law 383 = .ok (.aload_n 3, 1) := by decide +kernel
theorem dL_law_384 : decode cL_law 384 = .ok (.iload 10, 2) := by decide +kernel
theorem dL_law_386 : decode cL_law 386 = .ok (.baload, 1) := by decide +kernel
theorem dL_law_387 : decode cL_law 387 = .ok (.ifCond .eq 34, 3) := by decide +kernel
theorem dL_law_390 : decode cL_law 390 = .ok (.aload_n 1, 1) := by decide +kernel
theorem dL_law_391 : decode cL_law 391 = .ok (.iload 9, 2) := by decide +kernel
theorem dL_law_393 : decode cL_law 393 = .ok (.iload 10, 2) := by decide +kernel
theorem dL_law_395 : decode cL_law 395 = .ok (.iload 12, 2) := by decide +kernel
theorem dL_law_397 : decode cL_law 397 = .ok (.iload 12, 2) := by decide +kernel
theorem dL_law_399 : decode cL_law 399 = .ok (.iload 7, 2) := by decide +kernel
theorem dL_law_401 : decode cL_law 401 = .ok (.bipush 6, 2) := by decide +kernel
theorem dL_law_403 : decode cL_law 403 = .ok (.ishr, 1) := by decide +kernel
theorem dL_law_404 : decode cL_law 404 = .ok (.bipush 13, 2) := by decide +kernel
theorem dL_law_406 : decode cL_law 406 = .ok (.invokestatic 18, 3) := by decide +kernel
theorem dL_law_409 : decode cL_law 409 = .ok (.invokestatic 45, 3) := by decide +kernel
theorem dL_law_412 : decode cL_law 412 = .ok (.invokevirtual 50, 3) := by decide +kernel
theorem dL_law_415 : decode cL_law 415 = .ok (.ifCond .ge 36, 3) := by decide +kernel
theorem dL_law_418 : decode cL_law 418 = .ok (.goto 31, 3) := by decide +kernel
theorem dL_law_421 : decode cL_law 421 = .ok (.aload_n 1, 1) := by decide +kernel
theorem dL_law_422 : decode cL_law 422 = .ok (.iload 9, 2) := by decide +kernel
theorem dL_law_424 : decode cL_law 424 = .ok (.iload 10, 2) := by decide +kernel
theorem dL_law_426 : decode cL_law 426 = .ok (.iload 7, 2) := by decide +kernel
theorem dL_law_428 : decode cL_law 428 = .ok (.iconst 4, 1) := by decide +kernel
theorem dL_law_429 : decode cL_law 429 = .ok (.ishr, 1) := by decide +kernel
theorem dL_law_430 : decode cL_law 430 = .ok (.sipush 3000, 3) := by decide +kernel
theorem dL_law_433 : decode cL_law 433 = .ok (.invokestatic 18, 3) := by decide +kernel
theorem dL_law_436 : decode cL_law 436 = .ok (.sipush 1000, 3) := by decide +kernel
theorem dL_law_439 : decode cL_law 439 = .ok (.isub, 1) := by decide +kernel
theorem dL_law_440 : decode cL_law 440 = .ok (.invokevirtual 54, 3) := by decide +kernel
theorem dL_law_443 : decode cL_law 443 = .ok (.sipush (-9999), 3) := by decide +kernel
theorem dL_law_446 : decode cL_law 446 = .ok (.if_icmp .ge 5, 3) := by decide +kernel
theorem dL_law_449 : decode cL_law 449 = .ok (.iconst 0, 1) := by decide +kernel
theorem dL_law_450 : decode cL_law 450 = .ok (.ireturn, 1) := by decide +kernel
theorem dL_law_451 : decode cL_law 451 = .ok (.iload 6, 2) := by decide +kernel
theorem dL_law_453 : decode cL_law 453 = .ok (.bipush 6, 2) := by decide +kernel
theorem dL_law_455 : decode cL_law 455 = .ok (.irem, 1) := by decide +kernel
theorem dL_law_456 : decode cL_law 456 = .ok (.ifCond .le 6, 3) := by decide +kernel
theorem dL_law_459 : decode cL_law 459 = .ok (.goto 188, 3) := by decide +kernel
theorem dL_law_462 : decode cL_law 462 = .ok (.bipush 10, 2) := by decide +kernel
theorem dL_law_464 : decode cL_law 464 = .ok (.iload 7, 2) := by decide +kernel
theorem dL_law_466 : decode cL_law 466 = .ok (.iconst 2, 1) := by decide +kernel
theorem dL_law_467 : decode cL_law 467 = .ok (.ishr, 1) := by decide +kernel
theorem dL_law_468 : decode cL_law 468 = .ok (.bipush 51, 2) := by decide +kernel
theorem dL_law_470 : decode cL_law 470 = .ok (.invokestatic 18, 3) := by decide +kernel
theorem dL_law_473 : decode cL_law 473 = .ok (.iadd, 1) := by decide +kernel
theorem dL_law_474 : decode cL_law 474 = .ok (.istore 11, 2) := by decide +kernel
theorem dL_law_476 : decode cL_law 476 = .ok (.bipush 10, 2) := by decide +kernel
theorem dL_law_478 : decode cL_law 478 = .ok (.iload 7, 2) := by decide +kernel
theorem dL_law_480 : decode cL_law 480 = .ok (.bipush 6, 2) := by decide +kernel
theorem dL_law_482 : decode cL_law 482 = .ok (.ishr, 1) := by decide +kernel
theorem dL_law_483 : decode cL_law 483 = .ok (.bipush 21, 2) := by decide +kernel
theorem dL_law_485 : decode cL_law 485 = .ok (.invokestatic 18, 3) := by decide +kernel
theorem dL_law_488 : decode cL_law 488 = .ok (.iadd, 1) := by decide +kernel
theorem dL_law_489 : decode cL_law 489 = .ok (.istore 12, 2) := by decide +kernel
theorem dL_law_491 : decode cL_law 491 = .ok (.aload_n 1, 1) := by decide +kernel
theorem dL_law_492 : decode cL_law 492 = .ok (.iload 11, 2) := by decide +kernel
theorem dL_law_494 : decode cL_law 494 = .ok (.iload 12, 2) := by decide +kernel
theorem dL_law_496 : decode cL_law 496 = .ok (.invokevirtual 58, 3) := by decide +kernel
theorem dL_law_499 : decode cL_law 499 = .ok (.istore 13, 2) := by decide +kernel
theorem dL_law_501 : decode cL_law 501 = .ok (.aload_n 1, 1) := by decide +kernel
theorem dL_law_502 : decode cL_law 502 = .ok (.iload 11, 2) := by decide +kernel
theorem dL_law_504 : decode cL_law 504 = .ok (.iload 12, 2) := by decide +kernel
theorem dL_law_506 : decode cL_law 506 = .ok (.iconst 0, 1) := by decide +kernel
theorem dL_law_507 : decode cL_law 507 = .ok (.invokevirtual 61, 3) := by decide +kernel
theorem dL_law_510 : decode cL_law 510 = .ok (.istore 14, 2) := by decide +kernel
theorem dL_law_512 : decode cL_law 512 = .ok (.aload_n 1, 1) := by decide +kernel
theorem dL_law_513 : decode cL_law 513 = .ok (.iload 11, 2) := by decide +kernel
theorem dL_law_515 : decode cL_law 515 = .ok (.iload 12, 2) := by decide +kernel
theorem dL_law_517 : decode cL_law 517 = .ok (.iconst 1, 1) := by decide +kernel
theorem dL_law_518 : decode cL_law 518 = .ok (.invokevirtual 61, 3) := by decide +kernel
theorem dL_law_521 : decode cL_law 521 = .ok (.istore 15, 2) := by decide +kernel
theorem dL_law_523 : decode cL_law 523 = .ok (.iload 14, 2) := by decide +kernel
theorem dL_law_525 : decode cL_law 525 = .ok (.ifCond .lt 19, 3) := by decide +kernel
theorem dL_law_528 : decode cL_law 528 = .ok (.iload 15, 2) := by decide +kernel
theorem dL_law_530 : decode cL_law 530 = .ok (.ifCond .lt 10, 3) := by decide +kernel
theorem dL_law_533 : decode cL_law 533 = .ok (.iload 14, 2) := by decide +kernel
theorem dL_law_535 : decode cL_law 535 = .ok (.iload 15, 2) := by decide +kernel
theorem dL_law_537 : decode cL_law 537 = .ok (.if_icmp .gt 7, 3) := by decide +kernel
theorem dL_law_540 : decode cL_law 540 = .ok (.iconst 1, 1) := by decide +kernel
theorem dL_law_541 : decode cL_law 541 = .ok (.goto 4, 3) := by decide +kernel
theorem dL_law_544 : decode cL_law 544 = .ok (.iconst 0, 1) := by decide +kernel
theorem dL_law_545 : decode cL_law 545 = .ok (.istore 16, 2) := by decide +kernel
theorem dL_law_547 : decode cL_law 547 = .ok (.iload 13, 2) := by decide +kernel
theorem dL_law_549 : decode cL_law 549 = .ok (.aload_n 1, 1) := by decide +kernel
theorem dL_law_550 : decode cL_law 550 = .ok (.iconst 2, 1) := by decide +kernel
theorem dL_law_551 : decode cL_law 551 = .ok (.invokevirtual 26, 3) := by decide +kernel
theorem dL_law_554 : decode cL_law 554 = .ok (.if_icmp .ne 47, 3) := by decide +kernel
theorem dL_law_557 : decode cL_law 557 = .ok (.iload 13, 2) := by decide +kernel
theorem dL_law_559 : decode cL_law 559 = .ok (.iload 16, 2) := by decide +kernel
theorem dL_law_561 : decode cL_law 561 = .ok (.ifCond .eq 8, 3) := by decide +kernel
theorem dL_law_564 : decode cL_law 564 = .ok (.iload 14, 2) := by decide +kernel
theorem dL_law_566 : decode cL_law 566 = .ok (.goto 5, 3) := by decide +kernel
theorem dL_law_569 : decode cL_law 569 = .ok (.iload 15, 2) := by decide +kernel
theorem dL_law_571 : decode cL_law 571 = .ok (.if_icmp .ne 30, 3) := by decide +kernel
theorem dL_law_574 : decode cL_law 574 = .ok (.aload_n 1, 1) := by decide +kernel
theorem dL_law_575 : decode cL_law 575 = .ok (.iconst 3, 1) := by decide +kernel
theorem dL_law_576 : decode cL_law 576 = .ok (.invokevirtual 26, 3) := by decide +kernel
theorem dL_law_579 : decode cL_law 579 = .ok (.iload 13, 2) := by decide +kernel
theorem dL_law_581 : decode cL_law 581 = .ok (.ifCond .ge 7, 3) := by decide +kernel
theorem dL_law_584 : decode cL_law 584 = .ok (.iconst (-1), 1) := by decide +kernel
theorem dL_law_585 : decode cL_law 585 = .ok (.goto 13, 3) := by decide +kernel
theorem dL_law_588 : decode cL_law 588 = .ok (.iload 16, 2) := by decide +kernel
theorem dL_law_590 : decode cL_law 590 = .ok (.ifCond .eq 7, 3) := by decide +kernel
theorem dL_law_593 : decode cL_law 593 = .ok (.iconst 0, 1) := by decide +kernel
theorem dL_law_594 : decode cL_law 594 = .ok (.goto 4, 3) := by decide +kernel
theorem dL_law_597 : decode cL_law 597 = .ok (.iconst 1, 1) := by decide +kernel
theorem dL_law_598 : decode cL_law 598 = .ok (.if_icmp .eq 5, 3) := by decide +kernel
theorem dL_law_601 : decode cL_law 601 = .ok (.iconst 0, 1) := by decide +kernel
theorem dL_law_602 : decode cL_law 602 = .ok (.ireturn, 1) := by decide +kernel
theorem dL_law_603 : decode cL_law 603 = .ok (.iload 13, 2) := by decide +kernel
theorem dL_law_605 : decode cL_law 605 = .ok (.ifCond .lt 42, 3) := by decide +kernel
theorem dL_law_608 : decode cL_law 608 = .ok (.aload_n 1, 1) := by decide +kernel
theorem dL_law_609 : decode cL_law 609 = .ok (.iload 16, 2) := by decide +kernel
theorem dL_law_611 : decode cL_law 611 = .ok (.ifCond .eq 8, 3) := by decide +kernel
theorem dL_law_614 : decode cL_law 614 = .ok (.iload 11, 2) := by decide +kernel
theorem dL_law_616 : decode cL_law 616 = .ok (.goto 5, 3) := by decide +kernel
theorem dL_law_619 : decode cL_law 619 = .ok (.iload 12, 2) := by decide +kernel
theorem dL_law_621 : decode cL_law 621 = .ok (.iload 16, 2) := by decide +kernel
theorem dL_law_623 : decode cL_law 623 = .ok (.ifCond .eq 8, 3) := by decide +kernel
theorem dL_law_626 : decode cL_law 626 = .ok (.iload 12, 2) := by decide +kernel
theorem dL_law_628 : decode cL_law 628 = .ok (.goto 5, 3) := by decide +kernel
theorem dL_law_631 : decode cL_law 631 = .ok (.iload 11, 2) := by decide +kernel
theorem dL_law_633 : decode cL_law 633 = .ok (.iconst 3, 1) := by decide +kernel
theorem dL_law_634 : decode cL_law 634 = .ok (.isub, 1) := by decide +kernel
theorem dL_law_635 : decode cL_law 635 = .ok (.aload 4, 2) := by decide +kernel
theorem dL_law_637 : decode cL_law 637 = .ok (.aload 5, 2) := by decide +kernel
theorem dL_law_639 : decode cL_law 639 = .ok (.invokestatic 65, 3) := by decide +kernel
theorem dL_law_642 : decode cL_law 642 = .ok (.ifCond .ne 5, 3) := by decide +kernel
theorem dL_law_645 : decode cL_law 645 = .ok (.iconst 0, 1) := by decide +kernel
theorem dL_law_646 : decode cL_law 646 = .ok (.ireturn, 1) := by decide +kernel
theorem dL_law_647 : decode cL_law 647 = .ok (.iinc 6 1, 3) := by decide +kernel
theorem dL_law_650 : decode cL_law 650 = .ok (.goto (-544), 3) := by decide +kernel
theorem dL_law_653 : decode cL_law 653 = .ok (.aload_n 1, 1) := by decide +kernel
theorem dL_law_654 : decode cL_law 654 = .ok (.invokevirtual 69, 3) := by decide +kernel
theorem dL_law_657 : decode cL_law 657 = .ok (.lstore 6, 2) := by decide +kernel
theorem dL_law_659 : decode cL_law 659 = .ok (.iconst 0, 1) := by decide +kernel
theorem dL_law_660 : decode cL_law 660 = .ok (.istore 8, 2) := by decide +kernel
theorem dL_law_662 : decode cL_law 662 = .ok (.iload 8, 2) := by decide +kernel
theorem dL_law_664 : decode cL_law 664 = .ok (.aload_n 1, 1) := by decide +kernel
theorem dL_law_665 : decode cL_law 665 = .ok (.iconst 1, 1) := by decide +kernel
theorem dL_law_666 : decode cL_law 666 = .ok (.invokevirtual 26, 3) := by decide +kernel
theorem dL_law_669 : decode cL_law 669 = .ok (.if_icmp .ge 53, 3) := by decide +kernel
theorem dL_law_672 : decode cL_law 672 = .ok (.iconst 0, 1) := by decide +kernel
theorem dL_law_673 : decode cL_law 673 = .ok (.istore 9, 2) := by decide +kernel
theorem dL_law_675 : decode cL_law 675 = .ok (.iload 9, 2) := by decide +kernel
theorem dL_law_677 : decode cL_law 677 = .ok (.iload_n 2, 1) := by decide +kernel
theorem dL_law_678 : decode cL_law 678 = .ok (.if_icmp .ge 38, 3) := by decide +kernel
theorem dL_law_681 : decode cL_law 681 = .ok (.aload_n 3, 1) := by decide +kernel
theorem dL_law_682 : decode cL_law 682 = .ok (.iload 9, 2) := by decide +kernel
theorem dL_law_684 : decode cL_law 684 = .ok (.baload, 1) := by decide +kernel
theorem dL_law_685 : decode cL_law 685 = .ok (.ifCond .ne 25, 3) := by decide +kernel
theorem dL_law_688 : decode cL_law 688 = .ok (.aload_n 1, 1) := by decide +kernel
theorem dL_law_689 : decode cL_law 689 = .ok (.iload 8, 2) := by decide +kernel
theorem dL_law_691 : decode cL_law 691 = .ok (.iload 9, 2) := by decide +kernel
theorem dL_law_693 : decode cL_law 693 = .ok (.aload_n 1, 1) := by decide +kernel
theorem dL_law_694 : decode cL_law 694 = .ok (.iload 8, 2) := by decide +kernel
theorem dL_law_696 : decode cL_law 696 = .ok (.iload 9, 2) := by decide +kernel
theorem dL_law_698 : decode cL_law 698 = .ok (.iconst 0, 1) := by decide +kernel
theorem dL_law_699 : decode cL_law 699 = .ok (.invokevirtual 73, 3) := by decide +kernel
theorem dL_law_702 : decode cL_law 702 = .ok (.invokevirtual 75, 3) := by decide +kernel
theorem dL_law_705 : decode cL_law 705 = .ok (.ifCond .eq 5, 3) := by decide +kernel
theorem dL_law_708 : decode cL_law 708 = .ok (.iconst 0, 1) := by decide +kernel
theorem dL_law_709 : decode cL_law 709 = .ok (.ireturn, 1) := by decide +kernel
theorem dL_law_710 : decode cL_law 710 = .ok (.iinc 9 1, 3) := by decide +kernel
theorem dL_law_713 : decode cL_law 713 = .ok (.goto (-38), 3) := by decide +kernel
theorem dL_law_716 : decode cL_law 716 = .ok (.iinc 8 1, 3) := by decide +kernel
theorem dL_law_719 : decode cL_law 719 = .ok (.goto (-57), 3) := by decide +kernel
theorem dL_law_722 : decode cL_law 722 = .ok (.aload_n 1, 1) := by decide +kernel
theorem dL_law_723 : decode cL_law 723 = .ok (.invokevirtual 69, 3) := by decide +kernel
theorem dL_law_726 : decode cL_law 726 = .ok (.lload 6, 2) := by decide +kernel
theorem dL_law_728 : decode cL_law 728 = .ok (.lcmp, 1) := by decide +kernel
theorem dL_law_729 : decode cL_law 729 = .ok (.ifCond .ne 7, 3) := by decide +kernel
theorem dL_law_732 : decode cL_law 732 = .ok (.iconst 1, 1) := by decide +kernel
theorem dL_law_733 : decode cL_law 733 = .ok (.goto 4, 3) := by decide +kernel
theorem dL_law_736 : decode cL_law 736 = .ok (.iconst 0, 1) := by decide +kernel
theorem dL_law_737 : decode cL_law 737 = .ok (.ireturn, 1) := by decide +kernel
end
section
set_option maxRecDepth 20000 in
theorem ggL_isLaid_X4_many : GoodIn wsL_isLaid wsX4_many := goodIn_ca (goodIn_r _ [9, 10, 11, 8, 12, 13, 14, 15, 16, 17, 18, 19, 20, 21, 22, 23, 24, 25, 26, 27, 28, 29, 30, 31, 32, 33, 34, 35, 36, 37, 38, 39, 40, 41, 42, 43, 44, 45, 46, 47, 48, 49, 3, 50, 51, 52, 53, 54, 55, 56, 57, 58, 59, 2, 4, 60, 61, 62, 63, 64, 65, 66, 67, 68, 69, 70, 71, 72, 73, 74, 75, 76, 77, 78, 79, 80, 81, 82, 83, 84, 85, 86, 87, 88, 89, 90, 91, 92, 93, 94, 95, 96, 97, 98, 99, 100, 101, 102, 103, 104, 105, 106, 107, 108, 109, 110, 111, 112, 113, 114, 115, 116, 117, 118, 119, 120, 121, 122, 123, 124, 125, 126, 127, 128, 129, 130, 131, 132, 133, 134, 135, 136, 137, 138, 139, 140, 141, 142, 143, 144, 145, 146, 147, 148, 149, 150, 151, 152, 153, 154, 155, 156, 157, 158, 159, 160, 161, 162, 163, 164, 165, 166, 167, 168, 169, 241, 242, 243, 244, 245, 246, 247, 248, 249, 250, 251, 252, 253, 254, 255, 256, 257, 258, 259, 260, 261, 262, 263, 264, 265, 266, 267, 268, 269, 270, 271, 272, 273, 274, 275, 276, 277, 278, 279, 280, 281, 282] (by decide +kernel) (by decide +kernel)) (goodIn_sub (fun _ h => List.mem_cons_of_mem _ (List.mem_append_left _ (List.mem_append_right _ h))) (by decide +kernel))
set_option maxRecDepth 20000 in
theorem gL_isLaid_X4_many : GoodIn wsL_isLaid (wsV RL 26 RX4 yX4_many wsX4_many) := goodIn_app (goodIn_of _ (by decide +kernel)) ggL_isLaid_X4_many
set_option maxRecDepth 20000 in
theorem ggL_isLaid_X4_ofColumn : GoodIn wsL_isLaid wsX4_ofColumn := goodIn_ca (goodIn_ca (goodIn_r _ [173, 174, 175, 176, 8, 177, 178, 179, 20, 10, 11, 12, 13, 14, 15, 16, 17, 18, 19, 21, 22, 23, 24, 25, 26, 27, 28, 29, 30, 31, 32, 33, 34, 35, 36, 37, 38, 39, 40, 41, 42, 43, 44, 45, 46, 47, 48, 49, 3, 50, 51, 52, 53, 54, 55, 56, 57, 58, 59, 2, 4, 60, 61, 62, 63, 64, 65, 66, 67, 68, 69, 70, 71, 72, 73, 74, 75, 76, 77, 78, 79, 80, 81, 82, 83, 84, 85, 86, 87, 88, 89, 90, 91, 92, 93, 94, 95, 96, 97, 98, 99, 100, 101, 102, 103, 104, 105, 106, 107, 108, 109, 110, 111, 112, 113, 114, 115, 116, 117, 118, 119, 120, 121, 122, 123, 124, 125, 126, 127, 128, 129, 130, 131, 132, 133, 134, 135, 136, 137, 138, 139, 140, 141, 142, 143, 144, 180, 181, 182, 183, 149, 150, 151, 152, 184, 185, 186, 187, 241, 242, 243, 244, 245, 246, 247, 248, 249, 250, 251, 252, 253, 254, 255, 256, 257, 258, 259, 260, 261, 262, 263, 264, 265, 266, 267, 268, 269, 270, 271, 272, 273, 274, 275, 276, 277, 278, 279, 280, 281, 282] (by decide +kernel) (by decide +kernel)) (goodIn_sub (fun _ h => List.mem_cons_of_mem _ (List.mem_append_right _ h)) (by decide +kernel))) (goodIn_sub (fun _ h => List.mem_cons_of_mem _ (List.mem_append_left _ (List.mem_append_right _ h))) (by decide +kernel))
set_option maxRecDepth 20000 in
theorem gL_isLaid_X4_ofColumn : GoodIn wsL_isLaid (wsV RL 78 RX4 yX4_ofColumn wsX4_ofColumn) := goodIn_app (goodIn_of _ (by decide +kernel)) ggL_isLaid_X4_ofColumn
set_option maxRecDepth 20000 in
theorem ggL_isLaid_X4_ofPage : GoodIn wsL_isLaid wsX4_ofPage := goodIn_ca (goodIn_ca (goodIn_r _ [191, 15, 16, 17, 8, 18, 19, 20, 21, 22, 23, 24, 25, 26, 27, 28, 29, 30, 31, 32, 33, 34, 35, 36, 37, 38, 39, 40, 41, 42, 43, 44, 45, 46, 47, 48, 49, 3, 50, 51, 52, 53, 54, 55, 56, 57, 58, 59, 2, 4, 60, 61, 62, 63, 64, 65, 66, 67, 68, 69, 70, 71, 72, 73, 74, 75, 76, 77, 78, 79, 80, 81, 82, 83, 84, 85, 86, 87, 88, 89, 90, 91, 92, 93, 94, 95, 96, 97, 98, 99, 100, 101, 102, 103, 104, 105, 106, 107, 108, 109, 110, 111, 112, 113, 114, 115, 116, 117, 118, 119, 120, 121, 122, 123, 124, 125, 126, 127, 128, 129, 130, 131, 132, 133, 134, 135, 136, 137, 138, 139, 140, 141, 142, 143, 144, 192, 193, 194, 195, 178, 179, 149, 150, 151, 152, 10, 11, 12, 13, 14, 196, 197, 198, 199, 200, 201, 202, 203, 204, 205, 206, 241, 242, 243, 244, 245, 246, 247, 248, 249, 250, 251, 252, 253, 254, 255, 256, 257, 258, 259, 260, 261, 262, 263, 264, 265, 266, 267, 268, 269, 270, 271, 272, 273, 274, 275, 276, 277, 278, 279, 280, 281, 282] (by decide +kernel) (by decide +kernel)) (goodIn_sub (fun _ h => List.mem_cons_of_mem _ (List.mem_append_right _ h)) (by decide +kernel))) (goodIn_sub (fun _ h => List.mem_cons_of_mem _ (List.mem_append_left _ (List.mem_append_right _ h))) (by decide +kernel))
set_option maxRecDepth 20000 in
theorem gL_isLaid_X4_ofPage : GoodIn wsL_isLaid (wsV RL 81 RX4 yX4_ofPage wsX4_ofPage) := goodIn_app (goodIn_of _ (by decide +kernel)) ggL_isLaid_X4_ofPage
set_option maxRecDepth 20000 in
theorem ggL_isLaid_X4_ofRow : GoodIn wsL_isLaid wsX4_ofRow := goodIn_ca (goodIn_ca (goodIn_r _ [210, 211, 212, 213, 8, 214, 178, 179, 20, 10, 11, 12, 13, 14, 15, 16, 17, 18, 19, 21, 22, 23, 24, 25, 26, 27, 28, 29, 30, 31, 32, 33, 34, 35, 36, 37, 38, 39, 40, 41, 42, 43, 44, 45, 46, 47, 48, 49, 3, 50, 51, 52, 53, 54, 55, 56, 57, 58, 59, 2, 4, 60, 61, 62, 63, 64, 65, 66, 67, 68, 69, 70, 71, 72, 73, 74, 75, 76, 77, 78, 79, 80, 81, 82, 83, 84, 85, 86, 87, 88, 89, 90, 91, 92, 93, 94, 95, 96, 97, 98, 99, 100, 101, 102, 103, 104, 105, 106, 107, 108, 109, 110, 111, 112, 113, 114, 115, 116, 117, 118, 119, 120, 121, 122, 123, 124, 125, 126, 127, 128, 129, 130, 131, 132, 133, 134, 135, 136, 137, 138, 139, 140, 141, 142, 143, 144, 215, 216, 217, 218, 149, 150, 151, 152, 241, 242, 243, 244, 245, 246, 247, 248, 249, 250, 251, 252, 253, 254, 255, 256, 257, 258, 259, 260, 261, 262, 263, 264, 265, 266, 267, 268, 269, 270, 271, 272, 273, 274, 275, 276, 277, 278, 279, 280, 281, 282] (by decide +kernel) (by decide +kernel)) (goodIn_sub (fun _ h => List.mem_cons_of_mem _ (List.mem_append_right _ h)) (by decide +kernel))) (goodIn_sub (fun _ h => List.mem_cons_of_mem _ (List.mem_append_left _ (List.mem_append_right _ h))) (by decide +kernel))
set_option maxRecDepth 20000 in
theorem gL_isLaid_X4_ofRow : GoodIn wsL_isLaid (wsV RL 84 RX4 yX4_ofRow wsX4_ofRow) := goodIn_app (goodIn_of _ (by decide +kernel)) ggL_isLaid_X4_ofRow
set_option maxRecDepth 20000 in
theorem ggL_isLaid_X4_carried : GoodIn wsL_isLaid wsX4_carried := goodIn_ca (goodIn_r _ [222, 21, 20, 15, 16, 17, 8, 18, 19, 22, 23, 24, 25, 26, 27, 28, 29, 30, 31, 32, 33, 34, 35, 36, 37, 38, 39, 40, 41, 42, 43, 44, 45, 46, 47, 48, 49, 3, 50, 51, 52, 53, 54, 55, 56, 57, 58, 59, 2, 4, 60, 61, 62, 63, 64, 65, 66, 67, 68, 69, 70, 71, 72, 73, 74, 75, 76, 77, 78, 79, 80, 81, 82, 83, 84, 85, 86, 87, 88, 89, 90, 91, 92, 93, 94, 95, 96, 97, 98, 99, 100, 101, 102, 103, 104, 105, 106, 107, 108, 109, 110, 111, 112, 113, 114, 115, 116, 117, 118, 119, 120, 121, 122, 123, 124, 125, 126, 127, 128, 129, 130, 131, 132, 133, 134, 135, 136, 137, 138, 139, 140, 141, 142, 143, 144, 192, 193, 194, 195, 178, 179, 149, 150, 151, 152, 174, 175, 176, 177, 223, 224, 225, 226, 227, 185, 186, 187, 241, 242, 243, 244, 245, 246, 247, 248, 249, 250, 251, 252, 253, 254, 255, 256, 257, 258, 259, 260, 261, 262, 263, 264, 265, 266, 267, 268, 269, 270, 271, 272, 273, 274, 275, 276, 277, 278, 279, 280, 281, 282] (by decide +kernel) (by decide +kernel)) (goodIn_sub (fun _ h => List.mem_cons_of_mem _ (List.mem_append_right _ h)) (by decide +kernel))
set_option maxRecDepth 20000 in
theorem gL_isLaid_X4_carried : GoodIn wsL_isLaid (wsV RL 87 RX4 yX4_carried wsX4_carried) := goodIn_app (goodIn_of _ (by decide +kernel)) ggL_isLaid_X4_carried
set_option maxRecDepth 20000 in
theorem ggL_isLaid_X4_cell : GoodIn wsL_isLaid wsX4_cell := goodIn_ca (goodIn_ca (goodIn_r _ [231, 211, 212, 213, 8, 214, 178, 179, 20, 174, 175, 176, 177, 10, 11, 12, 13, 14, 15, 16, 17, 18, 19, 21, 22, 23, 24, 25, 26, 27, 28, 29, 30, 31, 32, 33, 34, 35, 36, 37, 38, 39, 40, 41, 42, 43, 44, 45, 46, 47, 48, 49, 3, 50, 51, 52, 53, 54, 55, 56, 57, 58, 59, 2, 4, 60, 61, 62, 63, 64, 65, 66, 67, 68, 69, 70, 71, 72, 73, 74, 75, 76, 77, 78, 79, 80, 81, 82, 83, 84, 85, 86, 87, 88, 89, 90, 91, 92, 93, 94, 95, 96, 97, 98, 99, 100, 101, 102, 103, 104, 105, 106, 107, 108, 109, 110, 111, 112, 113, 114, 115, 116, 117, 118, 119, 120, 121, 122, 123, 124, 125, 126, 127, 128, 129, 130, 131, 132, 133, 134, 135, 136, 137, 138, 139, 140, 141, 142, 143, 144, 232, 233, 234, 235, 149, 150, 151, 152, 236, 184, 185, 186, 187, 241, 242, 243, 244, 245, 246, 247, 248, 249, 250, 251, 252, 253, 254, 255, 256, 257, 258, 259, 260, 261, 262, 263, 264, 265, 266, 267, 268, 269, 270, 271, 272, 273, 274, 275, 276, 277, 278, 279, 280, 281, 282] (by decide +kernel) (by decide +kernel)) (goodIn_sub (fun _ h => List.mem_cons_of_mem _ (List.mem_append_right _ h)) (by decide +kernel))) (goodIn_sub (fun _ h => List.mem_cons_of_mem _ (List.mem_append_left _ (List.mem_append_right _ h))) (by decide +kernel))
set_option maxRecDepth 20000 in
theorem gL_isLaid_X4_cell : GoodIn wsL_isLaid (wsV RL 73 RX4 yX4_cell wsX4_cell) := goodIn_app (goodIn_of _ (by decide +kernel)) ggL_isLaid_X4_cell
set_option maxRecDepth 20000 in
theorem ggL_isLaid_L_isTogether : GoodIn wsL_isLaid wsL_isTogether := goodIn_ca (goodIn_ca (goodIn_r _ [240, 207, 208, 209, 8, 210, 211, 212, 213, 214, 178, 179, 20, 10, 11, 12, 13, 14, 15, 16, 17, 18, 19, 21, 22, 23, 24, 25, 26, 27, 28, 29, 30, 31, 32, 33, 34, 35, 36, 37, 38, 39, 40, 41, 42, 43, 44, 45, 46, 47, 48, 49, 3, 50, 51, 52, 53, 54, 55, 56, 57, 58, 59, 2, 4, 60, 61, 62, 63, 64, 65, 66, 67, 68, 69, 70, 71, 72, 73, 74, 75, 76, 77, 78, 79, 80, 81, 82, 83, 84, 85, 86, 87, 88, 89, 90, 91, 92, 93, 94, 95, 96, 97, 98, 99, 100, 101, 102, 103, 104, 105, 106, 107, 108, 109, 110, 111, 112, 113, 114, 115, 116, 117, 118, 119, 120, 121, 122, 123, 124, 125, 126, 127, 128, 129, 130, 131, 132, 133, 134, 135, 136, 137, 138, 139, 140, 141, 142, 143, 144, 215, 216, 217, 218, 149, 150, 151, 152, 188, 189, 190, 191, 192, 193, 194, 195, 196, 197, 198, 199, 200, 201, 202, 203, 204, 205, 206, 241, 242, 243, 244, 245, 246, 247, 248, 249, 250, 251, 252, 253, 254, 255, 256, 257, 258, 259, 260, 261, 262, 263, 264, 265, 266, 267, 268, 269, 270, 271, 272, 273, 274, 275, 276, 277, 278, 279, 280, 281, 282] (by decide +kernel) (by decide +kernel)) (goodIn_sub (fun _ h => List.mem_cons_of_mem _ (List.mem_append_right _ h)) (by decide +kernel))) (goodIn_sub (fun _ h => List.mem_cons_of_mem _ (List.mem_append_left _ (List.mem_append_right _ h))) (by decide +kernel))
set_option maxRecDepth 20000 in
theorem gL_isLaid_L_isTogether : GoodIn wsL_isLaid (va_wsS RL 93 yL_isTogether wsL_isTogether) := goodIn_app (goodIn_of _ (by decide +kernel)) ggL_isLaid_L_isTogether
theorem dL_isLaid_0 : decode cL_isLaid 0 = .ok (.aload_n 0, 1) := by decide +kernel
theorem dL_isLaid_1 : decode cL_isLaid 1 = .ok (.iconst 0, 1) := by decide +kernel
theorem dL_isLaid_2 : decode cL_isLaid 2 = .ok (.invokevirtual 26, 3) := by decide +kernel
theorem dL_isLaid_5 : decode cL_isLaid 5 = .ok (.istore 5, 2) := by decide +kernel
theorem dL_isLaid_7 : decode cL_isLaid 7 = .ok (.aload_n 0, 1) := by decide +kernel
theorem dL_isLaid_8 : decode cL_isLaid 8 = .ok (.iconst 1, 1) := by decide +kernel
theorem dL_isLaid_9 : decode cL_isLaid 9 = .ok (.invokevirtual 26, 3) := by decide +kernel
theorem dL_isLaid_12 : decode cL_isLaid 12 = .ok (.istore 6, 2) := by decide +kernel
theorem dL_isLaid_14 : decode cL_isLaid 14 = .ok (.aload_n 0, 1) := by decide +kernel
theorem dL_isLaid_15 : decode cL_isLaid 15 = .ok (.iconst 2, 1) := by decide +kernel
theorem dL_isLaid_16 : decode cL_isLaid 16 = .ok (.invokevirtual 26, 3) := by decide +kernel
theorem dL_isLaid_19 : decode cL_isLaid 19 = .ok (.istore 7, 2) := by decide +kernel
theorem dL_isLaid_21 : decode cL_isLaid 21 = .ok (.iload 5, 2) := by decide +kernel
theorem dL_isLaid_23 : decode cL_isLaid 23 = .ok (.iconst 1, 1) := by decide +kernel
theorem dL_isLaid_24 : decode cL_isLaid 24 = .ok (.isub, 1) := by decide +kernel
theorem dL_isLaid_25 : decode cL_isLaid 25 = .ok (.istore 8, 2) := by decide +kernel
theorem dL_isLaid_27 : decode cL_isLaid 27 = .ok (.iconst 0, 1) := by decide +kernel
theorem dL_isLaid_28 : decode cL_isLaid 28 = .ok (.istore 9, 2) := by decide +kernel
theorem dL_isLaid_30 : decode cL_isLaid 30 = .ok (.iload 9, 2) := by decide +kernel
theorem dL_isLaid_32 : decode cL_isLaid 32 = .ok (.iload 5, 2) := by decide +kernel
theorem dL_isLaid_34 : decode cL_isLaid 34 = .ok (.if_icmp .ge 51, 3) := by decide +kernel
theorem dL_isLaid_37 : decode cL_isLaid 37 = .ok (.aload_n 0, 1) := by decide +kernel
theorem dL_isLaid_38 : decode cL_isLaid 38 = .ok (.iload 9, 2) := by decide +kernel
theorem dL_isLaid_40 : decode cL_isLaid 40 = .ok (.iconst 3, 1) := by decide +kernel
theorem dL_isLaid_41 : decode cL_isLaid 41 = .ok (.invokevirtual 78, 3) := by decide +kernel
theorem dL_isLaid_44 : decode cL_isLaid 44 = .ok (.istore 10, 2) := by decide +kernel
theorem dL_isLaid_46 : decode cL_isLaid 46 = .ok (.iload 10, 2) := by decide +kernel
theorem dL_isLaid_48 : decode cL_isLaid 48 = .ok (.aload_n 0, 1) := by decide +kernel
theorem dL_isLaid_49 : decode cL_isLaid 49 = .ok (.iload 9, 2) := by decide +kernel
theorem dL_isLaid_51 : decode cL_isLaid 51 = .ok (.iconst 1, 1) := by decide +kernel
theorem dL_isLaid_52 : decode cL_isLaid 52 = .ok (.invokevirtual 78, 3) := by decide +kernel
theorem dL_isLaid_55 : decode cL_isLaid 55 = .ok (.if_icmp .lt 15, 3) := by decide +kernel
theorem dL_isLaid_58 : decode cL_isLaid 58 = .ok (.iload 10, 2) := by decide +kernel
theorem dL_isLaid_60 : decode cL_isLaid 60 = .ok (.aload_n 0, 1) := by decide +kernel
theorem dL_isLaid_61 : decode cL_isLaid 61 = .ok (.iload 9, 2) := by decide +kernel
theorem dL_isLaid_63 : decode cL_isLaid 63 = .ok (.iconst 2, 1) := by decide +kernel
theorem dL_isLaid_64 : decode cL_isLaid 64 = .ok (.invokevirtual 78, 3) := by decide +kernel
theorem dL_isLaid_67 : decode cL_isLaid 67 = .ok (.if_icmp .le 5, 3) := by decide +kernel
theorem dL_isLaid_70 : decode cL_isLaid 70 = .ok (.iconst 0, 1) := by decide +kernel
theorem dL_isLaid_71 : decode cL_isLaid 71 = .ok (.ireturn, 1) := by decide +kernel
theorem dL_isLaid_72 : decode cL_isLaid 72 = .ok (.iload 8, 2) := by decide +kernel
theorem dL_isLaid_74 : decode cL_isLaid 74 = .ok (.iload 10, 2) := by decide +kernel
theorem dL_isLaid_76 : decode cL_isLaid 76 = .ok (.iadd, 1) := by decide +kernel
theorem dL_isLaid_77 : decode cL_isLaid 77 = .ok (.istore 8, 2) := by decide +kernel
theorem dL_isLaid_79 : decode cL_isLaid 79 = .ok (.iinc 9 1, 3) := by decide +kernel
theorem dL_isLaid_82 : decode cL_isLaid 82 = .ok (.goto (-52), 3) := by decide +kernel
theorem dL_isLaid_85 : decode cL_isLaid 85 = .ok (.iload 8, 2) := by decide +kernel
theorem dL_isLaid_87 : decode cL_isLaid 87 = .ok (.aload_n 0, 1) := by decide +kernel
theorem dL_isLaid_88 : decode cL_isLaid 88 = .ok (.iconst 4, 1) := by decide +kernel
theorem dL_isLaid_89 : decode cL_isLaid 89 = .ok (.invokevirtual 26, 3) := by decide +kernel
theorem dL_isLaid_92 : decode cL_isLaid 92 = .ok (.if_icmp .ne 9, 3) := by decide +kernel
theorem dL_isLaid_95 : decode cL_isLaid 95 = .ok (.iload 8, 2) := by decide +kernel
theorem dL_isLaid_97 : decode cL_isLaid 97 = .ok (.iload_n 1, 1) := by decide +kernel
theorem dL_isLaid_98 : decode cL_isLaid 98 = .ok (.if_icmp .le 5, 3) := by decide +kernel
theorem dL_isLaid_101 : decode cL_isLaid 101 = .ok (.iconst 0, 1) := by decide +kernel
theorem dL_isLaid_102 : decode cL_isLaid 102 = .ok (.ireturn, 1) := by decide +kernel
theorem dL_isLaid_103 : decode cL_isLaid 103 = .ok (.iconst 0, 1) := by decide +kernel
theorem dL_isLaid_104 : decode cL_isLaid 104 = .ok (.istore 9, 2) := by decide +kernel
theorem dL_isLaid_106 : decode cL_isLaid 106 = .ok (.iconst 0, 1) := by decide +kernel
theorem dL_isLaid_107 : decode cL_isLaid 107 = .ok (.istore 10, 2) := by decide +kernel
theorem dL_isLaid_109 : decode cL_isLaid 109 = .ok (.iconst 0, 1) := by decide +kernel
theorem dL_isLaid_110 : decode cL_isLaid 110 = .ok (.istore 11, 2) := by decide +kernel
theorem dL_isLaid_112 : decode cL_isLaid 112 = .ok (.iconst 0, 1) := by decide +kernel
theorem dL_isLaid_113 : decode cL_isLaid 113 = .ok (.istore 12, 2) := by decide +kernel
theorem dL_isLaid_115 : decode cL_isLaid 115 = .ok (.iload 12, 2) := by decide +kernel
theorem dL_isLaid_117 : decode cL_isLaid 117 = .ok (.iload 7, 2) := by decide +kernel
theorem dL_isLaid_119 : decode cL_isLaid 119 = .ok (.if_icmp .ge 260, 3) := by decide +kernel
theorem dL_isLaid_122 : decode cL_isLaid 122 = .ok (.aload_n 0, 1) := by decide +kernel
theorem dL_isLaid_123 : decode cL_isLaid 123 = .ok (.iload 12, 2) := by decide +kernel
theorem dL_isLaid_125 : decode cL_isLaid 125 = .ok (.iconst 1, 1) := by decide +kernel
theorem dL_isLaid_126 : decode cL_isLaid 126 = .ok (.invokevirtual 81, 3) := by decide +kernel
theorem dL_isLaid_129 : decode cL_isLaid 129 = .ok (.istore 13, 2) := by decide +kernel
theorem dL_isLaid_131 : decode cL_isLaid 131 = .ok (.aload_n 0, 1) := by decide +kernel
theorem dL_isLaid_132 : decode cL_isLaid 132 = .ok (.iload 12, 2) := by decide +kernel
theorem dL_isLaid_134 : decode cL_isLaid 134 = .ok (.iconst 3, 1) := by decide +kernel
theorem dL_isLaid_135 : decode cL_isLaid 135 = .ok (.invokevirtual 81, 3) := by decide +kernel
theorem dL_isLaid_138 : decode cL_isLaid 138 = .ok (.istore 14, 2) := by decide +kernel
theorem dL_isLaid_140 : decode cL_isLaid 140 = .ok (.iload 13, 2) := by decide +kernel
theorem dL_isLaid_142 : decode cL_isLaid 142 = .ok (.ifCond .le 15, 3) := by decide +kernel
theorem dL_isLaid_145 : decode cL_isLaid 145 = .ok (.aload_n 0, 1) := by decide +kernel
theorem dL_isLaid_146 : decode cL_isLaid 146 = .ok (.iload 12, 2) := by decide +kernel
theorem dL_isLaid_148 : decode cL_isLaid 148 = .ok (.iconst 0, 1) := by decide +kernel
theorem dL_isLaid_149 : decode cL_isLaid 149 = .ok (.invokevirtual 81, 3) := by decide +kernel
theorem dL_isLaid_152 : decode cL_isLaid 152 = .ok (.iload 9, 2) := by decide +kernel
theorem dL_isLaid_154 : decode cL_isLaid 154 = .ok (.if_icmp .ne 21, 3) := by decide +kernel
theorem dL_isLaid_157 : decode cL_isLaid 157 = .ok (.iload 13, 2) := by decide +kernel
theorem dL_isLaid_159 : decode cL_isLaid 159 = .ok (.aload_n 0, 1) := by decide +kernel
theorem dL_isLaid_160 : decode cL_isLaid 160 = .ok (.iload 12, 2) := by decide +kernel
theorem dL_isLaid_162 : decode cL_isLaid 162 = .ok (.iconst 2, 1) := by decide +kernel
theorem dL_isLaid_163 : decode cL_isLaid 163 = .ok (.invokevirtual 81, 3) := by decide +kernel
theorem dL_isLaid_166 : decode cL_isLaid 166 = .ok (.iadd, 1) := by decide +kernel
theorem dL_isLaid_167 : decode cL_isLaid 167 = .ok (.ifCond .eq 8, 3) := by decide +kernel
theorem dL_isLaid_170 : decode cL_isLaid 170 = .ok (.iload 14, 2) := by decide +kernel
theorem dL_isLaid_172 : decode cL_isLaid 172 = .ok (.ifCond .ge 5, 3) := by decide +kernel
theorem dL_isLaid_175 : decode cL_isLaid 175 = .ok (.iconst 0, 1) := by decide +kernel
theorem dL_isLaid_176 : decode cL_isLaid 176 = .ok (.ireturn, 1) := by decide +kernel
theorem dL_isLaid_177 : decode cL_isLaid 177 = .ok (.iload 9, 2) := by decide +kernel
theorem dL_isLaid_179 : decode cL_isLaid 179 = .ok (.istore 15, 2) := by decide +kernel
theorem dL_isLaid_181 : decode cL_isLaid 181 = .ok (.iload 15, 2) := by decide +kernel
theorem dL_isLaid_183 : decode cL_isLaid 183 = .ok (.iload 9, 2) := by decide +kernel
theorem dL_isLaid_185 : decode cL_isLaid 185 = .ok (.iload 13, 2) := by decide +kernel
theorem dL_isLaid_187 : decode cL_isLaid 187 = .ok (.iadd, 1) := by decide +kernel
theorem dL_isLaid_188 : decode cL_isLaid 188 = .ok (.if_icmp .ge 58, 3) := by decide +kernel
theorem dL_isLaid_191 : decode cL_isLaid 191 = .ok (.aload_n 0, 1) := by decide +kernel
theorem dL_isLaid_192 : decode cL_isLaid 192 = .ok (.iload 15, 2) := by decide +kernel
theorem dL_isLaid_194 : decode cL_isLaid 194 = .ok (.iconst 1, 1) := by decide +kernel
theorem dL_isLaid_195 : decode cL_isLaid 195 = .ok (.invokevirtual 84, 3) := by decide +kernel
theorem dL_isLaid_198 : decode cL_isLaid 198 = .ok (.iload 12, 2) := by decide +kernel
theorem dL_isLaid_200 : decode cL_isLaid 200 = .ok (.if_icmp .ne 14, 3) := by decide +kernel
theorem dL_isLaid_203 : decode cL_isLaid 203 = .ok (.aload_n 0, 1) := by decide +kernel
theorem dL_isLaid_204 : decode cL_isLaid 204 = .ok (.iload 15, 2) := by decide +kernel
theorem dL_isLaid_206 : decode cL_isLaid 206 = .ok (.iconst 0, 1) := by decide +kernel
theorem dL_isLaid_207 : decode cL_isLaid 207 = .ok (.invokevirtual 84, 3) := by decide +kernel
theorem dL_isLaid_210 : decode cL_isLaid 210 = .ok (.iconst 1, 1) := by decide +kernel
theorem dL_isLaid_211 : decode cL_isLaid 211 = .ok (.if_icmp .ge 5, 3) := by decide +kernel
theorem dL_isLaid_214 : decode cL_isLaid 214 = .ok (.iconst 0, 1) := by decide +kernel
theorem dL_isLaid_215 : decode cL_isLaid 215 = .ok (.ireturn, 1) := by decide +kernel
theorem dL_isLaid_216 : decode cL_isLaid 216 = .ok (.iload 14, 2) := by decide +kernel
theorem dL_isLaid_218 : decode cL_isLaid 218 = .ok (.aload_n 0, 1) := by decide +kernel
theorem dL_isLaid_219 : decode cL_isLaid 219 = .ok (.iload 15, 2) := by decide +kernel
theorem dL_isLaid_221 : decode cL_isLaid 221 = .ok (.iconst 0, 1) := by decide +kernel
theorem dL_isLaid_222 : decode cL_isLaid 222 = .ok (.invokevirtual 84, 3) := by decide +kernel
theorem dL_isLaid_225 : decode cL_isLaid 225 = .ok (.iadd, 1) := by decide +kernel
theorem dL_isLaid_226 : decode cL_isLaid 226 = .ok (.istore 14, 2) := by decide +kernel
theorem dL_isLaid_228 : decode cL_isLaid 228 = .ok (.iload 10, 2) := by decide +kernel
theorem dL_isLaid_230 : decode cL_isLaid 230 = .ok (.aload_n 0, 1) := by decide +kernel
theorem dL_isLaid_231 : decode cL_isLaid 231 = .ok (.iload 15, 2) := by decide +kernel
theorem dL_isLaid_233 : decode cL_isLaid 233 = .ok (.iconst 0, 1) := by decide +kernel
theorem dL_isLaid_234 : decode cL_isLaid 234 = .ok (.invokevirtual 84, 3) := by decide +kernel
theorem dL_isLaid_237 : decode cL_isLaid 237 = .ok (.iadd, 1) := by decide +kernel
theorem dL_isLaid_238 : decode cL_isLaid 238 = .ok (.istore 10, 2) := by decide +kernel
theorem dL_isLaid_240 : decode cL_isLaid 240 = .ok (.iinc 15 1, 3) := by decide +kernel
theorem dL_isLaid_243 : decode cL_isLaid 243 = .ok (.goto (-62), 3) := by decide +kernel
theorem dL_isLaid_246 : decode cL_isLaid 246 = .ok (.iload 9, 2) := by decide +kernel
theorem dL_isLaid_248 : decode cL_isLaid 248 = .ok (.iload 13, 2) := by decide +kernel
theorem dL_isLaid_250 : decode cL_isLaid 250 = .ok (.iadd, 1) := by decide +kernel
theorem dL_isLaid_251 : decode cL_isLaid 251 = .ok (.istore 9, 2) := by decide +kernel
theorem dL_isLaid_253 : decode cL_isLaid 253 = .ok (.iconst 0, 1) := by decide +kernel
theorem dL_isLaid_254 : decode cL_isLaid 254 = .ok (.istore 15, 2) := by decide +kernel
theorem dL_isLaid_256 : decode cL_isLaid 256 = .ok (.iconst 0, 1) := by decide +kernel
theorem dL_isLaid_257 : decode cL_isLaid 257 = .ok (.istore 16, 2) := by decide +kernel
theorem dL_isLaid_259 : decode cL_isLaid 259 = .ok (.iload 16, 2) := by decide +kernel
theorem dL_isLaid_261 : decode cL_isLaid 261 = .ok (.iload 6, 2) := by decide +kernel
theorem dL_isLaid_263 : decode cL_isLaid 263 = .ok (.if_icmp .ge 43, 3) := by decide +kernel
theorem dL_isLaid_266 : decode cL_isLaid 266 = .ok (.aload_n 3, 1) := by decide +kernel
theorem dL_isLaid_267 : decode cL_isLaid 267 = .ok (.iload 16, 2) := by decide +kernel
theorem dL_isLaid_269 : decode cL_isLaid 269 = .ok (.iaload, 1) := by decide +kernel
theorem dL_isLaid_270 : decode cL_isLaid 270 = .ok (.ifCond .eq 30, 3) := by decide +kernel
theorem dL_isLaid_273 : decode cL_isLaid 273 = .ok (.aload_n 0, 1) := by decide +kernel
theorem dL_isLaid_274 : decode cL_isLaid 274 = .ok (.iload 16, 2) := by decide +kernel
theorem dL_isLaid_276 : decode cL_isLaid 276 = .ok (.iconst 2, 1) := by decide +kernel
theorem dL_isLaid_277 : decode cL_isLaid 277 = .ok (.invokevirtual 84, 3) := by decide +kernel
theorem dL_isLaid_280 : decode cL_isLaid 280 = .ok (.iload 12, 2) := by decide +kernel
theorem dL_isLaid_282 : decode cL_isLaid 282 = .ok (.if_icmp .eq 6, 3) := by decide +kernel
theorem dL_isLaid_285 : decode cL_isLaid 285 = .ok (.goto 15, 3) := by decide +kernel
theorem dL_isLaid_288 : decode cL_isLaid 288 = .ok (.iload 14, 2) := by decide +kernel
theorem dL_isLaid_290 : decode cL_isLaid 290 = .ok (.aload_n 3, 1) := by decide +kernel
theorem dL_isLaid_291 : decode cL_isLaid 291 = .ok (.iload 16, 2) := by decide +kernel
theorem dL_isLaid_293 : decode cL_isLaid 293 = .ok (.iaload, 1) := by decide +kernel
theorem dL_isLaid_294 : decode cL_isLaid 294 = .ok (.iadd, 1) := by decide +kernel
theorem dL_isLaid_295 : decode cL_isLaid 295 = .ok (.istore 14, 2) := by decide +kernel
theorem dL_isLaid_297 : decode cL_isLaid 297 = .ok (.iinc 15 1, 3) := by decide +kernel
theorem dL_isLaid_300 : decode cL_isLaid 300 = .ok (.iinc 16 1, 3) := by decide +kernel
theorem dL_isLaid_303 : decode cL_isLaid 303 = .ok (.goto (-44), 3) := by decide +kernel
theorem dL_isLaid_306 : decode cL_isLaid 306 = .ok (.iload 11, 2) := by decide +kernel
theorem dL_isLaid_308 : decode cL_isLaid 308 = .ok (.iload 15, 2) := by decide +kernel
theorem dL_isLaid_310 : decode cL_isLaid 310 = .ok (.iadd, 1) := by decide +kernel
theorem dL_isLaid_311 : decode cL_isLaid 311 = .ok (.istore 11, 2) := by decide +kernel
theorem dL_isLaid_313 : decode cL_isLaid 313 = .ok (.iload 14, 2) := by decide +kernel
theorem dL_isLaid_315 : decode cL_isLaid 315 = .ok (.iload_n 2, 1) := by decide +kernel
theorem dL_isLaid_316 : decode cL_isLaid 316 = .ok (.if_icmp .ne 15, 3) := by decide +kernel
theorem dL_isLaid_319 : decode cL_isLaid 319 = .ok (.iload 15, 2) := by decide +kernel
theorem dL_isLaid_321 : decode cL_isLaid 321 = .ok (.aload_n 0, 1) := by decide +kernel
theorem dL_isLaid_322 : decode cL_isLaid 322 = .ok (.iload 12, 2) := by decide +kernel
theorem dL_isLaid_324 : decode cL_isLaid 324 = .ok (.iconst 2, 1) := by decide +kernel
theorem dL_isLaid_325 : decode cL_isLaid 325 = .ok (.invokevirtual 81, 3) := by decide +kernel
theorem dL_isLaid_328 : decode cL_isLaid 328 = .ok (.if_icmp .eq 5, 3) := by decide +kernel
theorem dL_isLaid_331 : decode cL_isLaid 331 = .ok (.iconst 0, 1) := by decide +kernel
theorem dL_isLaid_332 : decode cL_isLaid 332 = .ok (.ireturn, 1) := by decide +kernel
theorem dL_isLaid_333 : decode cL_isLaid 333 = .ok (.iconst 0, 1) := by decide +kernel
theorem dL_isLaid_334 : decode cL_isLaid 334 = .ok (.istore 16, 2) := by decide +kernel
theorem dL_isLaid_336 : decode cL_isLaid 336 = .ok (.iload 16, 2) := by decide +kernel
theorem dL_isLaid_338 : decode cL_isLaid 338 = .ok (.iload 5, 2) := by decide +kernel
theorem dL_isLaid_340 : decode cL_isLaid 340 = .ok (.if_icmp .ge 33, 3) := by decide +kernel
theorem dL_isLaid_343 : decode cL_isLaid 343 = .ok (.aload_n 0, 1) := by decide +kernel
theorem dL_isLaid_344 : decode cL_isLaid 344 = .ok (.iload 12, 2) := by decide +kernel
theorem dL_isLaid_346 : decode cL_isLaid 346 = .ok (.iload 16, 2) := by decide +kernel
theorem dL_isLaid_348 : decode cL_isLaid 348 = .ok (.invokevirtual 87, 3) := by decide +kernel
theorem dL_isLaid_351 : decode cL_isLaid 351 = .ok (.aload_n 0, 1) := by decide +kernel
theorem dL_isLaid_352 : decode cL_isLaid 352 = .ok (.iload 9, 2) := by decide +kernel
theorem dL_isLaid_354 : decode cL_isLaid 354 = .ok (.iconst 1, 1) := by decide +kernel
theorem dL_isLaid_355 : decode cL_isLaid 355 = .ok (.isub, 1) := by decide +kernel
theorem dL_isLaid_356 : decode cL_isLaid 356 = .ok (.iload 16, 2) := by decide +kernel
theorem dL_isLaid_358 : decode cL_isLaid 358 = .ok (.iconst 3, 1) := by decide +kernel
theorem dL_isLaid_359 : decode cL_isLaid 359 = .ok (.invokevirtual 73, 3) := by decide +kernel
theorem dL_isLaid_362 : decode cL_isLaid 362 = .ok (.if_icmp .eq 5, 3) := by decide +kernel
theorem dL_isLaid_365 : decode cL_isLaid 365 = .ok (.iconst 0, 1) := by decide +kernel
theorem dL_isLaid_366 : decode cL_isLaid 366 = .ok (.ireturn, 1) := by decide +kernel
theorem dL_isLaid_367 : decode cL_isLaid 367 = .ok (.iinc 16 1, 3) := by decide +kernel
theorem dL_isLaid_370 : decode cL_isLaid 370 = .ok (.goto (-34), 3) := by decide +kernel
theorem dL_isLaid_373 : decode cL_isLaid 373 = .ok (.iinc 12 1, 3) := by decide +kernel
theorem dL_isLaid_376 : decode cL_isLaid 376 = .ok (.goto (-261), 3) := by decide +kernel
theorem dL_isLaid_379 : decode cL_isLaid 379 = .ok (.iconst 0, 1) := by decide +kernel
theorem dL_isLaid_380 : decode cL_isLaid 380 = .ok (.istore 12, 2) := by decide +kernel
theorem dL_isLaid_382 : decode cL_isLaid 382 = .ok (.iconst 0, 1) := by decide +kernel
theorem dL_isLaid_383 : decode cL_isLaid 383 = .ok (.istore 13, 2) := by decide +kernel
theorem dL_isLaid_385 : decode cL_isLaid 385 = .ok (.iload 13, 2) := by decide +kernel
theorem dL_isLaid_387 : decode cL_isLaid 387 = .ok (.iload 6, 2) := by decide +kernel
theorem dL_isLaid_389 : decode cL_isLaid 389 = .ok (.if_icmp .ge 97, 3) := by decide +kernel
theorem dL_isLaid_392 : decode cL_isLaid 392 = .ok (.aload_n 0, 1) := by decide +kernel
theorem dL_isLaid_393 : decode cL_isLaid 393 = .ok (.iload 13, 2) := by decide +kernel
theorem dL_isLaid_395 : decode cL_isLaid 395 = .ok (.iconst 2, 1) := by decide +kernel
theorem dL_isLaid_396 : decode cL_isLaid 396 = .ok (.invokevirtual 84, 3) := by decide +kernel
theorem dL_isLaid_399 : decode cL_isLaid 399 = .ok (.istore 14, 2) := by decide +kernel
theorem dL_isLaid_401 : decode cL_isLaid 401 = .ok (.aload_n 3, 1) := by decide +kernel
theorem dL_isLaid_402 : decode cL_isLaid 402 = .ok (.iload 13, 2) := by decide +kernel
theorem dL_isLaid_404 : decode cL_isLaid 404 = .ok (.iaload, 1) := by decide +kernel
theorem dL_isLaid_405 : decode cL_isLaid 405 = .ok (.ifCond .ne 7, 3) := by decide +kernel
theorem dL_isLaid_408 : decode cL_isLaid 408 = .ok (.iconst 1, 1) := by decide +kernel
theorem dL_isLaid_409 : decode cL_isLaid 409 = .ok (.goto 4, 3) := by decide +kernel
theorem dL_isLaid_412 : decode cL_isLaid 412 = .ok (.iconst 0, 1) := by decide +kernel
theorem dL_isLaid_413 : decode cL_isLaid 413 = .ok (.iload 14, 2) := by decide +kernel
theorem dL_isLaid_415 : decode cL_isLaid 415 = .ok (.ifCond .ge 7, 3) := by decide +kernel
theorem dL_isLaid_418 : decode cL_isLaid 418 = .ok (.iconst 1, 1) := by decide +kernel
theorem dL_isLaid_419 : decode cL_isLaid 419 = .ok (.goto 4, 3) := by decide +kernel
theorem dL_isLaid_422 : decode cL_isLaid 422 = .ok (.iconst 0, 1) := by decide +kernel
theorem dL_isLaid_423 : decode cL_isLaid 423 = .ok (.if_icmp .ne 29, 3) := by decide +kernel
theorem dL_isLaid_426 : decode cL_isLaid 426 = .ok (.aload_n 3, 1) := by decide +kernel
theorem dL_isLaid_427 : decode cL_isLaid 427 = .ok (.iload 13, 2) := by decide +kernel
theorem dL_isLaid_429 : decode cL_isLaid 429 = .ok (.iaload, 1) := by decide +kernel
theorem dL_isLaid_430 : decode cL_isLaid 430 = .ok (.ifCond .le 24, 3) := by decide +kernel
theorem dL_isLaid_433 : decode cL_isLaid 433 = .ok (.iload 14, 2) := by decide +kernel
theorem dL_isLaid_435 : decode cL_isLaid 435 = .ok (.aload_n 0, 1) := by decide +kernel
theorem dL_isLaid_436 : decode cL_isLaid 436 = .ok (.iload 13, 2) := by decide +kernel
theorem dL_isLaid_438 : decode cL_isLaid 438 = .ok (.iconst 1, 1) := by decide +kernel
theorem dL_isLaid_439 : decode cL_isLaid 439 = .ok (.invokevirtual 84, 3) := by decide +kernel
theorem dL_isLaid_442 : decode cL_isLaid 442 = .ok (.if_icmp .lt 10, 3) := by decide +kernel
theorem dL_isLaid_445 : decode cL_isLaid 445 = .ok (.iload 14, 2) := by decide +kernel
theorem dL_isLaid_447 : decode cL_isLaid 447 = .ok (.iload 12, 2) := by decide +kernel
theorem dL_isLaid_449 : decode cL_isLaid 449 = .ok (.if_icmp .ge 5, 3) := by decide +kernel
theorem dL_isLaid_452 : decode cL_isLaid 452 = .ok (.iconst 0, 1) := by decide +kernel
theorem dL_isLaid_453 : decode cL_isLaid 453 = .ok (.ireturn, 1) := by decide +kernel
theorem dL_isLaid_454 : decode cL_isLaid 454 = .ok (.iload 12, 2) := by decide +kernel
theorem dL_isLaid_456 : decode cL_isLaid 456 = .ok (.iload 14, 2) := by decide +kernel
theorem dL_isLaid_458 : decode cL_isLaid 458 = .ok (.invokestatic 90, 3) := by decide +kernel
theorem dL_isLaid_461 : decode cL_isLaid 461 = .ok (.istore 12, 2) := by decide +kernel
theorem dL_isLaid_463 : decode cL_isLaid 463 = .ok (.aload_n 0, 1) := by decide +kernel
theorem dL_isLaid_464 : decode cL_isLaid 464 = .ok (.iload 13, 2) := by decide +kernel
theorem dL_isLaid_466 : decode cL_isLaid 466 = .ok (.iload 6, 2) := by decide +kernel
theorem dL_isLaid_468 : decode cL_isLaid 468 = .ok (.iload_n 2, 1) := by decide +kernel
theorem dL_isLaid_469 : decode cL_isLaid 469 = .ok (.aload_n 3, 1) := by decide +kernel
theorem dL_isLaid_470 : decode cL_isLaid 470 = .ok (.aload 4, 2) := by decide +kernel
theorem dL_isLaid_472 : decode cL_isLaid 472 = .ok (.invokestatic 93, 3) := by decide +kernel
theorem dL_isLaid_475 : decode cL_isLaid 475 = .ok (.ifCond .ne 5, 3) := by decide +kernel
theorem dL_isLaid_478 : decode cL_isLaid 478 = .ok (.iconst 0, 1) := by decide +kernel
theorem dL_isLaid_479 : decode cL_isLaid 479 = .ok (.ireturn, 1) := by decide +kernel
theorem dL_isLaid_480 : decode cL_isLaid 480 = .ok (.iinc 13 1, 3) := by decide +kernel
theorem dL_isLaid_483 : decode cL_isLaid 483 = .ok (.goto (-98), 3) := by decide +kernel
theorem dL_isLaid_486 : decode cL_isLaid 486 = .ok (.iconst 0, 1) := by decide +kernel
theorem dL_isLaid_487 : decode cL_isLaid 487 = .ok (.istore 13, 2) := by decide +kernel
theorem dL_isLaid_489 : decode cL_isLaid 489 = .ok (.iload 13, 2) := by decide +kernel
theorem dL_isLaid_491 : decode cL_isLaid 491 = .ok (.iload 6, 2) := by decide +kernel
theorem dL_isLaid_493 : decode cL_isLaid 493 = .ok (.if_icmp .ge 26, 3) := by decide +kernel
theorem dL_isLaid_496 : decode cL_isLaid 496 = .ok (.iload 11, 2) := by decide +kernel
theorem dL_isLaid_498 : decode cL_isLaid 498 = .ok (.aload_n 3, 1) := by decide +kernel
theorem dL_isLaid_499 : decode cL_isLaid 499 = .ok (.iload 13, 2) := by decide +kernel
theorem dL_isLaid_501 : decode cL_isLaid 501 = .ok (.iaload, 1) := by decide +kernel
theorem dL_isLaid_502 : decode cL_isLaid 502 = .ok (.ifCond .le 7, 3) := by decide +kernel
theorem dL_isLaid_505 : decode cL_isLaid 505 = .ok (.iconst 1, 1) := by decide +kernel
theorem dL_isLaid_506 : decode cL_isLaid 506 = .ok (.goto 4, 3) := by decide +kernel
theorem dL_isLaid_509 : decode cL_isLaid 509 = .ok (.iconst 0, 1) := by decide +kernel
theorem dL_isLaid_510 : decode cL_isLaid 510 = .ok (.isub, 1) := by decide +kernel
theorem dL_isLaid_511 : decode cL_isLaid 511 = .ok (.istore 11, 2) := by decide +kernel
theorem dL_isLaid_513 : decode cL_isLaid 513 = .ok (.iinc 13 1, 3) := by decide +kernel
theorem dL_isLaid_516 : decode cL_isLaid 516 = .ok (.goto (-27), 3) := by decide +kernel
theorem dL_isLaid_519 : decode cL_isLaid 519 = .ok (.iload 9, 2) := by decide +kernel
theorem dL_isLaid_521 : decode cL_isLaid 521 = .ok (.iload 6, 2) := by decide +kernel
theorem dL_isLaid_523 : decode cL_isLaid 523 = .ok (.if_icmp .ne 22, 3) := by decide +kernel
theorem dL_isLaid_526 : decode cL_isLaid 526 = .ok (.iload 10, 2) := by decide +kernel
theorem dL_isLaid_528 : decode cL_isLaid 528 = .ok (.aload_n 0, 1) := by decide +kernel
theorem dL_isLaid_529 : decode cL_isLaid 529 = .ok (.iconst 5, 1) := by decide +kernel
theorem dL_isLaid_530 : decode cL_isLaid 530 = .ok (.invokevirtual 26, 3) := by decide +kernel
theorem dL_isLaid_533 : decode cL_isLaid 533 = .ok (.if_icmp .ne 12, 3) := by decide +kernel
theorem dL_isLaid_536 : decode cL_isLaid 536 = .ok (.iload 11, 2) := by decide +kernel
theorem dL_isLaid_538 : decode cL_isLaid 538 = .ok (.ifCond .ne 7, 3) := by decide +kernel
theorem dL_isLaid_541 : decode cL_isLaid 541 = .ok (.iconst 1, 1) := by decide +kernel
theorem dL_isLaid_542 : decode cL_isLaid 542 = .ok (.goto 4, 3) := by decide +kernel
theorem dL_isLaid_545 : decode cL_isLaid 545 = .ok (.iconst 0, 1) := by decide +kernel
theorem dL_isLaid_546 : decode cL_isLaid 546 = .ok (.ireturn, 1) := by decide +kernel
end
section
set_option maxRecDepth 20000 in
theorem ggL_isTogether_X4_ofRow : GoodIn wsL_isTogether wsX4_ofRow := goodIn_ca (goodIn_ca (goodIn_r _ [5, 6, 7, 8, 4, 9, 10, 11, 12, 13, 14, 15, 16, 17, 18, 19, 20, 21, 22, 23, 24, 25, 26, 27, 28, 29, 30, 31, 32, 33, 34, 35, 36, 37, 38, 39, 40, 41, 42, 43, 44, 45, 46, 47, 48, 49, 50, 51, 52, 53, 54, 55, 56, 57, 58, 59, 60, 61, 62, 63, 64, 65, 66, 67, 68, 69, 70, 71, 72, 73, 74, 75, 76, 77, 78, 79, 80, 81, 82, 83, 84, 85, 86, 87, 88, 89, 90, 91, 92, 93, 94, 95, 96, 97, 98, 99, 100, 101, 102, 103, 104, 105, 106, 107, 108, 109, 110, 111, 112, 113, 114, 115, 116, 117, 118, 119, 120, 121, 122, 123, 124, 125, 126, 127, 128, 129, 130, 131, 132, 133, 134, 135, 136, 137, 138, 139, 140, 141, 142, 143, 144, 145, 146, 147, 148, 149, 150, 151, 152, 153, 154, 155, 156, 157, 177, 178, 179, 180, 181, 182, 183, 184, 185, 186, 187, 188, 189, 190, 191, 192, 193, 194, 195, 196, 197, 198, 199, 200, 201, 202, 203, 204, 205, 206, 207, 208, 209, 210, 211, 212, 213, 214, 215, 216, 217, 218] (by decide +kernel) (by decide +kernel)) (goodIn_sub (fun _ h => List.mem_cons_of_mem _ (List.mem_append_left _ (List.mem_append_right _ h))) (by decide +kernel))) (goodIn_sub (fun _ h => List.mem_cons_of_mem _ (List.mem_append_right _ h)) (by decide +kernel))
set_option maxRecDepth 20000 in
theorem gL_isTogether_X4_ofRow : GoodIn wsL_isTogether (wsV RL 84 RX4 yX4_ofRow wsX4_ofRow) := goodIn_app (goodIn_of _ (by decide +kernel)) ggL_isTogether_X4_ofRow
set_option maxRecDepth 20000 in
theorem ggL_isTogether_X4_ofPage : GoodIn wsL_isTogether wsX4_ofPage := goodIn_ca (goodIn_ca (goodIn_r _ [161, 18, 19, 20, 4, 21, 22, 12, 23, 24, 25, 26, 27, 28, 29, 30, 31, 32, 33, 34, 35, 36, 37, 38, 39, 40, 41, 42, 43, 44, 45, 46, 47, 48, 49, 50, 51, 52, 53, 54, 55, 56, 57, 58, 59, 60, 61, 62, 63, 64, 65, 66, 67, 68, 69, 70, 71, 72, 73, 74, 75, 76, 77, 78, 79, 80, 81, 82, 83, 84, 85, 86, 87, 88, 89, 90, 91, 92, 93, 94, 95, 96, 97, 98, 99, 100, 101, 102, 103, 104, 105, 106, 107, 108, 109, 110, 111, 112, 113, 114, 115, 116, 117, 118, 119, 120, 121, 122, 123, 124, 125, 126, 127, 128, 129, 130, 131, 132, 133, 134, 135, 136, 137, 138, 139, 140, 141, 142, 143, 144, 145, 146, 147, 148, 149, 162, 163, 164, 165, 10, 11, 154, 155, 156, 157, 13, 14, 15, 16, 17, 166, 167, 168, 169, 170, 171, 172, 173, 174, 175, 176, 177, 178, 179, 180, 181, 182, 183, 184, 185, 186, 187, 188, 189, 190, 191, 192, 193, 194, 195, 196, 197, 198, 199, 200, 201, 202, 203, 204, 205, 206, 207, 208, 209, 210, 211, 212, 213, 214, 215, 216, 217, 218] (by decide +kernel) (by decide +kernel)) (goodIn_sub (fun _ h => List.mem_cons_of_mem _ (List.mem_append_left _ (List.mem_append_right _ h))) (by decide +kernel))) (goodIn_sub (fun _ h => List.mem_cons_of_mem _ (List.mem_append_right _ h)) (by decide +kernel))
set_option maxRecDepth 20000 in
theorem gL_isTogether_X4_ofPage : GoodIn wsL_isTogether (wsV RL 81 RX4 yX4_ofPage wsX4_ofPage) := goodIn_app (goodIn_of _ (by decide +kernel)) ggL_isTogether_X4_ofPage
theorem dL_isTogether_0 : decode cL_isTogether 0 = .ok (.iload_n 1, 1) := by decide +kernel
theorem dL_isTogether_1 : decode cL_isTogether 1 = .ok (.ifCond .le 14, 3) := by decide +kernel
theorem dL_isTogether_4 : decode cL_isTogether 4 = .ok (.aload 5, 2) := by decide +kernel
theorem dL_isTogether_6 : decode cL_isTogether 6 = .ok (.iload_n 1, 1) := by decide +kernel
theorem dL_isTogether_7 : decode cL_isTogether 7 = .ok (.iconst 1, 1) := by decide +kernel
theorem dL_isTogether_8 : decode cL_isTogether 8 = .ok (.isub, 1) := by decide +kernel
theorem dL_isTogether_9 : decode cL_isTogether 9 = .ok (.baload, 1) := by decide +kernel
theorem dL_isTogether_10 : decode cL_isTogether 10 = .ok (.ifCond .eq 5, 3) := by decide +kernel
theorem dL_isTogether_13 : decode cL_isTogether 13 = .ok (.iconst 1, 1) := by decide +kernel
theorem dL_isTogether_14 : decode cL_isTogether 14 = .ok (.ireturn, 1) := by decide +kernel
theorem dL_isTogether_15 : decode cL_isTogether 15 = .ok (.aload_n 0, 1) := by decide +kernel
theorem dL_isTogether_16 : decode cL_isTogether 16 = .ok (.iload_n 1, 1) := by decide +kernel
theorem dL_isTogether_17 : decode cL_isTogether 17 = .ok (.iconst 0, 1) := by decide +kernel
theorem dL_isTogether_18 : decode cL_isTogether 18 = .ok (.invokevirtual 84, 3) := by decide +kernel
theorem dL_isTogether_21 : decode cL_isTogether 21 = .ok (.istore 6, 2) := by decide +kernel
theorem dL_isTogether_23 : decode cL_isTogether 23 = .ok (.iload_n 1, 1) := by decide +kernel
theorem dL_isTogether_24 : decode cL_isTogether 24 = .ok (.istore 7, 2) := by decide +kernel
theorem dL_isTogether_26 : decode cL_isTogether 26 = .ok (.iconst 0, 1) := by decide +kernel
theorem dL_isTogether_27 : decode cL_isTogether 27 = .ok (.istore 8, 2) := by decide +kernel
theorem dL_isTogether_29 : decode cL_isTogether 29 = .ok (.iload 7, 2) := by decide +kernel
theorem dL_isTogether_31 : decode cL_isTogether 31 = .ok (.iconst 1, 1) := by decide +kernel
theorem dL_isTogether_32 : decode cL_isTogether 32 = .ok (.iadd, 1) := by decide +kernel
theorem dL_isTogether_33 : decode cL_isTogether 33 = .ok (.iload_n 2, 1) := by decide +kernel
theorem dL_isTogether_34 : decode cL_isTogether 34 = .ok (.if_icmp .ge 47, 3) := by decide +kernel
theorem dL_isTogether_37 : decode cL_isTogether 37 = .ok (.aload 5, 2) := by decide +kernel
theorem dL_isTogether_39 : decode cL_isTogether 39 = .ok (.iload 7, 2) := by decide +kernel
theorem dL_isTogether_41 : decode cL_isTogether 41 = .ok (.baload, 1) := by decide +kernel
theorem dL_isTogether_42 : decode cL_isTogether 42 = .ok (.ifCond .eq 39, 3) := by decide +kernel
theorem dL_isTogether_45 : decode cL_isTogether 45 = .ok (.iload 8, 2) := by decide +kernel
theorem dL_isTogether_47 : decode cL_isTogether 47 = .ok (.aload 4, 2) := by decide +kernel
theorem dL_isTogether_49 : decode cL_isTogether 49 = .ok (.iload 7, 2) := by decide +kernel
theorem dL_isTogether_51 : decode cL_isTogether 51 = .ok (.iaload, 1) := by decide +kernel
theorem dL_isTogether_52 : decode cL_isTogether 52 = .ok (.ifCond .le 7, 3) := by decide +kernel
theorem dL_isTogether_55 : decode cL_isTogether 55 = .ok (.iconst 1, 1) := by decide +kernel
theorem dL_isTogether_56 : decode cL_isTogether 56 = .ok (.goto 4, 3) := by decide +kernel
theorem dL_isTogether_59 : decode cL_isTogether 59 = .ok (.iconst 0, 1) := by decide +kernel
theorem dL_isTogether_60 : decode cL_isTogether 60 = .ok (.ior, 1) := by decide +kernel
theorem dL_isTogether_61 : decode cL_isTogether 61 = .ok (.istore 8, 2) := by decide +kernel
theorem dL_isTogether_63 : decode cL_isTogether 63 = .ok (.iinc 7 1, 3) := by decide +kernel
theorem dL_isTogether_66 : decode cL_isTogether 66 = .ok (.iload 6, 2) := by decide +kernel
theorem dL_isTogether_68 : decode cL_isTogether 68 = .ok (.aload_n 0, 1) := by decide +kernel
theorem dL_isTogether_69 : decode cL_isTogether 69 = .ok (.iload 7, 2) := by decide +kernel
theorem dL_isTogether_71 : decode cL_isTogether 71 = .ok (.iconst 0, 1) := by decide +kernel
theorem dL_isTogether_72 : decode cL_isTogether 72 = .ok (.invokevirtual 84, 3) := by decide +kernel
theorem dL_isTogether_75 : decode cL_isTogether 75 = .ok (.iadd, 1) := by decide +kernel
theorem dL_isTogether_76 : decode cL_isTogether 76 = .ok (.istore 6, 2) := by decide +kernel
theorem dL_isTogether_78 : decode cL_isTogether 78 = .ok (.goto (-49), 3) := by decide +kernel
theorem dL_isTogether_81 : decode cL_isTogether 81 = .ok (.aload_n 0, 1) := by decide +kernel
theorem dL_isTogether_82 : decode cL_isTogether 82 = .ok (.iload_n 1, 1) := by decide +kernel
theorem dL_isTogether_83 : decode cL_isTogether 83 = .ok (.iconst 1, 1) := by decide +kernel
theorem dL_isTogether_84 : decode cL_isTogether 84 = .ok (.invokevirtual 84, 3) := by decide +kernel
theorem dL_isTogether_87 : decode cL_isTogether 87 = .ok (.istore 9, 2) := by decide +kernel
theorem dL_isTogether_89 : decode cL_isTogether 89 = .ok (.aload_n 0, 1) := by decide +kernel
theorem dL_isTogether_90 : decode cL_isTogether 90 = .ok (.iload 7, 2) := by decide +kernel
theorem dL_isTogether_92 : decode cL_isTogether 92 = .ok (.iconst 1, 1) := by decide +kernel
theorem dL_isTogether_93 : decode cL_isTogether 93 = .ok (.invokevirtual 84, 3) := by decide +kernel
theorem dL_isTogether_96 : decode cL_isTogether 96 = .ok (.iload 9, 2) := by decide +kernel
theorem dL_isTogether_98 : decode cL_isTogether 98 = .ok (.if_icmp .eq 25, 3) := by decide +kernel
theorem dL_isTogether_101 : decode cL_isTogether 101 = .ok (.iload 6, 2) := by decide +kernel
theorem dL_isTogether_103 : decode cL_isTogether 103 = .ok (.iload_n 3, 1) := by decide +kernel
theorem dL_isTogether_104 : decode cL_isTogether 104 = .ok (.if_icmp .gt 19, 3) := by decide +kernel
theorem dL_isTogether_107 : decode cL_isTogether 107 = .ok (.iload 8, 2) := by decide +kernel
theorem dL_isTogether_109 : decode cL_isTogether 109 = .ok (.ifCond .ne 14, 3) := by decide +kernel
theorem dL_isTogether_112 : decode cL_isTogether 112 = .ok (.aload_n 0, 1) := by decide +kernel
theorem dL_isTogether_113 : decode cL_isTogether 113 = .ok (.iload 9, 2) := by decide +kernel
theorem dL_isTogether_115 : decode cL_isTogether 115 = .ok (.iconst 0, 1) := by decide +kernel
theorem dL_isTogether_116 : decode cL_isTogether 116 = .ok (.invokevirtual 81, 3) := by decide +kernel
theorem dL_isTogether_119 : decode cL_isTogether 119 = .ok (.iload_n 1, 1) := by decide +kernel
theorem dL_isTogether_120 : decode cL_isTogether 120 = .ok (.if_icmp .ne 7, 3) := by decide +kernel
theorem dL_isTogether_123 : decode cL_isTogether 123 = .ok (.iconst 1, 1) := by decide +kernel
theorem dL_isTogether_124 : decode cL_isTogether 124 = .ok (.goto 4, 3) := by decide +kernel
theorem dL_isTogether_127 : decode cL_isTogether 127 = .ok (.iconst 0, 1) := by decide +kernel
theorem dL_isTogether_128 : decode cL_isTogether 128 = .ok (.ireturn, 1) := by decide +kernel
abbrev vwCl : List vw_C := [(RX0, TX0, 14), (RX1, TX1, 8), (RX2, TX2, 3), (RX3, TX3, 9), (RX4, TX4, 8)]
end
section
/-! The world of the claim: the cells of one TableWright (489) and of the law's own arrays, each under a key (family, object, row); what they hold of numbers is one function M; references never change. -/
abbrev KY : Type := Nat × Nat × Nat
abbrev Mem : Type := Nat → Nat → Nat → Nat → Int32
/-- classes; addresses; the classes of int[], boolean[], Row[]; the length of isText; the law's arrays; the script -/
abbrev GG : Type := va_G × (KY → Nat) × (ClassId × ClassId × ClassId) × Nat × List KY × (Nat × Nat × (Nat → Int32))
def gD (G : GG) : va_G := G.1
def gA (G : GG) : KY → Nat := G.2.1
def gI (G : GG) : ClassId := G.2.2.1.1
def gZ (G : GG) : ClassId := G.2.2.1.2.1
def gR (G : GG) : ClassId := G.2.2.1.2.2
def gN (G : GG) : Nat := G.2.2.2.1
def gX (G : GG) : List KY := G.2.2.2.2.1
def gB (G : GG) : Nat := G.2.2.2.2.2.1
def gL (G : GG) : Nat := G.2.2.2.2.2.2.1
def gS (G : GG) : Nat → Int32 := G.2.2.2.2.2.2.2
def K1 : List (Nat × Nat) := [(0, 1), (1, 2), (2, 2), (3, 5), (5, 2), (6, 2), (7, 2), (8, 2), (9, 2), (10, 2), (11, 2), (18, 5), (19, 5), (20, 5), (21, 5), (22, 5), (23, 5), (24, 5), (25, 5), (26, 5)]
def K2 : List Nat := [4, 12, 13, 14, 15, 16, 17]
def KS0 : List KY := (K1.flatMap fun q => (List.range q.2).map fun o => (q.1, o, 0)) ++ (K2.flatMap fun f => (List.range 2).flatMap fun o => (List.range 30).map fun i => (f, o, i))
def KS (G : GG) : List KY := KS0 ++ gX G
theorem k_1 {G : GG} {f o : Nat} (n : Nat) (h : (f, n) ∈ K1) (ho : o < n) : (f, o, 0) ∈ KS G :=
  List.mem_append_left _ (List.mem_append_left _ (List.mem_flatMap.mpr ⟨(f, n), h, List.mem_map.mpr ⟨o, List.mem_range.mpr ho, rfl⟩⟩))
theorem k_2 {G : GG} {f o i : Nat} (h : f ∈ K2) (ho : o < 2) (hi : i < 30) : (f, o, i) ∈ KS G :=
  List.mem_append_left _ (List.mem_append_right _ (List.mem_flatMap.mpr ⟨f, h, List.mem_flatMap.mpr ⟨o, List.mem_range.mpr ho, List.mem_map.mpr ⟨i, List.mem_range.mpr hi, rfl⟩⟩⟩))
theorem k_x {G : GG} {k : KY} (h : k ∈ gX G) : k ∈ KS G := List.mem_append_right _ h
def aLen (G : GG) (f : Nat) : Nat := if f = 27 then gN G else ([0, 0, 0, 0, 0, 6, 6, 6, 6, 6, 6, 30, 6, 6, 6, 6, 6, 6, 6, 30, 30, 30, 60, 60, 60, 60, 60, 0, 30, 30] : List Nat).getD f 0
def ctv (G : GG) (f o i : Nat) (v : Nat → Int32) : va_E :=
  if f = 0 then .inr (4, [.ref (gA G (1, 0, 0)), .ref (gA G (2, 0, 0)), .int (v 2), .int (v 3), .int (v 4), .ref (gA G (1, 1, 0)), .ref (gA G (2, 1, 0)), .ref (gA G (3, 4, 0))])
  else if f = 1 then .inr (3, [.int (v 0), .ref (gA G (5, o, 0)), .ref (gA G (6, o, 0)), .ref (gA G (7, o, 0)), .ref (gA G (8, o, 0)), .int (v 5), .ref (gA G (11, o, 0)), .ref (gA G (9, o, 0)), .ref (gA G (10, o, 0))])
  else if f = 2 then .inr (2, [.ref (gA G (3, 2 * o, 0)), .ref (gA G (3, 2 * o + 1, 0)), .int (v 2)])
  else if f = 3 then .inr (0, [.int (v 0), .int (v 1), .ref (gA G (18, o, 0)), .ref (gA G (19, o, 0)), .ref (gA G (20, o, 0)), .ref (gA G (21, o, 0)), .int (v 6), .ref (gA G (22, o, 0)), .ref (gA G (23, o, 0)), .ref (gA G (24, o, 0)), .ref (gA G (25, o, 0)), .ref (gA G (26, o, 0)), .int (v 12), .int (v 13)])
  else if f = 4 then .inr (1, [.ref (gA G (12, o, i)), .ref (gA G (13, o, i)), .ref (gA G (14, o, i)), .ref (gA G (15, o, i)), .int (v 4), .int (v 5), .ref (gA G (16, o, i)), .ref (gA G (17, o, i))])
  else if f = 11 then .inl (gR G, 30, .inr (.inr (.inr (.inr fun j => some (gA G (4, o, j))))))
  else if f = 15 ∨ f = 17 ∨ f = 27 ∨ f = 29 then .inl (gZ G, aLen G f, .inl v)
  else .inl (gI G, aLen G f, .inl v)
def ct (G : GG) (M : Mem) (k : KY) : va_E := ctv G k.1 k.2.1 k.2.2 (M k.1 k.2.1 k.2.2)
def WL (G : GG) (M : Mem) : va_W := (KS G).map fun k => (gA G k, ct G M k)
abbrev TY (G : GG) : List (ClassId × FieldType) := [(gI G, .int), (gZ G, .boolean), (gR G, .object RX1)]
/-- the private fields of nest mates that the class's methods read and write, as the tables have them linked -/
def NWF : List (String × Nat × String × String × String × String) := [(RX4, 99, "TableWright$Row", "values", "[I", "TableWright"), (RX3, 77, "TableWright$Row", "values", "[I", "TableWright"), (RX4, 113, "TableWright$Row", "lengths", "[I", "TableWright"), (RX0, 101, "TableWright$Row", "lengths", "[I", "TableWright"), (RX3, 107, "TableWright$Row", "lengths", "[I", "TableWright"), (RX4, 116, "TableWright$Row", "words", "[I", "TableWright"), (RX3, 101, "TableWright$Row", "words", "[I", "TableWright"), (RX4, 127, "TableWright$Row", "isToSpan", "[Z", "TableWright"), (RX3, 74, "TableWright$Row", "isToSpan", "[Z", "TableWright"), (RX3, 54, "TableWright$Row", "noteLines", "I", "TableWright"), (RX4, 137, "TableWright$Row", "noteLines", "I", "TableWright"), (RX0, 136, "TableWright$Row", "noteLines", "I", "TableWright"), (RX4, 140, "TableWright$Row", "isKept", "Z", "TableWright"), (RX0, 139, "TableWright$Row", "isKept", "Z", "TableWright"), (RX3, 51, "TableWright$Row", "sums", "[I", "TableWright"), (RX3, 57, "TableWright$Row", "isHidden", "[Z", "TableWright"), (RX4, 134, "TableWright$Row", "isHidden", "[Z", "TableWright"), (RX0, 91, "TableWright$Row", "isHidden", "[Z", "TableWright"), (RX0, 73, "TableWright$Sheet", "columnCount", "I", "TableWright"), (RX4, 119, "TableWright$Sheet", "columnCount", "I", "TableWright"), (RX0, 80, "TableWright$Sheet", "kinds", "[I", "TableWright"), (RX4, 220, "TableWright$Sheet", "kinds", "[I", "TableWright"), (RX0, 64, "TableWright$Sheet", "rowCount", "I", "TableWright"), (RX4, 72, "TableWright$Sheet", "rowCount", "I", "TableWright"), (RX4, 95, "TableWright$Sheet", "rows", "[LTableWright$Row;", "TableWright"), (RX0, 87, "TableWright$Sheet", "rows", "[LTableWright$Row;", "TableWright"), (RX0, 119, "TableWright$Sheet", "leasts", "[I", "TableWright"), (RX4, 262, "TableWright$Sheet", "leasts", "[I", "TableWright"), (RX0, 109, "TableWright$Sheet", "bests", "[I", "TableWright"), (RX4, 265, "TableWright$Sheet", "bests", "[I", "TableWright"), (RX2, 23, "TableWright$Layout", "isFit", "Z", "TableWright"), (RX4, 243, "TableWright$Layout", "isFit", "Z", "TableWright"), (RX4, 268, "TableWright$Layout", "widths", "[I", "TableWright"), (RX4, 274, "TableWright$Layout", "heights", "[I", "TableWright"), (RX4, 277, "TableWright$Layout", "rowPages", "[I", "TableWright"), (RX4, 280, "TableWright$Layout", "notePages", "[I", "TableWright"), (RX2, 27, "TableWright$Layout", "pageCount", "I", "TableWright"), (RX4, 174, "TableWright$Layout", "pageCount", "I", "TableWright"), (RX4, 237, "TableWright$Layout", "firstRows", "[I", "TableWright"), (RX4, 240, "TableWright$Layout", "rowsOn", "[I", "TableWright"), (RX4, 286, "TableWright$Layout", "notesOn", "[I", "TableWright"), (RX4, 177, "TableWright$Layout", "left", "[I", "TableWright"), (RX4, 246, "TableWright$Setting", "isTurned", "Z", "TableWright")]
def nwc (q : String × Nat × String × String × String × String) : Cond := .fieldLinkNest q.1 q.2.1 q.2.2.1 q.2.2.2.1 q.2.2.2.2.1 q.2.2.2.2.2
def NW (U : State) : Prop := ∀ q ∈ NWF, va_Nw (nwc q) U
theorem NW.warm {s U : State} (hW : s.WarmedH U.vm) (h : NW s) : NW U := fun q hq => va_Nw.warmF hW (h q hq)
theorem NW.same {s U : State} (hW : s.vm = U.vm) (h : NW s) : NW U := fun q hq => va_Nw.same rfl hW (h q hq)
def World (G : GG) (M : Mem) (U : State) : Prop := va_P (gD G) vwCl (WL G M) U.heap ∧ va_K (gD G) vwCl (TY G) U ∧ va_X (gB G) (gL G) (gS G) U U.heap ∧ NW U
def GoodG (G : GG) : Prop := (∀ k, k ∈ KS G → ∀ k', k' ∈ KS G → gA G k = gA G k' → k = k') ∧ (KS G).Nodup ∧ ∀ k, k ∈ KS G → gA G k ≠ gB G
def AG (G : GG) : Nat → Prop := fun q => ∃ k, k ∈ KS G ∧ gA G k = q
/-- a number is written -/
def sM (M : Mem) (f o i j : Nat) (x : Int32) : Mem := fun f' o' i' => if f' = f ∧ o' = o ∧ i' = i then upd (M f o i) j x else M f' o' i'
theorem sM_self (M : Mem) (f o i j : Nat) (x : Int32) : sM M f o i j x f o i = upd (M f o i) j x := by simp [sM]
theorem sM_ne (M : Mem) {f o i j f' o' i' : Nat} (x : Int32) (h : ¬ (f' = f ∧ o' = o ∧ i' = i)) : sM M f o i j x f' o' i' = M f' o' i' := by simp [sM, h]
theorem WL_at {G : GG} {M : Mem} {k : KY} (hk : k ∈ KS G) : ∃ q, (KS G)[q]? = some k ∧ (WL G M)[q]? = some (gA G k, ct G M k) := by
  obtain ⟨q, hq⟩ := List.getElem?_of_mem hk
  refine ⟨q, hq, ?_⟩
  unfold WL
  rw [List.getElem?_map, hq]
  rfl
theorem nodup_pos {l : List KY} (hn : l.Nodup) {i j : Nat} {a : KY} (hi : l[i]? = some a) (hj : l[j]? = some a) : i = j := by
  obtain ⟨h1, e1⟩ := List.getElem?_eq_some_iff.mp hi
  obtain ⟨h2, e2⟩ := List.getElem?_eq_some_iff.mp hj
  rw [List.nodup_iff_pairwise_ne, List.pairwise_iff_getElem] at hn
  rcases Nat.lt_trichotomy i j with h | h | h
  · exact absurd (e1.trans e2.symm) (hn i j h1 h2 h)
  · exact h
  · exact absurd (e2.trans e1.symm) (hn j i h2 h1 h)
theorem WL_set {G : GG} {M : Mem} {f o i j : Nat} {x : Int32} {q : Nat} {E : va_E} (hn : (KS G).Nodup) (hq : (KS G)[q]? = some (f, o, i)) (he : ctv G f o i (upd (M f o i) j x) = E) : (WL G M).set q (gA G (f, o, i), E) = WL G (sM M f o i j x) := by
  refine List.ext_getElem? fun t => ?_
  unfold WL
  by_cases h : q = t
  · subst h
    have hl : q < ((KS G).map fun k => (gA G k, ct G M k)).length := by
      rw [List.length_map]; exact (List.getElem?_eq_some_iff.mp hq).1
    rw [List.getElem?_set_self hl, List.getElem?_map, hq]
    show some _ = some _
    have e2 : ct G (sM M f o i j x) (f, o, i) = E := by
      show ctv G f o i (sM M f o i j x f o i) = E
      rw [sM_self]; exact he
    rw [e2]
  · rw [List.getElem?_set_ne h, List.getElem?_map, List.getElem?_map]
    cases hk : (KS G)[t]? with
    | none => rfl
    | some k =>
      obtain ⟨f', o', i'⟩ := k
      have hne : ¬ (f' = f ∧ o' = o ∧ i' = i) := by
        rintro ⟨rfl, rfl, rfl⟩
        exact h (nodup_pos hn hq hk)
      show some (gA G (f', o', i'), ctv G f' o' i' (M f' o' i')) = some (gA G (f', o', i'), ctv G f' o' i' (sM M f o i j x f' o' i'))
      rw [sM_ne M x hne]
theorem WL_D {G : GG} {M : Mem} {A : Nat → Prop} (hG : GoodG G) (hA : ∀ q, AG G q → A q) : va_D A (WL G M) := by
  refine ⟨fun i j p q hi hj hpq => ?_, fun k q hk => ?_⟩
  · unfold WL at hi hj
    rw [List.getElem?_map] at hi hj
    cases h1 : (KS G)[i]? with
    | none => rw [h1] at hi; cases hi
    | some k =>
      cases h2 : (KS G)[j]? with
      | none => rw [h2] at hj; cases hj
      | some k' =>
        rw [h1] at hi; rw [h2] at hj
        cases hi; cases hj
        have := hG.1 k (List.mem_of_getElem? h1) k' (List.mem_of_getElem? h2) hpq
        subst this
        exact nodup_pos hG.2.1 h1 h2
  · unfold WL at hk
    rw [List.getElem?_map] at hk
    cases h1 : (KS G)[k]? with
    | none => rw [h1] at hk; cases hk
    | some k' =>
      rw [h1] at hk
      cases hk
      exact hA _ ⟨k', List.mem_of_getElem? h1, rfl⟩
abbrev ZT : Type := Nat → List (Nat × Value) → List Value → Mem → Prop
/-- from pc, with these locals, this stack, these numbers in the cells, the machine comes to its goal -/
def ZZ (p : Program) (l : Launch) (e : Env) (R : Room) (s : State) (m : MethodId) (args : Array Value) (below : List Frame) (meth : Method) (c : Code) (G : GG) (A : Nat → Prop) (H0 : Heap) (nL cells slots : Nat) (Q : State → Prop) : ZT :=
  fun pc lv st M => ∀ (H : Heap) (locs : List Loc) (ls : Array Slot), va_P (gD G) vwCl (WL G M) H → va_S A H0 H locs → lv_has ls nL lv → W p l e R s m args below meth c H locs cells slots Q (F0 m pc ls st)
/-- what a walk may use of a method that stands in the world G -/
def AX (l : Launch) (G : GG) (cc : ByteArray) (nL : Nat) (own : String) (Ts : List Cond) (F Lc : Nat) (Z : ZT) : Prop :=
  ∃ (p : Program) (e : Env) (R : Room) (s : State) (m : MethodId) (args : Array Value) (below : List Frame) (meth : Method) (c : Code) (A : Nat → Prop) (H0 : Heap) (cells slots : Nat) (Q : State → Prop),
    (p.tables.exec = Jvm.exec ∧ c.code = cc ∧ c.maxLocals = nL ∧ s.vm.findClass own = some m.cls ∧ ∀ w ∈ Ts, w.before args s = true) ∧ va_K (gD G) vwCl (TY G) s ∧ (∀ q, AG G q → A q) ∧ GoodG G ∧ va_X (gB G) (gL G) (gS G) s H0 ∧ NW s ∧ gB G < H0.size ∧ ¬ A (gB G) ∧ F ≤ R.frames ∧ Lc ≤ R.locals ∧ cells ≤ R.cells ∧ slots ≤ R.slots ∧ Z = ZZ p l e R s m args below meth c G A H0 nL cells slots Q
def RETi (cc : ByteArray) (P : Int32 → Mem → Prop) (Z : ZT) : Prop := ∀ (pc : Nat) (lv : List (Nat × Value)) (r : Int32) (M : Mem), decode cc pc = .ok (.ireturn, 1) → P r M → Z pc lv [.int r] M
def zb (x : Int32) : Prop := x = 0 ∨ x = 1
def RETz (cc : ByteArray) (P : Int32 → Mem → Prop) (Z : ZT) : Prop := ∀ (pc : Nat) (lv : List (Nat × Value)) (r : Int32) (M : Mem), decode cc pc = .ok (.ireturn, 1) → zb r → P r M → Z pc lv [.int r] M
def RETl (cc : ByteArray) (P : Int64 → Mem → Prop) (Z : ZT) : Prop := ∀ (pc : Nat) (lv : List (Nat × Value)) (r : Int64) (M : Mem), decode cc pc = .ok (.lreturn, 1) → P r M → Z pc lv [.long r] M
def RETr (G : GG) (cc : ByteArray) (P : Nat → Mem → Prop) (Z : ZT) : Prop := ∀ (pc : Nat) (lv : List (Nat × Value)) (r : Nat) (M : Mem), decode cc pc = .ok (.areturn, 1) → r < 5 → P r M → Z pc lv [.ref (gA G (3, r, 0))] M
def RETv (cc : ByteArray) (P : Mem → Prop) (Z : ZT) : Prop := ∀ (pc : Nat) (lv : List (Nat × Value)) (M : Mem), decode cc pc = .ok (.return_, 1) → P M → Z pc lv [] M
abbrev rmv (F Lc : Nat) : Room := { frames := F, cells := 0, slots := 0, locals := Lc }
def CTi (l : Launch) (G : GG) (y : MethodName) (ws : List Cond) (F Lc : Nat) (args : List Value) (M : Mem) (P : Int32 → Mem → Prop) : Prop := Met l y ws (rmv F Lc) (va_Pc args (World G M)) (va_Qi P (World G) (AG G)) 0 0 (AG G)
def CTl (l : Launch) (G : GG) (y : MethodName) (ws : List Cond) (F Lc : Nat) (args : List Value) (M : Mem) (P : Int64 → Mem → Prop) : Prop := Met l y ws (rmv F Lc) (va_Pc args (World G M)) (va_Ql P (World G) (AG G)) 0 0 (AG G)
def CTv (l : Launch) (G : GG) (y : MethodName) (ws : List Cond) (F Lc : Nat) (args : List Value) (M : Mem) (P : Mem → Prop) : Prop := Met l y ws (rmv F Lc) (va_Pc args (World G M)) (va_Qv P (World G) (AG G)) 0 0 (AG G)
def CTr (l : Launch) (G : GG) (y : MethodName) (ws : List Cond) (F Lc : Nat) (args : List Value) (M : Mem) (P : Nat → Mem → Prop) : Prop := Met l y ws (rmv F Lc) (va_Pc args (World G M)) (va_Qr (fun u : Nat × Mem => u.1 < 5 ∧ P u.1 u.2) (fun u a t => a = gA G (3, u.1, 0) ∧ World G u.2 t) (AG G)) 0 0 (AG G)
end
section
section AXR
variable {l : Launch} {G : GG} {cc : ByteArray} {nL : Nat} {own : String} {Ts : List Cond} {F Lc : Nat} {Z : ZT}
variable {pc : Nat} {lv : List (Nat × Value)} {st : List Value} {M : Mem}
theorem AX.iadd (h : AX l G cc nL own Ts F Lc Z) {x y : Int32} (d : decode cc pc = .ok (.iadd, 1)) (k : Z (pc + 1) lv (.int (x + y) :: st) M) : Z pc lv (.int y :: .int x :: st) M := by
  obtain ⟨p, e, R, s, m, args, below, meth, c, A, H0, cells, slots, Q, ⟨hx, hb, hml, hown, hts⟩, hK, hA, hG, hX, hNW, hbl, hbA, hF, hL, hc, hs, rfl⟩ := h
  intro H locs ls hP hS hl
  exact lv_iadd hx hb d (k H locs ls hP hS hl)
theorem AX.isub (h : AX l G cc nL own Ts F Lc Z) {x y : Int32} (d : decode cc pc = .ok (.isub, 1)) (k : Z (pc + 1) lv (.int (x - y) :: st) M) : Z pc lv (.int y :: .int x :: st) M := by
  obtain ⟨p, e, R, s, m, args, below, meth, c, A, H0, cells, slots, Q, ⟨hx, hb, hml, hown, hts⟩, hK, hA, hG, hX, hNW, hbl, hbA, hF, hL, hc, hs, rfl⟩ := h
  intro H locs ls hP hS hl
  exact lv_isub hx hb d (k H locs ls hP hS hl)
theorem AX.imul (h : AX l G cc nL own Ts F Lc Z) {x y : Int32} (d : decode cc pc = .ok (.imul, 1)) (k : Z (pc + 1) lv (.int (x * y) :: st) M) : Z pc lv (.int y :: .int x :: st) M := by
  obtain ⟨p, e, R, s, m, args, below, meth, c, A, H0, cells, slots, Q, ⟨hx, hb, hml, hown, hts⟩, hK, hA, hG, hX, hNW, hbl, hbA, hF, hL, hc, hs, rfl⟩ := h
  intro H locs ls hP hS hl
  exact lv_imul hx hb d (k H locs ls hP hS hl)
theorem AX.iand (h : AX l G cc nL own Ts F Lc Z) {x y : Int32} (d : decode cc pc = .ok (.iand, 1)) (k : Z (pc + 1) lv (.int (x &&& y) :: st) M) : Z pc lv (.int y :: .int x :: st) M := by
  obtain ⟨p, e, R, s, m, args, below, meth, c, A, H0, cells, slots, Q, ⟨hx, hb, hml, hown, hts⟩, hK, hA, hG, hX, hNW, hbl, hbA, hF, hL, hc, hs, rfl⟩ := h
  intro H locs ls hP hS hl
  exact lv_iand hx hb d (k H locs ls hP hS hl)
theorem AX.ior (h : AX l G cc nL own Ts F Lc Z) {x y : Int32} (d : decode cc pc = .ok (.ior, 1)) (k : Z (pc + 1) lv (.int (x ||| y) :: st) M) : Z pc lv (.int y :: .int x :: st) M := by
  obtain ⟨p, e, R, s, m, args, below, meth, c, A, H0, cells, slots, Q, ⟨hx, hb, hml, hown, hts⟩, hK, hA, hG, hX, hNW, hbl, hbA, hF, hL, hc, hs, rfl⟩ := h
  intro H locs ls hP hS hl
  exact lv_ior hx hb d (k H locs ls hP hS hl)
theorem AX.ishr (h : AX l G cc nL own Ts F Lc Z) {x y : Int32} (d : decode cc pc = .ok (.ishr, 1)) (k : Z (pc + 1) lv (.int (x >>> (y &&& 31)) :: st) M) : Z pc lv (.int y :: .int x :: st) M := by
  obtain ⟨p, e, R, s, m, args, below, meth, c, A, H0, cells, slots, Q, ⟨hx, hb, hml, hown, hts⟩, hK, hA, hG, hX, hNW, hbl, hbA, hF, hL, hc, hs, rfl⟩ := h
  intro H locs ls hP hS hl
  exact lv_ishr hx hb d (k H locs ls hP hS hl)
theorem AX.idiv (h : AX l G cc nL own Ts F Lc Z) {x y : Int32} (d : decode cc pc = .ok (.idiv, 1)) (hne : ¬ y = 0) (k : Z (pc + 1) lv (.int (x / y) :: st) M) : Z pc lv (.int y :: .int x :: st) M := by
  obtain ⟨p, e, R, s, m, args, below, meth, c, A, H0, cells, slots, Q, ⟨hx, hb, hml, hown, hts⟩, hK, hA, hG, hX, hNW, hbl, hbA, hF, hL, hc, hs, rfl⟩ := h
  intro H locs ls hP hS hl
  exact lv_idiv hx hb d hne (k H locs ls hP hS hl)
theorem AX.irem (h : AX l G cc nL own Ts F Lc Z) {x y : Int32} (d : decode cc pc = .ok (.irem, 1)) (hne : ¬ y = 0) (k : Z (pc + 1) lv (.int (x - x / y * y) :: st) M) : Z pc lv (.int y :: .int x :: st) M := by
  obtain ⟨p, e, R, s, m, args, below, meth, c, A, H0, cells, slots, Q, ⟨hx, hb, hml, hown, hts⟩, hK, hA, hG, hX, hNW, hbl, hbA, hF, hL, hc, hs, rfl⟩ := h
  intro H locs ls hP hS hl
  exact lv_irem hx hb d hne (k H locs ls hP hS hl)
theorem AX.ladd (h : AX l G cc nL own Ts F Lc Z) {x y : Int64} (d : decode cc pc = .ok (.ladd, 1)) (k : Z (pc + 1) lv (.long (x + y) :: st) M) : Z pc lv (.long y :: .long x :: st) M := by
  obtain ⟨p, e, R, s, m, args, below, meth, c, A, H0, cells, slots, Q, ⟨hx, hb, hml, hown, hts⟩, hK, hA, hG, hX, hNW, hbl, hbA, hF, hL, hc, hs, rfl⟩ := h
  intro H locs ls hP hS hl
  exact lv_ladd hx hb d (k H locs ls hP hS hl)
theorem AX.lmul (h : AX l G cc nL own Ts F Lc Z) {x y : Int64} (d : decode cc pc = .ok (.lmul, 1)) (k : Z (pc + 1) lv (.long (x * y) :: st) M) : Z pc lv (.long y :: .long x :: st) M := by
  obtain ⟨p, e, R, s, m, args, below, meth, c, A, H0, cells, slots, Q, ⟨hx, hb, hml, hown, hts⟩, hK, hA, hG, hX, hNW, hbl, hbA, hF, hL, hc, hs, rfl⟩ := h
  intro H locs ls hP hS hl
  exact lv_lmul hx hb d (k H locs ls hP hS hl)
theorem AX.lcmp (h : AX l G cc nL own Ts F Lc Z) {x y : Int64} (d : decode cc pc = .ok (.lcmp, 1)) (k : Z (pc + 1) lv (.int (lg_cmp x y) :: st) M) : Z pc lv (.long y :: .long x :: st) M := by
  obtain ⟨p, e, R, s, m, args, below, meth, c, A, H0, cells, slots, Q, ⟨hx, hb, hml, hown, hts⟩, hK, hA, hG, hX, hNW, hbl, hbA, hF, hL, hc, hs, rfl⟩ := h
  intro H locs ls hP hS hl
  exact W.lcmp hx hb d (k H locs ls hP hS hl)
theorem AX.i2l (h : AX l G cc nL own Ts F Lc Z) {x : Int32} (d : decode cc pc = .ok (.i2l, 1)) (k : Z (pc + 1) lv (.long x.toInt64 :: st) M) : Z pc lv (.int x :: st) M := by
  obtain ⟨p, e, R, s, m, args, below, meth, c, A, H0, cells, slots, Q, ⟨hx, hb, hml, hown, hts⟩, hK, hA, hG, hX, hNW, hbl, hbA, hF, hL, hc, hs, rfl⟩ := h
  intro H locs ls hP hS hl
  exact lv_i2l hx hb d rfl (k H locs ls hP hS hl)
theorem AX.iconst (h : AX l G cc nL own Ts F Lc Z) {n : Int} {v : Int32} (d : decode cc pc = .ok (.iconst n, 1)) (hv : Int32.ofInt n = v) (k : Z (pc + 1) lv (.int v :: st) M) : Z pc lv st M := by
  obtain ⟨p, e, R, s, m, args, below, meth, c, A, H0, cells, slots, Q, ⟨hx, hb, hml, hown, hts⟩, hK, hA, hG, hX, hNW, hbl, hbA, hF, hL, hc, hs, rfl⟩ := h
  intro H locs ls hP hS hl
  exact lv_iconst hx hb d hv (k H locs ls hP hS hl)
theorem AX.bipush (h : AX l G cc nL own Ts F Lc Z) {n : Int} {v : Int32} (d : decode cc pc = .ok (.bipush n, 2)) (hv : (Int8.ofInt n).toInt32 = v) (k : Z (pc + 2) lv (.int v :: st) M) : Z pc lv st M := by
  obtain ⟨p, e, R, s, m, args, below, meth, c, A, H0, cells, slots, Q, ⟨hx, hb, hml, hown, hts⟩, hK, hA, hG, hX, hNW, hbl, hbA, hF, hL, hc, hs, rfl⟩ := h
  intro H locs ls hP hS hl
  exact lv_bipush hx hb d hv (k H locs ls hP hS hl)
theorem AX.sipush (h : AX l G cc nL own Ts F Lc Z) {n : Int} {v : Int32} (d : decode cc pc = .ok (.sipush n, 3)) (hv : (Int16.ofInt n).toInt32 = v) (k : Z (pc + 3) lv (.int v :: st) M) : Z pc lv st M := by
  obtain ⟨p, e, R, s, m, args, below, meth, c, A, H0, cells, slots, Q, ⟨hx, hb, hml, hown, hts⟩, hK, hA, hG, hX, hNW, hbl, hbA, hF, hL, hc, hs, rfl⟩ := h
  intro H locs ls hP hS hl
  exact lv_sipush hx hb d hv (k H locs ls hP hS hl)
theorem AX.ldc (h : AX l G cc nL own Ts F Lc Z) {i : Nat} {v : Int32} (d : decode cc pc = .ok (.ldc i, 2)) (hv : Cond.constant own i v ∈ Ts) (k : Z (pc + 2) lv (.int v :: st) M) : Z pc lv st M := by
  obtain ⟨p, e, R, s, m, args, below, meth, c, A, H0, cells, slots, Q, ⟨hx, hb, hml, hown, hts⟩, hK, hA, hG, hX, hNW, hbl, hbA, hF, hL, hc, hs, rfl⟩ := h
  intro H locs ls hP hS hl
  exact lv_ldc hx hb hown (hts _ hv) d (k H locs ls hP hS hl)
theorem AX.ldc2 (h : AX l G cc nL own Ts F Lc Z) {i : Nat} {v : Int64} (d : decode cc pc = .ok (.ldc2_w i, 3)) (hv : Cond.constantLong own i v ∈ Ts) (k : Z (pc + 3) lv (.long v :: st) M) : Z pc lv st M := by
  obtain ⟨p, e, R, s, m, args, below, meth, c, A, H0, cells, slots, Q, ⟨hx, hb, hml, hown, hts⟩, hK, hA, hG, hX, hNW, hbl, hbA, hF, hL, hc, hs, rfl⟩ := h
  intro H locs ls hP hS hl
  exact lv_ldc2 hx hb hown (hts _ hv) d (k H locs ls hP hS hl)
theorem AX.iload (h : AX l G cc nL own Ts F Lc Z) {i : Nat} {x : Int32} (d : decode cc pc = .ok (.iload i, 2)) (q : Nat) (hq : lv[q]? = some (i, .int x)) (k : Z (pc + 2) lv (.int x :: st) M) : Z pc lv st M := by
  obtain ⟨p, e, R, s, m, args, below, meth, c, A, H0, cells, slots, Q, ⟨hx, hb, hml, hown, hts⟩, hK, hA, hG, hX, hNW, hbl, hbA, hF, hL, hc, hs, rfl⟩ := h
  intro H locs ls hP hS hl
  exact lv_iload hx hb d (lv_at hl q hq) (k H locs ls hP hS hl)
theorem AX.iload_n (h : AX l G cc nL own Ts F Lc Z) {i : Nat} {x : Int32} {f : Fin 4} (d : decode cc pc = .ok (.iload_n f, 1)) (hi : (f : Nat) = i) (q : Nat) (hq : lv[q]? = some (i, .int x)) (k : Z (pc + 1) lv (.int x :: st) M) : Z pc lv st M := by
  obtain ⟨p, e, R, s, m, args, below, meth, c, A, H0, cells, slots, Q, ⟨hx, hb, hml, hown, hts⟩, hK, hA, hG, hX, hNW, hbl, hbA, hF, hL, hc, hs, rfl⟩ := h
  intro H locs ls hP hS hl
  exact lv_iload_n hx hb d hi (lv_at hl q hq) (k H locs ls hP hS hl)
theorem AX.lload (h : AX l G cc nL own Ts F Lc Z) {i : Nat} {x : Int64} (d : decode cc pc = .ok (.lload i, 2)) (q : Nat) (hq : lv[q]? = some (i, .long x)) (k : Z (pc + 2) lv (.long x :: st) M) : Z pc lv st M := by
  obtain ⟨p, e, R, s, m, args, below, meth, c, A, H0, cells, slots, Q, ⟨hx, hb, hml, hown, hts⟩, hK, hA, hG, hX, hNW, hbl, hbA, hF, hL, hc, hs, rfl⟩ := h
  intro H locs ls hP hS hl
  exact lv_lload hx hb d (lv_at hl q hq) (k H locs ls hP hS hl)
theorem AX.lload_n (h : AX l G cc nL own Ts F Lc Z) {i : Nat} {x : Int64} {f : Fin 4} (d : decode cc pc = .ok (.lload_n f, 1)) (hi : (f : Nat) = i) (q : Nat) (hq : lv[q]? = some (i, .long x)) (k : Z (pc + 1) lv (.long x :: st) M) : Z pc lv st M := by
  obtain ⟨p, e, R, s, m, args, below, meth, c, A, H0, cells, slots, Q, ⟨hx, hb, hml, hown, hts⟩, hK, hA, hG, hX, hNW, hbl, hbA, hF, hL, hc, hs, rfl⟩ := h
  intro H locs ls hP hS hl
  exact lv_lload_n hx hb d hi (lv_at hl q hq) (k H locs ls hP hS hl)
theorem AX.aload (h : AX l G cc nL own Ts F Lc Z) {i : Nat} {x : Nat} (d : decode cc pc = .ok (.aload i, 2)) (q : Nat) (hq : lv[q]? = some (i, .ref x)) (k : Z (pc + 2) lv (.ref x :: st) M) : Z pc lv st M := by
  obtain ⟨p, e, R, s, m, args, below, meth, c, A, H0, cells, slots, Q, ⟨hx, hb, hml, hown, hts⟩, hK, hA, hG, hX, hNW, hbl, hbA, hF, hL, hc, hs, rfl⟩ := h
  intro H locs ls hP hS hl
  exact lv_aload hx hb d (lv_at hl q hq) (k H locs ls hP hS hl)
theorem AX.aload_n (h : AX l G cc nL own Ts F Lc Z) {i : Nat} {x : Nat} {f : Fin 4} (d : decode cc pc = .ok (.aload_n f, 1)) (hi : (f : Nat) = i) (q : Nat) (hq : lv[q]? = some (i, .ref x)) (k : Z (pc + 1) lv (.ref x :: st) M) : Z pc lv st M := by
  obtain ⟨p, e, R, s, m, args, below, meth, c, A, H0, cells, slots, Q, ⟨hx, hb, hml, hown, hts⟩, hK, hA, hG, hX, hNW, hbl, hbA, hF, hL, hc, hs, rfl⟩ := h
  intro H locs ls hP hS hl
  exact lv_aload_n hx hb d hi (lv_at hl q hq) (k H locs ls hP hS hl)
theorem AX.istore (h : AX l G cc nL own Ts F Lc Z) {i : Nat} {x : Int32} (lv' : List (Nat × Value)) (d : decode cc pc = .ok (.istore i, 2)) (hn : i < nL) (hl' : (i, Value.int x) :: lv.filter (fun q => !(q.1 == i) && !(q.1 + 1 == i && q.2.category == 2)) = lv') (k : Z (pc + 2) lv' st M) : Z pc lv (.int x :: st) M := by
  obtain ⟨p, e, R, s, m, args, below, meth, c, A, H0, cells, slots, Q, ⟨hx, hb, hml, hown, hts⟩, hK, hA, hG, hX, hNW, hbl, hbA, hF, hL, hc, hs, rfl⟩ := h
  intro H locs ls hP hS hl
  exact lv_istore hx hb d hl hn hl' (fun ls' hl2 => k H locs ls' hP hS hl2)
theorem AX.istore_n (h : AX l G cc nL own Ts F Lc Z) {i : Nat} {x : Int32} {f : Fin 4} (lv' : List (Nat × Value)) (d : decode cc pc = .ok (.istore_n f, 1)) (hi : (f : Nat) = i) (hn : i < nL) (hl' : (i, Value.int x) :: lv.filter (fun q => !(q.1 == i) && !(q.1 + 1 == i && q.2.category == 2)) = lv') (k : Z (pc + 1) lv' st M) : Z pc lv (.int x :: st) M := by
  obtain ⟨p, e, R, s, m, args, below, meth, c, A, H0, cells, slots, Q, ⟨hx, hb, hml, hown, hts⟩, hK, hA, hG, hX, hNW, hbl, hbA, hF, hL, hc, hs, rfl⟩ := h
  intro H locs ls hP hS hl
  exact lv_istore_n hx hb d hi hl hn hl' (fun ls' hl2 => k H locs ls' hP hS hl2)
theorem AX.lstore (h : AX l G cc nL own Ts F Lc Z) {i : Nat} {x : Int64} (lv' : List (Nat × Value)) (d : decode cc pc = .ok (.lstore i, 2)) (hn : i + 1 < nL) (hl' : (i, Value.long x) :: lv.filter (fun q => !(q.1 == i) && (!(q.1 == i + 1) && !(q.1 + 1 == i && q.2.category == 2))) = lv') (k : Z (pc + 2) lv' st M) : Z pc lv (.long x :: st) M := by
  obtain ⟨p, e, R, s, m, args, below, meth, c, A, H0, cells, slots, Q, ⟨hx, hb, hml, hown, hts⟩, hK, hA, hG, hX, hNW, hbl, hbA, hF, hL, hc, hs, rfl⟩ := h
  intro H locs ls hP hS hl
  exact lv_lstore hx hb d hl hn hl' (fun ls' hl2 => k H locs ls' hP hS hl2)
theorem AX.lstore_n (h : AX l G cc nL own Ts F Lc Z) {i : Nat} {x : Int64} {f : Fin 4} (lv' : List (Nat × Value)) (d : decode cc pc = .ok (.lstore_n f, 1)) (hi : (f : Nat) = i) (hn : i + 1 < nL) (hl' : (i, Value.long x) :: lv.filter (fun q => !(q.1 == i) && (!(q.1 == i + 1) && !(q.1 + 1 == i && q.2.category == 2))) = lv') (k : Z (pc + 1) lv' st M) : Z pc lv (.long x :: st) M := by
  obtain ⟨p, e, R, s, m, args, below, meth, c, A, H0, cells, slots, Q, ⟨hx, hb, hml, hown, hts⟩, hK, hA, hG, hX, hNW, hbl, hbA, hF, hL, hc, hs, rfl⟩ := h
  intro H locs ls hP hS hl
  exact lv_lstore_n hx hb d hi hl hn hl' (fun ls' hl2 => k H locs ls' hP hS hl2)
theorem AX.astore (h : AX l G cc nL own Ts F Lc Z) {i : Nat} {x : Nat} (lv' : List (Nat × Value)) (d : decode cc pc = .ok (.astore i, 2)) (hn : i < nL) (hl' : (i, Value.ref x) :: lv.filter (fun q => !(q.1 == i) && !(q.1 + 1 == i && q.2.category == 2)) = lv') (k : Z (pc + 2) lv' st M) : Z pc lv (.ref x :: st) M := by
  obtain ⟨p, e, R, s, m, args, below, meth, c, A, H0, cells, slots, Q, ⟨hx, hb, hml, hown, hts⟩, hK, hA, hG, hX, hNW, hbl, hbA, hF, hL, hc, hs, rfl⟩ := h
  intro H locs ls hP hS hl
  exact lv_astore hx hb d hl hn hl' (fun ls' hl2 => k H locs ls' hP hS hl2)
theorem AX.astore_n (h : AX l G cc nL own Ts F Lc Z) {i : Nat} {x : Nat} {f : Fin 4} (lv' : List (Nat × Value)) (d : decode cc pc = .ok (.astore_n f, 1)) (hi : (f : Nat) = i) (hn : i < nL) (hl' : (i, Value.ref x) :: lv.filter (fun q => !(q.1 == i) && !(q.1 + 1 == i && q.2.category == 2)) = lv') (k : Z (pc + 1) lv' st M) : Z pc lv (.ref x :: st) M := by
  obtain ⟨p, e, R, s, m, args, below, meth, c, A, H0, cells, slots, Q, ⟨hx, hb, hml, hown, hts⟩, hK, hA, hG, hX, hNW, hbl, hbA, hF, hL, hc, hs, rfl⟩ := h
  intro H locs ls hP hS hl
  exact lv_astore_n hx hb d hi hl hn hl' (fun ls' hl2 => k H locs ls' hP hS hl2)
theorem AX.iinc (h : AX l G cc nL own Ts F Lc Z) {i : Nat} {n : Int} {x v : Int32} (lv' : List (Nat × Value)) (d : decode cc pc = .ok (.iinc i n, 3)) (q : Nat) (hq : lv[q]? = some (i, .int x)) (hv : x + Int32.ofInt n = v) (hn : i < nL) (hl' : (i, Value.int v) :: lv.filter (fun q => !(q.1 == i) && !(q.1 + 1 == i && q.2.category == 2)) = lv') (k : Z (pc + 3) lv' st M) : Z pc lv st M := by
  obtain ⟨p, e, R, s, m, args, below, meth, c, A, H0, cells, slots, Q, ⟨hx, hb, hml, hown, hts⟩, hK, hA, hG, hX, hNW, hbl, hbA, hF, hL, hc, hs, rfl⟩ := h
  intro H locs ls hP hS hl
  exact lv_iinc hx hb d hl (k := q) hq hv hn hl' (fun ls' hl2 => k H locs ls' hP hS hl2)
theorem AX.dup (h : AX l G cc nL own Ts F Lc Z) {v : Value} (d : decode cc pc = .ok (.dup, 1)) (hv : v.category = 1) (k : Z (pc + 1) lv (v :: v :: st) M) : Z pc lv (v :: st) M := by
  obtain ⟨p, e, R, s, m, args, below, meth, c, A, H0, cells, slots, Q, ⟨hx, hb, hml, hown, hts⟩, hK, hA, hG, hX, hNW, hbl, hbA, hF, hL, hc, hs, rfl⟩ := h
  intro H locs ls hP hS hl
  exact lv_dup hx hb d hv (k H locs ls hP hS hl)
theorem AX.dup2 (h : AX l G cc nL own Ts F Lc Z) {v u : Value} (d : decode cc pc = .ok (.dup2, 1)) (hv : v.category = 1) (hu : u.category = 1) (k : Z (pc + 1) lv (v :: u :: v :: u :: st) M) : Z pc lv (v :: u :: st) M := by
  obtain ⟨p, e, R, s, m, args, below, meth, c, A, H0, cells, slots, Q, ⟨hx, hb, hml, hown, hts⟩, hK, hA, hG, hX, hNW, hbl, hbA, hF, hL, hc, hs, rfl⟩ := h
  intro H locs ls hP hS hl
  exact lv_dup2_11 hx hb d hv hu (k H locs ls hP hS hl)
theorem AX.goto (h : AX l G cc nL own Ts F Lc Z) {o : Int} (tgt : Nat) (d : decode cc pc = .ok (.goto o, 3)) (ht : (pc : Int) + o = (tgt : Int)) (k : Z tgt lv st M) : Z pc lv st M := by
  obtain ⟨p, e, R, s, m, args, below, meth, c, A, H0, cells, slots, Q, ⟨hx, hb, hml, hown, hts⟩, hK, hA, hG, hX, hNW, hbl, hbA, hF, hL, hc, hs, rfl⟩ := h
  intro H locs ls hP hS hl
  exact lv_goto hx hb d ht (k H locs ls hP hS hl)
theorem AX.if_eq (h : AX l G cc nL own Ts F Lc Z) {o : Int} {x : Int32} (tgt : Nat) (d : decode cc pc = .ok (.ifCond .eq o, 3)) (ht : (pc : Int) + o = (tgt : Int)) (kt : x = 0 → Z tgt lv st M) (kf : ¬ x = 0 → Z (pc + 3) lv st M) : Z pc lv (.int x :: st) M := by
  obtain ⟨p, e, R, s, m, args, below, meth, c, A, H0, cells, slots, Q, ⟨hx, hb, hml, hown, hts⟩, hK, hA, hG, hX, hNW, hbl, hbA, hF, hL, hc, hs, rfl⟩ := h
  intro H locs ls hP hS hl
  exact lv_if_eq hx hb d ht (fun q => kt q H locs ls hP hS hl) (fun q => kf q H locs ls hP hS hl)
theorem AX.icmp_eq (h : AX l G cc nL own Ts F Lc Z) {o : Int} {x y : Int32} (tgt : Nat) (d : decode cc pc = .ok (.if_icmp .eq o, 3)) (ht : (pc : Int) + o = (tgt : Int)) (kt : x = y → Z tgt lv st M) (kf : ¬ x = y → Z (pc + 3) lv st M) : Z pc lv (.int y :: .int x :: st) M := by
  obtain ⟨p, e, R, s, m, args, below, meth, c, A, H0, cells, slots, Q, ⟨hx, hb, hml, hown, hts⟩, hK, hA, hG, hX, hNW, hbl, hbA, hF, hL, hc, hs, rfl⟩ := h
  intro H locs ls hP hS hl
  exact lv_icmp_eq hx hb d ht (fun q => kt q H locs ls hP hS hl) (fun q => kf q H locs ls hP hS hl)
theorem AX.if_ne (h : AX l G cc nL own Ts F Lc Z) {o : Int} {x : Int32} (tgt : Nat) (d : decode cc pc = .ok (.ifCond .ne o, 3)) (ht : (pc : Int) + o = (tgt : Int)) (kt : ¬ x = 0 → Z tgt lv st M) (kf : x = 0 → Z (pc + 3) lv st M) : Z pc lv (.int x :: st) M := by
  obtain ⟨p, e, R, s, m, args, below, meth, c, A, H0, cells, slots, Q, ⟨hx, hb, hml, hown, hts⟩, hK, hA, hG, hX, hNW, hbl, hbA, hF, hL, hc, hs, rfl⟩ := h
  intro H locs ls hP hS hl
  exact lv_if_ne hx hb d ht (fun q => kt q H locs ls hP hS hl) (fun q => kf q H locs ls hP hS hl)
theorem AX.icmp_ne (h : AX l G cc nL own Ts F Lc Z) {o : Int} {x y : Int32} (tgt : Nat) (d : decode cc pc = .ok (.if_icmp .ne o, 3)) (ht : (pc : Int) + o = (tgt : Int)) (kt : ¬ x = y → Z tgt lv st M) (kf : x = y → Z (pc + 3) lv st M) : Z pc lv (.int y :: .int x :: st) M := by
  obtain ⟨p, e, R, s, m, args, below, meth, c, A, H0, cells, slots, Q, ⟨hx, hb, hml, hown, hts⟩, hK, hA, hG, hX, hNW, hbl, hbA, hF, hL, hc, hs, rfl⟩ := h
  intro H locs ls hP hS hl
  exact lv_icmp_ne hx hb d ht (fun q => kt q H locs ls hP hS hl) (fun q => kf q H locs ls hP hS hl)
theorem AX.if_lt (h : AX l G cc nL own Ts F Lc Z) {o : Int} {x : Int32} (tgt : Nat) (d : decode cc pc = .ok (.ifCond .lt o, 3)) (ht : (pc : Int) + o = (tgt : Int)) (kt : x < 0 → Z tgt lv st M) (kf : ¬ x < 0 → Z (pc + 3) lv st M) : Z pc lv (.int x :: st) M := by
  obtain ⟨p, e, R, s, m, args, below, meth, c, A, H0, cells, slots, Q, ⟨hx, hb, hml, hown, hts⟩, hK, hA, hG, hX, hNW, hbl, hbA, hF, hL, hc, hs, rfl⟩ := h
  intro H locs ls hP hS hl
  exact lv_if_lt hx hb d ht (fun q => kt q H locs ls hP hS hl) (fun q => kf q H locs ls hP hS hl)
theorem AX.icmp_lt (h : AX l G cc nL own Ts F Lc Z) {o : Int} {x y : Int32} (tgt : Nat) (d : decode cc pc = .ok (.if_icmp .lt o, 3)) (ht : (pc : Int) + o = (tgt : Int)) (kt : x < y → Z tgt lv st M) (kf : ¬ x < y → Z (pc + 3) lv st M) : Z pc lv (.int y :: .int x :: st) M := by
  obtain ⟨p, e, R, s, m, args, below, meth, c, A, H0, cells, slots, Q, ⟨hx, hb, hml, hown, hts⟩, hK, hA, hG, hX, hNW, hbl, hbA, hF, hL, hc, hs, rfl⟩ := h
  intro H locs ls hP hS hl
  exact lv_icmp_lt hx hb d ht (fun q => kt q H locs ls hP hS hl) (fun q => kf q H locs ls hP hS hl)
theorem AX.if_ge (h : AX l G cc nL own Ts F Lc Z) {o : Int} {x : Int32} (tgt : Nat) (d : decode cc pc = .ok (.ifCond .ge o, 3)) (ht : (pc : Int) + o = (tgt : Int)) (kt : 0 ≤ x → Z tgt lv st M) (kf : ¬ 0 ≤ x → Z (pc + 3) lv st M) : Z pc lv (.int x :: st) M := by
  obtain ⟨p, e, R, s, m, args, below, meth, c, A, H0, cells, slots, Q, ⟨hx, hb, hml, hown, hts⟩, hK, hA, hG, hX, hNW, hbl, hbA, hF, hL, hc, hs, rfl⟩ := h
  intro H locs ls hP hS hl
  exact lv_if_ge hx hb d ht (fun q => kt q H locs ls hP hS hl) (fun q => kf q H locs ls hP hS hl)
theorem AX.icmp_ge (h : AX l G cc nL own Ts F Lc Z) {o : Int} {x y : Int32} (tgt : Nat) (d : decode cc pc = .ok (.if_icmp .ge o, 3)) (ht : (pc : Int) + o = (tgt : Int)) (kt : y ≤ x → Z tgt lv st M) (kf : ¬ y ≤ x → Z (pc + 3) lv st M) : Z pc lv (.int y :: .int x :: st) M := by
  obtain ⟨p, e, R, s, m, args, below, meth, c, A, H0, cells, slots, Q, ⟨hx, hb, hml, hown, hts⟩, hK, hA, hG, hX, hNW, hbl, hbA, hF, hL, hc, hs, rfl⟩ := h
  intro H locs ls hP hS hl
  exact lv_icmp_ge hx hb d ht (fun q => kt q H locs ls hP hS hl) (fun q => kf q H locs ls hP hS hl)
theorem AX.if_gt (h : AX l G cc nL own Ts F Lc Z) {o : Int} {x : Int32} (tgt : Nat) (d : decode cc pc = .ok (.ifCond .gt o, 3)) (ht : (pc : Int) + o = (tgt : Int)) (kt : 0 < x → Z tgt lv st M) (kf : ¬ 0 < x → Z (pc + 3) lv st M) : Z pc lv (.int x :: st) M := by
  obtain ⟨p, e, R, s, m, args, below, meth, c, A, H0, cells, slots, Q, ⟨hx, hb, hml, hown, hts⟩, hK, hA, hG, hX, hNW, hbl, hbA, hF, hL, hc, hs, rfl⟩ := h
  intro H locs ls hP hS hl
  exact lv_if_gt hx hb d ht (fun q => kt q H locs ls hP hS hl) (fun q => kf q H locs ls hP hS hl)
theorem AX.icmp_gt (h : AX l G cc nL own Ts F Lc Z) {o : Int} {x y : Int32} (tgt : Nat) (d : decode cc pc = .ok (.if_icmp .gt o, 3)) (ht : (pc : Int) + o = (tgt : Int)) (kt : y < x → Z tgt lv st M) (kf : ¬ y < x → Z (pc + 3) lv st M) : Z pc lv (.int y :: .int x :: st) M := by
  obtain ⟨p, e, R, s, m, args, below, meth, c, A, H0, cells, slots, Q, ⟨hx, hb, hml, hown, hts⟩, hK, hA, hG, hX, hNW, hbl, hbA, hF, hL, hc, hs, rfl⟩ := h
  intro H locs ls hP hS hl
  exact lv_icmp_gt hx hb d ht (fun q => kt q H locs ls hP hS hl) (fun q => kf q H locs ls hP hS hl)
theorem AX.if_le (h : AX l G cc nL own Ts F Lc Z) {o : Int} {x : Int32} (tgt : Nat) (d : decode cc pc = .ok (.ifCond .le o, 3)) (ht : (pc : Int) + o = (tgt : Int)) (kt : x ≤ 0 → Z tgt lv st M) (kf : ¬ x ≤ 0 → Z (pc + 3) lv st M) : Z pc lv (.int x :: st) M := by
  obtain ⟨p, e, R, s, m, args, below, meth, c, A, H0, cells, slots, Q, ⟨hx, hb, hml, hown, hts⟩, hK, hA, hG, hX, hNW, hbl, hbA, hF, hL, hc, hs, rfl⟩ := h
  intro H locs ls hP hS hl
  exact lv_if_le hx hb d ht (fun q => kt q H locs ls hP hS hl) (fun q => kf q H locs ls hP hS hl)
theorem AX.icmp_le (h : AX l G cc nL own Ts F Lc Z) {o : Int} {x y : Int32} (tgt : Nat) (d : decode cc pc = .ok (.if_icmp .le o, 3)) (ht : (pc : Int) + o = (tgt : Int)) (kt : x ≤ y → Z tgt lv st M) (kf : ¬ x ≤ y → Z (pc + 3) lv st M) : Z pc lv (.int y :: .int x :: st) M := by
  obtain ⟨p, e, R, s, m, args, below, meth, c, A, H0, cells, slots, Q, ⟨hx, hb, hml, hown, hts⟩, hK, hA, hG, hX, hNW, hbl, hbA, hF, hL, hc, hs, rfl⟩ := h
  intro H locs ls hP hS hl
  exact lv_icmp_le hx hb d ht (fun q => kt q H locs ls hP hS hl) (fun q => kf q H locs ls hP hS hl)
theorem AX.tsw (h : AX l G cc nL own Ts F Lc Z) {dflt lo hi : Int} {offs : Array Int} {len : Nat} {x : Int32} {o : Int} (tgt : Nat) (d : decode cc pc = .ok (.tableswitch dflt lo hi offs, len)) (h1 : ¬ x.toInt < lo) (h2 : ¬ hi < x.toInt) (ho : offs[(x.toInt - lo).toNat]? = some o) (ht : (pc : Int) + o = (tgt : Int)) (k : Z tgt lv st M) : Z pc lv (.int x :: st) M := by
  obtain ⟨p, e, R, s, m, args, below, meth, c, A, H0, cells, slots, Q, ⟨hx, hb, hml, hown, hts⟩, hK, hA, hG, hX, hNW, hbl, hbA, hF, hL, hc, hs, rfl⟩ := h
  intro H locs ls hP hS hl
  exact lv_tableIn hx hb d h1 h2 ho ht (k H locs ls hP hS hl)
theorem AX.tsd (h : AX l G cc nL own Ts F Lc Z) {dflt lo hi : Int} {offs : Array Int} {len : Nat} {x : Int32} (tgt : Nat) (d : decode cc pc = .ok (.tableswitch dflt lo hi offs, len)) (h1 : x.toInt < lo ∨ hi < x.toInt) (ht : (pc : Int) + dflt = (tgt : Int)) (k : Z tgt lv st M) : Z pc lv (.int x :: st) M := by
  obtain ⟨p, e, R, s, m, args, below, meth, c, A, H0, cells, slots, Q, ⟨hx, hb, hml, hown, hts⟩, hK, hA, hG, hX, hNW, hbl, hbA, hF, hL, hc, hs, rfl⟩ := h
  intro H locs ls hP hS hl
  exact lv_tableOut hx hb d h1 ht (k H locs ls hP hS hl)
theorem AX.sub (h : AX l G cc nL own Ts F Lc Z) (ks : List Nat) {lv' : List (Nat × Value)} (hl' : lv_pick lv ks = lv') (k : Z pc lv' st M) : Z pc lv st M := by
  obtain ⟨p, e, R, s, m, args, below, meth, c, A, H0, cells, slots, Q, ⟨hx, hb, hml, hown, hts⟩, hK, hA, hG, hX, hNW, hbl, hbA, hF, hL, hc, hs, rfl⟩ := h
  intro H locs ls hP hS hl
  exact k H locs ls hP hS (lv_sub hl ks hl')
theorem AX.getf (h : AX l G cc nL own Ts F Lc Z) {f o i ci N C T fs ix j} {v : Value} (hk : (f, o, i) ∈ KS G) (he : ctv G f o i (M f o i) = .inr (ci, fs)) (hc : vwCl[ci]? = some (C, T, N)) (hj : j < N) (hin : ∀ w ∈ u_ws C T N, w ∈ Ts) (hlink : Cond.fieldLink own ix (T j).1 (T j).2.1 (T j).2.2.1 ∈ Ts) (hv : fs[j]? = some v) (d : decode cc pc = .ok (.getfield ix, 3)) (k : Z (pc + 3) lv (v :: st) M) : Z pc lv (.ref (gA G (f, o, i)) :: st) M := by
  obtain ⟨p, e, R, s, m, args, below, meth, c, A, H0, cells, slots, Q, ⟨hx, hb, hml, hown, hts⟩, hK, hA, hG, hX, hNW, hbl, hbA, hF, hL, hc, hs, rfl⟩ := h
  intro H locs ls hP hS hl
  obtain ⟨q, -, hq⟩ := WL_at (G := G) (M := M) hk
  have hq : (WL G M)[q]? = some (gA G (f, o, i), .inr (ci, fs)) := by rw [hq]; unfold ct; rw [he]
  exact va_get hx hb hts hin hown hK hP q hq hc j hj (hts _ hlink) (fun _ h9 => h9) hv d (k H locs ls hP hS hl)
theorem AX.putf (h : AX l G cc nL own Ts F Lc Z) {f o i ci N C T fs ix j ty} {ty0 : Nat → FieldType} {x : Int32} (hk : (f, o, i) ∈ KS G) (he : ctv G f o i (M f o i) = .inr (ci, fs)) (hc : vwCl[ci]? = some (C, T, N)) (hj : j < N) (hin : ∀ w ∈ u_ws C T N, w ∈ Ts) (hty : ∀ k, k < N → parseFieldDescriptor (T k).2.2.1 = some (ty0 k)) (hnm : ∀ a, a < N → ∀ b, b < N → a ≠ b → (T a).2.1 ≠ (T b).2.1) (hlink : Cond.fieldLink own ix (T j).1 (T j).2.1 (T j).2.2.1 ∈ Ts) (hfin : (T j).2.2.2 = false) (hd : parseFieldDescriptor (T j).2.2.1 = some ty) (hn : narrow ty (.int x) = .int x) (hfit : fits ty (.int x) = true) (hl9 : j < fs.length) (he2 : ctv G f o i (upd (M f o i) j x) = .inr (ci, fs.set j (.int x))) (d : decode cc pc = .ok (.putfield ix, 3)) (k : ∀ M' : Mem, M' = sM M f o i j x → Z (pc + 3) lv st M') : Z pc lv (.int x :: .ref (gA G (f, o, i)) :: st) M := by
  obtain ⟨p, e, R, s, m, args, below, meth, c, A, H0, cells, slots, Q, ⟨hx, hb, hml, hown, hts⟩, hK, hA, hG, hX, hNW, hbl, hbA, hF, hL, hc, hs, rfl⟩ := h
  intro H locs ls hP hS hl
  obtain ⟨q, hq0, hq⟩ := WL_at (G := G) (M := M) hk
  have hq : (WL G M)[q]? = some (gA G (f, o, i), .inr (ci, fs)) := by rw [hq]; unfold ct; rw [he]
  refine va_put hx hb hts hin ty0 hty hnm hown hK hP (WL_D hG hA) hS q hq hc j hj (hts _ hlink) (fun _ h9 => h9) hfin hd hn hfit hl9 d (fun H1 locs1 hP1 hD1 hS1 => ?_)
  rw [WL_set hG.2.1 hq0 he2] at hP1
  exact k _ rfl H1 locs1 ls hP1 hS1 hl
theorem AX.getN (h : AX l G cc nL own Ts F Lc Z) {f o i ci N C T fs ix j} {v : Value} (hk : (f, o, i) ∈ KS G) (he : ctv G f o i (M f o i) = .inr (ci, fs)) (hc : vwCl[ci]? = some (C, T, N)) (hj : j < N) (hin : ∀ w ∈ u_ws C T N, w ∈ Ts) {own0 host} (hown0 : own = own0) (hlink : (own0, ix, (T j).1, (T j).2.1, (T j).2.2.1, host) ∈ NWF) (hv : fs[j]? = some v) (d : decode cc pc = .ok (.getfield ix, 3)) (k : Z (pc + 3) lv (v :: st) M) : Z pc lv (.ref (gA G (f, o, i)) :: st) M := by
  obtain ⟨p, e, R, s, m, args, below, meth, c, A, H0, cells, slots, Q, ⟨hx, hb, hml, hown, hts⟩, hK, hA, hG, hX, hNW, hbl, hbA, hF, hL, hc, hs, rfl⟩ := h
  intro H locs ls hP hS hl
  subst hown0
  obtain ⟨q, -, hq⟩ := WL_at (G := G) (M := M) hk
  have hq : (WL G M)[q]? = some (gA G (f, o, i), .inr (ci, fs)) := by rw [hq]; unfold ct; rw [he]
  exact va_getN hx hb hts hin hown hK hP q hq hc j hj ((hNW _ hlink).use rfl) (fun _ h9 => h9) hv d (k H locs ls hP hS hl)
theorem AX.putN (h : AX l G cc nL own Ts F Lc Z) {f o i ci N C T fs ix j ty} {ty0 : Nat → FieldType} {x : Int32} (hk : (f, o, i) ∈ KS G) (he : ctv G f o i (M f o i) = .inr (ci, fs)) (hc : vwCl[ci]? = some (C, T, N)) (hj : j < N) (hin : ∀ w ∈ u_ws C T N, w ∈ Ts) (hty : ∀ k, k < N → parseFieldDescriptor (T k).2.2.1 = some (ty0 k)) (hnm : ∀ a, a < N → ∀ b, b < N → a ≠ b → (T a).2.1 ≠ (T b).2.1) {own0 host} (hown0 : own = own0) (hlink : (own0, ix, (T j).1, (T j).2.1, (T j).2.2.1, host) ∈ NWF) (hfin : (T j).2.2.2 = false) (hd : parseFieldDescriptor (T j).2.2.1 = some ty) (hn : narrow ty (.int x) = .int x) (hfit : fits ty (.int x) = true) (hl9 : j < fs.length) (he2 : ctv G f o i (upd (M f o i) j x) = .inr (ci, fs.set j (.int x))) (d : decode cc pc = .ok (.putfield ix, 3)) (k : ∀ M' : Mem, M' = sM M f o i j x → Z (pc + 3) lv st M') : Z pc lv (.int x :: .ref (gA G (f, o, i)) :: st) M := by
  obtain ⟨p, e, R, s, m, args, below, meth, c, A, H0, cells, slots, Q, ⟨hx, hb, hml, hown, hts⟩, hK, hA, hG, hX, hNW, hbl, hbA, hF, hL, hc, hs, rfl⟩ := h
  intro H locs ls hP hS hl
  subst hown0
  obtain ⟨q, hq0, hq⟩ := WL_at (G := G) (M := M) hk
  have hq : (WL G M)[q]? = some (gA G (f, o, i), .inr (ci, fs)) := by rw [hq]; unfold ct; rw [he]
  refine va_putN hx hb hts hin ty0 hty hnm hown hK hP (WL_D hG hA) hS q hq hc j hj ((hNW _ hlink).use rfl) (fun _ h9 => h9) hfin hd hn hfit hl9 d (fun H1 locs1 hP1 hD1 hS1 => ?_)
  rw [WL_set hG.2.1 hq0 he2] at hP1
  exact k _ rfl H1 locs1 ls hP1 hS1 hl
theorem AX.iald (h : AX l G cc nL own Ts F Lc Z) {f o i n : Nat} {ix : Int32} (hk : (f, o, i) ∈ KS G) (he : ∀ v, ctv G f o i v = .inl (gI G, n, .inl v)) (hin : vp_in ix n) (d : decode cc pc = .ok (.iaload, 1)) (k : Z (pc + 1) lv (.int (M f o i ix.toNatClampNeg) :: st) M) : Z pc lv (.int ix :: .ref (gA G (f, o, i)) :: st) M := by
  obtain ⟨p, e, R, s, m, args, below, meth, c, A, H0, cells, slots, Q, ⟨hx, hb, hml, hown, hts⟩, hK, hA, hG, hX, hNW, hbl, hbA, hF, hL, hc, hs, rfl⟩ := h
  intro H locs ls hP hS hl
  obtain ⟨q, -, hq⟩ := WL_at (G := G) (M := M) hk
  have hq : (WL G M)[q]? = some (gA G (f, o, i), .inl (gI G, n, .inl (M f o i))) := by rw [hq]; unfold ct; rw [he]
  exact va_iald hx hb hK hP q 0 hq rfl hin d (k H locs ls hP hS hl)
theorem AX.zald (h : AX l G cc nL own Ts F Lc Z) {f o i n : Nat} {ix : Int32} (hk : (f, o, i) ∈ KS G) (he : ∀ v, ctv G f o i v = .inl (gZ G, n, .inl v)) (hin : vp_in ix n) (d : decode cc pc = .ok (.baload, 1)) (k : Z (pc + 1) lv (.int (M f o i ix.toNatClampNeg) :: st) M) : Z pc lv (.int ix :: .ref (gA G (f, o, i)) :: st) M := by
  obtain ⟨p, e, R, s, m, args, below, meth, c, A, H0, cells, slots, Q, ⟨hx, hb, hml, hown, hts⟩, hK, hA, hG, hX, hNW, hbl, hbA, hF, hL, hc, hs, rfl⟩ := h
  intro H locs ls hP hS hl
  obtain ⟨q, -, hq⟩ := WL_at (G := G) (M := M) hk
  have hq : (WL G M)[q]? = some (gA G (f, o, i), .inl (gZ G, n, .inl (M f o i))) := by rw [hq]; unfold ct; rw [he]
  exact va_zald hx hb hK hP q 1 hq rfl hin d (k H locs ls hP hS hl)
theorem AX.iast (h : AX l G cc nL own Ts F Lc Z) {f o i n : Nat} {ix x : Int32} (hk : (f, o, i) ∈ KS G) (he : ∀ v, ctv G f o i v = .inl (gI G, n, .inl v)) (hin : vp_in ix n) (d : decode cc pc = .ok (.iastore, 1)) (k : ∀ M' : Mem, M' = sM M f o i ix.toNatClampNeg x → Z (pc + 1) lv st M') : Z pc lv (.int x :: .int ix :: .ref (gA G (f, o, i)) :: st) M := by
  obtain ⟨p, e, R, s, m, args, below, meth, c, A, H0, cells, slots, Q, ⟨hx, hb, hml, hown, hts⟩, hK, hA, hG, hX, hNW, hbl, hbA, hF, hL, hc, hs, rfl⟩ := h
  intro H locs ls hP hS hl
  obtain ⟨q, hq0, hq⟩ := WL_at (G := G) (M := M) hk
  have hq : (WL G M)[q]? = some (gA G (f, o, i), .inl (gI G, n, .inl (M f o i))) := by rw [hq]; unfold ct; rw [he]
  refine va_iast hx hb hK hP (WL_D hG hA) hS q 0 hq rfl hin d (fun H1 locs1 hP1 hD1 hS1 => ?_)
  rw [WL_set hG.2.1 hq0 (he _)] at hP1
  exact k _ rfl H1 locs1 ls hP1 hS1 hl
theorem zb_nar {x : Int32} (h : zb x) : vp_nar .boolean x = x := by
  rcases h with rfl | rfl <;> decide
theorem zb_narrow {x : Int32} (h : zb x) : narrow .boolean (.int x) = .int x := by
  rcases h with rfl | rfl <;> decide
theorem zb_fits {x : Int32} (h : zb x) : fits .boolean (.int x) = true := by
  rcases h with rfl | rfl <;> decide
theorem zb_0 : zb 0 := Or.inl rfl
theorem zb_1 : zb 1 := Or.inr rfl
theorem AX.zast (h : AX l G cc nL own Ts F Lc Z) {f o i n : Nat} {ix x : Int32} (hk : (f, o, i) ∈ KS G) (he : ∀ v, ctv G f o i v = .inl (gZ G, n, .inl v)) (hin : vp_in ix n) (hz : zb x) (d : decode cc pc = .ok (.bastore, 1)) (k : ∀ M' : Mem, M' = sM M f o i ix.toNatClampNeg x → Z (pc + 1) lv st M') : Z pc lv (.int x :: .int ix :: .ref (gA G (f, o, i)) :: st) M := by
  obtain ⟨p, e, R, s, m, args, below, meth, c, A, H0, cells, slots, Q, ⟨hx, hb, hml, hown, hts⟩, hK, hA, hG, hX, hNW, hbl, hbA, hF, hL, hc, hs, rfl⟩ := h
  intro H locs ls hP hS hl
  obtain ⟨q, hq0, hq⟩ := WL_at (G := G) (M := M) hk
  have hq : (WL G M)[q]? = some (gA G (f, o, i), .inl (gZ G, n, .inl (M f o i))) := by rw [hq]; unfold ct; rw [he]
  refine va_zast hx hb hK hP (WL_D hG hA) hS q 1 hq rfl hin d (fun H1 locs1 hP1 hD1 hS1 => ?_)
  rw [zb_nar hz] at hP1
  rw [WL_set hG.2.1 hq0 (he _)] at hP1
  exact k _ rfl H1 locs1 ls hP1 hS1 hl
theorem AX.aald (h : AX l G cc nL own Ts F Lc Z) {o : Nat} {ix : Int32} (ho : o < 2) (hin : vp_in ix 30) (d : decode cc pc = .ok (.aaload, 1)) (k : Z (pc + 1) lv (.ref (gA G (4, o, ix.toNatClampNeg)) :: st) M) : Z pc lv (.int ix :: .ref (gA G (11, o, 0)) :: st) M := by
  obtain ⟨p, e, R, s, m, args, below, meth, c, A, H0, cells, slots, Q, ⟨hx, hb, hml, hown, hts⟩, hK, hA, hG, hX, hNW, hbl, hbA, hF, hL, hc, hs, rfl⟩ := h
  intro H locs ls hP hS hl
  obtain ⟨q, -, hq⟩ := WL_at (G := G) (M := M) (k_1 (f := 11) 2 (by decide) ho)
  have hq : (WL G M)[q]? = some (gA G (11, o, 0), .inl (gR G, 30, .inr (.inr (.inr (.inr fun j => some (gA G (4, o, j))))))) := by rw [hq]; rfl
  exact va_aldq hx hb hK hP q 2 hq rfl hin d (k H locs ls hP hS hl)
theorem AX.mmax (h : AX l G cc nL own Ts F Lc Z) {ix : Nat} {x y : Int32} (h1 : Cond.methodLink own ix Lib.Math.max.name ∈ Ts) (h2 : Cond.static Lib.Math.max.name ∈ Ts) (h3 : Cond.initialized "java/lang/Math" ∈ Ts) (h4 : Cond.code Lib.Math.max.name Lib.Math.max.code 2 (some .int) ∈ Ts) (hF1 : 1 ≤ F) (hL1 : (st.map fun v => v.category).sum + 13 ≤ Lc) (d : decode cc pc = .ok (.invokestatic ix, 3)) (k : Z (pc + 3) lv (.int (if x < y then y else x) :: st) M) : Z pc lv (.int y :: .int x :: st) M := by
  obtain ⟨p, e, R, s, m, args, below, meth, c, A, H0, cells, slots, Q, ⟨hx, hb, hml, hown, hts⟩, hK, hA, hG, hX, hNW, hbl, hbA, hF, hL, hc, hs, rfl⟩ := h
  intro H locs ls hP hS hl
  exact va_mmax hx hb (hml.trans hl.1.symm) hown (hts _ h1) (hts _ h2) (hts _ h3) (hts _ h4) (Nat.le_trans hF1 hF) (Nat.le_trans hL1 hL) hc hs d (k H locs ls hP hS hl)
theorem AX.mmin (h : AX l G cc nL own Ts F Lc Z) {ix : Nat} {x y : Int32} (h1 : Cond.methodLink own ix Lib.Math.min.name ∈ Ts) (h2 : Cond.static Lib.Math.min.name ∈ Ts) (h3 : Cond.initialized "java/lang/Math" ∈ Ts) (h4 : Cond.code Lib.Math.min.name Lib.Math.min.code 2 (some .int) ∈ Ts) (hF1 : 1 ≤ F) (hL1 : (st.map fun v => v.category).sum + 13 ≤ Lc) (d : decode cc pc = .ok (.invokestatic ix, 3)) (k : Z (pc + 3) lv (.int (if y < x then y else x) :: st) M) : Z pc lv (.int y :: .int x :: st) M := by
  obtain ⟨p, e, R, s, m, args, below, meth, c, A, H0, cells, slots, Q, ⟨hx, hb, hml, hown, hts⟩, hK, hA, hG, hX, hNW, hbl, hbA, hF, hL, hc, hs, rfl⟩ := h
  intro H locs ls hP hS hl
  exact va_mmin hx hb (hml.trans hl.1.symm) hown (hts _ h1) (hts _ h2) (hts _ h3) (hts _ h4) (Nat.le_trans hF1 hF) (Nat.le_trans hL1 hL) hc hs d (k H locs ls hP hS hl)
theorem world_blind {args : List Value} {M : Mem} : FrameBlind (va_Pc args (World G M)) := fun a U g mk q => ⟨q.1, q.2.1, va_K.moved (u := U) (U := U.calling g mk a) (Vm.Alike.refl U.vm) q.2.2.1, va_X.moved (u := U) (U := U.calling g mk a) (Vm.Alike.refl U.vm) q.2.2.2.1, NW.same (s := U) (U := U.calling g mk a) rfl q.2.2.2.2⟩
theorem world_of {s U : State} {H0 H : Heap} {A : Nat → Prop} {locs : List Loc} (hP : va_P (gD G) vwCl (WL G M) H) (hK : va_K (gD G) vwCl (TY G) s) (hX : va_X (gB G) (gL G) (gS G) s H0) (hbl : gB G < H0.size) (hbA : ¬ A (gB G)) (hNW : NW s) (hS : va_S A H0 H locs) (hU : U.heap = H) (hW : s.WarmedH U.vm) : World G M U :=
  ⟨by rw [hU]; exact hP, va_K.moved hW.alike hK, by rw [hU]; exact va_X.moved hW.alike (hX.kept (hS.2.1 _ hbl hbA)), hNW.warm hW⟩
theorem AX.cVi (h : AX l G cc nL own Ts F Lc Z) {C : String} {y : MethodName} {ws ws' : List Cond} {ix n maxL F1 L1 : Nat} {bytes : ByteArray} {ret : Option FieldType} {P : Int32 → Mem → Prop} (As : List Value) (key : KY) (st : List Value) {ci fs q} (hM : CTi l G y ws F1 L1 (.ref (gA G key) :: As) M P) (hT : GoodIn Ts (wsV own ix C y ws)) (hw : ws = Cond.code y bytes maxL ret :: ws') (hd : y.cls = C ∧ y.cls ≠ "java/lang/invoke/MethodHandle" ∧ y.cls ≠ "java/lang/invoke/VarHandle" ∧ (parseMethodDescriptor y.desc).map (fun d => d.parameters.length) = some n) (hR : F1 + 1 ≤ F ∧ 8 + (maxL + 11) + L1 ≤ Lc) (hk : key ∈ KS G) (he : ct G M key = .inr (ci, fs)) (hc9 : vwCl[ci]? = some q) (hq9 : q.1 = C) (hn : As.length = n) {st0 : List Value} (hst : st0 = As.reverse ++ .ref (gA G key) :: st) (hrm : (st.map fun v => v.category).sum ≤ 8) (d : decode cc pc = .ok (.invokevirtual ix, 3)) (kk : ∀ (r : Int32) (M' : Mem), P r M' → Z (pc + 3) lv (.int r :: st) M') : Z pc lv st0 M := by
  obtain ⟨p, e, R, s, m, args, below, meth, c, A, H0, cells, slots, Q, ⟨hx, hb, hml, hown, hts⟩, hK, hA, hG, hX, hNW, hbl, hbA, hF, hL, hc, hs, rfl⟩ := h
  intro H locs ls hP hS hl
  obtain ⟨q9, -, hq⟩ := WL_at (G := G) (M := M) hk
  rw [he] at hq
  have hrecv := va_recv hK hP hc9 hq
  rw [hq9] at hrecv
  refine va_calli (va_runV (As := As) (rest := st) ⟨hx, hb, hml, hown, hts⟩ hM (cwV n hts hT hw rfl rfl hd ⟨Nat.le_trans hR.1 hF, Nat.le_trans hR.2 hL⟩) ⟨world_blind, hrecv, fun U hU hW => ⟨rfl, world_of hP hK hX hbl hbA hNW hS hU hW⟩⟩ rfl hn hl.1 hst (lv_room hrm) d ⟨hc, hs⟩) hS (fun q _ h => hA q h) (fun q h => hA q h) (fun r M' t H1 locs1 ht hvm hw hB hz1 hk1 hS1 => ?_)
  obtain ⟨hP1, -⟩ := hB
  rw [ht] at hP1
  exact kk r M' hw H1 locs1 ls hP1 hS1 hl
theorem AX.cSi (h : AX l G cc nL own Ts F Lc Z) {y : MethodName} {ws ws' : List Cond} {ix n maxL F1 L1 : Nat} {bytes : ByteArray} {ret : Option FieldType} {P : Int32 → Mem → Prop} (As : List Value) (st : List Value) (hM : CTi l G y ws F1 L1 As M P) (hT : GoodIn Ts (va_wsS own ix y ws)) (hw : ws = Cond.code y bytes maxL ret :: ws') (hd : y.cls ≠ "java/lang/invoke/MethodHandle" ∧ y.cls ≠ "java/lang/invoke/VarHandle" ∧ (parseMethodDescriptor y.desc).map (fun d => d.parameters.length) = some n) (hR : F1 + 1 ≤ F ∧ 8 + (maxL + 11) + L1 ≤ Lc) (hn : As.length = n) {st0 : List Value} (hst : st0 = As.reverse ++ st) (hrm : (st.map fun v => v.category).sum ≤ 8) (d : decode cc pc = .ok (.invokestatic ix, 3)) (kk : ∀ (r : Int32) (M' : Mem), P r M' → Z (pc + 3) lv (.int r :: st) M') : Z pc lv st0 M := by
  obtain ⟨p, e, R, s, m, args, below, meth, c, A, H0, cells, slots, Q, ⟨hx, hb, hml, hown, hts⟩, hK, hA, hG, hX, hNW, hbl, hbA, hF, hL, hc, hs, rfl⟩ := h
  intro H locs ls hP hS hl
  refine va_calli (va_runS (As := As) (rest := st) ⟨hx, hb, hml, hown, hts⟩ hM (va_cwS n hts hT hw rfl rfl hd ⟨Nat.le_trans hR.1 hF, Nat.le_trans hR.2 hL⟩) ⟨world_blind, fun U hU hW => ⟨rfl, world_of hP hK hX hbl hbA hNW hS hU hW⟩⟩ rfl hn hl.1 hst (lv_room hrm) d ⟨hc, hs⟩) hS (fun q _ h => hA q h) (fun q h => hA q h) (fun r M' t H1 locs1 ht hvm hw hB hz1 hk1 hS1 => ?_)
  obtain ⟨hP1, -⟩ := hB
  rw [ht] at hP1
  exact kk r M' hw H1 locs1 ls hP1 hS1 hl
theorem AX.cVl (h : AX l G cc nL own Ts F Lc Z) {C : String} {y : MethodName} {ws ws' : List Cond} {ix n maxL F1 L1 : Nat} {bytes : ByteArray} {ret : Option FieldType} {P : Int64 → Mem → Prop} (As : List Value) (key : KY) (st : List Value) {ci fs q} (hM : CTl l G y ws F1 L1 (.ref (gA G key) :: As) M P) (hT : GoodIn Ts (wsV own ix C y ws)) (hw : ws = Cond.code y bytes maxL ret :: ws') (hd : y.cls = C ∧ y.cls ≠ "java/lang/invoke/MethodHandle" ∧ y.cls ≠ "java/lang/invoke/VarHandle" ∧ (parseMethodDescriptor y.desc).map (fun d => d.parameters.length) = some n) (hR : F1 + 1 ≤ F ∧ 8 + (maxL + 11) + L1 ≤ Lc) (hk : key ∈ KS G) (he : ct G M key = .inr (ci, fs)) (hc9 : vwCl[ci]? = some q) (hq9 : q.1 = C) (hn : As.length = n) {st0 : List Value} (hst : st0 = As.reverse ++ .ref (gA G key) :: st) (hrm : (st.map fun v => v.category).sum ≤ 8) (d : decode cc pc = .ok (.invokevirtual ix, 3)) (kk : ∀ (r : Int64) (M' : Mem), P r M' → Z (pc + 3) lv (.long r :: st) M') : Z pc lv st0 M := by
  obtain ⟨p, e, R, s, m, args, below, meth, c, A, H0, cells, slots, Q, ⟨hx, hb, hml, hown, hts⟩, hK, hA, hG, hX, hNW, hbl, hbA, hF, hL, hc, hs, rfl⟩ := h
  intro H locs ls hP hS hl
  obtain ⟨q9, -, hq⟩ := WL_at (G := G) (M := M) hk
  rw [he] at hq
  have hrecv := va_recv hK hP hc9 hq
  rw [hq9] at hrecv
  refine va_calll (va_runV (As := As) (rest := st) ⟨hx, hb, hml, hown, hts⟩ hM (cwV n hts hT hw rfl rfl hd ⟨Nat.le_trans hR.1 hF, Nat.le_trans hR.2 hL⟩) ⟨world_blind, hrecv, fun U hU hW => ⟨rfl, world_of hP hK hX hbl hbA hNW hS hU hW⟩⟩ rfl hn hl.1 hst (lv_room hrm) d ⟨hc, hs⟩) hS (fun q _ h => hA q h) (fun q h => hA q h) (fun r M' t H1 locs1 ht hvm hw hB hz1 hk1 hS1 => ?_)
  obtain ⟨hP1, -⟩ := hB
  rw [ht] at hP1
  exact kk r M' hw H1 locs1 ls hP1 hS1 hl
theorem AX.cSl (h : AX l G cc nL own Ts F Lc Z) {y : MethodName} {ws ws' : List Cond} {ix n maxL F1 L1 : Nat} {bytes : ByteArray} {ret : Option FieldType} {P : Int64 → Mem → Prop} (As : List Value) (st : List Value) (hM : CTl l G y ws F1 L1 As M P) (hT : GoodIn Ts (va_wsS own ix y ws)) (hw : ws = Cond.code y bytes maxL ret :: ws') (hd : y.cls ≠ "java/lang/invoke/MethodHandle" ∧ y.cls ≠ "java/lang/invoke/VarHandle" ∧ (parseMethodDescriptor y.desc).map (fun d => d.parameters.length) = some n) (hR : F1 + 1 ≤ F ∧ 8 + (maxL + 11) + L1 ≤ Lc) (hn : As.length = n) {st0 : List Value} (hst : st0 = As.reverse ++ st) (hrm : (st.map fun v => v.category).sum ≤ 8) (d : decode cc pc = .ok (.invokestatic ix, 3)) (kk : ∀ (r : Int64) (M' : Mem), P r M' → Z (pc + 3) lv (.long r :: st) M') : Z pc lv st0 M := by
  obtain ⟨p, e, R, s, m, args, below, meth, c, A, H0, cells, slots, Q, ⟨hx, hb, hml, hown, hts⟩, hK, hA, hG, hX, hNW, hbl, hbA, hF, hL, hc, hs, rfl⟩ := h
  intro H locs ls hP hS hl
  refine va_calll (va_runS (As := As) (rest := st) ⟨hx, hb, hml, hown, hts⟩ hM (va_cwS n hts hT hw rfl rfl hd ⟨Nat.le_trans hR.1 hF, Nat.le_trans hR.2 hL⟩) ⟨world_blind, fun U hU hW => ⟨rfl, world_of hP hK hX hbl hbA hNW hS hU hW⟩⟩ rfl hn hl.1 hst (lv_room hrm) d ⟨hc, hs⟩) hS (fun q _ h => hA q h) (fun q h => hA q h) (fun r M' t H1 locs1 ht hvm hw hB hz1 hk1 hS1 => ?_)
  obtain ⟨hP1, -⟩ := hB
  rw [ht] at hP1
  exact kk r M' hw H1 locs1 ls hP1 hS1 hl
theorem AX.cVv (h : AX l G cc nL own Ts F Lc Z) {C : String} {y : MethodName} {ws ws' : List Cond} {ix n maxL F1 L1 : Nat} {bytes : ByteArray} {ret : Option FieldType} {P : Mem → Prop} (As : List Value) (key : KY) (st : List Value) {ci fs q} (hM : CTv l G y ws F1 L1 (.ref (gA G key) :: As) M P) (hT : GoodIn Ts (wsV own ix C y ws)) (hw : ws = Cond.code y bytes maxL ret :: ws') (hd : y.cls = C ∧ y.cls ≠ "java/lang/invoke/MethodHandle" ∧ y.cls ≠ "java/lang/invoke/VarHandle" ∧ (parseMethodDescriptor y.desc).map (fun d => d.parameters.length) = some n) (hR : F1 + 1 ≤ F ∧ 8 + (maxL + 11) + L1 ≤ Lc) (hk : key ∈ KS G) (he : ct G M key = .inr (ci, fs)) (hc9 : vwCl[ci]? = some q) (hq9 : q.1 = C) (hn : As.length = n) {st0 : List Value} (hst : st0 = As.reverse ++ .ref (gA G key) :: st) (hrm : (st.map fun v => v.category).sum ≤ 8) (d : decode cc pc = .ok (.invokevirtual ix, 3)) (kk : ∀ M' : Mem, P M' → Z (pc + 3) lv st M') : Z pc lv st0 M := by
  obtain ⟨p, e, R, s, m, args, below, meth, c, A, H0, cells, slots, Q, ⟨hx, hb, hml, hown, hts⟩, hK, hA, hG, hX, hNW, hbl, hbA, hF, hL, hc, hs, rfl⟩ := h
  intro H locs ls hP hS hl
  obtain ⟨q9, -, hq⟩ := WL_at (G := G) (M := M) hk
  rw [he] at hq
  have hrecv := va_recv hK hP hc9 hq
  rw [hq9] at hrecv
  refine va_callv (va_runV (As := As) (rest := st) ⟨hx, hb, hml, hown, hts⟩ hM (cwV n hts hT hw rfl rfl hd ⟨Nat.le_trans hR.1 hF, Nat.le_trans hR.2 hL⟩) ⟨world_blind, hrecv, fun U hU hW => ⟨rfl, world_of hP hK hX hbl hbA hNW hS hU hW⟩⟩ rfl hn hl.1 hst (lv_room hrm) d ⟨hc, hs⟩) hS (fun q _ h => hA q h) (fun q h => hA q h) (fun M' t H1 locs1 ht hvm hw hB hz1 hk1 hS1 => ?_)
  obtain ⟨hP1, -⟩ := hB
  rw [ht] at hP1
  exact kk M' hw H1 locs1 ls hP1 hS1 hl
theorem AX.cSv (h : AX l G cc nL own Ts F Lc Z) {y : MethodName} {ws ws' : List Cond} {ix n maxL F1 L1 : Nat} {bytes : ByteArray} {ret : Option FieldType} {P : Mem → Prop} (As : List Value) (st : List Value) (hM : CTv l G y ws F1 L1 As M P) (hT : GoodIn Ts (va_wsS own ix y ws)) (hw : ws = Cond.code y bytes maxL ret :: ws') (hd : y.cls ≠ "java/lang/invoke/MethodHandle" ∧ y.cls ≠ "java/lang/invoke/VarHandle" ∧ (parseMethodDescriptor y.desc).map (fun d => d.parameters.length) = some n) (hR : F1 + 1 ≤ F ∧ 8 + (maxL + 11) + L1 ≤ Lc) (hn : As.length = n) {st0 : List Value} (hst : st0 = As.reverse ++ st) (hrm : (st.map fun v => v.category).sum ≤ 8) (d : decode cc pc = .ok (.invokestatic ix, 3)) (kk : ∀ M' : Mem, P M' → Z (pc + 3) lv st M') : Z pc lv st0 M := by
  obtain ⟨p, e, R, s, m, args, below, meth, c, A, H0, cells, slots, Q, ⟨hx, hb, hml, hown, hts⟩, hK, hA, hG, hX, hNW, hbl, hbA, hF, hL, hc, hs, rfl⟩ := h
  intro H locs ls hP hS hl
  refine va_callv (va_runS (As := As) (rest := st) ⟨hx, hb, hml, hown, hts⟩ hM (va_cwS n hts hT hw rfl rfl hd ⟨Nat.le_trans hR.1 hF, Nat.le_trans hR.2 hL⟩) ⟨world_blind, fun U hU hW => ⟨rfl, world_of hP hK hX hbl hbA hNW hS hU hW⟩⟩ rfl hn hl.1 hst (lv_room hrm) d ⟨hc, hs⟩) hS (fun q _ h => hA q h) (fun q h => hA q h) (fun M' t H1 locs1 ht hvm hw hB hz1 hk1 hS1 => ?_)
  obtain ⟨hP1, -⟩ := hB
  rw [ht] at hP1
  exact kk M' hw H1 locs1 ls hP1 hS1 hl
theorem AX.cVr (h : AX l G cc nL own Ts F Lc Z) {C : String} {y : MethodName} {ws ws' : List Cond} {ix n maxL F1 L1 : Nat} {bytes : ByteArray} {ret : Option FieldType} {P : Nat → Mem → Prop} (As : List Value) (key : KY) (st : List Value) {ci fs q} (hM : CTr l G y ws F1 L1 (.ref (gA G key) :: As) M P) (hT : GoodIn Ts (wsV own ix C y ws)) (hw : ws = Cond.code y bytes maxL ret :: ws') (hd : y.cls = C ∧ y.cls ≠ "java/lang/invoke/MethodHandle" ∧ y.cls ≠ "java/lang/invoke/VarHandle" ∧ (parseMethodDescriptor y.desc).map (fun d => d.parameters.length) = some n) (hR : F1 + 1 ≤ F ∧ 8 + (maxL + 11) + L1 ≤ Lc) (hk : key ∈ KS G) (he : ct G M key = .inr (ci, fs)) (hc9 : vwCl[ci]? = some q) (hq9 : q.1 = C) (hn : As.length = n) {st0 : List Value} (hst : st0 = As.reverse ++ .ref (gA G key) :: st) (hrm : (st.map fun v => v.category).sum ≤ 8) (d : decode cc pc = .ok (.invokevirtual ix, 3)) (kk : ∀ (r : Nat) (M' : Mem), r < 5 → P r M' → Z (pc + 3) lv (.ref (gA G (3, r, 0)) :: st) M') : Z pc lv st0 M := by
  obtain ⟨p, e, R, s, m, args, below, meth, c, A, H0, cells, slots, Q, ⟨hx, hb, hml, hown, hts⟩, hK, hA, hG, hX, hNW, hbl, hbA, hF, hL, hc, hs, rfl⟩ := h
  intro H locs ls hP hS hl
  obtain ⟨q9, -, hq⟩ := WL_at (G := G) (M := M) hk
  rw [he] at hq
  have hrecv := va_recv hK hP hc9 hq
  rw [hq9] at hrecv
  refine va_callr (va_runV (As := As) (rest := st) ⟨hx, hb, hml, hown, hts⟩ hM (cwV n hts hT hw rfl rfl hd ⟨Nat.le_trans hR.1 hF, Nat.le_trans hR.2 hL⟩) ⟨world_blind, hrecv, fun U hU hW => ⟨rfl, world_of hP hK hX hbl hbA hNW hS hU hW⟩⟩ rfl hn hl.1 hst (lv_room hrm) d ⟨hc, hs⟩) hS (fun q _ h => hA q h) (fun q h => hA q h) (fun u ra t H1 locs1 ht hvm hw hB hz1 hk1 hS1 => ?_)
  obtain ⟨rfl, hP1, -⟩ := hB
  rw [ht] at hP1
  exact kk u.1 u.2 hw.1 hw.2 H1 locs1 ls hP1 hS1 hl
theorem AX.cSr (h : AX l G cc nL own Ts F Lc Z) {y : MethodName} {ws ws' : List Cond} {ix n maxL F1 L1 : Nat} {bytes : ByteArray} {ret : Option FieldType} {P : Nat → Mem → Prop} (As : List Value) (st : List Value) (hM : CTr l G y ws F1 L1 As M P) (hT : GoodIn Ts (va_wsS own ix y ws)) (hw : ws = Cond.code y bytes maxL ret :: ws') (hd : y.cls ≠ "java/lang/invoke/MethodHandle" ∧ y.cls ≠ "java/lang/invoke/VarHandle" ∧ (parseMethodDescriptor y.desc).map (fun d => d.parameters.length) = some n) (hR : F1 + 1 ≤ F ∧ 8 + (maxL + 11) + L1 ≤ Lc) (hn : As.length = n) {st0 : List Value} (hst : st0 = As.reverse ++ st) (hrm : (st.map fun v => v.category).sum ≤ 8) (d : decode cc pc = .ok (.invokestatic ix, 3)) (kk : ∀ (r : Nat) (M' : Mem), r < 5 → P r M' → Z (pc + 3) lv (.ref (gA G (3, r, 0)) :: st) M') : Z pc lv st0 M := by
  obtain ⟨p, e, R, s, m, args, below, meth, c, A, H0, cells, slots, Q, ⟨hx, hb, hml, hown, hts⟩, hK, hA, hG, hX, hNW, hbl, hbA, hF, hL, hc, hs, rfl⟩ := h
  intro H locs ls hP hS hl
  refine va_callr (va_runS (As := As) (rest := st) ⟨hx, hb, hml, hown, hts⟩ hM (va_cwS n hts hT hw rfl rfl hd ⟨Nat.le_trans hR.1 hF, Nat.le_trans hR.2 hL⟩) ⟨world_blind, fun U hU hW => ⟨rfl, world_of hP hK hX hbl hbA hNW hS hU hW⟩⟩ rfl hn hl.1 hst (lv_room hrm) d ⟨hc, hs⟩) hS (fun q _ h => hA q h) (fun q h => hA q h) (fun u ra t H1 locs1 ht hvm hw hB hz1 hk1 hS1 => ?_)
  obtain ⟨rfl, hP1, -⟩ := hB
  rw [ht] at hP1
  exact kk u.1 u.2 hw.1 hw.2 H1 locs1 ls hP1 hS1 hl
end AXR
theorem CTi_mk {l : Launch} {G : GG} {y : MethodName} {cc : ByteArray} {nL : Nat} {ws ws' : List Cond} {F1 L1 : Nat} {args : List Value} {M : Mem} {P : Int32 → Mem → Prop} (hG : GoodG G) (hy : plainName y.cls = true) (hw : ws = Cond.code y cc nL (some .int) :: ws') (hn : (lg_sl args).length ≤ nL) (body : ∀ Z : ZT, AX l G cc nL y.cls ws F1 L1 Z → RETi cc P Z → Z 0 (lv_args 0 args) [] M) : CTi l G y ws F1 L1 args M P := by
  refine Met.ofW (cc := cc) (maxL := nL) (ret := (some .int)) hy hw ?_
  intro p e s m args' below meth c s₁ B hml hv
  obtain ⟨rfl, hP, hK, hX, hNW⟩ := hv
  have hx := B.exec
  have hb := B.bytes
  have hr := B.returns
  have hts := atoms_spec (ws := ws) B.pre
  have hown : s.vm.findClass y.cls = some m.cls := findClass_of_methodNamed B.named
  have hlocks := B.notSynchronized
  have hbl : gB G < s.heap.size := by
    obtain ⟨scr, h1, -⟩ := hX
    exact (Array.getElem?_eq_some_iff.mp h1).1
  have hbA : ¬ AG G (gB G) := fun ⟨k, h1, h2⟩ => hG.2.2 k h1 h2
  have hl := lv_entry args (n := nL) hn
  rw [lg_entry_eq]
  refine body (ZZ p l e (headSpec ws (rmv F1 L1)).room s m args.toArray below meth c G (AG G) s.heap nL 0 0 _) ⟨p, e, _, s, m, _, below, meth, c, AG G, s.heap, 0, 0, _, ⟨hx, hb, hml, hown, hts⟩, hK, fun _ h => h, hG, hX, hNW, hbl, hbA, Nat.le_refl _, Nat.le_refl _, Nat.zero_le _, Nat.zero_le _, rfl⟩ ?_ s.heap [] _ hP va_S.rf hl
  intro pc lv r M' d hp H locs ls hP hS hl
  exact W.iret hx hb hr (fun t ht hW => ⟨⟨r, M', rfl, hp, world_of hP hK hX hbl hbA hNW hS ht hW⟩, hS.F ht⟩) hS.2.2 d
theorem CTz_mk {l : Launch} {G : GG} {y : MethodName} {cc : ByteArray} {nL : Nat} {ws ws' : List Cond} {F1 L1 : Nat} {args : List Value} {M : Mem} {P : Int32 → Mem → Prop} (hG : GoodG G) (hy : plainName y.cls = true) (hw : ws = Cond.code y cc nL (some .boolean) :: ws') (hn : (lg_sl args).length ≤ nL) (body : ∀ Z : ZT, AX l G cc nL y.cls ws F1 L1 Z → RETz cc P Z → Z 0 (lv_args 0 args) [] M) : CTi l G y ws F1 L1 args M P := by
  refine Met.ofW (cc := cc) (maxL := nL) (ret := (some .boolean)) hy hw ?_
  intro p e s m args' below meth c s₁ B hml hv
  obtain ⟨rfl, hP, hK, hX, hNW⟩ := hv
  have hx := B.exec
  have hb := B.bytes
  have hr := B.returns
  have hts := atoms_spec (ws := ws) B.pre
  have hown : s.vm.findClass y.cls = some m.cls := findClass_of_methodNamed B.named
  have hlocks := B.notSynchronized
  have hbl : gB G < s.heap.size := by
    obtain ⟨scr, h1, -⟩ := hX
    exact (Array.getElem?_eq_some_iff.mp h1).1
  have hbA : ¬ AG G (gB G) := fun ⟨k, h1, h2⟩ => hG.2.2 k h1 h2
  have hl := lv_entry args (n := nL) hn
  rw [lg_entry_eq]
  refine body (ZZ p l e (headSpec ws (rmv F1 L1)).room s m args.toArray below meth c G (AG G) s.heap nL 0 0 _) ⟨p, e, _, s, m, _, below, meth, c, AG G, s.heap, 0, 0, _, ⟨hx, hb, hml, hown, hts⟩, hK, fun _ h => h, hG, hX, hNW, hbl, hbA, Nat.le_refl _, Nat.le_refl _, Nat.zero_le _, Nat.zero_le _, rfl⟩ ?_ s.heap [] _ hP va_S.rf hl
  intro pc lv r M' d hz hp H locs ls hP hS hl
  exact W.zret hx hb hr (zb_narrow hz) (fun t ht hW => ⟨⟨r, M', rfl, hp, world_of hP hK hX hbl hbA hNW hS ht hW⟩, hS.F ht⟩) hS.2.2 d
theorem CTl_mk {l : Launch} {G : GG} {y : MethodName} {cc : ByteArray} {nL : Nat} {ws ws' : List Cond} {F1 L1 : Nat} {args : List Value} {M : Mem} {P : Int64 → Mem → Prop} (hG : GoodG G) (hy : plainName y.cls = true) (hw : ws = Cond.code y cc nL (some .long) :: ws') (hn : (lg_sl args).length ≤ nL) (body : ∀ Z : ZT, AX l G cc nL y.cls ws F1 L1 Z → RETl cc P Z → Z 0 (lv_args 0 args) [] M) : CTl l G y ws F1 L1 args M P := by
  refine Met.ofW (cc := cc) (maxL := nL) (ret := (some .long)) hy hw ?_
  intro p e s m args' below meth c s₁ B hml hv
  obtain ⟨rfl, hP, hK, hX, hNW⟩ := hv
  have hx := B.exec
  have hb := B.bytes
  have hr := B.returns
  have hts := atoms_spec (ws := ws) B.pre
  have hown : s.vm.findClass y.cls = some m.cls := findClass_of_methodNamed B.named
  have hlocks := B.notSynchronized
  have hbl : gB G < s.heap.size := by
    obtain ⟨scr, h1, -⟩ := hX
    exact (Array.getElem?_eq_some_iff.mp h1).1
  have hbA : ¬ AG G (gB G) := fun ⟨k, h1, h2⟩ => hG.2.2 k h1 h2
  have hl := lv_entry args (n := nL) hn
  rw [lg_entry_eq]
  refine body (ZZ p l e (headSpec ws (rmv F1 L1)).room s m args.toArray below meth c G (AG G) s.heap nL 0 0 _) ⟨p, e, _, s, m, _, below, meth, c, AG G, s.heap, 0, 0, _, ⟨hx, hb, hml, hown, hts⟩, hK, fun _ h => h, hG, hX, hNW, hbl, hbA, Nat.le_refl _, Nat.le_refl _, Nat.zero_le _, Nat.zero_le _, rfl⟩ ?_ s.heap [] _ hP va_S.rf hl
  intro pc lv r M' d hp H locs ls hP hS hl
  exact W.lret hx hb hr (fun t ht hW => ⟨⟨r, M', rfl, hp, world_of hP hK hX hbl hbA hNW hS ht hW⟩, hS.F ht⟩) hS.2.2 d
theorem CTr_mk {l : Launch} {G : GG} {y : MethodName} {cc : ByteArray} {nL : Nat} {ws ws' : List Cond} {F1 L1 : Nat} {args : List Value} {M : Mem} {P : Nat → Mem → Prop} {C : String} (hG : GoodG G) (hy : plainName y.cls = true) (hw : ws = Cond.code y cc nL (some (.object C)) :: ws') (hn : (lg_sl args).length ≤ nL) (body : ∀ Z : ZT, AX l G cc nL y.cls ws F1 L1 Z → RETr G cc P Z → Z 0 (lv_args 0 args) [] M) : CTr l G y ws F1 L1 args M P := by
  refine Met.ofW (cc := cc) (maxL := nL) (ret := (some (.object C))) hy hw ?_
  intro p e s m args' below meth c s₁ B hml hv
  obtain ⟨rfl, hP, hK, hX, hNW⟩ := hv
  have hx := B.exec
  have hb := B.bytes
  have hr := B.returns
  have hts := atoms_spec (ws := ws) B.pre
  have hown : s.vm.findClass y.cls = some m.cls := findClass_of_methodNamed B.named
  have hlocks := B.notSynchronized
  have hbl : gB G < s.heap.size := by
    obtain ⟨scr, h1, -⟩ := hX
    exact (Array.getElem?_eq_some_iff.mp h1).1
  have hbA : ¬ AG G (gB G) := fun ⟨k, h1, h2⟩ => hG.2.2 k h1 h2
  have hl := lv_entry args (n := nL) hn
  rw [lg_entry_eq]
  refine body (ZZ p l e (headSpec ws (rmv F1 L1)).room s m args.toArray below meth c G (AG G) s.heap nL 0 0 _) ⟨p, e, _, s, m, _, below, meth, c, AG G, s.heap, 0, 0, _, ⟨hx, hb, hml, hown, hts⟩, hK, fun _ h => h, hG, hX, hNW, hbl, hbA, Nat.le_refl _, Nat.le_refl _, Nat.zero_le _, Nat.zero_le _, rfl⟩ ?_ s.heap [] _ hP va_S.rf hl
  intro pc lv r M' d h5 hp H locs ls hP hS hl
  exact W.aret hx hb hr (Or.inl ⟨_, rfl⟩) (Or.inr ⟨_, rfl⟩) (fun t ht hW => ⟨⟨(r, M'), _, rfl, ⟨h5, hp⟩, rfl, world_of hP hK hX hbl hbA hNW hS ht hW⟩, hS.F ht⟩) hS.2.2 d
theorem CTv_mk {l : Launch} {G : GG} {y : MethodName} {cc : ByteArray} {nL : Nat} {ws ws' : List Cond} {F1 L1 : Nat} {args : List Value} {M : Mem} {P : Mem → Prop} (hG : GoodG G) (hy : plainName y.cls = true) (hw : ws = Cond.code y cc nL none :: ws') (hn : (lg_sl args).length ≤ nL) (body : ∀ Z : ZT, AX l G cc nL y.cls ws F1 L1 Z → RETv cc P Z → Z 0 (lv_args 0 args) [] M) : CTv l G y ws F1 L1 args M P := by
  refine Met.ofW (cc := cc) (maxL := nL) (ret := none) hy hw ?_
  intro p e s m args' below meth c s₁ B hml hv
  obtain ⟨rfl, hP, hK, hX, hNW⟩ := hv
  have hx := B.exec
  have hb := B.bytes
  have hr := B.returns
  have hts := atoms_spec (ws := ws) B.pre
  have hown : s.vm.findClass y.cls = some m.cls := findClass_of_methodNamed B.named
  have hlocks := B.notSynchronized
  have hbl : gB G < s.heap.size := by
    obtain ⟨scr, h1, -⟩ := hX
    exact (Array.getElem?_eq_some_iff.mp h1).1
  have hbA : ¬ AG G (gB G) := fun ⟨k, h1, h2⟩ => hG.2.2 k h1 h2
  have hl := lv_entry args (n := nL) hn
  rw [lg_entry_eq]
  refine body (ZZ p l e (headSpec ws (rmv F1 L1)).room s m args.toArray below meth c G (AG G) s.heap nL 0 0 _) ⟨p, e, _, s, m, _, below, meth, c, AG G, s.heap, 0, 0, _, ⟨hx, hb, hml, hown, hts⟩, hK, fun _ h => h, hG, hX, hNW, hbl, hbA, Nat.le_refl _, Nat.le_refl _, Nat.zero_le _, Nat.zero_le _, rfl⟩ ?_ s.heap [] _ hP va_S.rf hl
  intro pc lv M' d hp H locs ls hP hS hl
  exact W.vret hx hb hr (fun t ht hW => ⟨⟨M', rfl, hp, world_of hP hK hX hbl hbA hNW hS ht hW⟩, hS.F ht⟩) hS.2.2 d
end

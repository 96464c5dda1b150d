section
-- ===== PART A: goes FIRST, ahead of the names: the tables' words, and 'selects' of the private methods out of them =====
/-- a private method of a class that the tables say can be made, by its rows of tables_1 -/
def lw_okq (q : MethodName × Nat) : Prop := (q.1.cls ≠ "java/lang/invoke/MethodHandle" ∧ q.1.cls ≠ "java/lang/invoke/VarHandle") ∧ Cond.instantiable q.1.cls q.2 ∈ tables_1 ∧ Cond.privateMethod q.1 ∈ tables_1 ∧ Cond.instanceMethod q.1 ∈ tables_1
theorem lw_p0 : lw_okq (⟨"FlipPages", "formatAndMount", "()V"⟩, 7) := ⟨⟨by decide +kernel, by decide +kernel⟩, List.mem_of_getElem? (i := 15) (by decide +kernel), List.mem_of_getElem? (i := 90) (by decide +kernel), List.mem_of_getElem? (i := 91) (by decide +kernel)⟩
theorem lw_p1 : lw_okq (⟨"FlipPages", "mount", "()V"⟩, 7) := ⟨⟨by decide +kernel, by decide +kernel⟩, List.mem_of_getElem? (i := 15) (by decide +kernel), List.mem_of_getElem? (i := 104) (by decide +kernel), List.mem_of_getElem? (i := 105) (by decide +kernel)⟩
theorem lw_p2 : lw_okq (⟨"FlipPages", "masterIsRight", "()Z"⟩, 7) := ⟨⟨by decide +kernel, by decide +kernel⟩, List.mem_of_getElem? (i := 15) (by decide +kernel), List.mem_of_getElem? (i := 113) (by decide +kernel), List.mem_of_getElem? (i := 114) (by decide +kernel)⟩
theorem lw_p3 : lw_okq (⟨"FlipPages", "tableIsRight", "()Z"⟩, 7) := ⟨⟨by decide +kernel, by decide +kernel⟩, List.mem_of_getElem? (i := 15) (by decide +kernel), List.mem_of_getElem? (i := 117) (by decide +kernel), List.mem_of_getElem? (i := 118) (by decide +kernel)⟩
theorem lw_p4 : lw_okq (⟨"java/lang/Throwable", "fillInStackTrace", "(I)Ljava/lang/Throwable;"⟩, 6) := ⟨⟨by decide +kernel, by decide +kernel⟩, List.mem_of_getElem? (i := 216) (by decide +kernel), List.mem_of_getElem? (i := 214) (by decide +kernel), List.mem_of_getElem? (i := 215) (by decide +kernel)⟩
theorem lw_p5 : lw_okq (⟨"FlipPages", "checkMounted", "()V"⟩, 7) := ⟨⟨by decide +kernel, by decide +kernel⟩, List.mem_of_getElem? (i := 15) (by decide +kernel), List.mem_of_getElem? (i := 254) (by decide +kernel), List.mem_of_getElem? (i := 255) (by decide +kernel)⟩
theorem lw_p6 : lw_okq (⟨"FlipPages", "changePage", "(I)V"⟩, 7) := ⟨⟨by decide +kernel, by decide +kernel⟩, List.mem_of_getElem? (i := 15) (by decide +kernel), List.mem_of_getElem? (i := 274) (by decide +kernel), List.mem_of_getElem? (i := 275) (by decide +kernel)⟩
theorem lw_p7 : lw_okq (⟨"FlipPages", "leastFree", "()I"⟩, 7) := ⟨⟨by decide +kernel, by decide +kernel⟩, List.mem_of_getElem? (i := 15) (by decide +kernel), List.mem_of_getElem? (i := 282) (by decide +kernel), List.mem_of_getElem? (i := 283) (by decide +kernel)⟩
theorem lw_p8 : lw_okq (⟨"FlipPages", "freeSet", "()J"⟩, 7) := ⟨⟨by decide +kernel, by decide +kernel⟩, List.mem_of_getElem? (i := 15) (by decide +kernel), List.mem_of_getElem? (i := 286) (by decide +kernel), List.mem_of_getElem? (i := 287) (by decide +kernel)⟩
theorem lw_p9 : lw_okq (⟨"FlipPages", "copyLatestPage", "(I[I)V"⟩, 7) := ⟨⟨by decide +kernel, by decide +kernel⟩, List.mem_of_getElem? (i := 15) (by decide +kernel), List.mem_of_getElem? (i := 297) (by decide +kernel), List.mem_of_getElem? (i := 298) (by decide +kernel)⟩
theorem lw_p10 : lw_okq (⟨"FlipPages", "holdBackPage", "(I)V"⟩, 7) := ⟨⟨by decide +kernel, by decide +kernel⟩, List.mem_of_getElem? (i := 15) (by decide +kernel), List.mem_of_getElem? (i := 328) (by decide +kernel), List.mem_of_getElem? (i := 329) (by decide +kernel)⟩
theorem lw_p11 : lw_okq (⟨"FlipPages", "checkOpen", "()V"⟩, 7) := ⟨⟨by decide +kernel, by decide +kernel⟩, List.mem_of_getElem? (i := 15) (by decide +kernel), List.mem_of_getElem? (i := 343) (by decide +kernel), List.mem_of_getElem? (i := 344) (by decide +kernel)⟩
theorem lw_p12 : lw_okq (⟨"FlipPages", "holdBackUnspilledPages", "()V"⟩, 7) := ⟨⟨by decide +kernel, by decide +kernel⟩, List.mem_of_getElem? (i := 15) (by decide +kernel), List.mem_of_getElem? (i := 353) (by decide +kernel), List.mem_of_getElem? (i := 354) (by decide +kernel)⟩
theorem lw_p13 : lw_okq (⟨"FlipPages", "holdBackTable", "(I)V"⟩, 7) := ⟨⟨by decide +kernel, by decide +kernel⟩, List.mem_of_getElem? (i := 15) (by decide +kernel), List.mem_of_getElem? (i := 357) (by decide +kernel), List.mem_of_getElem? (i := 358) (by decide +kernel)⟩
theorem lw_p14 : lw_okq (⟨"FlipPages", "openPlace", "(I)I"⟩, 7) := ⟨⟨by decide +kernel, by decide +kernel⟩, List.mem_of_getElem? (i := 15) (by decide +kernel), List.mem_of_getElem? (i := 361) (by decide +kernel), List.mem_of_getElem? (i := 362) (by decide +kernel)⟩
theorem lw_p15 : lw_okq (⟨"FlipPages", "carryOutAll", "()I"⟩, 7) := ⟨⟨by decide +kernel, by decide +kernel⟩, List.mem_of_getElem? (i := 15) (by decide +kernel), List.mem_of_getElem? (i := 365) (by decide +kernel), List.mem_of_getElem? (i := 366) (by decide +kernel)⟩
def lw_privs_1 : List (MethodName × Nat) := [(⟨"FlipPages", "formatAndMount", "()V"⟩, 7), (⟨"FlipPages", "mount", "()V"⟩, 7), (⟨"FlipPages", "masterIsRight", "()Z"⟩, 7), (⟨"FlipPages", "tableIsRight", "()Z"⟩, 7), (⟨"java/lang/Throwable", "fillInStackTrace", "(I)Ljava/lang/Throwable;"⟩, 6), (⟨"FlipPages", "checkMounted", "()V"⟩, 7), (⟨"FlipPages", "changePage", "(I)V"⟩, 7), (⟨"FlipPages", "leastFree", "()I"⟩, 7), (⟨"FlipPages", "freeSet", "()J"⟩, 7), (⟨"FlipPages", "copyLatestPage", "(I[I)V"⟩, 7), (⟨"FlipPages", "holdBackPage", "(I)V"⟩, 7), (⟨"FlipPages", "checkOpen", "()V"⟩, 7), (⟨"FlipPages", "holdBackUnspilledPages", "()V"⟩, 7), (⟨"FlipPages", "holdBackTable", "(I)V"⟩, 7), (⟨"FlipPages", "openPlace", "(I)I"⟩, 7), (⟨"FlipPages", "carryOutAll", "()I"⟩, 7)]
theorem lw_r1 : ∀ q ∈ lw_privs_1, lw_okq q := List.forall_mem_cons.mpr ⟨lw_p0, List.forall_mem_cons.mpr ⟨lw_p1, List.forall_mem_cons.mpr ⟨lw_p2, List.forall_mem_cons.mpr ⟨lw_p3, List.forall_mem_cons.mpr ⟨lw_p4, List.forall_mem_cons.mpr ⟨lw_p5, List.forall_mem_cons.mpr ⟨lw_p6, List.forall_mem_cons.mpr ⟨lw_p7, List.forall_mem_cons.mpr ⟨lw_p8, List.forall_mem_cons.mpr ⟨lw_p9, List.forall_mem_cons.mpr ⟨lw_p10, List.forall_mem_cons.mpr ⟨lw_p11, List.forall_mem_cons.mpr ⟨lw_p12, List.forall_mem_cons.mpr ⟨lw_p13, List.forall_mem_cons.mpr ⟨lw_p14, List.forall_mem_cons.mpr ⟨lw_p15, fun _ h => absurd h List.not_mem_nil⟩⟩⟩⟩⟩⟩⟩⟩⟩⟩⟩⟩⟩⟩⟩⟩
theorem lw_p16 : lw_okq (⟨"FlipPages", "turnOver", "(I)V"⟩, 7) := ⟨⟨by decide +kernel, by decide +kernel⟩, List.mem_of_getElem? (i := 15) (by decide +kernel), List.mem_of_getElem? (i := 369) (by decide +kernel), List.mem_of_getElem? (i := 370) (by decide +kernel)⟩
theorem lw_p17 : lw_okq (⟨"FlipPages", "mountedTotal", "(I)I"⟩, 7) := ⟨⟨by decide +kernel, by decide +kernel⟩, List.mem_of_getElem? (i := 15) (by decide +kernel), List.mem_of_getElem? (i := 436) (by decide +kernel), List.mem_of_getElem? (i := 437) (by decide +kernel)⟩
theorem lw_p18 : lw_okq (⟨"FlipPagesModel", "clear", "()V"⟩, 17) := ⟨⟨by decide +kernel, by decide +kernel⟩, List.mem_of_getElem? (i := 446) (by decide +kernel), List.mem_of_getElem? (i := 452) (by decide +kernel), List.mem_of_getElem? (i := 453) (by decide +kernel)⟩
theorem lw_p19 : lw_okq (⟨"FlipPagesModel", "master", "([IIII)V"⟩, 17) := ⟨⟨by decide +kernel, by decide +kernel⟩, List.mem_of_getElem? (i := 446) (by decide +kernel), List.mem_of_getElem? (i := 456) (by decide +kernel), List.mem_of_getElem? (i := 457) (by decide +kernel)⟩
theorem lw_p20 : lw_okq (⟨"FlipPagesModel", "checkOf", "([II)I"⟩, 17) := ⟨⟨by decide +kernel, by decide +kernel⟩, List.mem_of_getElem? (i := 446) (by decide +kernel), List.mem_of_getElem? (i := 460) (by decide +kernel), List.mem_of_getElem? (i := 461) (by decide +kernel)⟩
theorem lw_p21 : lw_okq (⟨"FlipPagesModel", "mount", "()V"⟩, 17) := ⟨⟨by decide +kernel, by decide +kernel⟩, List.mem_of_getElem? (i := 446) (by decide +kernel), List.mem_of_getElem? (i := 465) (by decide +kernel), List.mem_of_getElem? (i := 466) (by decide +kernel)⟩
theorem lw_p22 : lw_okq (⟨"FlipPagesModel", "settle", "()V"⟩, 17) := ⟨⟨by decide +kernel, by decide +kernel⟩, List.mem_of_getElem? (i := 446) (by decide +kernel), List.mem_of_getElem? (i := 472) (by decide +kernel), List.mem_of_getElem? (i := 473) (by decide +kernel)⟩
theorem lw_p23 : lw_okq (⟨"FlipPagesModel", "fails", "(ZI)Z"⟩, 17) := ⟨⟨by decide +kernel, by decide +kernel⟩, List.mem_of_getElem? (i := 446) (by decide +kernel), List.mem_of_getElem? (i := 540) (by decide +kernel), List.mem_of_getElem? (i := 541) (by decide +kernel)⟩
theorem lw_p24 : lw_okq (⟨"FlipPagesModel", "changes", "(I)Z"⟩, 17) := ⟨⟨by decide +kernel, by decide +kernel⟩, List.mem_of_getElem? (i := 446) (by decide +kernel), List.mem_of_getElem? (i := 544) (by decide +kernel), List.mem_of_getElem? (i := 545) (by decide +kernel)⟩
theorem lw_p25 : lw_okq (⟨"FlipPagesModel", "firstFree", "()I"⟩, 17) := ⟨⟨by decide +kernel, by decide +kernel⟩, List.mem_of_getElem? (i := 446) (by decide +kernel), List.mem_of_getElem? (i := 548) (by decide +kernel), List.mem_of_getElem? (i := 549) (by decide +kernel)⟩
theorem lw_p26 : lw_okq (⟨"FlipPagesModel", "isFree", "(I)Z"⟩, 17) := ⟨⟨by decide +kernel, by decide +kernel⟩, List.mem_of_getElem? (i := 446) (by decide +kernel), List.mem_of_getElem? (i := 552) (by decide +kernel), List.mem_of_getElem? (i := 553) (by decide +kernel)⟩
theorem lw_p27 : lw_okq (⟨"FlipPagesModel", "byteAt", "(IIZ)I"⟩, 17) := ⟨⟨by decide +kernel, by decide +kernel⟩, List.mem_of_getElem? (i := 446) (by decide +kernel), List.mem_of_getElem? (i := 556) (by decide +kernel), List.mem_of_getElem? (i := 557) (by decide +kernel)⟩
theorem lw_p28 : lw_okq (⟨"FlipPagesModel", "changed", "()I"⟩, 17) := ⟨⟨by decide +kernel, by decide +kernel⟩, List.mem_of_getElem? (i := 446) (by decide +kernel), List.mem_of_getElem? (i := 565) (by decide +kernel), List.mem_of_getElem? (i := 566) (by decide +kernel)⟩
theorem lw_p29 : lw_okq (⟨"FlipPagesModel", "hold", "(I[II)V"⟩, 17) := ⟨⟨by decide +kernel, by decide +kernel⟩, List.mem_of_getElem? (i := 446) (by decide +kernel), List.mem_of_getElem? (i := 577) (by decide +kernel), List.mem_of_getElem? (i := 578) (by decide +kernel)⟩
theorem lw_p30 : lw_okq (⟨"FlipPagesModel", "flushed", "()I"⟩, 17) := ⟨⟨by decide +kernel, by decide +kernel⟩, List.mem_of_getElem? (i := 446) (by decide +kernel), List.mem_of_getElem? (i := 585) (by decide +kernel), List.mem_of_getElem? (i := 586) (by decide +kernel)⟩
theorem lw_p31 : lw_okq (⟨"FlipPagesModel", "writes", "(I)V"⟩, 17) := ⟨⟨by decide +kernel, by decide +kernel⟩, List.mem_of_getElem? (i := 446) (by decide +kernel), List.mem_of_getElem? (i := 589) (by decide +kernel), List.mem_of_getElem? (i := 590) (by decide +kernel)⟩
def lw_privs_2 : List (MethodName × Nat) := [(⟨"FlipPages", "turnOver", "(I)V"⟩, 7), (⟨"FlipPages", "mountedTotal", "(I)I"⟩, 7), (⟨"FlipPagesModel", "clear", "()V"⟩, 17), (⟨"FlipPagesModel", "master", "([IIII)V"⟩, 17), (⟨"FlipPagesModel", "checkOf", "([II)I"⟩, 17), (⟨"FlipPagesModel", "mount", "()V"⟩, 17), (⟨"FlipPagesModel", "settle", "()V"⟩, 17), (⟨"FlipPagesModel", "fails", "(ZI)Z"⟩, 17), (⟨"FlipPagesModel", "changes", "(I)Z"⟩, 17), (⟨"FlipPagesModel", "firstFree", "()I"⟩, 17), (⟨"FlipPagesModel", "isFree", "(I)Z"⟩, 17), (⟨"FlipPagesModel", "byteAt", "(IIZ)I"⟩, 17), (⟨"FlipPagesModel", "changed", "()I"⟩, 17), (⟨"FlipPagesModel", "hold", "(I[II)V"⟩, 17), (⟨"FlipPagesModel", "flushed", "()I"⟩, 17), (⟨"FlipPagesModel", "writes", "(I)V"⟩, 17)]
theorem lw_r2 : ∀ q ∈ lw_privs_2, lw_okq q := List.forall_mem_cons.mpr ⟨lw_p16, List.forall_mem_cons.mpr ⟨lw_p17, List.forall_mem_cons.mpr ⟨lw_p18, List.forall_mem_cons.mpr ⟨lw_p19, List.forall_mem_cons.mpr ⟨lw_p20, List.forall_mem_cons.mpr ⟨lw_p21, List.forall_mem_cons.mpr ⟨lw_p22, List.forall_mem_cons.mpr ⟨lw_p23, List.forall_mem_cons.mpr ⟨lw_p24, List.forall_mem_cons.mpr ⟨lw_p25, List.forall_mem_cons.mpr ⟨lw_p26, List.forall_mem_cons.mpr ⟨lw_p27, List.forall_mem_cons.mpr ⟨lw_p28, List.forall_mem_cons.mpr ⟨lw_p29, List.forall_mem_cons.mpr ⟨lw_p30, List.forall_mem_cons.mpr ⟨lw_p31, fun _ h => absurd h List.not_mem_nil⟩⟩⟩⟩⟩⟩⟩⟩⟩⟩⟩⟩⟩⟩⟩⟩
def lw_privs : List (MethodName × Nat) := lw_privs_1 ++ (lw_privs_2)
def lw_tbl : List Cond := k2_sels lw_privs ++ tables_1
theorem lw_privs_ok : ∀ q ∈ lw_privs, lw_okq q := by
  show ∀ q ∈ lw_privs_1 ++ (lw_privs_2), lw_okq q
  exact List.forall_mem_append.mpr ⟨lw_r1, lw_r2⟩
/-! ===== BEGIN words of one list among another's, by their places ===== -/
theorem goodIn_r {big : List Cond} (ws : List Cond) (ps : List Nat) (hp : ws = ps.filterMap (fun i => big[i]?)) (h : ws.all goodWord = true) : GoodIn big ws := by
  intro w hw
  have h1 := List.all_eq_true.mp h w hw
  rw [hp] at hw
  obtain ⟨i, -, hi⟩ := List.mem_filterMap.mp hw
  have hm : w ∈ big := by first | exact List.mem_of_getElem? hi | exact List.getElem?_mem hi
  exact ⟨hm, good_of_word h1⟩
theorem goodIn_app {big a b : List Cond} (ha : GoodIn big a) (hb : GoodIn big b) : GoodIn big (a ++ b) := fun w h => (List.mem_append.mp h).elim (ha w) (hb w)
theorem goodIn_ca {big a b : List Cond} {c : Cond} (ha : GoodIn big (c :: a)) (hb : GoodIn big b) : GoodIn big (c :: (a ++ b)) := fun w h => (List.mem_cons.mp h).elim (fun e => ha w (List.mem_cons.mpr (Or.inl e))) (fun h => (List.mem_append.mp h).elim (fun h => ha w (List.mem_cons.mpr (Or.inr h))) (hb w))
theorem goodIn_sub {big ws : List Cond} (hm : ∀ w ∈ ws, w ∈ big) (h : ws.all goodWord = true) : GoodIn big ws := fun w hw => ⟨hm w hw, good_of_word (List.all_eq_true.mp h w hw)⟩
/-! ===== END ===== -/

/-! ===== BEGIN exceptions that leave a method, and their catching by the caller (launches without stack traces) ===== -/
section VXA
/-! The laws vx_back, vx_callV, vx_callS, vx_callSW, vx_throw0, vx_throwS follow proofs of the library, with one case more: JvmDerived/Free/Laws.lean (Back.of_free), Shelf42/LK1.lean (callV, callS), Shelf/KitTraced.lean (throwNew0V, throwNewS). -/
/-- where a method has thrown q: the class by its name, the cell, what was written, the world -/
def vx_T (XC : String → State → State → Prop) (st : State) (q : Addr) (t : State) (mc ms : Nat) (free : Addr → Prop) : Prop :=
  ∃ (E : String) (ce : Cell) (L : List Loc), XC E st t ∧ t.heap[q]? = some ce ∧ ce.vm = .none ∧ st.vm.findClass E = some ce.cls ∧ st.WarmedH t.vm ∧ st.sameButNew ({ t with vm := st.vm } : State) L mc ms ∧ ∀ z ∈ L, free z.base
def vx_Q (Qc : Array Value → State → Outcome → State → Prop) (XC : String → State → State → Prop) (mc ms : Nat) (free : Addr → Prop) : Array Value → State → Outcome → State → Prop := fun a st o t =>
  (Qc a st o t ∧ ∃ L, FrameEnd st o t L mc ms ∧ ∀ q ∈ L, free q.base) ∨ ∃ q, o = .threw q ∧ vx_T XC st q t mc ms free
/-- a callee that returns or throws -/
def vx_Met (l : Launch) (y : MethodName) (ws : List Cond) (rm : Room) (Pc : Array Value → State → Prop) (Qc : Array Value → State → Outcome → State → Prop) (XC : String → State → State → Prop) (mc ms : Nat) (free : Addr → Prop) : Prop :=
  MetFree l y (headSpec ws rm) Pc (fun _ _ _ _ _ => True) (vx_Q Qc XC mc ms free)
def vx_Post (XC : String → State → State → Prop) (mc ms : Nat) (free : Addr → Prop) : Pt → Array Value → Addr → Pt → Prop := fun A a q B =>
  ∃ (g : JFrame) (mk : MethodId) (t : State) (L : List Loc) (E : String) (ce : Cell), B.U.heap = t.heap ∧ B.U.vm = t.vm ∧ XC E (A.U.calling g mk a) t ∧ t.heap[q]? = some ce ∧ ce.vm = .none ∧ A.U.vm.findClass E = some ce.cls ∧ B.locs = A.locs ++ L ∧ (∀ z ∈ L, free z.base) ∧ B.cells = A.cells + mc ∧ B.slots = A.slots + ms
def vx_Back (l : Launch) (R : Room) (p : Program) (e : Env) (below : List Frame) (s : State) (sargs : Array Value) (y : MethodName) (len W9 : Nat)
    (Pre : Pt → Array Value → Prop) (Post : Pt → Array Value → Option Value → Pt → Prop) (PostX : Pt → Array Value → Addr → Pt → Prop) : Prop :=
  ∀ (m : MethodId) (meth : Method) (c : Code) (A : Pt) (g : JFrame) (ig : Instr) (mk : MethodId) (a : Array Value),
    Stand p l e R s m sargs below meth c A.U A.locs A.cells A.slots → g.method = m → g.locals.size = c.maxLocals → decode c.code g.pc = .ok (ig, len) →
    2 * g.monitorRoom + (g.stack.map fun v => v.category).sum ≤ W9 → A.U.methodNamed? y = some mk → Pre A a →
    (∃ (v : Option Value) (B : Pt), Stand p l e R s m sargs below meth c B.U B.locs B.cells B.slots ∧ Post A a v B ∧
      Steps p.tables e below (doInvoke e (A.U.setTop g) [] mk a).1 (B.U.setTop { g with pc := g.pc + len, stack := v.toList ++ g.stack })) ∨
    (∃ (q : Addr) (B : Pt), Stand p l e R s m sargs below meth c B.U B.locs B.cells B.slots ∧ PostX A a q B ∧
      Steps p.tables e below (doInvoke e (A.U.setTop g) [] mk a).1 ((B.U.setTop g).pushFrame (.throwing q)))
section Payer
variable {l : Launch} {R : Room} {p : Program} {e : Env} {below : List Frame} {s : State} {sargs : Array Value} {y : MethodName} {len W9 : Nat}
theorem vx_back {ws : List Cond} {rm : Room} {Pc : Array Value → State → Prop} {Qc : Array Value → State → Outcome → State → Prop} {XC : String → State → State → Prop} {mc ms : Nat} {free : Addr → Prop} {bytes : ByteArray} {maxL : Nat} {ret : Option FieldType}
    (hM : vx_Met l y ws rm Pc Qc XC mc ms free) (hblind : FrameBlind Pc) (hrc : rm.cells = mc) (hrs : rm.slots = ms)
    (hframes : rm.frames + 1 ≤ R.frames) (hlocals : W9 + (maxL + 11) + rm.locals ≤ R.locals)
    (hws : ∀ w ∈ ws, ∀ a' U, s.WarmedH U.vm → w.before a' U = true) (hcode : Cond.code y bytes maxL ret ∈ ws) (hinit : ∀ a' U, s.WarmedH U.vm → (Cond.initialized y.cls).before a' U = true) :
    vx_Back l R p e below s sargs y len W9 (PreOf R mc ms Pc) (PostOf Qc mc ms free) (vx_Post XC mc ms free) := by
  intro m meth c A g ig mk a X hg hsize hdg hW hn hp
  have h1 : (headSpec ws rm).pre.before a A.U = true := atoms_intro fun w hw => hws w hw _ _ X.warmed
  have h2 : (Cond.code y bytes maxL ret).before a A.U = true := hws _ hcode _ _ X.warmed
  have h3 : (Cond.initialized y.cls).before a A.U = true := hinit _ _ X.warmed
  have h4 : A.cells + (headSpec ws rm).room.cells ≤ R.cells := by rw [show (headSpec ws rm).room.cells = mc from hrc]; exact hp.1
  have h5 : A.slots + (headSpec ws rm).room.slots ≤ R.slots := by rw [show (headSpec ws rm).room.slots = ms from hrs]; exact hp.2.1
  have hPc : Pc a (A.U.calling g mk a) := hblind _ _ _ _ hp.2.2
  obtain ⟨U, Ls, c0, s0⟩ := A
  dsimp only [Pt.U, Pt.locs, Pt.cells, Pt.slots] at h1 h2 h3 h4 h5 X hn hPc ⊢
  obtain ⟨methY, cY, hmY, hcY, -, hlY, -, -, -, -⟩ := Cond.code_spec hn h2
  obtain ⟨kY, hkY, -⟩ := className_of_methodNamed hn
  have hinitY : kY.init = .initialized := Cond.initialized_spec (findClass_of_methodNamed hn) hkY h3
  have h : At U g.method c below := by rw [hg]; exact X.here
  have hlocals9 : W9 + (maxL + 11) + (headSpec ws rm).room.locals ≤ R.locals := hlocals
  have happ : (headSpec ws rm).appliesLoose y e.platform (U.calling g mk a) = true :=
    Spec.appliesLoose_calling (g := g) h hdg hn hkY hinitY
      (X.room_calling (g := g) (R' := (headSpec ws rm).room) hsize hmY hcY hframes (by rw [hlY]; omega) h4 h5) h1
  obtain ⟨mid, hmid⟩ := h.above
  have hfr : (U.setTop g).frames = (.java g :: mid) ++ below := by rw [State.frames_setTop' g h.top, hmid]; rfl
  obtain ⟨o, s₂, hsteps, -, hend, hq⟩ := Steps.callFree hM p X.admits X.cas X.clock (acts := []) hfr happ hPc trivial
  have hq' : vx_Q Qc XC mc ms free a (U.calling g mk a) o s₂ := hq
  rw [State.frames_setTop' g h.top] at hend
  obtain ⟨g₀, hg0⟩ := Option.isSome_iff_exists.mp h.top
  obtain ⟨r, hr⟩ := State.topJava?_eq_some.mp hg0
  have hr' : (({ U with heap := s₂.heap, slotsUsed := s₂.slotsUsed } : State).setVm s₂.vm).frames = .java g₀ :: r := hr
  rcases hq' with ⟨hqc, L, hfe, hL⟩ | ⟨q, rfl, E, ce, L, hx, hce, hcv, hcl, hW₂, hsm, hL⟩
  · obtain ⟨⟨v, rfl⟩, hW₂, e2, q2, q3, q4, q5, q6⟩ := id hfe
    have e3 : s₂ = ({ (U.calling g mk a).setFrames s₂.frames with heap := s₂.heap, slotsUsed := s₂.slotsUsed } : State).setVm s₂.vm := by
      have : s₂ = ({ s₂ with vm := (U.calling g mk a).vm } : State).setVm s₂.vm := rfl
      rw [e2] at this
      exact this
    obtain ⟨c₂, i₂, len₂, hc₂, hd₂, hf₂⟩ := hend
    have hW' : U.WarmedH s₂.vm := hW₂
    have hcc : c₂ = c := by
      have h1 : s₂.code? g.method = U.code? g.method := by
        rw [State.code?_eq, State.code?_eq, hW'.alike.method?]
      exact Option.some.inj (hc₂.symm.trans (h1.trans h.code))
    subst hcc
    have hlen : len₂ = len := by rw [hdg] at hd₂; cases hd₂; rfl
    subst hlen
    have hs₂ : s₂ = (({ U with heap := s₂.heap, slotsUsed := s₂.slotsUsed } : State).setVm s₂.vm).setTop { g with pc := g.pc + len₂, stack := v.toList ++ g.stack } := by
      refine e3.trans ?_
      rw [hf₂, State.calling_eq h.top, State.setFrames_setFrames, State.setTop_of_frames _ hr', hr]
      rfl
    have hsame : U.sameButNew ({ U with heap := s₂.heap, slotsUsed := s₂.slotsUsed } : State) L mc ms := by
      refine ⟨?_, q2, q3, q4, q5, q6⟩
      obtain ⟨t, ht, -⟩ := State.frames_cons hr
      show ({ U with heap := s₂.heap, slotsUsed := s₂.slotsUsed } : State) = { U.setFrames U.frames with heap := s₂.heap, slotsUsed := s₂.slotsUsed }
      rw [State.setFrames_self ht]
    subst hg
    refine Or.inl ⟨v, ⟨(({ U with heap := s₂.heap, slotsUsed := s₂.slotsUsed } : State).setVm s₂.vm), Ls ++ L, c0 + mc, s0 + ms⟩,
      ⟨X.admits, X.cas, X.clock, X.frames, X.room, X.hears, X.method, X.code, (X.here.setHeapUsed s₂.heap s₂.slotsUsed).setVm hW'.alike, X.tail, State.WarmedH.trans X.warmed hW', X.limits, X.bytes, X.same.trans (hsame.setVm s.vm)⟩,
      ⟨g, mk, s₂, L, rfl, rfl, hqc, rfl, hL, rfl, rfl⟩, ?_⟩
    show Steps p.tables e below _ ((({ U with heap := s₂.heap, slotsUsed := s₂.slotsUsed } : State).setVm s₂.vm).setTop { g with pc := g.pc + len₂, stack := v.toList ++ g.stack })
    rw [← hs₂]
    exact hsteps
  · obtain ⟨e2, q2, q3, q4, q5, q6⟩ := id hsm
    have e3 : s₂ = ({ (U.calling g mk a).setFrames s₂.frames with heap := s₂.heap, slotsUsed := s₂.slotsUsed } : State).setVm s₂.vm := by
      have : s₂ = ({ s₂ with vm := (U.calling g mk a).vm } : State).setVm s₂.vm := rfl
      rw [e2] at this
      exact this
    have hf₂ : s₂.frames = .throwing q :: .java g :: U.frames.tail := hend
    have hW' : U.WarmedH s₂.vm := hW₂
    have hs₂ : s₂ = ((({ U with heap := s₂.heap, slotsUsed := s₂.slotsUsed } : State).setVm s₂.vm).setTop g).pushFrame (.throwing q) := by
      refine e3.trans ?_
      rw [hf₂, State.calling_eq h.top, State.setFrames_setFrames, State.pushFrame, State.frames_setTop _ hr', State.setTop_of_frames _ hr', State.setFrames_setFrames, hr]
      rfl
    have hsame : U.sameButNew ({ U with heap := s₂.heap, slotsUsed := s₂.slotsUsed } : State) L mc ms := by
      refine ⟨?_, q2, q3, q4, q5, q6⟩
      obtain ⟨t, ht, -⟩ := State.frames_cons hr
      show ({ U with heap := s₂.heap, slotsUsed := s₂.slotsUsed } : State) = { U.setFrames U.frames with heap := s₂.heap, slotsUsed := s₂.slotsUsed }
      rw [State.setFrames_self ht]
    subst hg
    refine Or.inr ⟨q, ⟨(({ U with heap := s₂.heap, slotsUsed := s₂.slotsUsed } : State).setVm s₂.vm), Ls ++ L, c0 + mc, s0 + ms⟩,
      ⟨X.admits, X.cas, X.clock, X.frames, X.room, X.hears, X.method, X.code, (X.here.setHeapUsed s₂.heap s₂.slotsUsed).setVm hW'.alike, X.tail, State.WarmedH.trans X.warmed hW', X.limits, X.bytes, X.same.trans (hsame.setVm s.vm)⟩,
      ⟨g, mk, s₂, L, E, ce, rfl, rfl, hx, hce, hcv, hcl, rfl, hL, rfl, rfl⟩, ?_⟩
    show Steps p.tables e below _ (((({ U with heap := s₂.heap, slotsUsed := s₂.slotsUsed } : State).setVm s₂.vm).setTop g).pushFrame (.throwing q))
    rw [← hs₂]
    exact hsteps
end Payer
section Calls
variable {p : Program} {l : Launch} {e : Env} {R : Room} {s : State} {m : MethodId} {args : Array Value} {below : List Frame} {meth : Method} {c : Code} {T : State} {locs : List Loc} {cells slots : Nat}
theorem vx_callV (X : Stand p l e R s m args below meth c T locs cells slots) (hexec : p.tables.exec = Jvm.exec) {own C : String} {index : Nat} {y : MethodName} {bytes : ByteArray} {maxL : Nat} {ret : Option FieldType}
    (hown : s.vm.findClass own = some m.cls) (hlink : (Cond.methodLink own index y).before args s = true) (hinst : (Cond.instanceMethod y).before args s = true) (hsel : (Cond.selects C y y).before args s = true)
    (hcode : (Cond.code y bytes maxL ret).before args s = true) (hy : y.cls ≠ "java/lang/invoke/MethodHandle" ∧ y.cls ≠ "java/lang/invoke/VarHandle")
    {W9 : Nat} {Pre : Pt → Array Value → Prop} {Post : Pt → Array Value → Option Value → Pt → Prop} {PostX : Pt → Array Value → Addr → Pt → Prop} (hK : vx_Back l R p e below s args y 3 W9 Pre Post PostX)
    {b : Addr} {cellB : Cell} (hcell : T.heap[b]? = some cellB) (hobj : cellB.vm.isStatics = false) (hcls : s.vm.findClass C = some cellB.cls)
    {g : JFrame} (hg : g.method = m) (hsize : g.locals.size = c.maxLocals) {argsL rest : List Value} (hlen : ∀ sig, parseMethodDescriptor y.desc = some sig → argsL.length = sig.parameters.length)
    (hstack : g.stack = argsL.reverse ++ .ref b :: rest) (hW : 2 * g.monitorRoom + (rest.map fun v => v.category).sum ≤ W9) (hdg : decode c.code g.pc = .ok (.invokevirtual index, 3))
    (hpre : ∀ vm₁, s.WarmedH vm₁ → Pre ⟨T.setVm vm₁, locs, cells, slots⟩ (Value.ref b :: argsL).toArray) :
    (∃ (v : Option Value) (vm₁ : Vm) (B : Pt), s.WarmedH vm₁ ∧ Stand p l e R s m args below meth c B.U B.locs B.cells B.slots ∧ Post ⟨T.setVm vm₁, locs, cells, slots⟩ (Value.ref b :: argsL).toArray v B ∧
      ∀ target, Steps p.tables e below (B.U.setTop { g with pc := g.pc + 3, stack := v.toList ++ rest }) target → Steps p.tables e below (T.setTop g) target) ∨
    (∃ (q : Addr) (vm₁ : Vm) (B : Pt), s.WarmedH vm₁ ∧ Stand p l e R s m args below meth c B.U B.locs B.cells B.slots ∧ PostX ⟨T.setVm vm₁, locs, cells, slots⟩ (Value.ref b :: argsL).toArray q B ∧
      Steps p.tables e below (T.setTop g) ((B.U.setTop { g with stack := rest }).pushFrame (.throwing q))) := by
  obtain ⟨mk, methM, hnamed, hmethM, hstM, habM⟩ := Cond.instanceMethod_spec hinst
  obtain ⟨methM', cM, hmethM', -, -, -, -, -, -, hsigM⟩ := Cond.code_spec hnamed hcode
  cases hmethM.symm.trans hmethM'
  obtain ⟨c2, r2, m2, q1, q2, q3, q4, kP, hkP, hkPi⟩ := Cond.selects_spec hsel
  cases hcls.symm.trans q1
  cases (State.methodFound?_of_named hnamed hy).symm.trans q2
  cases hnamed.symm.trans q3
  have hselP : selectMethod e.platform s.vm cellB.cls mk = .method mk := by rw [Launch.admits_selectMethod X.admits]; exact q4
  obtain ⟨vm₁, X₁, hstep₁⟩ := X.invokevirtual hexec hown hlink hnamed hmethM hstM hkP hkPi hy (a := b) (cell := cellB) hcell
    (fun z h => by rw [h] at hobj; cases hobj) hselP hmethM habM hkP hkPi (g := g) hg (argsL := argsL) (rest := rest) (hlen _ hsigM) hstack hdg
  rcases hK m meth c ⟨T.setVm vm₁, locs, cells, slots⟩ { g with stack := rest } (.invokevirtual index) mk (Value.ref b :: argsL).toArray X₁ hg hsize hdg hW (X₁.named hnamed) (hpre vm₁ X₁.warmed) with ⟨v, B, X', hpost, hsteps⟩ | ⟨q, B, X', hpost, hsteps⟩
  · exact Or.inl ⟨v, vm₁, B, X₁.warmed, X', hpost, fun target h => hstep₁ _ fun acts => by rw [doInvoke_state]; exact hsteps.trans h⟩
  · exact Or.inr ⟨q, vm₁, B, X₁.warmed, X', hpost, hstep₁ _ fun acts => by rw [doInvoke_state]; exact hsteps⟩
theorem vx_callS (X : Stand p l e R s m args below meth c T locs cells slots) (hexec : p.tables.exec = Jvm.exec) {own : String} {index : Nat} {y : MethodName} {bytes : ByteArray} {maxL : Nat} {ret : Option FieldType}
    (hown : s.vm.findClass own = some m.cls) (hlink : (Cond.methodLink own index y).before args s = true) (hstat : (Cond.static y).before args s = true) (hinit : (Cond.initialized y.cls).before args s = true)
    (hcode : (Cond.code y bytes maxL ret).before args s = true) (hy : y.cls ≠ "java/lang/invoke/MethodHandle" ∧ y.cls ≠ "java/lang/invoke/VarHandle")
    {W9 : Nat} {Pre : Pt → Array Value → Prop} {Post : Pt → Array Value → Option Value → Pt → Prop} {PostX : Pt → Array Value → Addr → Pt → Prop} (hK : vx_Back l R p e below s args y 3 W9 Pre Post PostX)
    {g : JFrame} (hg : g.method = m) (hsize : g.locals.size = c.maxLocals) {argsL rest : List Value} (hlen : ∀ sig, parseMethodDescriptor y.desc = some sig → argsL.length = sig.parameters.length)
    (hstack : g.stack = argsL.reverse ++ rest) (hW : 2 * g.monitorRoom + (rest.map fun v => v.category).sum ≤ W9) (hdg : decode c.code g.pc = .ok (.invokestatic index, 3))
    (hpre : ∀ vm₁, s.WarmedH vm₁ → Pre ⟨T.setVm vm₁, locs, cells, slots⟩ argsL.toArray) :
    (∃ (v : Option Value) (vm₁ : Vm) (B : Pt), s.WarmedH vm₁ ∧ Stand p l e R s m args below meth c B.U B.locs B.cells B.slots ∧ Post ⟨T.setVm vm₁, locs, cells, slots⟩ argsL.toArray v B ∧
      ∀ target, Steps p.tables e below (B.U.setTop { g with pc := g.pc + 3, stack := v.toList ++ rest }) target → Steps p.tables e below (T.setTop g) target) ∨
    (∃ (q : Addr) (vm₁ : Vm) (B : Pt), s.WarmedH vm₁ ∧ Stand p l e R s m args below meth c B.U B.locs B.cells B.slots ∧ PostX ⟨T.setVm vm₁, locs, cells, slots⟩ argsL.toArray q B ∧
      Steps p.tables e below (T.setTop g) ((B.U.setTop { g with stack := rest }).pushFrame (.throwing q))) := by
  obtain ⟨mk, hnamed⟩ := Cond.code_named hcode
  obtain ⟨methM, cM, hmethM, -, -, -, -, -, -, hsigM⟩ := Cond.code_spec hnamed hcode
  have hstatic : methM.isStatic = true := Cond.static_spec hnamed hmethM hstat
  obtain ⟨kP, hkP, -⟩ := className_of_methodNamed hnamed
  have hinitP : kP.init = .initialized := Cond.initialized_spec (findClass_of_methodNamed hnamed) hkP hinit
  obtain ⟨vm₁, X₁, hstep₁⟩ := X.invokestatic hexec hown hlink hnamed hmethM hstatic hkP hinitP hy (g := g) hg (argsL := argsL) (rest := rest) (hlen _ hsigM) hstack hdg
  rcases hK m meth c ⟨T.setVm vm₁, locs, cells, slots⟩ { g with stack := rest } (.invokestatic index) mk argsL.toArray X₁ hg hsize hdg hW (X₁.named hnamed) (hpre vm₁ X₁.warmed) with ⟨v, B, X', hpost, hsteps⟩ | ⟨q, B, X', hpost, hsteps⟩
  · exact Or.inl ⟨v, vm₁, B, X₁.warmed, X', hpost, fun target h => hstep₁ _ fun acts => by rw [doInvoke_state]; exact hsteps.trans h⟩
  · exact Or.inr ⟨q, vm₁, B, X₁.warmed, X', hpost, hstep₁ _ fun acts => by rw [doInvoke_state]; exact hsteps⟩
end Calls
theorem vx_cls {s : State} {T : State} {vm₁ : Vm} {E : String} {k : ClassId} (hW : s.WarmedH vm₁) (h : (T.setVm vm₁).vm.findClass E = some k) : s.vm.findClass E = some k := by
  have h1 : vm₁.findClass E = some k := h
  rw [hW.alike.findClass] at h1
  exact h1
/-- the method's frame g, with q thrown over it -/
def vx_W (p : Program) (l : Launch) (e : Env) (R : Room) (s : State) (m : MethodId) (args : Array Value) (below : List Frame) (meth : Method) (c : Code) (H : Heap) (locs : List Loc) (cells slots : Nat) (Q : State → Prop) (g : JFrame) (q : Addr) : Prop :=
  ∀ T : State, T.heap = H → Stand p l e R s m args below meth c T locs cells slots → ∃ t, Steps p.tables e below ((T.setTop g).pushFrame (.throwing q)) t ∧ Q t
def vx_Run (p : Program) (l : Launch) (e : Env) (R : Room) (s : State) (m : MethodId) (args : Array Value) (below : List Frame) (meth : Method) (c : Code) (H : Heap) (locs : List Loc) (cells slots mc ms : Nat) (g : JFrame) (rest : List Value) (Qa : State → Outcome → State → Prop) (XC : String → State → State → Prop) (free : Addr → Prop) : Prop :=
  ∀ T : State, T.heap = H → Stand p l e R s m args below meth c T locs cells slots →
    (∃ (v : Option Value) (st₀ t T' : State) (L : List Loc), st₀.heap = H ∧ Stand p l e R s m args below meth c T' (locs ++ L) (cells + mc) (slots + ms) ∧ (∀ q ∈ L, free q.base) ∧ T'.heap = t.heap ∧ T'.vm = t.vm ∧ Qa st₀ (.returned v) t ∧
      Goes p e below T g T' { g with pc := g.pc + 3, stack := v.toList ++ rest }) ∨
    (∃ (q : Addr) (st₀ t T' : State) (L : List Loc) (E : String) (ce : Cell), st₀.heap = H ∧ Stand p l e R s m args below meth c T' (locs ++ L) (cells + mc) (slots + ms) ∧ (∀ z ∈ L, free z.base) ∧ T'.heap = t.heap ∧ T'.vm = t.vm ∧ XC E st₀ t ∧ t.heap[q]? = some ce ∧ ce.vm = .none ∧ s.vm.findClass E = some ce.cls ∧
      Steps p.tables e below (T.setTop g) ((T'.setTop { g with stack := rest }).pushFrame (.throwing q)))
def vx_X {S : Type} (px : S → Prop) (B : String → S → State → Prop) (A : Nat → Prop) : String → State → State → Prop := fun E st t => ∃ u : S, px u ∧ B E u t ∧ va_F A st t
section Runs
variable {p : Program} {l : Launch} {e : Env} {R : Room} {s : State} {m : MethodId} {args : Array Value} {below : List Frame} {meth : Method} {c : Code} {H : Heap} {locs : List Loc} {cells slots : Nat}
variable {y : MethodName} {bytes cc : ByteArray} {maxL nL mc ms n index : Nat} {ret : Option FieldType} {ws : List Cond} {rm : Room} {Pc : Array Value → State → Prop} {Qc : Array Value → State → Outcome → State → Prop} {XC : String → State → State → Prop} {free : Addr → Prop} {Ts : List Cond} {own C : String} {b : Addr} {As rest : List Value} {g : JFrame}
theorem vx_callBack (cb : CallB R s args own index y bytes maxL ret ws rm mc ms n) (hM : vx_Met l y ws rm Pc Qc XC mc ms free) (hbl : FrameBlind Pc) : vx_Back l R p e below s args y 3 8 (PreOf R mc ms Pc) (PostOf Qc mc ms free) (vx_Post XC mc ms free) := by
  obtain ⟨hrc, hrs, hfr, hlo, hws, hcw, -, hini, -⟩ := cb
  exact vx_back (bytes := bytes) (maxL := maxL) (ret := ret) hM hbl hrc hrs hfr hlo hws hcw (fun a' U hW => word_at hW (Or.inl (by first | rfl | simp [Cond.onTables, Cond.keeps, Cond.steady])) hini)
theorem vx_runV (S : CallFix p m c cc nL s args Ts own) (hM : vx_Met l y ws rm Pc Qc XC mc ms free) (cw : CallW R s args own C index y bytes maxL ret ws rm mc ms n) (hp : PreV s H C b Pc As)
    (hg : g.method = m) (hn : As.length = n) (hsize : g.locals.size = nL) (hstack : g.stack = As.reverse ++ .ref b :: rest) (hW : 2 * g.monitorRoom + (rest.map fun v => v.category).sum ≤ 8) (hdg : decode cc g.pc = .ok (.invokevirtual index, 3)) (hf : cells + mc ≤ R.cells ∧ slots + ms ≤ R.slots) :
    vx_Run p l e R s m args below meth c H locs cells slots mc ms g rest (Qc (Value.ref b :: As).toArray) XC free := by
  have hK : vx_Back l R p e below s args y 3 8 (PreOf R mc ms Pc) (PostOf Qc mc ms free) (vx_Post XC mc ms free) := vx_callBack cw.1 hM hp.1
  obtain ⟨⟨-, -, -, -, -, -, hcode, -, hy, hlen, hl⟩, hin, hse⟩ := cw
  obtain ⟨hx, hb, hml, ho, -⟩ := S
  obtain ⟨-, ⟨cellB, hcB, hoB, hclB⟩, hPc⟩ := hp
  intro T hT X
  rcases vx_callV X hx (C := C) (bytes := bytes) (maxL := maxL) (ret := ret) ho hl hin hse hcode hy hK (by rw [hT]; exact hcB) hoB hclB hg (hsize.trans hml.symm) (argsL := As) (rest := rest) (fun sig h => hn.trans (hlen sig h)) hstack hW (by rw [hb]; exact hdg)
    (fun vm₁ hW₁ => ⟨hf.1, hf.2, hPc (T.setVm vm₁) hT hW₁⟩) with ⟨v, vm₁, ⟨U', l2, c2, s2⟩, hW₁, X', ⟨g', mk, t, L, e1, e2, hq, h1, hL, h2, h3⟩, st⟩ | ⟨q, vm₁, ⟨U', l2, c2, s2⟩, hW₁, X', ⟨g', mk, t, L, E, ce, e1, e2, hq, hce, hcv, hcl, h1, hL, h2, h3⟩, st⟩
  · dsimp only [Pt.U, Pt.locs, Pt.cells, Pt.slots] at X' e1 e2 h1 h2 h3 st
    subst h1; subst h2; subst h3
    exact Or.inl ⟨v, (T.setVm vm₁).calling g' mk (Value.ref b :: As).toArray, t, U', L, hT, X', hL, e1, e2, hq, st⟩
  · dsimp only [Pt.U, Pt.locs, Pt.cells, Pt.slots] at X' e1 e2 h1 h2 h3 st hcl
    subst h1; subst h2; subst h3
    exact Or.inr ⟨q, (T.setVm vm₁).calling g' mk (Value.ref b :: As).toArray, t, U', L, E, ce, hT, X', hL, e1, e2, hq, hce, hcv, vx_cls hW₁ hcl, st⟩
theorem vx_runS (S : CallFix p m c cc nL s args Ts own) (hM : vx_Met l y ws rm Pc Qc XC mc ms free) (cw : CallB R s args own index y bytes maxL ret ws rm mc ms n ∧ (Cond.static y).before args s = true) (hp : PreS s H Pc As)
    (hg : g.method = m) (hn : As.length = n) (hsize : g.locals.size = nL) (hstack : g.stack = As.reverse ++ rest) (hW : 2 * g.monitorRoom + (rest.map fun v => v.category).sum ≤ 8) (hdg : decode cc g.pc = .ok (.invokestatic index, 3)) (hf : cells + mc ≤ R.cells ∧ slots + ms ≤ R.slots) :
    vx_Run p l e R s m args below meth c H locs cells slots mc ms g rest (Qc As.toArray) XC free := by
  have hK : vx_Back l R p e below s args y 3 8 (PreOf R mc ms Pc) (PostOf Qc mc ms free) (vx_Post XC mc ms free) := vx_callBack cw.1 hM hp.1
  obtain ⟨⟨-, -, -, -, -, -, hcode, hini, hy, hlen, hl⟩, hstt⟩ := cw
  obtain ⟨hx, hb, hml, ho, -⟩ := S
  intro T hT X
  rcases vx_callS X hx (bytes := bytes) (maxL := maxL) (ret := ret) ho hl hstt hini hcode hy hK hg (hsize.trans hml.symm) (argsL := As) (rest := rest) (fun sig h => hn.trans (hlen sig h)) hstack hW (by rw [hb]; exact hdg)
    (fun vm₁ hW₁ => ⟨hf.1, hf.2, hp.2 (T.setVm vm₁) hT hW₁⟩) with ⟨v, vm₁, ⟨U', l2, c2, s2⟩, hW₁, X', ⟨g', mk, t, L, e1, e2, hq, h1, hL, h2, h3⟩, st⟩ | ⟨q, vm₁, ⟨U', l2, c2, s2⟩, hW₁, X', ⟨g', mk, t, L, E, ce, e1, e2, hq, hce, hcv, hcl, h1, hL, h2, h3⟩, st⟩
  · dsimp only [Pt.U, Pt.locs, Pt.cells, Pt.slots] at X' e1 e2 h1 h2 h3 st
    subst h1; subst h2; subst h3
    exact Or.inl ⟨v, (T.setVm vm₁).calling g' mk As.toArray, t, U', L, hT, X', hL, e1, e2, hq, st⟩
  · dsimp only [Pt.U, Pt.locs, Pt.cells, Pt.slots] at X' e1 e2 h1 h2 h3 st hcl
    subst h1; subst h2; subst h3
    exact Or.inr ⟨q, (T.setVm vm₁).calling g' mk As.toArray, t, U', L, E, ce, hT, X', hL, e1, e2, hq, hce, hcv, vx_cls hW₁ hcl, st⟩
end Runs
section Rows
variable {p : Program} {l : Launch} {e : Env} {R : Room} {s : State} {m : MethodId} {args : Array Value} {below : List Frame} {meth : Method} {c : Code} {H : Heap} {locs : List Loc} {cells slots : Nat} {Q : State → Prop}
variable {mc ms : Nat} {free : Addr → Prop} {A0 A1 : Nat → Prop} {H0 : Heap} {a : Array Value} {pc : Nat} {ls : Array Slot} {st0 rest : List Value}
theorem vx_keep {st₀ t T' : State} {L : List Loc} (h0 : st₀.heap = H) (e1 : T'.heap = t.heap) (hS : va_S A0 H0 H locs) (hA : ∀ q, q < H.size → A1 q → A0 q) (hf : ∀ q, free q → A0 q) (hL : ∀ q ∈ L, free q.base) (hF : va_F A1 st₀ t) :
    H.size ≤ T'.heap.size ∧ (∀ q : Nat, q < H.size → ¬ A1 q → T'.heap[q]? = H[q]?) ∧ va_S A0 H0 T'.heap (locs ++ L) := by
  obtain ⟨hz, hk⟩ := hF
  rw [h0] at hz hk
  exact ⟨by rw [e1]; exact hz, fun q h1 h2 => by rw [e1]; exact hk q h1 h2,
    ⟨Nat.le_trans hS.1 (by rw [e1]; exact hz), fun q h1 h2 => by rw [e1, hk q (Nat.lt_of_lt_of_le h1 hS.1) (fun z => h2 (hA q (Nat.lt_of_lt_of_le h1 hS.1) z))]; exact hS.2.1 q h1 h2, fun q hq => by
      rcases List.mem_append.mp hq with h | h
      · exact hS.2.2 q h
      · exact hf _ (hL q h)⟩⟩
theorem vx_calli {S SX : Type} {post : Int32 → S → Prop} {px : SX → Prop} {B : S → State → Prop} {BX : String → SX → State → Prop} {AX : Nat → Prop} (hr : vx_Run p l e R s m args below meth c H locs cells slots mc ms (F0 m pc ls st0) rest (va_Qi post B A1 a) (vx_X px BX AX) free) (hS : va_S A0 H0 H locs) (hA : ∀ q, q < H.size → A1 q → A0 q) (hf : ∀ q, free q → A0 q) (hAX : ∀ q, q < H.size → AX q → A0 q)
    (kx : ∀ (E : String) (ce : Cell) (q9 : Addr) (u : SX) (t : State) (H1 : Heap) (locs1 : List Loc), t.heap = H1 → s.vm.Alike t.vm → px u → BX E u t → H.size ≤ H1.size → (∀ q : Nat, q < H.size → ¬ AX q → H1[q]? = H[q]?) → va_S A0 H0 H1 locs1 → H1[q9]? = some ce → ce.vm = .none → s.vm.findClass E = some ce.cls → vx_W p l e R s m args below meth c H1 locs1 (cells + mc) (slots + ms) Q (F0 m pc ls rest) q9)
    (kk : ∀ (r : Int32) (u : S) (t : State) (H1 : Heap) (locs1 : List Loc), t.heap = H1 → s.vm.Alike t.vm → post r u → B u t → H.size ≤ H1.size → (∀ q : Nat, q < H.size → ¬ A1 q → H1[q]? = H[q]?) → va_S A0 H0 H1 locs1 → W p l e R s m args below meth c H1 locs1 (cells + mc) (slots + ms) Q (F0 m (pc + 3) ls (.int r :: rest))) : W p l e R s m args below meth c H locs cells slots Q (F0 m pc ls st0) := by
  intro T hT X
  rcases hr T hT X with ⟨v, st₀, t, T', L, h0, X', hL, e1, e2, ⟨⟨r, u, hv, hp, hb⟩, hF⟩, st⟩ | ⟨q, st₀, t, T', L, E, ce, h0, X', hL, e1, e2, ⟨u, hp, hb, hF⟩, hce, hcv, hcl, st⟩
  · cases hv
    obtain ⟨k1, k2, k3⟩ := vx_keep h0 e1 hS hA hf hL hF
    obtain ⟨t2, a1, b1⟩ := kk r u t T'.heap (locs ++ L) e1.symm (by rw [← e2]; exact X'.warmed.alike) hp hb k1 k2 k3 T' rfl X'
    exact ⟨t2, st t2 a1, b1⟩
  · obtain ⟨k1, k2, k3⟩ := vx_keep h0 e1 hS hAX hf hL hF
    obtain ⟨t2, a1, b1⟩ := kx E ce q u t T'.heap (locs ++ L) e1.symm (by rw [← e2]; exact X'.warmed.alike) hp hb k1 k2 k3 (by rw [e1]; exact hce) hcv hcl T' rfl X'
    exact ⟨t2, st.trans a1, b1⟩
theorem vx_calll {S SX : Type} {post : Int64 → S → Prop} {px : SX → Prop} {B : S → State → Prop} {BX : String → SX → State → Prop} {AX : Nat → Prop} (hr : vx_Run p l e R s m args below meth c H locs cells slots mc ms (F0 m pc ls st0) rest (va_Ql post B A1 a) (vx_X px BX AX) free) (hS : va_S A0 H0 H locs) (hA : ∀ q, q < H.size → A1 q → A0 q) (hf : ∀ q, free q → A0 q) (hAX : ∀ q, q < H.size → AX q → A0 q)
    (kx : ∀ (E : String) (ce : Cell) (q9 : Addr) (u : SX) (t : State) (H1 : Heap) (locs1 : List Loc), t.heap = H1 → s.vm.Alike t.vm → px u → BX E u t → H.size ≤ H1.size → (∀ q : Nat, q < H.size → ¬ AX q → H1[q]? = H[q]?) → va_S A0 H0 H1 locs1 → H1[q9]? = some ce → ce.vm = .none → s.vm.findClass E = some ce.cls → vx_W p l e R s m args below meth c H1 locs1 (cells + mc) (slots + ms) Q (F0 m pc ls rest) q9)
    (kk : ∀ (r : Int64) (u : S) (t : State) (H1 : Heap) (locs1 : List Loc), t.heap = H1 → s.vm.Alike t.vm → post r u → B u t → H.size ≤ H1.size → (∀ q : Nat, q < H.size → ¬ A1 q → H1[q]? = H[q]?) → va_S A0 H0 H1 locs1 → W p l e R s m args below meth c H1 locs1 (cells + mc) (slots + ms) Q (F0 m (pc + 3) ls (.long r :: rest))) : W p l e R s m args below meth c H locs cells slots Q (F0 m pc ls st0) := by
  intro T hT X
  rcases hr T hT X with ⟨v, st₀, t, T', L, h0, X', hL, e1, e2, ⟨⟨r, u, hv, hp, hb⟩, hF⟩, st⟩ | ⟨q, st₀, t, T', L, E, ce, h0, X', hL, e1, e2, ⟨u, hp, hb, hF⟩, hce, hcv, hcl, st⟩
  · cases hv
    obtain ⟨k1, k2, k3⟩ := vx_keep h0 e1 hS hA hf hL hF
    obtain ⟨t2, a1, b1⟩ := kk r u t T'.heap (locs ++ L) e1.symm (by rw [← e2]; exact X'.warmed.alike) hp hb k1 k2 k3 T' rfl X'
    exact ⟨t2, st t2 a1, b1⟩
  · obtain ⟨k1, k2, k3⟩ := vx_keep h0 e1 hS hAX hf hL hF
    obtain ⟨t2, a1, b1⟩ := kx E ce q u t T'.heap (locs ++ L) e1.symm (by rw [← e2]; exact X'.warmed.alike) hp hb k1 k2 k3 (by rw [e1]; exact hce) hcv hcl T' rfl X'
    exact ⟨t2, st.trans a1, b1⟩
theorem vx_callf {S SX : Type} {post : UInt32 → S → Prop} {px : SX → Prop} {B : S → State → Prop} {BX : String → SX → State → Prop} {AX : Nat → Prop} (hr : vx_Run p l e R s m args below meth c H locs cells slots mc ms (F0 m pc ls st0) rest (va_Qf post B A1 a) (vx_X px BX AX) free) (hS : va_S A0 H0 H locs) (hA : ∀ q, q < H.size → A1 q → A0 q) (hf : ∀ q, free q → A0 q) (hAX : ∀ q, q < H.size → AX q → A0 q)
    (kx : ∀ (E : String) (ce : Cell) (q9 : Addr) (u : SX) (t : State) (H1 : Heap) (locs1 : List Loc), t.heap = H1 → s.vm.Alike t.vm → px u → BX E u t → H.size ≤ H1.size → (∀ q : Nat, q < H.size → ¬ AX q → H1[q]? = H[q]?) → va_S A0 H0 H1 locs1 → H1[q9]? = some ce → ce.vm = .none → s.vm.findClass E = some ce.cls → vx_W p l e R s m args below meth c H1 locs1 (cells + mc) (slots + ms) Q (F0 m pc ls rest) q9)
    (kk : ∀ (r : UInt32) (u : S) (t : State) (H1 : Heap) (locs1 : List Loc), t.heap = H1 → s.vm.Alike t.vm → post r u → B u t → H.size ≤ H1.size → (∀ q : Nat, q < H.size → ¬ A1 q → H1[q]? = H[q]?) → va_S A0 H0 H1 locs1 → W p l e R s m args below meth c H1 locs1 (cells + mc) (slots + ms) Q (F0 m (pc + 3) ls (.float r :: rest))) : W p l e R s m args below meth c H locs cells slots Q (F0 m pc ls st0) := by
  intro T hT X
  rcases hr T hT X with ⟨v, st₀, t, T', L, h0, X', hL, e1, e2, ⟨⟨r, u, hv, hp, hb⟩, hF⟩, st⟩ | ⟨q, st₀, t, T', L, E, ce, h0, X', hL, e1, e2, ⟨u, hp, hb, hF⟩, hce, hcv, hcl, st⟩
  · cases hv
    obtain ⟨k1, k2, k3⟩ := vx_keep h0 e1 hS hA hf hL hF
    obtain ⟨t2, a1, b1⟩ := kk r u t T'.heap (locs ++ L) e1.symm (by rw [← e2]; exact X'.warmed.alike) hp hb k1 k2 k3 T' rfl X'
    exact ⟨t2, st t2 a1, b1⟩
  · obtain ⟨k1, k2, k3⟩ := vx_keep h0 e1 hS hAX hf hL hF
    obtain ⟨t2, a1, b1⟩ := kx E ce q u t T'.heap (locs ++ L) e1.symm (by rw [← e2]; exact X'.warmed.alike) hp hb k1 k2 k3 (by rw [e1]; exact hce) hcv hcl T' rfl X'
    exact ⟨t2, st.trans a1, b1⟩
theorem vx_calld {S SX : Type} {post : UInt64 → S → Prop} {px : SX → Prop} {B : S → State → Prop} {BX : String → SX → State → Prop} {AX : Nat → Prop} (hr : vx_Run p l e R s m args below meth c H locs cells slots mc ms (F0 m pc ls st0) rest (va_Qd post B A1 a) (vx_X px BX AX) free) (hS : va_S A0 H0 H locs) (hA : ∀ q, q < H.size → A1 q → A0 q) (hf : ∀ q, free q → A0 q) (hAX : ∀ q, q < H.size → AX q → A0 q)
    (kx : ∀ (E : String) (ce : Cell) (q9 : Addr) (u : SX) (t : State) (H1 : Heap) (locs1 : List Loc), t.heap = H1 → s.vm.Alike t.vm → px u → BX E u t → H.size ≤ H1.size → (∀ q : Nat, q < H.size → ¬ AX q → H1[q]? = H[q]?) → va_S A0 H0 H1 locs1 → H1[q9]? = some ce → ce.vm = .none → s.vm.findClass E = some ce.cls → vx_W p l e R s m args below meth c H1 locs1 (cells + mc) (slots + ms) Q (F0 m pc ls rest) q9)
    (kk : ∀ (r : UInt64) (u : S) (t : State) (H1 : Heap) (locs1 : List Loc), t.heap = H1 → s.vm.Alike t.vm → post r u → B u t → H.size ≤ H1.size → (∀ q : Nat, q < H.size → ¬ A1 q → H1[q]? = H[q]?) → va_S A0 H0 H1 locs1 → W p l e R s m args below meth c H1 locs1 (cells + mc) (slots + ms) Q (F0 m (pc + 3) ls (.double r :: rest))) : W p l e R s m args below meth c H locs cells slots Q (F0 m pc ls st0) := by
  intro T hT X
  rcases hr T hT X with ⟨v, st₀, t, T', L, h0, X', hL, e1, e2, ⟨⟨r, u, hv, hp, hb⟩, hF⟩, st⟩ | ⟨q, st₀, t, T', L, E, ce, h0, X', hL, e1, e2, ⟨u, hp, hb, hF⟩, hce, hcv, hcl, st⟩
  · cases hv
    obtain ⟨k1, k2, k3⟩ := vx_keep h0 e1 hS hA hf hL hF
    obtain ⟨t2, a1, b1⟩ := kk r u t T'.heap (locs ++ L) e1.symm (by rw [← e2]; exact X'.warmed.alike) hp hb k1 k2 k3 T' rfl X'
    exact ⟨t2, st t2 a1, b1⟩
  · obtain ⟨k1, k2, k3⟩ := vx_keep h0 e1 hS hAX hf hL hF
    obtain ⟨t2, a1, b1⟩ := kx E ce q u t T'.heap (locs ++ L) e1.symm (by rw [← e2]; exact X'.warmed.alike) hp hb k1 k2 k3 (by rw [e1]; exact hce) hcv hcl T' rfl X'
    exact ⟨t2, st.trans a1, b1⟩
theorem vx_callv {S SX : Type} {post : S → Prop} {px : SX → Prop} {B : S → State → Prop} {BX : String → SX → State → Prop} {AX : Nat → Prop} (hr : vx_Run p l e R s m args below meth c H locs cells slots mc ms (F0 m pc ls st0) rest (va_Qv post B A1 a) (vx_X px BX AX) free) (hS : va_S A0 H0 H locs) (hA : ∀ q, q < H.size → A1 q → A0 q) (hf : ∀ q, free q → A0 q) (hAX : ∀ q, q < H.size → AX q → A0 q)
    (kx : ∀ (E : String) (ce : Cell) (q9 : Addr) (u : SX) (t : State) (H1 : Heap) (locs1 : List Loc), t.heap = H1 → s.vm.Alike t.vm → px u → BX E u t → H.size ≤ H1.size → (∀ q : Nat, q < H.size → ¬ AX q → H1[q]? = H[q]?) → va_S A0 H0 H1 locs1 → H1[q9]? = some ce → ce.vm = .none → s.vm.findClass E = some ce.cls → vx_W p l e R s m args below meth c H1 locs1 (cells + mc) (slots + ms) Q (F0 m pc ls rest) q9)
    (kk : ∀ (u : S) (t : State) (H1 : Heap) (locs1 : List Loc), t.heap = H1 → s.vm.Alike t.vm → post u → B u t → H.size ≤ H1.size → (∀ q : Nat, q < H.size → ¬ A1 q → H1[q]? = H[q]?) → va_S A0 H0 H1 locs1 → W p l e R s m args below meth c H1 locs1 (cells + mc) (slots + ms) Q (F0 m (pc + 3) ls (rest))) : W p l e R s m args below meth c H locs cells slots Q (F0 m pc ls st0) := by
  intro T hT X
  rcases hr T hT X with ⟨v, st₀, t, T', L, h0, X', hL, e1, e2, ⟨⟨u, hv, hp, hb⟩, hF⟩, st⟩ | ⟨q, st₀, t, T', L, E, ce, h0, X', hL, e1, e2, ⟨u, hp, hb, hF⟩, hce, hcv, hcl, st⟩
  · cases hv
    obtain ⟨k1, k2, k3⟩ := vx_keep h0 e1 hS hA hf hL hF
    obtain ⟨t2, a1, b1⟩ := kk u t T'.heap (locs ++ L) e1.symm (by rw [← e2]; exact X'.warmed.alike) hp hb k1 k2 k3 T' rfl X'
    exact ⟨t2, st t2 a1, b1⟩
  · obtain ⟨k1, k2, k3⟩ := vx_keep h0 e1 hS hAX hf hL hF
    obtain ⟨t2, a1, b1⟩ := kx E ce q u t T'.heap (locs ++ L) e1.symm (by rw [← e2]; exact X'.warmed.alike) hp hb k1 k2 k3 (by rw [e1]; exact hce) hcv hcl T' rfl X'
    exact ⟨t2, st.trans a1, b1⟩
end Rows
section Ends
variable {p : Program} {l : Launch} {e : Env} {R : Room} {s : State} {m : MethodId} {args : Array Value} {below : List Frame} {meth : Method} {c : Code} {H : Heap} {locs : List Loc} {cells slots : Nat} {Q : State → Prop}
variable {mc ms : Nat} {free : Addr → Prop} {A0 A1 : Nat → Prop} {H0 : Heap} {a : Array Value} {ls : Array Slot} {st0 rest : List Value}
variable {Qc : Array Value → State → Outcome → State → Prop} {XC : String → State → State → Prop}
/-- what a body that may throw owes at its end -/
def vx_MQ (below : List Frame) (Qc : Array Value → State → Outcome → State → Prop) (XC : String → State → State → Prop) (a : Array Value) (s : State) (mc ms : Nat) (free : Addr → Prop) : State → Prop := fun t =>
  ∃ o, t.status = .running ∧ Ended t below o ∧ vx_Q Qc XC mc ms free a s o t
theorem vx_ret {g : JFrame} {mc ms : Nat} (k : W p l e R s m args below meth c H locs cells slots (MQ below Qc args s mc ms free) g) : W p l e R s m args below meth c H locs cells slots (vx_MQ below Qc XC args s mc ms free) g := by
  intro T hT X
  obtain ⟨t, a1, o, b1, b2, b3, b4⟩ := k T hT X
  exact ⟨t, a1, o, b1, b2, Or.inl ⟨b3, b4⟩⟩
/-- not caught here: it goes on to the caller -/
theorem vx_widen {g : JFrame} {q : Addr} {k n : Nat} (h1 : cells ≤ k) (h2 : slots ≤ n) (kk : vx_W p l e R s m args below meth c H locs k n Q g q) : vx_W p l e R s m args below meth c H locs cells slots Q g q := fun T hT X => kk T hT (stand_widen X h1 h2)
theorem vx_out {pc : Nat} {E : String} {ce : Cell} {q : Addr} {mc ms : Nat} (hout : ∀ x ∈ c.exceptionTable.toList, covers x pc = false) (hlocks : meth.locks = false) (hcell : H[q]? = some ce) (hv : ce.vm = .none) (hcl : s.vm.findClass E = some ce.cls)
    (hx : ∀ t : State, t.heap = H → s.vm.Alike t.vm → XC E s t) (hf : ∀ z ∈ locs, free z.base) (hc : cells ≤ mc) (hs : slots ≤ ms) :
    vx_W p l e R s m args below meth c H locs cells slots (vx_MQ below Qc XC args s mc ms free) (F0 m pc ls rest) q := by
  intro T hT X
  obtain ⟨st1, hrun, hend, hW, hsm⟩ := X.leaveThrown q (g := F0 m pc ls rest) rfl rfl rfl hout hlocks
  have hcell9 : (T.setFrames (.throwing q :: below)).heap[q]? = some ce := by
    show T.heap[q]? = some ce
    rw [hT]; exact hcell
  exact ⟨_, st1, .threw q, hrun, hend, Or.inr ⟨q, rfl, E, ce, locs, hx _ hT hW.alike, hcell9, hv, hcl, hW, hsm.mono hc hs, hf⟩⟩
theorem vx_frame {U : State} {k n : Nat} (h : s.sameButNew ({ U with vm := s.vm } : State) locs k n) : s.heap.size ≤ U.heap.size ∧ ∀ q : Nat, q < s.heap.size → (∀ z ∈ locs, z.base ≠ q) → U.heap[q]? = s.heap[q]? := by
  obtain ⟨-, h2, -, -, -, h6⟩ := h
  refine ⟨h2, fun q hq hz => ?_⟩
  obtain ⟨c9, e1, e2, e3, e4⟩ := h6 q _ (Array.getElem?_eq_getElem hq)
  have hs : c9.slots = (s.heap[q]).slots := Array.ext_getElem? fun i => e4 i fun hm => hz _ hm rfl
  have h9 : c9 = s.heap[q] := by
    rw [hs] at e2
    exact e2
  have e5 : U.heap[q]? = some c9 := e1
  rw [e5, h9, Array.getElem?_eq_getElem hq]
/-- the words of a throw but the four that speak of the heap -/
def vx_no (w : Cond) : Bool := decide (w ≠ .isRef (.static Bundle.tN "UNASSIGNED_STACK" Bundle.steD)) && decide (w ≠ .isRef (.static Bundle.tN "SUPPRESSED_SENTINEL" Bundle.listD)) && decide (w ≠ .laysStatic Bundle.tN "UNASSIGNED_STACK" Bundle.steD) && decide (w ≠ .laysStatic Bundle.tN "SUPPRESSED_SENTINEL" Bundle.listD)
def vx_at0 (own : String) (ic : Nat) (X : String) (names : List String) : List Cond := (Bundle.ownAtoms0 own ic X names).filter vx_no
def vx_atS (own : String) (ic : Nat) (X : String) (names : List String) : List Cond := (Bundle.ownAtoms own ic X names).filter vx_no
/-- a word that the tables alone decide, or a good one -/
def vx_ot (w : Cond) : Bool := w.onTables || goodWord w
theorem vx_ot_at {args a' : Array Value} {s U : State} {w : Cond} (hW : s.WarmedH U.vm) (hvm : s.vm = U.vm) (hg : vx_ot w = true) (h : w.before args s = true) : w.before a' U = true := by
  simp only [vx_ot, Bool.or_eq_true] at hg
  rcases hg with hg | hg
  · exact va_tabs hg hvm h
  · exact word_at hW (good_of_word hg) h
/-- a list's words: the good ones out of the method's own list, the others by premises of their own -/
theorem vx_hat {args : Array Value} {s : State} {L B : List Cond} (h1 : ∀ w ∈ L.filter goodWord, w.before args s = true) (h2 : ∀ w ∈ L.filter (fun w => !goodWord w), w ∈ B) (h3 : ∀ w ∈ B, w.before args s = true) : ∀ w ∈ L, w.before args s = true := by
  intro w hw
  by_cases g : goodWord w = true
  · exact h1 w (List.mem_filter.mpr ⟨hw, g⟩)
  · refine h3 w (h2 w (List.mem_filter.mpr ⟨hw, ?_⟩))
    show (!goodWord w) = true
    cases hgw : goodWord w
    · rfl
    · exact absurd hgw g
theorem vx_c {args : Array Value} {s : State} {w : Cond} {B : List Cond} (h : w.before args s = true) (t : ∀ w ∈ B, w.before args s = true) : ∀ w' ∈ w :: B, w'.before args s = true := fun w' h' => (List.mem_cons.mp h').elim (fun e => by rw [e]; exact h) (t w')
theorem vx_n {args : Array Value} {s : State} : ∀ w ∈ ([] : List Cond), w.before args s = true := fun _ h => nomatch h
theorem vx_own {args : Array Value} {s : State} {L : List Cond} (h1 : ∀ w ∈ L.filter vx_no, w.before args s = true)
    (hU : (Cond.isRef (.static Bundle.tN "UNASSIGNED_STACK" Bundle.steD)).before args s = true) (hN : (Cond.isRef (.static Bundle.tN "SUPPRESSED_SENTINEL" Bundle.listD)).before args s = true)
    (lU : (Cond.laysStatic Bundle.tN "UNASSIGNED_STACK" Bundle.steD).before args s = true) (lN : (Cond.laysStatic Bundle.tN "SUPPRESSED_SENTINEL" Bundle.listD).before args s = true) : ∀ w ∈ L, w.before args s = true := by
  intro w hw
  by_cases e1 : w = .isRef (.static Bundle.tN "UNASSIGNED_STACK" Bundle.steD)
  · rw [e1]; exact hU
  · by_cases e2 : w = .isRef (.static Bundle.tN "SUPPRESSED_SENTINEL" Bundle.listD)
    · rw [e2]; exact hN
    · by_cases e3 : w = .laysStatic Bundle.tN "UNASSIGNED_STACK" Bundle.steD
      · rw [e3]; exact lU
      · by_cases e4 : w = .laysStatic Bundle.tN "SUPPRESSED_SENTINEL" Bundle.listD
        · rw [e4]; exact lN
        · exact h1 w (List.mem_filter.mpr ⟨hw, by unfold vx_no; rw [decide_eq_true e1, decide_eq_true e2, decide_eq_true e3, decide_eq_true e4]; rfl⟩)
/-- where a static field lies, its class's statics cell in H -/
def vx_L (C n d : String) (A : Nat → Prop) (U : State) (H : Heap) : Prop := ∃ (c : ClassId) (k : Class) (i : Nat) (f : Field) (a : Nat) (cell : Cell), U.vm.findClass C = some c ∧ U.fieldFound? C n d = some (c, k, i, f) ∧ f.isStatic = true ∧ k.statics = some a ∧ H[a]? = some cell ∧ cell.vm.isStatics = true ∧ cell.cls = c ∧ f.slot < cell.slots.size ∧ k.staticTypes[f.slot]? = some f.type ∧ ¬ A a
theorem vx_L.moved {C n d : String} {A : Nat → Prop} {u U : State} {H : Heap} (hvm : u.vm.Alike U.vm) (h : vx_L C n d A u H) : vx_L C n d A U H := by
  obtain ⟨c, k, i, f, a, cell, h1, h2, h3, h4, h5, h6, h7, h8, h9, h10⟩ := h
  obtain ⟨k', hi', he⟩ := State.fieldFound?_setVm hvm h2
  exact ⟨c, k', i, f, a, cell, by rw [hvm.findClass]; exact h1, hi', h3, by rw [he]; exact h4, h5, h6, h7, h8, by rw [he]; exact h9, h10⟩
theorem vx_L.kept {C n d : String} {A : Nat → Prop} {U : State} {H H1 : Heap} (h : vx_L C n d A U H) (hq : ∀ a : Nat, a < H.size → ¬ A a → H1[a]? = H[a]?) : vx_L C n d A U H1 := by
  obtain ⟨c, k, i, f, a, cell, h1, h2, h3, h4, h5, h6, h7, h8, h9, h10⟩ := h
  exact ⟨c, k, i, f, a, cell, h1, h2, h3, h4, by rw [hq a (Array.getElem?_eq_some_iff.mp h5).1 h10]; exact h5, h6, h7, h8, h9, h10⟩
theorem vx_L.narrow {C n d : String} {A B : Nat → Prop} {U : State} {H : Heap} (h : vx_L C n d A U H) (hAB : ∀ q, B q → A q) : vx_L C n d B U H := by
  obtain ⟨c, k, i, f, a, cell, h1, h2, h3, h4, h5, h6, h7, h8, h9, h10⟩ := h
  exact ⟨c, k, i, f, a, cell, h1, h2, h3, h4, h5, h6, h7, h8, h9, fun z => h10 (hAB _ z)⟩
theorem vx_L.word {C n d : String} {A : Nat → Prop} {s : State} {args : Array Value} (h : vx_L C n d A s s.heap) : (Cond.laysStatic C n d).before args s = true := by
  obtain ⟨c, k, i, f, a, cell, h1, h2, h3, h4, h5, h6, h7, h8, h9, -⟩ := h
  show (Cond.laysStatic C n d).holds args s none s [] = true
  exact Cond.laysStatic_of h1 h2 h3 h4 h5 h6 h7 h8 h9
/-- .. and what it holds: null or some reference -/
def vx_Zq (C n d : String) (A : Nat → Prop) (U : State) (H : Heap) : Prop := va_Zq C n d A U H ∧ vx_L C n d A U H
theorem vx_Zq.moved {C n d : String} {A : Nat → Prop} {u U : State} {H : Heap} (hvm : u.vm.Alike U.vm) (h : vx_Zq C n d A u H) : vx_Zq C n d A U H := ⟨va_Zq.moved hvm h.1, vx_L.moved hvm h.2⟩
theorem vx_Zq.kept {C n d : String} {A : Nat → Prop} {U : State} {H H1 : Heap} (h : vx_Zq C n d A U H) (hq : ∀ a : Nat, a < H.size → ¬ A a → H1[a]? = H[a]?) : vx_Zq C n d A U H1 := ⟨va_Zq.kept h.1 hq, vx_L.kept h.2 hq⟩
theorem vx_Zq.narrow {C n d : String} {A B : Nat → Prop} {U : State} {H : Heap} (h : vx_Zq C n d A U H) (hAB : ∀ q, B q → A q) : vx_Zq C n d B U H := ⟨va_Zq.narrow h.1 hAB, vx_L.narrow h.2 hAB⟩
theorem vx_Zqof {args : Array Value} {s : State} {C n d : String} {A : Nat → Prop} (hl : (Cond.laysStatic C n d).before args s = true) (hini : (Cond.initialized C).before args s = true) (h : (Cond.isRef (.static C n d)).before args s = true) (hA : ∀ a : Nat, a < s.heap.size → ¬ A a) : vx_Zq C n d A s s.heap := by
  refine ⟨va_Zqof hl hini h hA, ?_⟩
  obtain ⟨c, k, i, f, a, cell, h1, h2, h3, h4, h5, h6, h7, h8, h9⟩ := Cond.laysStatic_spec hl
  exact ⟨c, k, i, f, a, cell, h1, h2, h3, h4, h5, h6, h7, h8, h9, hA a (Array.getElem?_eq_some_iff.mp h5).1⟩
theorem vx_isRef {C n d : String} {v : Value} {A : Nat → Prop} {s : State} {args : Array Value} (h : va_Z C n d v A s s.heap) (hv : v.isRef = true) : (Cond.isRef (.static C n d)).before args s = true := by
  obtain ⟨cf, kf, fi, f, a, cell, h1, h2, h3, h4, h5, h6, h7, -⟩ := h
  have he : (Term.static C n d).eval args s none [] s = some v := by
    simp [Term.eval, State.fieldNamed?, h1, h2, h4, h5, h6, h7]
  simp only [Cond.before, Cond.holds, Cond.value, he]
  cases v <;> simp_all [Value.isRef]
theorem vx_isRefq {C n d : String} {A : Nat → Prop} {s : State} {args : Array Value} (h : va_Zq C n d A s s.heap) : (Cond.isRef (.static C n d)).before args s = true := by
  rcases h with h | ⟨t, h⟩
  · exact vx_isRef h rfl
  · exact vx_isRef h rfl
/-- the same frame, seen from here: as if the method were called anew in this heap -/
theorem vx_rebase {T : State} (X : Stand p l e R s m args below meth c T locs cells slots) {R' : Room} (hf : R'.frames ≤ R.frames) (hl : R'.locals ≤ R.locals) (hc : cells + R'.cells ≤ R.cells) (hs : slots + R'.slots ≤ R.slots) :
    Stand p l e R' ((T.setVm s.vm).setFrames (.invoking m args :: below)) m args below meth c T [] 0 0 := by
  have htop : (T.setVm s.vm).topJava?.isSome := X.here.top
  have hF : ((T.setVm s.vm).setFrames (.invoking m args :: below)).frames = .invoking m args :: below := State.frames_setFrames _ (State.cur_lt_of_top htop)
  obtain ⟨g₀, hg0⟩ := Option.isSome_iff_exists.mp htop
  obtain ⟨r, hr⟩ := State.topJava?_eq_some.mp hg0
  have hl9 : e.platform.stackLimits (T.setVm s.vm).me = e.platform.stackLimits s.me := X.limits
  have hb9 : (T.setVm s.vm).me.stackBytes = s.me.stackBytes := X.bytes
  refine ⟨X.admits, X.cas, X.clock, hF, ?_, X.hears, X.method, X.code, X.here, X.tail, X.warmed, ?_, ?_, ?_⟩
  · have h := X.room
    have hU : ((T.setVm s.vm).setFrames (.invoking m args :: below)).localsInUse = s.localsInUse := by
      rw [State.localsInUse_invoking hF (meth := meth) (c := c) X.method X.code, State.localsInUse_invoking X.frames X.method X.code]
    simp only [State.hasRoom, Bool.and_eq_true, decide_eq_true_eq] at h ⊢
    obtain ⟨⟨⟨⟨h1, h2, h3, h4, h5, h6⟩, h7⟩, h8⟩, h9⟩ := h
    rw [X.frames, List.length_cons] at h2 h3
    have q1 := X.heapSize
    have q2 := X.used
    simp only [hF, hU, List.length_cons, State.stackLimits_setFrames, State.stackBytes_setFrames, hl9, hb9]
    refine ⟨⟨⟨⟨by omega, by omega, by omega, by omega, by omega, h6⟩, ?_⟩, ?_⟩, X.book⟩
    · show T.heap.size + R'.cells ≤ e.platform.maxCells
      omega
    · show T.slotsUsed + R'.slots ≤ e.platform.maxSlots
      omega
  · rw [State.stackLimits_setFrames]; rfl
  · rw [State.stackBytes_setFrames]; rfl
  · refine ⟨?_, Nat.le_refl _, Nat.le_refl _, ?_, ?_, fun a c9 h9 => ⟨c9, h9, rfl, rfl, fun _ _ => rfl⟩⟩
    · obtain ⟨t, ht, -⟩ := State.frames_cons hr
      show T.setVm s.vm = { ((T.setVm s.vm).setFrames (.invoking m args :: below)).setFrames (T.setVm s.vm).frames with heap := T.heap, slotsUsed := T.slotsUsed }
      rw [State.setFrames_setFrames, State.setFrames_self ht]
      rfl
    · show T.slotsUsed = T.slotsUsed + ((T.heap.toList.drop T.heap.size).map (·.slots.size)).sum
      rw [List.drop_eq_nil_of_le (Nat.le_of_eq Array.length_toList)]
      rfl
    · show ((T.heap.toList.drop T.heap.size).map (·.slots.size)).sum ≤ 0
      rw [List.drop_eq_nil_of_le (Nat.le_of_eq Array.length_toList)]
      exact Nat.le_refl _
/-- 'throw new E()': new; dup; invokespecial; athrow -/
theorem vx_throw0 {cc : ByteArray} {pc : Nat} (hexec : p.tables.exec = Jvm.exec) (hb : c.code = cc) (hl : l.stackTraces = false) {own cls : String} {names : List String} {ik ic mc ms : Nat} {A : Nat → Prop}
    (hown : s.vm.findClass own = some m.cls) (hcls : Bundle.fit cls = true) (hnames : ∀ n ∈ names, Bundle.fit n = true)
    (hk : (Cond.classLink own ik cls).before args s = true) (hini : (Cond.initialized cls).before args s = true) (hat : ∀ w ∈ vx_at0 own ic cls names, w.before args s = true)
    (hgood : ∀ w ∈ Cond.classLink own ik cls :: Cond.initialized cls :: vx_at0 own ic cls names, vx_ot w = true)
    (hU : vx_Zq Bundle.tN "UNASSIGNED_STACK" Bundle.steD A s s.heap) (hN : vx_Zq Bundle.tN "SUPPRESSED_SENTINEL" Bundle.listD A s s.heap) (hS : va_S A s.heap H locs) (hsize : ls.size = c.maxLocals)
    (d0 : decode cc pc = .ok (.new ik, 3)) (d3 : decode cc (pc + 3) = .ok (.dup, 1)) (d4 : decode cc (pc + 4) = .ok (.invokespecial ic, 3)) (d7 : decode cc (pc + 7) = .ok (.athrow, 1))
    (hout : ∀ x ∈ c.exceptionTable.toList, covers x (pc + 7) = false)
    (hRframes : names.length + 3 < R.frames) (hRlocals : (rest.map fun v => v.category).sum + (13 * (names.length + 1) + 42) ≤ R.locals) (hRcells : cells + 1 ≤ R.cells) (hRslots : slots + 6 ≤ R.slots) (hlocks : meth.locks = false)
    (hx : ∀ t : State, s.vm.Alike t.vm → H.size ≤ t.heap.size → (∀ q : Nat, q < H.size → t.heap[q]? = H[q]?) → XC cls s t)
    (hf : ∀ z ∈ locs, free z.base) (hc : cells + 1 ≤ mc) (hs : slots + 6 ≤ ms) :
    W p l e R s m args below meth c H locs cells slots (vx_MQ below Qc XC args s mc ms free) (F0 m pc ls rest) := by
  intro T hT X
  have htr : e.platform.stackTraces = false := (show e.platform.stackTraces = l.stackTraces by rw [X.admits.platform]).trans hl
  have Y := vx_rebase X (R' := { frames := R.frames, locals := R.locals, cells := 1, slots := 6 }) (Nat.le_refl _) (Nat.le_refl _) hRcells hRslots
  obtain ⟨s', hA⟩ : ∃ z, z = (T.setVm s.vm).setFrames (.invoking m args :: below) := ⟨_, rfl⟩
  rw [← hA] at Y
  have hvm : s'.vm = s.vm := by rw [hA]; rfl
  have hhp : s'.heap = H := by rw [hA]; exact hT
  have hW0 : s.WarmedH s'.vm := by rw [hvm]; exact State.WarmedH.refl s
  have hat' : ∀ w ∈ vx_at0 own ic cls names, w.before args s' = true := fun w hw => vx_ot_at hW0 hvm.symm (hgood w (List.mem_cons_of_mem _ (List.mem_cons_of_mem _ hw))) (hat w hw)
  have hk' : (Cond.classLink own ik cls).before args s' = true := vx_ot_at hW0 hvm.symm (hgood _ List.mem_cons_self) hk
  have hini' : (Cond.initialized cls).before args s' = true := vx_ot_at hW0 hvm.symm (hgood _ (List.mem_cons_of_mem _ List.mem_cons_self)) hini
  have hU' : vx_Zq Bundle.tN "UNASSIGNED_STACK" Bundle.steD A s' s'.heap := by rw [hhp]; exact vx_Zq.moved hW0.alike (hU.kept hS.2.1)
  have hN' : vx_Zq Bundle.tN "SUPPRESSED_SENTINEL" Bundle.listD A s' s'.heap := by rw [hhp]; exact vx_Zq.moved hW0.alike (hN.kept hS.2.1)
  have h : ∀ w ∈ Bundle.ownAtoms0 own ic cls names, w.before args s' = true := vx_own hat' (vx_isRefq hU'.1) (vx_isRefq hN'.1) hU'.2.word hN'.2.word
  have hown' : s'.vm.findClass own = some m.cls := by rw [hvm]; exact hown
  have hins : (Cond.instantiable cls 6).before args s' = true := h _ (by simp [Bundle.ownAtoms0])
  obtain ⟨vm₁, cX, kX, hfX, hkX, -, -, X₁, st1⟩ := Y.newCold hexec (own := own) (C := cls) (index := ik) (n := 6) hown' hk' hins hini'
    (g := F0 m pc ls rest) rfl (by rw [hb]; exact d0) (Nat.le_refl _) (Nat.le_refl _)
  generalize hT1 : (T.setVm vm₁).pushCell { cls := cX, slots := kX.instanceTypes.map defaultValue, vm := .none } = T1 at X₁ st1
  have hcat : (Value.ref T.heap.size).category = 1 := rfl
  have hcellA : T1.heap[T.heap.size]? = some (freshCell cX kX) := by rw [← hT1]; exact State.heap_pushCell_size _ _
  have d3' : decode c.code (pc + 3) = .ok (.dup, 1) := by rw [hb]; exact d3
  obtain ⟨U, hsteps, hrun, hend, hW, hsame, ce, hce, hO⟩ := X₁.ctorThrow0 hexec htr (own := own) (cls := cls) (names := names) (ic := ic) hown' hcls hnames h (fun x hx => nomatch hx) hfX hkX hcellA (by rw [hhp, hT]; exact Nat.le_refl _)
    (g := { method := m, pc := pc + 4, locals := ls, stack := .ref T.heap.size :: .ref T.heap.size :: rest, locked := none }) rfl hsize rfl rfl (rest := rest) rfl
    (by rw [hb]; exact d4) (by rw [hb]; exact d7) hout hRframes (by simp only [List.map_cons, List.sum_cons, hcat]; omega) hlocks
  obtain ⟨f1, f2⟩ := vx_frame hsame
  rw [hhp] at f1 f2
  have hWs : s.WarmedH U.vm := State.WarmedH.trans hW0 hW
  have hcl : s.vm.findClass cls = some ce.cls := by
    have h9 := hO.cls
    rw [hvm] at h9
    exact h9
  have hall : s.sameButNew ({ U with vm := s.vm } : State) locs mc ms := by
    subst hA
    obtain ⟨e1, e2⟩ := hsame
    rw [State.setFrames_setFrames] at e1
    have h2 : (T.setVm s.vm).sameButNew ({ U with vm := s.vm } : State) [] (0 + 1) (0 + 6) := ⟨e1, e2⟩
    have h3 := X.same.trans h2
    rw [List.append_nil] at h3
    exact h3.mono hc hs
  refine ⟨U, ?_, .threw T.heap.size, hrun, hend, Or.inr ⟨T.heap.size, rfl, cls, ce, locs, hx U hWs.alike f1 (fun q hq => f2 q hq (fun z hz => nomatch hz)), hce, hO.vm, hcl, hWs, hall, hf⟩⟩
  refine st1 _ ?_
  show Steps p.tables e below (T1.setTop { method := m, pc := pc + 3, locals := ls, stack := .ref T.heap.size :: rest, locked := none }) _
  jvm_step X₁.here [X₁.here.top, hexec, d3', Value.category]
  exact hsteps
/-- 'throw new E("text")': new; dup; ldc; invokespecial; athrow -/
theorem vx_throwS {cc : ByteArray} {pc : Nat} (hexec : p.tables.exec = Jvm.exec) (hb : c.code = cc) (hl : l.stackTraces = false) {own cls text : String} {names : List String} {ik is ic mc ms sa : Nat} {A : Nat → Prop}
    (hown : s.vm.findClass own = some m.cls) (hcls : Bundle.fit cls = true) (hnames : ∀ n ∈ names, Bundle.fit n = true)
    (hk : (Cond.classLink own ik cls).before args s = true) (hini : (Cond.initialized cls).before args s = true) (hstr : vk_R own is text sa s) (hat : ∀ w ∈ vx_atS own ic cls names, w.before args s = true)
    (hgood : ∀ w ∈ Cond.classLink own ik cls :: Cond.initialized cls :: vx_atS own ic cls names, vx_ot w = true)
    (hU : vx_Zq Bundle.tN "UNASSIGNED_STACK" Bundle.steD A s s.heap) (hN : vx_Zq Bundle.tN "SUPPRESSED_SENTINEL" Bundle.listD A s s.heap) (hS : va_S A s.heap H locs) (hsize : ls.size = c.maxLocals)
    (d0 : decode cc pc = .ok (.new ik, 3)) (d3 : decode cc (pc + 3) = .ok (.dup, 1)) (d4 : decode cc (pc + 4) = .ok (.ldc is, 2)) (d6 : decode cc (pc + 6) = .ok (.invokespecial ic, 3)) (d9 : decode cc (pc + 9) = .ok (.athrow, 1))
    (hout : ∀ x ∈ c.exceptionTable.toList, covers x (pc + 9) = false)
    (hRframes : names.length + 3 < R.frames) (hRlocals : (rest.map fun v => v.category).sum + (13 * (names.length + 1) + 43) ≤ R.locals) (hRcells : cells + 1 ≤ R.cells) (hRslots : slots + 6 ≤ R.slots) (hlocks : meth.locks = false)
    (hx : ∀ t : State, s.vm.Alike t.vm → H.size ≤ t.heap.size → (∀ q : Nat, q < H.size → t.heap[q]? = H[q]?) → XC cls s t)
    (hf : ∀ z ∈ locs, free z.base) (hc : cells + 1 ≤ mc) (hs : slots + 6 ≤ ms) :
    W p l e R s m args below meth c H locs cells slots (vx_MQ below Qc XC args s mc ms free) (F0 m pc ls rest) := by
  intro T hT X
  have htr : e.platform.stackTraces = false := (show e.platform.stackTraces = l.stackTraces by rw [X.admits.platform]).trans hl
  have Y := vx_rebase X (R' := { frames := R.frames, locals := R.locals, cells := 1, slots := 6 }) (Nat.le_refl _) (Nat.le_refl _) hRcells hRslots
  obtain ⟨s', hA⟩ : ∃ z, z = (T.setVm s.vm).setFrames (.invoking m args :: below) := ⟨_, rfl⟩
  rw [← hA] at Y
  have hvm : s'.vm = s.vm := by rw [hA]; rfl
  have hhp : s'.heap = H := by rw [hA]; exact hT
  have hW0 : s.WarmedH s'.vm := by rw [hvm]; exact State.WarmedH.refl s
  have hat' : ∀ w ∈ vx_atS own ic cls names, w.before args s' = true := fun w hw => vx_ot_at hW0 hvm.symm (hgood w (List.mem_cons_of_mem _ (List.mem_cons_of_mem _ hw))) (hat w hw)
  have hk' : (Cond.classLink own ik cls).before args s' = true := vx_ot_at hW0 hvm.symm (hgood _ List.mem_cons_self) hk
  have hini' : (Cond.initialized cls).before args s' = true := vx_ot_at hW0 hvm.symm (hgood _ (List.mem_cons_of_mem _ List.mem_cons_self)) hini
  have hU' : vx_Zq Bundle.tN "UNASSIGNED_STACK" Bundle.steD A s' s'.heap := by rw [hhp]; exact vx_Zq.moved hW0.alike (hU.kept hS.2.1)
  have hN' : vx_Zq Bundle.tN "SUPPRESSED_SENTINEL" Bundle.listD A s' s'.heap := by rw [hhp]; exact vx_Zq.moved hW0.alike (hN.kept hS.2.1)
  have h : ∀ w ∈ Bundle.ownAtoms own ic cls names, w.before args s' = true := vx_own hat' (vx_isRefq hU'.1) (vx_isRefq hN'.1) hU'.2.word hN'.2.word
  have hown' : s'.vm.findClass own = some m.cls := by rw [hvm]; exact hown
  have hins : (Cond.instantiable cls 6).before args s' = true := h _ (by simp [Bundle.ownAtoms])
  obtain ⟨vm₁, cX, kX, hfX, hkX, -, -, X₁, st1⟩ := Y.newCold hexec (own := own) (C := cls) (index := ik) (n := 6) hown' hk' hins hini'
    (g := F0 m pc ls rest) rfl (by rw [hb]; exact d0) (Nat.le_refl _) (Nat.le_refl _)
  generalize hT1 : (T.setVm vm₁).pushCell { cls := cX, slots := kX.instanceTypes.map defaultValue, vm := .none } = T1 at X₁ st1
  have hcat : (Value.ref T.heap.size).category = 1 := rfl
  have hcellA : T1.heap[T.heap.size]? = some (freshCell cX kX) := by rw [← hT1]; exact State.heap_pushCell_size _ _
  have d3' : decode c.code (pc + 3) = .ok (.dup, 1) := by rw [hb]; exact d3
  have d4' : decode c.code (pc + 4) = .ok (.ldc is, 2) := by rw [hb]; exact d4
  have hstr' : vk_R own is text sa s' := vk_R.warm hW0 hstr
  obtain ⟨U, hsteps, hrun, hend, hW, hsame, ce, hce, hO⟩ := X₁.ctorThrowS hexec htr (own := own) (cls := cls) (names := names) (ic := ic) hown' hcls hnames h (fun x hx => nomatch hx) hfX hkX hcellA (by rw [hhp, hT]; exact Nat.le_refl _) (msg := .ref sa) rfl
    (g := { method := m, pc := pc + 6, locals := ls, stack := .ref sa :: .ref T.heap.size :: .ref T.heap.size :: rest, locked := none }) rfl hsize rfl rfl (rest := rest) rfl
    (by rw [hb]; exact d6) (by rw [hb]; exact d9) hout hRframes (by simp only [List.map_cons, List.sum_cons, hcat]; omega) hlocks
  obtain ⟨f1, f2⟩ := vx_frame hsame
  rw [hhp] at f1 f2
  have hWs : s.WarmedH U.vm := State.WarmedH.trans hW0 hW
  have hcl : s.vm.findClass cls = some ce.cls := by
    have h9 := hO.cls
    rw [hvm] at h9
    exact h9
  have hall : s.sameButNew ({ U with vm := s.vm } : State) locs mc ms := by
    subst hA
    obtain ⟨e1, e2⟩ := hsame
    rw [State.setFrames_setFrames] at e1
    have h2 : (T.setVm s.vm).sameButNew ({ U with vm := s.vm } : State) [] (0 + 1) (0 + 6) := ⟨e1, e2⟩
    have h3 := X.same.trans h2
    rw [List.append_nil] at h3
    exact h3.mono hc hs
  refine ⟨U, ?_, .threw T.heap.size, hrun, hend, Or.inr ⟨T.heap.size, rfl, cls, ce, locs, hx U hWs.alike f1 (fun q hq => f2 q hq (fun z hz => nomatch hz)), hce, hO.vm, hcl, hWs, hall, hf⟩⟩
  refine st1 _ ?_
  show Steps p.tables e below (T1.setTop { method := m, pc := pc + 3, locals := ls, stack := .ref T.heap.size :: rest, locked := none }) _
  jvm_step X₁.here [X₁.here.top, hexec, d3', Value.category]
  exact X₁.ldcString hexec (own := own) (text := text) (index := is) (a := sa) hown' hstr'.1 hstr'.2
    (g := { method := m, pc := pc + 4, locals := ls, stack := .ref T.heap.size :: .ref T.heap.size :: rest, locked := none }) rfl d4' _ hsteps
/-- 'throw new E("text")', the text by a wide index -/
theorem vx_throwSW {cc : ByteArray} {pc : Nat} (hexec : p.tables.exec = Jvm.exec) (hb : c.code = cc) (hl : l.stackTraces = false) {own cls text : String} {names : List String} {ik is ic mc ms sa : Nat} {A : Nat → Prop}
    (hown : s.vm.findClass own = some m.cls) (hcls : Bundle.fit cls = true) (hnames : ∀ n ∈ names, Bundle.fit n = true)
    (hk : (Cond.classLink own ik cls).before args s = true) (hini : (Cond.initialized cls).before args s = true) (hstr : vk_R own is text sa s) (hat : ∀ w ∈ vx_atS own ic cls names, w.before args s = true)
    (hgood : ∀ w ∈ Cond.classLink own ik cls :: Cond.initialized cls :: vx_atS own ic cls names, vx_ot w = true)
    (hU : vx_Zq Bundle.tN "UNASSIGNED_STACK" Bundle.steD A s s.heap) (hN : vx_Zq Bundle.tN "SUPPRESSED_SENTINEL" Bundle.listD A s s.heap) (hS : va_S A s.heap H locs) (hsize : ls.size = c.maxLocals)
    (d0 : decode cc pc = .ok (.new ik, 3)) (d3 : decode cc (pc + 3) = .ok (.dup, 1)) (d4 : decode cc (pc + 4) = .ok (.ldc_w is, 3)) (d7 : decode cc (pc + 7) = .ok (.invokespecial ic, 3)) (d10 : decode cc (pc + 10) = .ok (.athrow, 1))
    (hout : ∀ x ∈ c.exceptionTable.toList, covers x (pc + 10) = false)
    (hRframes : names.length + 3 < R.frames) (hRlocals : (rest.map fun v => v.category).sum + (13 * (names.length + 1) + 43) ≤ R.locals) (hRcells : cells + 1 ≤ R.cells) (hRslots : slots + 6 ≤ R.slots) (hlocks : meth.locks = false)
    (hx : ∀ t : State, s.vm.Alike t.vm → H.size ≤ t.heap.size → (∀ q : Nat, q < H.size → t.heap[q]? = H[q]?) → XC cls s t)
    (hf : ∀ z ∈ locs, free z.base) (hc : cells + 1 ≤ mc) (hs : slots + 6 ≤ ms) :
    W p l e R s m args below meth c H locs cells slots (vx_MQ below Qc XC args s mc ms free) (F0 m pc ls rest) := by
  intro T hT X
  have htr : e.platform.stackTraces = false := (show e.platform.stackTraces = l.stackTraces by rw [X.admits.platform]).trans hl
  have Y := vx_rebase X (R' := { frames := R.frames, locals := R.locals, cells := 1, slots := 6 }) (Nat.le_refl _) (Nat.le_refl _) hRcells hRslots
  obtain ⟨s', hA⟩ : ∃ z, z = (T.setVm s.vm).setFrames (.invoking m args :: below) := ⟨_, rfl⟩
  rw [← hA] at Y
  have hvm : s'.vm = s.vm := by rw [hA]; rfl
  have hhp : s'.heap = H := by rw [hA]; exact hT
  have hW0 : s.WarmedH s'.vm := by rw [hvm]; exact State.WarmedH.refl s
  have hat' : ∀ w ∈ vx_atS own ic cls names, w.before args s' = true := fun w hw => vx_ot_at hW0 hvm.symm (hgood w (List.mem_cons_of_mem _ (List.mem_cons_of_mem _ hw))) (hat w hw)
  have hk' : (Cond.classLink own ik cls).before args s' = true := vx_ot_at hW0 hvm.symm (hgood _ List.mem_cons_self) hk
  have hini' : (Cond.initialized cls).before args s' = true := vx_ot_at hW0 hvm.symm (hgood _ (List.mem_cons_of_mem _ List.mem_cons_self)) hini
  have hU' : vx_Zq Bundle.tN "UNASSIGNED_STACK" Bundle.steD A s' s'.heap := by rw [hhp]; exact vx_Zq.moved hW0.alike (hU.kept hS.2.1)
  have hN' : vx_Zq Bundle.tN "SUPPRESSED_SENTINEL" Bundle.listD A s' s'.heap := by rw [hhp]; exact vx_Zq.moved hW0.alike (hN.kept hS.2.1)
  have h : ∀ w ∈ Bundle.ownAtoms own ic cls names, w.before args s' = true := vx_own hat' (vx_isRefq hU'.1) (vx_isRefq hN'.1) hU'.2.word hN'.2.word
  have hown' : s'.vm.findClass own = some m.cls := by rw [hvm]; exact hown
  have hins : (Cond.instantiable cls 6).before args s' = true := h _ (by simp [Bundle.ownAtoms])
  obtain ⟨vm₁, cX, kX, hfX, hkX, -, -, X₁, st1⟩ := Y.newCold hexec (own := own) (C := cls) (index := ik) (n := 6) hown' hk' hins hini'
    (g := F0 m pc ls rest) rfl (by rw [hb]; exact d0) (Nat.le_refl _) (Nat.le_refl _)
  generalize hT1 : (T.setVm vm₁).pushCell { cls := cX, slots := kX.instanceTypes.map defaultValue, vm := .none } = T1 at X₁ st1
  have hcat : (Value.ref T.heap.size).category = 1 := rfl
  have hcellA : T1.heap[T.heap.size]? = some (freshCell cX kX) := by rw [← hT1]; exact State.heap_pushCell_size _ _
  have d3' : decode c.code (pc + 3) = .ok (.dup, 1) := by rw [hb]; exact d3
  have d4' : decode c.code (pc + 4) = .ok (.ldc_w is, 3) := by rw [hb]; exact d4
  have hstr' : vk_R own is text sa s' := vk_R.warm hW0 hstr
  obtain ⟨U, hsteps, hrun, hend, hW, hsame, ce, hce, hO⟩ := X₁.ctorThrowS hexec htr (own := own) (cls := cls) (names := names) (ic := ic) hown' hcls hnames h (fun x hx => nomatch hx) hfX hkX hcellA (by rw [hhp, hT]; exact Nat.le_refl _) (msg := .ref sa) rfl
    (g := { method := m, pc := pc + 7, locals := ls, stack := .ref sa :: .ref T.heap.size :: .ref T.heap.size :: rest, locked := none }) rfl hsize rfl rfl (rest := rest) rfl
    (by rw [hb]; exact d7) (by rw [hb]; exact d10) hout hRframes (by simp only [List.map_cons, List.sum_cons, hcat]; omega) hlocks
  obtain ⟨f1, f2⟩ := vx_frame hsame
  rw [hhp] at f1 f2
  have hWs : s.WarmedH U.vm := State.WarmedH.trans hW0 hW
  have hcl : s.vm.findClass cls = some ce.cls := by
    have h9 := hO.cls
    rw [hvm] at h9
    exact h9
  have hall : s.sameButNew ({ U with vm := s.vm } : State) locs mc ms := by
    subst hA
    obtain ⟨e1, e2⟩ := hsame
    rw [State.setFrames_setFrames] at e1
    have h2 : (T.setVm s.vm).sameButNew ({ U with vm := s.vm } : State) [] (0 + 1) (0 + 6) := ⟨e1, e2⟩
    have h3 := X.same.trans h2
    rw [List.append_nil] at h3
    exact h3.mono hc hs
  refine ⟨U, ?_, .threw T.heap.size, hrun, hend, Or.inr ⟨T.heap.size, rfl, cls, ce, locs, hx U hWs.alike f1 (fun q hq => f2 q hq (fun z hz => nomatch hz)), hce, hO.vm, hcl, hWs, hall, hf⟩⟩
  refine st1 _ ?_
  show Steps p.tables e below (T1.setTop { method := m, pc := pc + 3, locals := ls, stack := .ref T.heap.size :: rest, locked := none }) _
  jvm_step X₁.here [X₁.here.top, hexec, d3', Value.category]
  exact X₁.ldcStringW hexec (own := own) (text := text) (index := is) (a := sa) hown' hstr'.1 hstr'.2
    (g := { method := m, pc := pc + 4, locals := ls, stack := .ref T.heap.size :: .ref T.heap.size :: rest, locked := none }) rfl d4' _ hsteps
end Ends
section Bodies
variable {l : Launch}
theorem vx_ofW {y : MethodName} {ws ws' : List Cond} {rm : Room} {Pc : Array Value → State → Prop} {Qc : Array Value → State → Outcome → State → Prop} {XC : String → State → State → Prop} {mc ms : Nat} {free : Addr → Prop} {cc : ByteArray} {maxL : Nat} {ret : Option FieldType}
    (hy : plainName y.cls = true) (hw : ws = Cond.code y cc maxL ret :: ws')
    (body : ∀ p e s m args below meth c s₁, BodyLoose p l y (headSpec ws rm) cc maxL ret e s m args below meth c s₁ → c.maxLocals = maxL → (∀ x ∈ c.exceptionTable.toList, False) → Pc args s →
      W p l e (headSpec ws rm).room s m args below meth c s.heap [] 0 0 (vx_MQ below Qc XC args s mc ms free) (entryFrame m args maxL)) : vx_Met l y ws rm Pc Qc XC mc ms free := by
  refine MetFree.of_bodyS (code := cc) (maxLocals := maxL) (ret := ret) hy ?_ ?_
  · intro args s m h hn
    obtain ⟨meth, c, h1, h2, h3, h4, h5, h6, -, -⟩ := Cond.code_spec hn (atoms_spec (ws := ws) h _ (by rw [hw]; exact List.mem_cons_self))
    exact ⟨meth, c, h1, h2, h3, h4, h5, h6⟩
  · intro p e s m args below meth c s₁ B hml hP _
    have hh0 : s₁.heap = s.heap := by rw [B.state]; rfl
    have ht : ∀ x ∈ c.exceptionTable.toList, False := by
      obtain ⟨meth9, c9, h1, h2, -, -, -, -, h7, -⟩ := Cond.code_spec B.named (atoms_spec (ws := ws) B.pre _ (by rw [hw]; exact List.mem_cons_self))
      cases Option.some.inj (h1.symm.trans B.method)
      cases Option.some.inj (h2.symm.trans (Stand.of_body B).code)
      intro x hx
      rw [Array.isEmpty_iff.mp h7] at hx
      cases hx
    obtain ⟨t, a1, o, b1, b2, b3⟩ := body p e s m args below meth c s₁ B hml ht hP s₁ hh0 (Stand.of_body B)
    exact ⟨t, o, a1, b1, b2, b3⟩
/-- the table of a body with handlers -/
theorem vx_table {p : Program} {x y : MethodName} {S : Spec} {cc bytes : ByteArray} {maxL maxL' : Nat} {ret ret' : Option FieldType} {e : Env} {s s₁ : State} {m : MethodId} {args : Array Value} {below : List Frame} {meth : Method} {c : Code} {hh : List (Nat × Nat × Nat × Nat)}
    (B : BodyLoose p l y S cc maxL ret e s m args below meth c s₁) (h : (Cond.codeWith y bytes maxL' ret' hh).before args s = true) : c.exceptionTable.toList = tableOf hh := by
  obtain ⟨m9, meth9, c9, hn9, h1, h2, -, -, h6, -⟩ := Cond.codeWith_spec h
  cases Option.some.inj (hn9.symm.trans B.named)
  cases Option.some.inj (h1.symm.trans B.method)
  cases Option.some.inj (h2.symm.trans (Stand.of_body B).code)
  rw [← h6, table_eq]
end Bodies
end VXA
/-! ===== END ===== -/
/-! ===== BEGIN a static call of a method with an exception table ===== -/
section VXS
variable {p : Program} {l : Launch} {e : Env} {R : Room} {s : State} {m : MethodId} {args : Array Value} {below : List Frame} {meth : Method} {c : Code} {T : State} {H : Heap} {locs : List Loc} {cells slots : Nat}
abbrev vx_CSW (R : Room) (s : State) (args : Array Value) (own : String) (index : Nat) (y : MethodName) (bytes : ByteArray) (maxL : Nat) (ret : Option FieldType) (hh : List (Nat × Nat × Nat × Nat)) (ws : List Cond) (rm : Room) (mc ms n : Nat) : Prop :=
  (rm.cells = mc ∧ rm.slots = ms ∧ rm.frames + 1 ≤ R.frames ∧ 8 + (maxL + 11) + rm.locals ≤ R.locals ∧ (∀ w ∈ ws, ∀ (a' : Array Value) (U : State), s.WarmedH U.vm → w.before a' U = true) ∧ Cond.codeWith y bytes maxL ret hh ∈ ws) ∧
  (Cond.codeWith y bytes maxL ret hh).before args s = true ∧ (Cond.initialized y.cls).before args s = true ∧ (y.cls ≠ "java/lang/invoke/MethodHandle" ∧ y.cls ≠ "java/lang/invoke/VarHandle") ∧
  (∀ sig, parseMethodDescriptor y.desc = some sig → n = sig.parameters.length) ∧ (Cond.methodLink own index y).before args s = true ∧ (Cond.static y).before args s = true
theorem vx_cwSW {own : String} {index maxL mc ms : Nat} {y : MethodName} {bytes : ByteArray} {ret : Option FieldType} {hh : List (Nat × Nat × Nat × Nat)} {Ts ws ws' : List Cond} {rm : Room} (n : Nat) (ht : ∀ w ∈ Ts, w.before args s = true) (hT : GoodIn Ts (va_wsS own index y ws)) (hw : ws = Cond.codeWith y bytes maxL ret hh :: ws') (hrc : rm.cells = mc) (hrs : rm.slots = ms)
    (hd : y.cls ≠ "java/lang/invoke/MethodHandle" ∧ y.cls ≠ "java/lang/invoke/VarHandle" ∧ (parseMethodDescriptor y.desc).map (fun d => d.parameters.length) = some n) (hR : rm.frames + 1 ≤ R.frames ∧ 8 + (maxL + 11) + rm.locals ≤ R.locals) :
    vx_CSW R s args own index y bytes maxL ret hh ws rm mc ms n := by
  have ok : ∀ w ∈ va_wsS own index y ws, w.before args s = true := fun w h => ht w (hT w h).1
  have hG : GoodIn Ts ws := fun w h => hT w (by unfold va_wsS; exact List.mem_append_right _ h)
  have hc : Cond.codeWith y bytes maxL ret hh ∈ ws := by rw [hw]; exact List.mem_cons_self
  refine ⟨⟨hrc, hrs, hR.1, hR.2, pay_in ht hG, hc⟩, ht _ (hG _ hc).1, ok _ (by simp [va_wsS]), ⟨hd.1, hd.2.1⟩, fun sig h => ?_, ok _ (by simp [va_wsS]), ok _ (by simp [va_wsS])⟩
  have h2 := hd.2.2
  rw [h] at h2
  exact (Option.some.inj h2).symm
theorem vx_callSW (X : Stand p l e R s m args below meth c T locs cells slots) (hexec : p.tables.exec = Jvm.exec) {own : String} {index : Nat} {y : MethodName} {bytes : ByteArray} {maxL : Nat} {ret : Option FieldType} {hh : List (Nat × Nat × Nat × Nat)}
    (hown : s.vm.findClass own = some m.cls) (hlink : (Cond.methodLink own index y).before args s = true) (hstat : (Cond.static y).before args s = true) (hinit : (Cond.initialized y.cls).before args s = true)
    (hcode : (Cond.codeWith y bytes maxL ret hh).before args s = true) (hy : y.cls ≠ "java/lang/invoke/MethodHandle" ∧ y.cls ≠ "java/lang/invoke/VarHandle")
    {W9 : Nat} {Pre : Pt → Array Value → Prop} {Post : Pt → Array Value → Option Value → Pt → Prop} (hK : Back l R p e below s args y 3 W9 Pre Post)
    {g : JFrame} (hg : g.method = m) (hsize : g.locals.size = c.maxLocals) {argsL rest : List Value} (hlen : ∀ sig, parseMethodDescriptor y.desc = some sig → argsL.length = sig.parameters.length)
    (hstack : g.stack = argsL.reverse ++ rest) (hW : 2 * g.monitorRoom + (rest.map fun v => v.category).sum ≤ W9) (hdg : decode c.code g.pc = .ok (.invokestatic index, 3))
    (hpre : ∀ vm₁, s.WarmedH vm₁ → Pre ⟨T.setVm vm₁, locs, cells, slots⟩ argsL.toArray) :
    ∃ (v : Option Value) (vm₁ : Vm) (B : Pt), s.WarmedH vm₁ ∧ Stand p l e R s m args below meth c B.U B.locs B.cells B.slots ∧ Post ⟨T.setVm vm₁, locs, cells, slots⟩ argsL.toArray v B ∧
      ∀ target, Steps p.tables e below (B.U.setTop { g with pc := g.pc + 3, stack := v.toList ++ rest }) target → Steps p.tables e below (T.setTop g) target := by
  obtain ⟨mk, methM, cM, hnamed, hmethM, -, -, -, -, -, -, hsigM⟩ := Cond.codeWith_spec hcode
  have hstatic : methM.isStatic = true := Cond.static_spec hnamed hmethM hstat
  obtain ⟨kP, hkP, -⟩ := className_of_methodNamed hnamed
  have hinitP : kP.init = .initialized := Cond.initialized_spec (findClass_of_methodNamed hnamed) hkP hinit
  obtain ⟨vm₁, X₁, hstep₁⟩ := X.invokestatic hexec hown hlink hnamed hmethM hstatic hkP hinitP hy (g := g) hg (argsL := argsL) (rest := rest) (hlen _ hsigM) hstack hdg
  obtain ⟨v, B, X', hpost, hsteps⟩ := hK m meth c ⟨T.setVm vm₁, locs, cells, slots⟩ { g with stack := rest } (.invokestatic index) mk argsL.toArray X₁ hg hsize hdg hW (X₁.named hnamed) (hpre vm₁ X₁.warmed)
  exact ⟨v, vm₁, B, X₁.warmed, X', hpost, fun target h => hstep₁ _ fun acts => by rw [doInvoke_state]; exact hsteps.trans h⟩
theorem vx_runSW {y : MethodName} {bytes cc : ByteArray} {maxL nL mc ms n index : Nat} {ret : Option FieldType} {hh : List (Nat × Nat × Nat × Nat)} {ws : List Cond} {rm : Room} {Pc : Array Value → State → Prop} {Qc : Array Value → State → Outcome → State → Prop} {free : Addr → Prop} {Ts : List Cond} {own : String} {As rest : List Value} {g : JFrame}
    (S : CallFix p m c cc nL s args Ts own) (hM : Met l y ws rm Pc Qc mc ms free) (cw : vx_CSW R s args own index y bytes maxL ret hh ws rm mc ms n) (hp : PreS s H Pc As)
    (hg : g.method = m) (hn : As.length = n) (hsize : g.locals.size = nL) (hstack : g.stack = As.reverse ++ rest) (hW : 2 * g.monitorRoom + (rest.map fun v => v.category).sum ≤ 8) (hdg : decode cc g.pc = .ok (.invokestatic index, 3)) (hf : cells + mc ≤ R.cells ∧ slots + ms ≤ R.slots) :
    va_Run p l e R s m args below meth c H locs cells slots mc ms g rest (Qc As.toArray) (free) := by
  obtain ⟨⟨hrc, hrs, hfr, hlo, hws, hcw⟩, hcode, hini, hy, hlen, hl, hstt⟩ := cw
  have hK : Back l R p e below s args y 3 8 (PreOf R mc ms Pc) (PostOf Qc mc ms free) := va_backW (hh := hh) (bytes := bytes) (maxL := maxL) (ret := ret) hM hp.1 hrc hrs hfr hlo hws hcw (fun a' U hW => word_at hW (Or.inl (by first | rfl | simp [Cond.onTables, Cond.keeps, Cond.steady])) hini)
  obtain ⟨hx, hb, hml, ho, -⟩ := S
  intro T hT X
  obtain ⟨v, vm₁, ⟨U', l2, c2, s2⟩, hW₁, X', ⟨g', mk, t, L, e1, e2, hq, h1, hL, h2, h3⟩, st⟩ := vx_callSW X hx (hh := hh) (bytes := bytes) (maxL := maxL) (ret := ret) ho hl hstt hini hcode hy hK hg (hsize.trans hml.symm) (argsL := As) (rest := rest) (fun sig h => hn.trans (hlen sig h)) hstack hW (by rw [hb]; exact hdg)
    (fun vm₁ hW₁ => ⟨hf.1, hf.2, hp.2 (T.setVm vm₁) hT hW₁⟩)
  dsimp only [Pt.U, Pt.locs, Pt.cells, Pt.slots] at X' e1 e2 h1 h2 h3 st
  subst h1; subst h2; subst h3
  exact ⟨v, (T.setVm vm₁).calling g' mk As.toArray, t, U', L, hT, X', hL, e1, e2, hq, st⟩
/-- not caught here, past rows that name other classes: it goes on to the caller -/
theorem vx_lt {D : va_G} {cl : List vw_C} {ws : va_W} {H1 : Heap} (h : va_P D cl ws H1) {k : Nat} {q : Nat × va_E} (hk : ws[k]? = some q) : q.1 < H1.size := (h k q hk).lt
end VXS
/-! ===== END ===== -/
/-! ===== BEGIN methods with a table of their own: called by a name, returning or throwing ===== -/
section VXH
/-! vx_backW, vx_callVX, vx_callSX, vx_callVW, vx_runVW, vx_runVX, vx_runSX, vx_ofWH follow the same proofs as their sisters above (Free/Laws.lean, Shelf42/LK1.lean); vx_outP calls Shelf42/NT130.lean (outThrough). -/
section
variable {l : Launch} {R : Room} {p : Program} {e : Env} {below : List Frame} {s : State} {sargs : Array Value} {y : MethodName} {len W9 : Nat}
theorem vx_backW {ws : List Cond} {rm : Room} {Pc : Array Value → State → Prop} {Qc : Array Value → State → Outcome → State → Prop} {XC : String → State → State → Prop} {mc ms : Nat} {free : Addr → Prop} {bytes : ByteArray} {maxL : Nat} {ret : Option FieldType} {hh : List (Nat × Nat × Nat × Nat)}
    (hM : vx_Met l y ws rm Pc Qc XC mc ms free) (hblind : FrameBlind Pc) (hrc : rm.cells = mc) (hrs : rm.slots = ms)
    (hframes : rm.frames + 1 ≤ R.frames) (hlocals : W9 + (maxL + 11) + rm.locals ≤ R.locals)
    (hws : ∀ w ∈ ws, ∀ a' U, s.WarmedH U.vm → w.before a' U = true) (hcode : Cond.codeWith y bytes maxL ret hh ∈ ws) (hinit : ∀ a' U, s.WarmedH U.vm → (Cond.initialized y.cls).before a' U = true) :
    vx_Back l R p e below s sargs y len W9 (PreOf R mc ms Pc) (PostOf Qc mc ms free) (vx_Post XC mc ms free) := by
  intro m meth c A g ig mk a X hg hsize hdg hW hn hp
  have h1 : (headSpec ws rm).pre.before a A.U = true := atoms_intro fun w hw => hws w hw _ _ X.warmed
  have h2 : (Cond.codeWith y bytes maxL ret hh).before a A.U = true := hws _ hcode _ _ X.warmed
  have h3 : (Cond.initialized y.cls).before a A.U = true := hinit _ _ X.warmed
  have h4 : A.cells + (headSpec ws rm).room.cells ≤ R.cells := by rw [show (headSpec ws rm).room.cells = mc from hrc]; exact hp.1
  have h5 : A.slots + (headSpec ws rm).room.slots ≤ R.slots := by rw [show (headSpec ws rm).room.slots = ms from hrs]; exact hp.2.1
  have hPc : Pc a (A.U.calling g mk a) := hblind _ _ _ _ hp.2.2
  obtain ⟨U, Ls, c0, s0⟩ := A
  dsimp only [Pt.U, Pt.locs, Pt.cells, Pt.slots] at h1 h2 h3 h4 h5 X hn hPc ⊢
  obtain ⟨m9, methY, cY, hn9, hmY, hcY, -, hlY, -⟩ := Cond.codeWith_spec h2
  cases Option.some.inj (hn9.symm.trans hn)
  obtain ⟨kY, hkY, -⟩ := className_of_methodNamed hn
  have hinitY : kY.init = .initialized := Cond.initialized_spec (findClass_of_methodNamed hn) hkY h3
  have h : At U g.method c below := by rw [hg]; exact X.here
  have hlocals9 : W9 + (maxL + 11) + (headSpec ws rm).room.locals ≤ R.locals := hlocals
  have happ : (headSpec ws rm).appliesLoose y e.platform (U.calling g mk a) = true :=
    Spec.appliesLoose_calling (g := g) h hdg hn hkY hinitY
      (X.room_calling (g := g) (R' := (headSpec ws rm).room) hsize hmY hcY hframes (by rw [hlY]; omega) h4 h5) h1
  obtain ⟨mid, hmid⟩ := h.above
  have hfr : (U.setTop g).frames = (.java g :: mid) ++ below := by rw [State.frames_setTop' g h.top, hmid]; rfl
  obtain ⟨o, s₂, hsteps, -, hend, hq⟩ := Steps.callFree hM p X.admits X.cas X.clock (acts := []) hfr happ hPc trivial
  have hq' : vx_Q Qc XC mc ms free a (U.calling g mk a) o s₂ := hq
  rw [State.frames_setTop' g h.top] at hend
  obtain ⟨g₀, hg0⟩ := Option.isSome_iff_exists.mp h.top
  obtain ⟨r, hr⟩ := State.topJava?_eq_some.mp hg0
  have hr' : (({ U with heap := s₂.heap, slotsUsed := s₂.slotsUsed } : State).setVm s₂.vm).frames = .java g₀ :: r := hr
  rcases hq' with ⟨hqc, L, hfe, hL⟩ | ⟨q, rfl, E, ce, L, hx, hce, hcv, hcl, hW₂, hsm, hL⟩
  · obtain ⟨⟨v, rfl⟩, hW₂, e2, q2, q3, q4, q5, q6⟩ := id hfe
    have e3 : s₂ = ({ (U.calling g mk a).setFrames s₂.frames with heap := s₂.heap, slotsUsed := s₂.slotsUsed } : State).setVm s₂.vm := by
      have : s₂ = ({ s₂ with vm := (U.calling g mk a).vm } : State).setVm s₂.vm := rfl
      rw [e2] at this
      exact this
    obtain ⟨c₂, i₂, len₂, hc₂, hd₂, hf₂⟩ := hend
    have hW' : U.WarmedH s₂.vm := hW₂
    have hcc : c₂ = c := by
      have h1 : s₂.code? g.method = U.code? g.method := by
        rw [State.code?_eq, State.code?_eq, hW'.alike.method?]
      exact Option.some.inj (hc₂.symm.trans (h1.trans h.code))
    subst hcc
    have hlen : len₂ = len := by rw [hdg] at hd₂; cases hd₂; rfl
    subst hlen
    have hs₂ : s₂ = (({ U with heap := s₂.heap, slotsUsed := s₂.slotsUsed } : State).setVm s₂.vm).setTop { g with pc := g.pc + len₂, stack := v.toList ++ g.stack } := by
      refine e3.trans ?_
      rw [hf₂, State.calling_eq h.top, State.setFrames_setFrames, State.setTop_of_frames _ hr', hr]
      rfl
    have hsame : U.sameButNew ({ U with heap := s₂.heap, slotsUsed := s₂.slotsUsed } : State) L mc ms := by
      refine ⟨?_, q2, q3, q4, q5, q6⟩
      obtain ⟨t, ht, -⟩ := State.frames_cons hr
      show ({ U with heap := s₂.heap, slotsUsed := s₂.slotsUsed } : State) = { U.setFrames U.frames with heap := s₂.heap, slotsUsed := s₂.slotsUsed }
      rw [State.setFrames_self ht]
    subst hg
    refine Or.inl ⟨v, ⟨(({ U with heap := s₂.heap, slotsUsed := s₂.slotsUsed } : State).setVm s₂.vm), Ls ++ L, c0 + mc, s0 + ms⟩,
      ⟨X.admits, X.cas, X.clock, X.frames, X.room, X.hears, X.method, X.code, (X.here.setHeapUsed s₂.heap s₂.slotsUsed).setVm hW'.alike, X.tail, State.WarmedH.trans X.warmed hW', X.limits, X.bytes, X.same.trans (hsame.setVm s.vm)⟩,
      ⟨g, mk, s₂, L, rfl, rfl, hqc, rfl, hL, rfl, rfl⟩, ?_⟩
    show Steps p.tables e below _ ((({ U with heap := s₂.heap, slotsUsed := s₂.slotsUsed } : State).setVm s₂.vm).setTop { g with pc := g.pc + len₂, stack := v.toList ++ g.stack })
    rw [← hs₂]
    exact hsteps
  · obtain ⟨e2, q2, q3, q4, q5, q6⟩ := id hsm
    have e3 : s₂ = ({ (U.calling g mk a).setFrames s₂.frames with heap := s₂.heap, slotsUsed := s₂.slotsUsed } : State).setVm s₂.vm := by
      have : s₂ = ({ s₂ with vm := (U.calling g mk a).vm } : State).setVm s₂.vm := rfl
      rw [e2] at this
      exact this
    have hf₂ : s₂.frames = .throwing q :: .java g :: U.frames.tail := hend
    have hW' : U.WarmedH s₂.vm := hW₂
    have hs₂ : s₂ = ((({ U with heap := s₂.heap, slotsUsed := s₂.slotsUsed } : State).setVm s₂.vm).setTop g).pushFrame (.throwing q) := by
      refine e3.trans ?_
      rw [hf₂, State.calling_eq h.top, State.setFrames_setFrames, State.pushFrame, State.frames_setTop _ hr', State.setTop_of_frames _ hr', State.setFrames_setFrames, hr]
      rfl
    have hsame : U.sameButNew ({ U with heap := s₂.heap, slotsUsed := s₂.slotsUsed } : State) L mc ms := by
      refine ⟨?_, q2, q3, q4, q5, q6⟩
      obtain ⟨t, ht, -⟩ := State.frames_cons hr
      show ({ U with heap := s₂.heap, slotsUsed := s₂.slotsUsed } : State) = { U.setFrames U.frames with heap := s₂.heap, slotsUsed := s₂.slotsUsed }
      rw [State.setFrames_self ht]
    subst hg
    refine Or.inr ⟨q, ⟨(({ U with heap := s₂.heap, slotsUsed := s₂.slotsUsed } : State).setVm s₂.vm), Ls ++ L, c0 + mc, s0 + ms⟩,
      ⟨X.admits, X.cas, X.clock, X.frames, X.room, X.hears, X.method, X.code, (X.here.setHeapUsed s₂.heap s₂.slotsUsed).setVm hW'.alike, X.tail, State.WarmedH.trans X.warmed hW', X.limits, X.bytes, X.same.trans (hsame.setVm s.vm)⟩,
      ⟨g, mk, s₂, L, E, ce, rfl, rfl, hx, hce, hcv, hcl, rfl, hL, rfl, rfl⟩, ?_⟩
    show Steps p.tables e below _ (((({ U with heap := s₂.heap, slotsUsed := s₂.slotsUsed } : State).setVm s₂.vm).setTop g).pushFrame (.throwing q))
    rw [← hs₂]
    exact hsteps
end
variable {p : Program} {l : Launch} {e : Env} {R : Room} {s : State} {m : MethodId} {args : Array Value} {below : List Frame} {meth : Method} {c : Code} {T : State} {H : Heap} {locs : List Loc} {cells slots : Nat}
theorem vx_callVX (X : Stand p l e R s m args below meth c T locs cells slots) (hexec : p.tables.exec = Jvm.exec) {own C : String} {index : Nat} {y : MethodName} {bytes : ByteArray} {maxL : Nat} {ret : Option FieldType} {hh : List (Nat × Nat × Nat × Nat)}
    (hown : s.vm.findClass own = some m.cls) (hlink : (Cond.methodLink own index y).before args s = true) (hinst : (Cond.instanceMethod y).before args s = true) (hsel : (Cond.selects C y y).before args s = true)
    (hcode : (Cond.codeWith y bytes maxL ret hh).before args s = true) (hy : y.cls ≠ "java/lang/invoke/MethodHandle" ∧ y.cls ≠ "java/lang/invoke/VarHandle")
    {W9 : Nat} {Pre : Pt → Array Value → Prop} {Post : Pt → Array Value → Option Value → Pt → Prop} {PostX : Pt → Array Value → Addr → Pt → Prop} (hK : vx_Back l R p e below s args y 3 W9 Pre Post PostX)
    {b : Addr} {cellB : Cell} (hcell : T.heap[b]? = some cellB) (hobj : cellB.vm.isStatics = false) (hcls : s.vm.findClass C = some cellB.cls)
    {g : JFrame} (hg : g.method = m) (hsize : g.locals.size = c.maxLocals) {argsL rest : List Value} (hlen : ∀ sig, parseMethodDescriptor y.desc = some sig → argsL.length = sig.parameters.length)
    (hstack : g.stack = argsL.reverse ++ .ref b :: rest) (hW : 2 * g.monitorRoom + (rest.map fun v => v.category).sum ≤ W9) (hdg : decode c.code g.pc = .ok (.invokevirtual index, 3))
    (hpre : ∀ vm₁, s.WarmedH vm₁ → Pre ⟨T.setVm vm₁, locs, cells, slots⟩ (Value.ref b :: argsL).toArray) :
    (∃ (v : Option Value) (vm₁ : Vm) (B : Pt), s.WarmedH vm₁ ∧ Stand p l e R s m args below meth c B.U B.locs B.cells B.slots ∧ Post ⟨T.setVm vm₁, locs, cells, slots⟩ (Value.ref b :: argsL).toArray v B ∧
      ∀ target, Steps p.tables e below (B.U.setTop { g with pc := g.pc + 3, stack := v.toList ++ rest }) target → Steps p.tables e below (T.setTop g) target) ∨
    (∃ (q : Addr) (vm₁ : Vm) (B : Pt), s.WarmedH vm₁ ∧ Stand p l e R s m args below meth c B.U B.locs B.cells B.slots ∧ PostX ⟨T.setVm vm₁, locs, cells, slots⟩ (Value.ref b :: argsL).toArray q B ∧
      Steps p.tables e below (T.setTop g) ((B.U.setTop { g with stack := rest }).pushFrame (.throwing q))) := by
  obtain ⟨mk, methM, hnamed, hmethM, hstM, habM⟩ := Cond.instanceMethod_spec hinst
  obtain ⟨m8, methM', cM, hn8, hmethM', -, -, -, -, -, -, hsigM⟩ := Cond.codeWith_spec hcode
  cases Option.some.inj (hn8.symm.trans hnamed)
  cases hmethM.symm.trans hmethM'
  obtain ⟨c2, r2, m2, q1, q2, q3, q4, kP, hkP, hkPi⟩ := Cond.selects_spec hsel
  cases hcls.symm.trans q1
  cases (State.methodFound?_of_named hnamed hy).symm.trans q2
  cases hnamed.symm.trans q3
  have hselP : selectMethod e.platform s.vm cellB.cls mk = .method mk := by rw [Launch.admits_selectMethod X.admits]; exact q4
  obtain ⟨vm₁, X₁, hstep₁⟩ := X.invokevirtual hexec hown hlink hnamed hmethM hstM hkP hkPi hy (a := b) (cell := cellB) hcell
    (fun z h => by rw [h] at hobj; cases hobj) hselP hmethM habM hkP hkPi (g := g) hg (argsL := argsL) (rest := rest) (hlen _ hsigM) hstack hdg
  rcases hK m meth c ⟨T.setVm vm₁, locs, cells, slots⟩ { g with stack := rest } (.invokevirtual index) mk (Value.ref b :: argsL).toArray X₁ hg hsize hdg hW (X₁.named hnamed) (hpre vm₁ X₁.warmed) with ⟨v, B, X', hpost, hsteps⟩ | ⟨q, B, X', hpost, hsteps⟩
  · exact Or.inl ⟨v, vm₁, B, X₁.warmed, X', hpost, fun target h => hstep₁ _ fun acts => by rw [doInvoke_state]; exact hsteps.trans h⟩
  · exact Or.inr ⟨q, vm₁, B, X₁.warmed, X', hpost, hstep₁ _ fun acts => by rw [doInvoke_state]; exact hsteps⟩
theorem vx_callSX (X : Stand p l e R s m args below meth c T locs cells slots) (hexec : p.tables.exec = Jvm.exec) {own : String} {index : Nat} {y : MethodName} {bytes : ByteArray} {maxL : Nat} {ret : Option FieldType} {hh : List (Nat × Nat × Nat × Nat)}
    (hown : s.vm.findClass own = some m.cls) (hlink : (Cond.methodLink own index y).before args s = true) (hstat : (Cond.static y).before args s = true) (hinit : (Cond.initialized y.cls).before args s = true)
    (hcode : (Cond.codeWith y bytes maxL ret hh).before args s = true) (hy : y.cls ≠ "java/lang/invoke/MethodHandle" ∧ y.cls ≠ "java/lang/invoke/VarHandle")
    {W9 : Nat} {Pre : Pt → Array Value → Prop} {Post : Pt → Array Value → Option Value → Pt → Prop} {PostX : Pt → Array Value → Addr → Pt → Prop} (hK : vx_Back l R p e below s args y 3 W9 Pre Post PostX)
    {g : JFrame} (hg : g.method = m) (hsize : g.locals.size = c.maxLocals) {argsL rest : List Value} (hlen : ∀ sig, parseMethodDescriptor y.desc = some sig → argsL.length = sig.parameters.length)
    (hstack : g.stack = argsL.reverse ++ rest) (hW : 2 * g.monitorRoom + (rest.map fun v => v.category).sum ≤ W9) (hdg : decode c.code g.pc = .ok (.invokestatic index, 3))
    (hpre : ∀ vm₁, s.WarmedH vm₁ → Pre ⟨T.setVm vm₁, locs, cells, slots⟩ argsL.toArray) :
    (∃ (v : Option Value) (vm₁ : Vm) (B : Pt), s.WarmedH vm₁ ∧ Stand p l e R s m args below meth c B.U B.locs B.cells B.slots ∧ Post ⟨T.setVm vm₁, locs, cells, slots⟩ argsL.toArray v B ∧
      ∀ target, Steps p.tables e below (B.U.setTop { g with pc := g.pc + 3, stack := v.toList ++ rest }) target → Steps p.tables e below (T.setTop g) target) ∨
    (∃ (q : Addr) (vm₁ : Vm) (B : Pt), s.WarmedH vm₁ ∧ Stand p l e R s m args below meth c B.U B.locs B.cells B.slots ∧ PostX ⟨T.setVm vm₁, locs, cells, slots⟩ argsL.toArray q B ∧
      Steps p.tables e below (T.setTop g) ((B.U.setTop { g with stack := rest }).pushFrame (.throwing q))) := by
  obtain ⟨mk, methM, cM, hnamed, hmethM, -, -, -, -, -, -, hsigM⟩ := Cond.codeWith_spec hcode
  have hstatic : methM.isStatic = true := Cond.static_spec hnamed hmethM hstat
  obtain ⟨kP, hkP, -⟩ := className_of_methodNamed hnamed
  have hinitP : kP.init = .initialized := Cond.initialized_spec (findClass_of_methodNamed hnamed) hkP hinit
  obtain ⟨vm₁, X₁, hstep₁⟩ := X.invokestatic hexec hown hlink hnamed hmethM hstatic hkP hinitP hy (g := g) hg (argsL := argsL) (rest := rest) (hlen _ hsigM) hstack hdg
  rcases hK m meth c ⟨T.setVm vm₁, locs, cells, slots⟩ { g with stack := rest } (.invokestatic index) mk argsL.toArray X₁ hg hsize hdg hW (X₁.named hnamed) (hpre vm₁ X₁.warmed) with ⟨v, B, X', hpost, hsteps⟩ | ⟨q, B, X', hpost, hsteps⟩
  · exact Or.inl ⟨v, vm₁, B, X₁.warmed, X', hpost, fun target h => hstep₁ _ fun acts => by rw [doInvoke_state]; exact hsteps.trans h⟩
  · exact Or.inr ⟨q, vm₁, B, X₁.warmed, X', hpost, hstep₁ _ fun acts => by rw [doInvoke_state]; exact hsteps⟩
theorem vx_callVW (X : Stand p l e R s m args below meth c T locs cells slots) (hexec : p.tables.exec = Jvm.exec) {own C : String} {index : Nat} {y : MethodName} {bytes : ByteArray} {maxL : Nat} {ret : Option FieldType} {hh : List (Nat × Nat × Nat × Nat)}
    (hown : s.vm.findClass own = some m.cls) (hlink : (Cond.methodLink own index y).before args s = true) (hinst : (Cond.instanceMethod y).before args s = true) (hsel : (Cond.selects C y y).before args s = true)
    (hcode : (Cond.codeWith y bytes maxL ret hh).before args s = true) (hy : y.cls ≠ "java/lang/invoke/MethodHandle" ∧ y.cls ≠ "java/lang/invoke/VarHandle")
    {W9 : Nat} {Pre : Pt → Array Value → Prop} {Post : Pt → Array Value → Option Value → Pt → Prop} (hK : Back l R p e below s args y 3 W9 Pre Post)
    {b : Addr} {cellB : Cell} (hcell : T.heap[b]? = some cellB) (hobj : cellB.vm.isStatics = false) (hcls : s.vm.findClass C = some cellB.cls)
    {g : JFrame} (hg : g.method = m) (hsize : g.locals.size = c.maxLocals) {argsL rest : List Value} (hlen : ∀ sig, parseMethodDescriptor y.desc = some sig → argsL.length = sig.parameters.length)
    (hstack : g.stack = argsL.reverse ++ .ref b :: rest) (hW : 2 * g.monitorRoom + (rest.map fun v => v.category).sum ≤ W9) (hdg : decode c.code g.pc = .ok (.invokevirtual index, 3))
    (hpre : ∀ vm₁, s.WarmedH vm₁ → Pre ⟨T.setVm vm₁, locs, cells, slots⟩ (Value.ref b :: argsL).toArray) :
    ∃ (v : Option Value) (vm₁ : Vm) (B : Pt), s.WarmedH vm₁ ∧ Stand p l e R s m args below meth c B.U B.locs B.cells B.slots ∧ Post ⟨T.setVm vm₁, locs, cells, slots⟩ (Value.ref b :: argsL).toArray v B ∧
      ∀ target, Steps p.tables e below (B.U.setTop { g with pc := g.pc + 3, stack := v.toList ++ rest }) target → Steps p.tables e below (T.setTop g) target := by
  obtain ⟨mk, methM, hnamed, hmethM, hstM, habM⟩ := Cond.instanceMethod_spec hinst
  obtain ⟨m8, methM', cM, hn8, hmethM', -, -, -, -, -, -, hsigM⟩ := Cond.codeWith_spec hcode
  cases Option.some.inj (hn8.symm.trans hnamed)
  cases hmethM.symm.trans hmethM'
  obtain ⟨c2, r2, m2, q1, q2, q3, q4, kP, hkP, hkPi⟩ := Cond.selects_spec hsel
  cases hcls.symm.trans q1
  cases (State.methodFound?_of_named hnamed hy).symm.trans q2
  cases hnamed.symm.trans q3
  have hselP : selectMethod e.platform s.vm cellB.cls mk = .method mk := by rw [Launch.admits_selectMethod X.admits]; exact q4
  obtain ⟨vm₁, X₁, hstep₁⟩ := X.invokevirtual hexec hown hlink hnamed hmethM hstM hkP hkPi hy (a := b) (cell := cellB) hcell
    (fun z h => by rw [h] at hobj; cases hobj) hselP hmethM habM hkP hkPi (g := g) hg (argsL := argsL) (rest := rest) (hlen _ hsigM) hstack hdg
  obtain ⟨v, B, X', hpost, hsteps⟩ := hK m meth c ⟨T.setVm vm₁, locs, cells, slots⟩ { g with stack := rest } (.invokevirtual index) mk (Value.ref b :: argsL).toArray X₁ hg hsize hdg hW (X₁.named hnamed) (hpre vm₁ X₁.warmed)
  exact ⟨v, vm₁, B, X₁.warmed, X', hpost, fun target h => hstep₁ _ fun acts => by rw [doInvoke_state]; exact hsteps.trans h⟩
abbrev vx_CVW (R : Room) (s : State) (args : Array Value) (own C : String) (index : Nat) (y : MethodName) (bytes : ByteArray) (maxL : Nat) (ret : Option FieldType) (hh : List (Nat × Nat × Nat × Nat)) (ws : List Cond) (rm : Room) (mc ms n : Nat) : Prop :=
  (rm.cells = mc ∧ rm.slots = ms ∧ rm.frames + 1 ≤ R.frames ∧ 8 + (maxL + 11) + rm.locals ≤ R.locals ∧ (∀ w ∈ ws, ∀ (a' : Array Value) (U : State), s.WarmedH U.vm → w.before a' U = true) ∧ Cond.codeWith y bytes maxL ret hh ∈ ws) ∧
  (Cond.codeWith y bytes maxL ret hh).before args s = true ∧ (Cond.initialized y.cls).before args s = true ∧ (y.cls ≠ "java/lang/invoke/MethodHandle" ∧ y.cls ≠ "java/lang/invoke/VarHandle") ∧
  (∀ sig, parseMethodDescriptor y.desc = some sig → n = sig.parameters.length) ∧ (Cond.methodLink own index y).before args s = true ∧ (Cond.instanceMethod y).before args s = true ∧ (Cond.selects C y y).before args s = true
theorem vx_cwVW {own C : String} {index maxL mc ms : Nat} {y : MethodName} {bytes : ByteArray} {ret : Option FieldType} {hh : List (Nat × Nat × Nat × Nat)} {Ts ws ws' : List Cond} {rm : Room} (n : Nat) (ht : ∀ w ∈ Ts, w.before args s = true) (hT : GoodIn Ts (wsV own index C y ws)) (hw : ws = Cond.codeWith y bytes maxL ret hh :: ws') (hrc : rm.cells = mc) (hrs : rm.slots = ms)
    (hd : y.cls = C ∧ y.cls ≠ "java/lang/invoke/MethodHandle" ∧ y.cls ≠ "java/lang/invoke/VarHandle" ∧ (parseMethodDescriptor y.desc).map (fun d => d.parameters.length) = some n) (hR : rm.frames + 1 ≤ R.frames ∧ 8 + (maxL + 11) + rm.locals ≤ R.locals) :
    vx_CVW R s args own C index y bytes maxL ret hh ws rm mc ms n := by
  obtain ⟨hC, hd⟩ := hd
  subst hC
  have ok : ∀ w ∈ wsV own index y.cls y ws, w.before args s = true := fun w h => ht w (hT w h).1
  have hG : GoodIn Ts ws := fun w h => hT w (by unfold wsV; exact List.mem_append_right _ h)
  have hc : Cond.codeWith y bytes maxL ret hh ∈ ws := by rw [hw]; exact List.mem_cons_self
  refine ⟨⟨hrc, hrs, hR.1, hR.2, pay_in ht hG, hc⟩, ht _ (hG _ hc).1, ok _ (by simp [wsV]), ⟨hd.1, hd.2.1⟩, fun sig h => ?_, ok _ (by simp [wsV]), ok _ (by simp [wsV]), ok _ (by simp [wsV])⟩
  have h2 := hd.2.2
  rw [h] at h2
  exact (Option.some.inj h2).symm
theorem vx_runVW {y : MethodName} {bytes cc : ByteArray} {maxL nL mc ms n index : Nat} {ret : Option FieldType} {hh : List (Nat × Nat × Nat × Nat)} {ws : List Cond} {rm : Room} {Pc : Array Value → State → Prop} {Qc : Array Value → State → Outcome → State → Prop} {free : Addr → Prop} {Ts : List Cond} {own C : String} {b : Addr} {As rest : List Value} {g : JFrame}
    (S : CallFix p m c cc nL s args Ts own) (hM : Met l y ws rm Pc Qc mc ms free) (cw : vx_CVW R s args own C index y bytes maxL ret hh ws rm mc ms n) (hp : PreV s H C b Pc As)
    (hg : g.method = m) (hn : As.length = n) (hsize : g.locals.size = nL) (hstack : g.stack = As.reverse ++ .ref b :: rest) (hW : 2 * g.monitorRoom + (rest.map fun v => v.category).sum ≤ 8) (hdg : decode cc g.pc = .ok (.invokevirtual index, 3)) (hf : cells + mc ≤ R.cells ∧ slots + ms ≤ R.slots) :
    va_Run p l e R s m args below meth c H locs cells slots mc ms g rest (Qc (Value.ref b :: As).toArray) free := by
  obtain ⟨⟨hrc, hrs, hfr, hlo, hws, hcw⟩, hcode, hini, hy, hlen, hl, hin, hse⟩ := cw
  have hK : Back l R p e below s args y 3 8 (PreOf R mc ms Pc) (PostOf Qc mc ms free) := va_backW (hh := hh) (bytes := bytes) (maxL := maxL) (ret := ret) hM hp.1 hrc hrs hfr hlo hws hcw (fun a' U hW => word_at hW (Or.inl (by first | rfl | simp [Cond.onTables, Cond.keeps, Cond.steady])) hini)
  obtain ⟨hx, hb, hml, ho, -⟩ := S
  obtain ⟨-, ⟨cellB, hcB, hoB, hclB⟩, hPc⟩ := hp
  intro T hT X
  obtain ⟨v, vm₁, ⟨U', l2, c2, s2⟩, hW₁, X', ⟨g', mk, t, L, e1, e2, hq, h1, hL, h2, h3⟩, st⟩ := vx_callVW X hx (C := C) (hh := hh) (bytes := bytes) (maxL := maxL) (ret := ret) ho hl hin hse hcode hy hK (by rw [hT]; exact hcB) hoB hclB hg (hsize.trans hml.symm) (argsL := As) (rest := rest) (fun sig h => hn.trans (hlen sig h)) hstack hW (by rw [hb]; exact hdg)
    (fun vm₁ hW₁ => ⟨hf.1, hf.2, hPc (T.setVm vm₁) hT hW₁⟩)
  dsimp only [Pt.U, Pt.locs, Pt.cells, Pt.slots] at X' e1 e2 h1 h2 h3 st
  subst h1; subst h2; subst h3
  exact ⟨v, (T.setVm vm₁).calling g' mk (Value.ref b :: As).toArray, t, U', L, hT, X', hL, e1, e2, hq, st⟩
section
variable {y : MethodName} {bytes cc : ByteArray} {maxL nL mc ms n index : Nat} {ret : Option FieldType} {ws : List Cond} {rm : Room} {Pc : Array Value → State → Prop} {Qc : Array Value → State → Outcome → State → Prop} {XC : String → State → State → Prop} {free : Addr → Prop} {Ts : List Cond} {own C : String} {b : Addr} {As rest : List Value} {g : JFrame}
theorem vx_runVX {hh : List (Nat × Nat × Nat × Nat)} (S : CallFix p m c cc nL s args Ts own) (hM : vx_Met l y ws rm Pc Qc XC mc ms free) (cw : vx_CVW R s args own C index y bytes maxL ret hh ws rm mc ms n) (hp : PreV s H C b Pc As)
    (hg : g.method = m) (hn : As.length = n) (hsize : g.locals.size = nL) (hstack : g.stack = As.reverse ++ .ref b :: rest) (hW : 2 * g.monitorRoom + (rest.map fun v => v.category).sum ≤ 8) (hdg : decode cc g.pc = .ok (.invokevirtual index, 3)) (hf : cells + mc ≤ R.cells ∧ slots + ms ≤ R.slots) :
    vx_Run p l e R s m args below meth c H locs cells slots mc ms g rest (Qc (Value.ref b :: As).toArray) XC free := by
  obtain ⟨⟨hrc, hrs, hfr, hlo, hws, hcw⟩, hcode, hini, hy, hlen, hl, hin, hse⟩ := cw
  have hK : vx_Back l R p e below s args y 3 8 (PreOf R mc ms Pc) (PostOf Qc mc ms free) (vx_Post XC mc ms free) := vx_backW (hh := hh) (bytes := bytes) (maxL := maxL) (ret := ret) hM hp.1 hrc hrs hfr hlo hws hcw (fun a' U hW => word_at hW (Or.inl (by first | rfl | simp [Cond.onTables, Cond.keeps, Cond.steady])) hini)
  obtain ⟨hx, hb, hml, ho, -⟩ := S
  obtain ⟨-, ⟨cellB, hcB, hoB, hclB⟩, hPc⟩ := hp
  intro T hT X
  rcases vx_callVX X hx (C := C) (hh := hh) (bytes := bytes) (maxL := maxL) (ret := ret) ho hl hin hse hcode hy hK (by rw [hT]; exact hcB) hoB hclB hg (hsize.trans hml.symm) (argsL := As) (rest := rest) (fun sig h => hn.trans (hlen sig h)) hstack hW (by rw [hb]; exact hdg)
    (fun vm₁ hW₁ => ⟨hf.1, hf.2, hPc (T.setVm vm₁) hT hW₁⟩) with ⟨v, vm₁, ⟨U', l2, c2, s2⟩, hW₁, X', ⟨g', mk, t, L, e1, e2, hq, h1, hL, h2, h3⟩, st⟩ | ⟨q, vm₁, ⟨U', l2, c2, s2⟩, hW₁, X', ⟨g', mk, t, L, E, ce, e1, e2, hq, hce, hcv, hcl, h1, hL, h2, h3⟩, st⟩
  · dsimp only [Pt.U, Pt.locs, Pt.cells, Pt.slots] at X' e1 e2 h1 h2 h3 st
    subst h1; subst h2; subst h3
    exact Or.inl ⟨v, (T.setVm vm₁).calling g' mk (Value.ref b :: As).toArray, t, U', L, hT, X', hL, e1, e2, hq, st⟩
  · dsimp only [Pt.U, Pt.locs, Pt.cells, Pt.slots] at X' e1 e2 h1 h2 h3 st hcl
    subst h1; subst h2; subst h3
    exact Or.inr ⟨q, (T.setVm vm₁).calling g' mk (Value.ref b :: As).toArray, t, U', L, E, ce, hT, X', hL, e1, e2, hq, hce, hcv, vx_cls hW₁ hcl, st⟩
theorem vx_runSX {hh : List (Nat × Nat × Nat × Nat)} (S : CallFix p m c cc nL s args Ts own) (hM : vx_Met l y ws rm Pc Qc XC mc ms free) (cw : vx_CSW R s args own index y bytes maxL ret hh ws rm mc ms n) (hp : PreS s H Pc As)
    (hg : g.method = m) (hn : As.length = n) (hsize : g.locals.size = nL) (hstack : g.stack = As.reverse ++ rest) (hW : 2 * g.monitorRoom + (rest.map fun v => v.category).sum ≤ 8) (hdg : decode cc g.pc = .ok (.invokestatic index, 3)) (hf : cells + mc ≤ R.cells ∧ slots + ms ≤ R.slots) :
    vx_Run p l e R s m args below meth c H locs cells slots mc ms g rest (Qc As.toArray) XC free := by
  obtain ⟨⟨hrc, hrs, hfr, hlo, hws, hcw⟩, hcode, hini, hy, hlen, hl, hstt⟩ := cw
  have hK : vx_Back l R p e below s args y 3 8 (PreOf R mc ms Pc) (PostOf Qc mc ms free) (vx_Post XC mc ms free) := vx_backW (hh := hh) (bytes := bytes) (maxL := maxL) (ret := ret) hM hp.1 hrc hrs hfr hlo hws hcw (fun a' U hW => word_at hW (Or.inl (by first | rfl | simp [Cond.onTables, Cond.keeps, Cond.steady])) hini)
  obtain ⟨hx, hb, hml, ho, -⟩ := S
  intro T hT X
  rcases vx_callSX X hx (hh := hh) (bytes := bytes) (maxL := maxL) (ret := ret) ho hl hstt hini hcode hy hK hg (hsize.trans hml.symm) (argsL := As) (rest := rest) (fun sig h => hn.trans (hlen sig h)) hstack hW (by rw [hb]; exact hdg)
    (fun vm₁ hW₁ => ⟨hf.1, hf.2, hp.2 (T.setVm vm₁) hT hW₁⟩) with ⟨v, vm₁, ⟨U', l2, c2, s2⟩, hW₁, X', ⟨g', mk, t, L, e1, e2, hq, h1, hL, h2, h3⟩, st⟩ | ⟨q, vm₁, ⟨U', l2, c2, s2⟩, hW₁, X', ⟨g', mk, t, L, E, ce, e1, e2, hq, hce, hcv, hcl, h1, hL, h2, h3⟩, st⟩
  · dsimp only [Pt.U, Pt.locs, Pt.cells, Pt.slots] at X' e1 e2 h1 h2 h3 st
    subst h1; subst h2; subst h3
    exact Or.inl ⟨v, (T.setVm vm₁).calling g' mk As.toArray, t, U', L, hT, X', hL, e1, e2, hq, st⟩
  · dsimp only [Pt.U, Pt.locs, Pt.cells, Pt.slots] at X' e1 e2 h1 h2 h3 st hcl
    subst h1; subst h2; subst h3
    exact Or.inr ⟨q, (T.setVm vm₁).calling g' mk As.toArray, t, U', L, E, ce, hT, X', hL, e1, e2, hq, hce, hcv, vx_cls hW₁ hcl, st⟩
end
end VXH
theorem vx_ofWH {l : Launch} {y : MethodName} {ws ws' : List Cond} {rm : Room} {Pc : Array Value → State → Prop} {Qc : Array Value → State → Outcome → State → Prop} {XC : String → State → State → Prop} {mc ms : Nat} {free : Addr → Prop} {cc : ByteArray} {maxL : Nat} {ret : Option FieldType} {hh : List (Nat × Nat × Nat × Nat)}
    (hy : plainName y.cls = true) (hw : ws = Cond.codeWith y cc maxL ret hh :: ws')
    (body : ∀ p e s m args below meth c s₁, BodyLoose p l y (headSpec ws rm) cc maxL ret e s m args below meth c s₁ → c.maxLocals = maxL → Pc args s →
      W p l e (headSpec ws rm).room s m args below meth c s.heap [] 0 0 (vx_MQ below Qc XC args s mc ms free) (entryFrame m args maxL)) : vx_Met l y ws rm Pc Qc XC mc ms free := by
  refine MetFree.of_bodyS (code := cc) (maxLocals := maxL) (ret := ret) hy ?_ ?_
  · intro args s m h hn
    obtain ⟨m9, meth, c, hn9, h1, h2, h3, h4, -, h5, h6, -⟩ := Cond.codeWith_spec (atoms_spec (ws := ws) h _ (by rw [hw]; exact List.mem_cons_self))
    cases hn.symm.trans hn9
    exact ⟨meth, c, h1, h2, h3, h4, h5, h6⟩
  · intro p e s m args below meth c s₁ B hml hP _
    have hh0 : s₁.heap = s.heap := by rw [B.state]; rfl
    obtain ⟨t, a1, o, b1, b2, b3⟩ := body p e s m args below meth c s₁ B hml hP s₁ hh0 (Stand.of_body B)
    exact ⟨t, o, a1, b1, b2, b3⟩
/-! ===== END ===== -/

def RX0 : String := "FlipPages$Change"
def TX0 : u_T := fun k => match k with
  | 0 => ("FlipPages$Change", "own", "[I", true)
  | 1 => ("FlipPages$Change", "bytes", "[[I", true)
  | 2 => ("FlipPages$Change", "spilled", "[Z", true)
  | _ => ("FlipPages$Change", "count", "I", false)
def tyX0 : Nat → FieldType := fun k => match k with
  | 0 => .array .int
  | 1 => .array (.array .int)
  | 2 => .array .boolean
  | _ => .int
abbrev wsX00 : List Cond := u_ws RX0 TX0 4
theorem nmX0 : ∀ a, a < 4 → ∀ b, b < 4 → a ≠ b → (TX0 a).2.1 ≠ (TX0 b).2.1 := by decide +kernel
theorem tyX0_ok : ∀ k, k < 4 → parseFieldDescriptor (TX0 k).2.2.1 = some (tyX0 k) := by decide +kernel
abbrev cX0_init : ByteArray := prog_2_method_1_code
def yX0_init : MethodName := ⟨RX0, "<init>", "()V"⟩
abbrev cX0_isOpen : ByteArray := prog_2_method_2_code
def yX0_isOpen : MethodName := ⟨RX0, "isOpen", "()Z"⟩
abbrev cX0_has : ByteArray := prog_2_method_3_code
def yX0_has : MethodName := ⟨RX0, "has", "(I)Z"⟩
abbrev cX0_add : ByteArray := prog_2_method_4_code
def yX0_add : MethodName := ⟨RX0, "add", "(II)V"⟩
abbrev cX0_close : ByteArray := prog_2_method_5_code
def yX0_close : MethodName := ⟨RX0, "close", "()V"⟩
def RX1 : String := "FlipPages$Row"
def TX1 : u_T := fun k => match k with
  | 0 => ("FlipPages$Row", "target", "[I", true)
  | 1 => ("FlipPages$Row", "bytes", "[[I", true)
  | _ => ("FlipPages$Row", "size", "I", false)
def tyX1 : Nat → FieldType := fun k => match k with
  | 0 => .array .int
  | 1 => .array (.array .int)
  | _ => .int
abbrev wsX10 : List Cond := u_ws RX1 TX1 3
theorem nmX1 : ∀ a, a < 3 → ∀ b, b < 3 → a ≠ b → (TX1 a).2.1 ≠ (TX1 b).2.1 := by decide +kernel
theorem tyX1_ok : ∀ k, k < 3 → parseFieldDescriptor (TX1 k).2.2.1 = some (tyX1 k) := by decide +kernel
abbrev cX1_init : ByteArray := prog_3_method_1_code
def yX1_init : MethodName := ⟨RX1, "<init>", "()V"⟩
abbrev cX1_add : ByteArray := prog_3_method_2_code
def yX1_add : MethodName := ⟨RX1, "add", "(I[I)V"⟩
abbrev cX1_carryOut : ByteArray := prog_3_method_3_code
def yX1_carryOut : MethodName := ⟨RX1, "carryOut", "(I[[I)V"⟩
def RX2 : String := "FlipPages$Table"
def TX2 : u_T := fun k => match k with
  | 0 => ("FlipPages$Table", "where", "[I", true)
  | 1 => ("FlipPages$Table", "sector", "I", false)
  | _ => ("FlipPages$Table", "generation", "I", false)
def tyX2 : Nat → FieldType := fun k => match k with
  | 0 => .array .int
  | 1 => .int
  | _ => .int
abbrev wsX20 : List Cond := u_ws RX2 TX2 3
theorem nmX2 : ∀ a, a < 3 → ∀ b, b < 3 → a ≠ b → (TX2 a).2.1 ≠ (TX2 b).2.1 := by decide +kernel
theorem tyX2_ok : ∀ k, k < 3 → parseFieldDescriptor (TX2 k).2.2.1 = some (tyX2 k) := by decide +kernel
abbrev cX2_init : ByteArray := prog_4_method_1_code
def yX2_init : MethodName := ⟨RX2, "<init>", "()V"⟩
abbrev cX2_become : ByteArray := prog_4_method_2_code
def yX2_become : MethodName := ⟨RX2, "become", "(LFlipPages$Table;)V"⟩
abbrev cX2_usedSet : ByteArray := prog_4_method_3_code
def yX2_usedSet : MethodName := ⟨RX2, "usedSet", "()J"⟩
def RX3 : String := "FlipPages"
def TX3 : u_T := fun k => match k with
  | 0 => ("FlipPages", "sectors", "[[I", true)
  | 1 => ("FlipPages", "row", "LFlipPages$Row;", true)
  | 2 => ("FlipPages", "latestTable", "LFlipPages$Table;", true)
  | 3 => ("FlipPages", "sureTable", "LFlipPages$Table;", true)
  | 4 => ("FlipPages", "change", "LFlipPages$Change;", true)
  | 5 => ("FlipPages", "draft", "[I", true)
  | _ => ("FlipPages", "broken", "Z", false)
def tyX3 : Nat → FieldType := fun k => match k with
  | 0 => .array (.array .int)
  | 1 => .object "FlipPages$Row"
  | 2 => .object "FlipPages$Table"
  | 3 => .object "FlipPages$Table"
  | 4 => .object "FlipPages$Change"
  | 5 => .array .int
  | _ => .boolean
abbrev wsX30 : List Cond := u_ws RX3 TX3 7
theorem nmX3 : ∀ a, a < 7 → ∀ b, b < 7 → a ≠ b → (TX3 a).2.1 ≠ (TX3 b).2.1 := by decide +kernel
theorem tyX3_ok : ∀ k, k < 7 → parseFieldDescriptor (TX3 k).2.2.1 = some (tyX3 k) := by decide +kernel
abbrev cX3_init : ByteArray := prog_1_method_1_code
def yX3_init : MethodName := ⟨RX3, "<init>", "()V"⟩
abbrev cX3_format : ByteArray := prog_1_method_2_code
def yX3_format : MethodName := ⟨RX3, "format", "()V"⟩
abbrev cX3_write : ByteArray := prog_1_method_3_code
def yX3_write : MethodName := ⟨RX3, "write", "(III)I"⟩
abbrev cX3_fill : ByteArray := prog_1_method_4_code
def yX3_fill : MethodName := ⟨RX3, "fill", "(IJJ)I"⟩
abbrev cX3_read : ByteArray := prog_1_method_5_code
def yX3_read : MethodName := ⟨RX3, "read", "(IIZ)I"⟩
abbrev cX3_spill : ByteArray := prog_1_method_6_code
def yX3_spill : MethodName := ⟨RX3, "spill", "(I)I"⟩
abbrev cX3_commit : ByteArray := prog_1_method_7_code
def yX3_commit : MethodName := ⟨RX3, "commit", "(Z)I"⟩
abbrev cX3_abort : ByteArray := prog_1_method_8_code
def yX3_abort : MethodName := ⟨RX3, "abort", "()I"⟩
abbrev cX3_flush : ByteArray := prog_1_method_9_code
def yX3_flush : MethodName := ⟨RX3, "flush", "()I"⟩
abbrev cX3_fail : ByteArray := prog_1_method_10_code
def yX3_fail : MethodName := ⟨RX3, "fail", "(J)Z"⟩
abbrev cX3_damage : ByteArray := prog_1_method_11_code
def yX3_damage : MethodName := ⟨RX3, "damage", "(III)I"⟩
abbrev cX3_disk : ByteArray := prog_1_method_12_code
def yX3_disk : MethodName := ⟨RX3, "disk", "(II)I"⟩
abbrev cX3_place : ByteArray := prog_1_method_13_code
def yX3_place : MethodName := ⟨RX3, "place", "(II)I"⟩
abbrev cX3_free : ByteArray := prog_1_method_14_code
def yX3_free : MethodName := ⟨RX3, "free", "(I)Z"⟩
abbrev cX3_held : ByteArray := prog_1_method_15_code
def yX3_held : MethodName := ⟨RX3, "held", "(II)I"⟩
abbrev cX3_total : ByteArray := prog_1_method_16_code
def yX3_total : MethodName := ⟨RX3, "total", "(I)I"⟩
abbrev cX3_mountedTotal : ByteArray := prog_1_method_17_code
def yX3_mountedTotal : MethodName := ⟨RX3, "mountedTotal", "(I)I"⟩
abbrev cX3_checkPage : ByteArray := prog_1_method_18_code
def yX3_checkPage : MethodName := ⟨RX3, "checkPage", "(I)V"⟩
abbrev cX3_checkSector : ByteArray := prog_1_method_19_code
def yX3_checkSector : MethodName := ⟨RX3, "checkSector", "(I)V"⟩
abbrev cX3_checkIndex : ByteArray := prog_1_method_20_code
def yX3_checkIndex : MethodName := ⟨RX3, "checkIndex", "(I)V"⟩
abbrev cX3_checkByte : ByteArray := prog_1_method_21_code
def yX3_checkByte : MethodName := ⟨RX3, "checkByte", "(I)V"⟩
abbrev cX3_checkMounted : ByteArray := prog_1_method_22_code
def yX3_checkMounted : MethodName := ⟨RX3, "checkMounted", "()V"⟩
abbrev cX3_checkOpen : ByteArray := prog_1_method_23_code
def yX3_checkOpen : MethodName := ⟨RX3, "checkOpen", "()V"⟩
abbrev cX3_formatAndMount : ByteArray := prog_1_method_24_code
def yX3_formatAndMount : MethodName := ⟨RX3, "formatAndMount", "()V"⟩
abbrev cX3_mount : ByteArray := prog_1_method_25_code
def yX3_mount : MethodName := ⟨RX3, "mount", "()V"⟩
abbrev cX3_masterIsRight : ByteArray := prog_1_method_26_code
def yX3_masterIsRight : MethodName := ⟨RX3, "masterIsRight", "()Z"⟩
abbrev cX3_tableIsRight : ByteArray := prog_1_method_27_code
def yX3_tableIsRight : MethodName := ⟨RX3, "tableIsRight", "()Z"⟩
abbrev cX3_checkOf : ByteArray := prog_1_method_28_code
def yX3_checkOf : MethodName := ⟨RX3, "checkOf", "([I)I"⟩
abbrev cX3_putMaster : ByteArray := prog_1_method_29_code
def yX3_putMaster : MethodName := ⟨RX3, "putMaster", "([III)V"⟩
abbrev cX3_freeSet : ByteArray := prog_1_method_30_code
def yX3_freeSet : MethodName := ⟨RX3, "freeSet", "()J"⟩
abbrev cX3_holds : ByteArray := prog_1_method_31_code
def yX3_holds : MethodName := ⟨RX3, "holds", "(JI)Z"⟩
abbrev cX3_leastFree : ByteArray := prog_1_method_32_code
def yX3_leastFree : MethodName := ⟨RX3, "leastFree", "()I"⟩
abbrev cX3_changePage : ByteArray := prog_1_method_33_code
def yX3_changePage : MethodName := ⟨RX3, "changePage", "(I)V"⟩
abbrev cX3_copyLatestPage : ByteArray := prog_1_method_34_code
def yX3_copyLatestPage : MethodName := ⟨RX3, "copyLatestPage", "(I[I)V"⟩
abbrev cX3_openPlace : ByteArray := prog_1_method_35_code
def yX3_openPlace : MethodName := ⟨RX3, "openPlace", "(I)I"⟩
abbrev cX3_holdBackPage : ByteArray := prog_1_method_36_code
def yX3_holdBackPage : MethodName := ⟨RX3, "holdBackPage", "(I)V"⟩
abbrev cX3_holdBackUnspilledPages : ByteArray := prog_1_method_37_code
def yX3_holdBackUnspilledPages : MethodName := ⟨RX3, "holdBackUnspilledPages", "()V"⟩
abbrev cX3_holdBackTable : ByteArray := prog_1_method_38_code
def yX3_holdBackTable : MethodName := ⟨RX3, "holdBackTable", "(I)V"⟩
abbrev cX3_turnOver : ByteArray := prog_1_method_39_code
def yX3_turnOver : MethodName := ⟨RX3, "turnOver", "(I)V"⟩
abbrev cX3_carryOutAll : ByteArray := prog_1_method_40_code
def yX3_carryOutAll : MethodName := ⟨RX3, "carryOutAll", "()I"⟩
def RX4 : String := "FlipPagesModel"
def TX4 : u_T := fun k => match k with
  | 0 => ("FlipPagesModel", "disk", "[I", true)
  | 1 => ("FlipPagesModel", "latest", "[I", true)
  | 2 => ("FlipPagesModel", "sure", "[I", true)
  | 3 => ("FlipPagesModel", "latestAt", "I", false)
  | 4 => ("FlipPagesModel", "sureAt", "I", false)
  | 5 => ("FlipPagesModel", "latestTime", "I", false)
  | 6 => ("FlipPagesModel", "sureTime", "I", false)
  | 7 => ("FlipPagesModel", "broken", "Z", false)
  | 8 => ("FlipPagesModel", "open", "Z", false)
  | 9 => ("FlipPagesModel", "own", "[I", true)
  | 10 => ("FlipPagesModel", "spilled", "[Z", true)
  | 11 => ("FlipPagesModel", "bytes", "[I", true)
  | 12 => ("FlipPagesModel", "where", "[I", true)
  | 13 => ("FlipPagesModel", "what", "[I", true)
  | 14 => ("FlipPagesModel", "held", "I", false)
  | 15 => ("FlipPagesModel", "turns", "Z", false)
  | _ => ("FlipPagesModel", "thrown", "I", false)
def tyX4 : Nat → FieldType := fun k => match k with
  | 0 => .array .int
  | 1 => .array .int
  | 2 => .array .int
  | 3 => .int
  | 4 => .int
  | 5 => .int
  | 6 => .int
  | 7 => .boolean
  | 8 => .boolean
  | 9 => .array .int
  | 10 => .array .boolean
  | 11 => .array .int
  | 12 => .array .int
  | 13 => .array .int
  | 14 => .int
  | 15 => .boolean
  | _ => .int
abbrev wsX40 : List Cond := u_ws RX4 TX4 17
theorem nmX4 : ∀ a, a < 17 → ∀ b, b < 17 → a ≠ b → (TX4 a).2.1 ≠ (TX4 b).2.1 := by decide +kernel
theorem tyX4_ok : ∀ k, k < 17 → parseFieldDescriptor (TX4 k).2.2.1 = some (tyX4 k) := by decide +kernel
abbrev cX4_init : ByteArray := prog_6_method_1_code
def yX4_init : MethodName := ⟨RX4, "<init>", "()V"⟩
abbrev cX4_thrown : ByteArray := prog_6_method_2_code
def yX4_thrown : MethodName := ⟨RX4, "thrown", "()I"⟩
abbrev cX4_fails : ByteArray := prog_6_method_3_code
def yX4_fails : MethodName := ⟨RX4, "fails", "(ZI)Z"⟩
abbrev cX4_within : ByteArray := prog_6_method_4_code
def yX4_within : MethodName := ⟨RX4, "within", "(III)Z"⟩
abbrev cX4_checkOf : ByteArray := prog_6_method_5_code
def yX4_checkOf : MethodName := ⟨RX4, "checkOf", "([II)I"⟩
abbrev cX4_master : ByteArray := prog_6_method_6_code
def yX4_master : MethodName := ⟨RX4, "master", "([IIII)V"⟩
abbrev cX4_clear : ByteArray := prog_6_method_7_code
def yX4_clear : MethodName := ⟨RX4, "clear", "()V"⟩
abbrev cX4_mount : ByteArray := prog_6_method_8_code
def yX4_mount : MethodName := ⟨RX4, "mount", "()V"⟩
abbrev cX4_settle : ByteArray := prog_6_method_9_code
def yX4_settle : MethodName := ⟨RX4, "settle", "()V"⟩
abbrev cX4_isFree : ByteArray := prog_6_method_10_code
def yX4_isFree : MethodName := ⟨RX4, "isFree", "(I)Z"⟩
abbrev cX4_firstFree : ByteArray := prog_6_method_11_code
def yX4_firstFree : MethodName := ⟨RX4, "firstFree", "()I"⟩
abbrev cX4_hold : ByteArray := prog_6_method_12_code
def yX4_hold : MethodName := ⟨RX4, "hold", "(I[II)V"⟩
abbrev cX4_writes : ByteArray := prog_6_method_13_code
def yX4_writes : MethodName := ⟨RX4, "writes", "(I)V"⟩
abbrev cX4_flushed : ByteArray := prog_6_method_14_code
def yX4_flushed : MethodName := ⟨RX4, "flushed", "()I"⟩
abbrev cX4_byteAt : ByteArray := prog_6_method_15_code
def yX4_byteAt : MethodName := ⟨RX4, "byteAt", "(IIZ)I"⟩
abbrev cX4_changes : ByteArray := prog_6_method_16_code
def yX4_changes : MethodName := ⟨RX4, "changes", "(I)Z"⟩
abbrev cX4_changed : ByteArray := prog_6_method_17_code
def yX4_changed : MethodName := ⟨RX4, "changed", "()I"⟩
abbrev cX4_format : ByteArray := prog_6_method_18_code
def yX4_format : MethodName := ⟨RX4, "format", "()V"⟩
abbrev cX4_write : ByteArray := prog_6_method_19_code
def yX4_write : MethodName := ⟨RX4, "write", "(III)I"⟩
abbrev cX4_fill : ByteArray := prog_6_method_20_code
def yX4_fill : MethodName := ⟨RX4, "fill", "(IJJ)I"⟩
abbrev cX4_read : ByteArray := prog_6_method_21_code
def yX4_read : MethodName := ⟨RX4, "read", "(IIZ)I"⟩
abbrev cX4_spill : ByteArray := prog_6_method_22_code
def yX4_spill : MethodName := ⟨RX4, "spill", "(I)I"⟩
abbrev cX4_commit : ByteArray := prog_6_method_23_code
def yX4_commit : MethodName := ⟨RX4, "commit", "(Z)I"⟩
abbrev cX4_abort : ByteArray := prog_6_method_24_code
def yX4_abort : MethodName := ⟨RX4, "abort", "()I"⟩
abbrev cX4_flush : ByteArray := prog_6_method_25_code
def yX4_flush : MethodName := ⟨RX4, "flush", "()I"⟩
abbrev cX4_fail : ByteArray := prog_6_method_26_code
def yX4_fail : MethodName := ⟨RX4, "fail", "(J)Z"⟩
abbrev cX4_damage : ByteArray := prog_6_method_27_code
def yX4_damage : MethodName := ⟨RX4, "damage", "(III)I"⟩
abbrev cX4_disk : ByteArray := prog_6_method_28_code
def yX4_disk : MethodName := ⟨RX4, "disk", "(II)I"⟩
abbrev cX4_place : ByteArray := prog_6_method_29_code
def yX4_place : MethodName := ⟨RX4, "place", "(II)I"⟩
abbrev cX4_free : ByteArray := prog_6_method_30_code
def yX4_free : MethodName := ⟨RX4, "free", "(I)Z"⟩
abbrev cX4_held : ByteArray := prog_6_method_31_code
def yX4_held : MethodName := ⟨RX4, "held", "(II)I"⟩
abbrev cX4_total : ByteArray := prog_6_method_32_code
def yX4_total : MethodName := ⟨RX4, "total", "(I)I"⟩
def RL : String := "FlipPagesLaw"
abbrev cL_write : ByteArray := method_3_code
def yL_write : MethodName := ⟨RL, "write", "(LFlipPages;III[J)I"⟩
abbrev cL_fill : ByteArray := method_4_code
def yL_fill : MethodName := ⟨RL, "fill", "(LFlipPages;IJJ[J)I"⟩
abbrev cL_read : ByteArray := method_5_code
def yL_read : MethodName := ⟨RL, "read", "(LFlipPages;IIZ[J)I"⟩
abbrev cL_spill : ByteArray := method_6_code
def yL_spill : MethodName := ⟨RL, "spill", "(LFlipPages;I[J)I"⟩
abbrev cL_commit : ByteArray := method_7_code
def yL_commit : MethodName := ⟨RL, "commit", "(LFlipPages;Z[J)I"⟩
abbrev cL_abort : ByteArray := method_8_code
def yL_abort : MethodName := ⟨RL, "abort", "(LFlipPages;[J)I"⟩
abbrev cL_flush : ByteArray := method_9_code
def yL_flush : MethodName := ⟨RL, "flush", "(LFlipPages;[J)I"⟩
abbrev cL_damage : ByteArray := method_10_code
def yL_damage : MethodName := ⟨RL, "damage", "(LFlipPages;III[J)I"⟩
abbrev cL_disk : ByteArray := method_11_code
def yL_disk : MethodName := ⟨RL, "disk", "(LFlipPages;II[J)I"⟩
abbrev cL_place : ByteArray := method_12_code
def yL_place : MethodName := ⟨RL, "place", "(LFlipPages;II[J)I"⟩
abbrev cL_free : ByteArray := method_13_code
def yL_free : MethodName := ⟨RL, "free", "(LFlipPages;I[J)I"⟩
abbrev cL_held : ByteArray := method_14_code
def yL_held : MethodName := ⟨RL, "held", "(LFlipPages;II[J)I"⟩
abbrev cL_total : ByteArray := method_15_code
def yL_total : MethodName := ⟨RL, "total", "(LFlipPages;I[J)I"⟩
abbrev cL_law : ByteArray := code
def yL_law : MethodName := ⟨RL, "law", "([I)Z"⟩
end
section
/-! Two laws that the printed rows leave to a part of the library which a round doesn't have: new int[n][k], and the catching of an exception by rows whose classes may not be resolved yet. -/
section ZZM
/-- the outer array when i of its rows have been made; h0: its address -/
def zz_o (c : ClassId) (N h0 i : Nat) : Cell := arrV c N (fun j => if j < i then .ref (h0 + 1 + j) else .null)
def zz_i (c : ClassId) (K : Nat) : Cell := arrV c K (fun _ => .int 0)
/-- the state when i rows have been made -/
def zz_f (s : State) (c d : ClassId) (N K : Nat) : Nat → State
  | 0 => s.pushCell (zz_o c N s.heap.size 0)
  | i + 1 => ((zz_f s c d N K i).pushCell (zz_i d K)).setCell s.heap.size (zz_o c N s.heap.size (i + 1))
theorem zz_o_next (c : ClassId) (N h0 i : Nat) : (zz_o c N h0 i).setSlot i (.ref (h0 + 1 + i)) = zz_o c N h0 (i + 1) := by
  unfold zz_o
  rw [arrV_store]
  refine congrArg (arrV c N) (funext fun j => ?_)
  by_cases e : j = i
  · subst e
    simp [updV]
  · by_cases h : j < i
    · simp [updV, e, h, Nat.lt_succ_of_lt h]
    · simp [updV, e, h, show ¬ j < i + 1 by omega]
theorem zz_o_new (c : ClassId) (N h0 : Nat) : zz_o c N h0 0 = { cls := c, slots := Array.replicate N .null, vm := .none } := by
  rw [arrV_new]
  unfold zz_o
  simp
theorem zz_i_new (c : ClassId) (K : Nat) : zz_i c K = { cls := c, slots := Array.replicate K (.int 0), vm := .none } := by
  rw [arrV_new]
  rfl
theorem zz_o_sz (c : ClassId) (N h0 i : Nat) : (zz_o c N h0 i).slots.size = N := arrV_size _ _ _
theorem zz_i_sz (c : ClassId) (K : Nat) : (zz_i c K).slots.size = K := arrV_size _ _ _
theorem zz_f_facts (s : State) (c d : ClassId) (N K : Nat) : ∀ i, (zz_f s c d N K i).heap.size = s.heap.size + 1 + i ∧ (zz_f s c d N K i).heap[s.heap.size]? = some (zz_o c N s.heap.size i) ∧ (zz_f s c d N K i).vm = s.vm ∧ (zz_f s c d N K i).slotsUsed = s.slotsUsed + N + i * K
  | 0 => ⟨by simp [zz_f], by simp [zz_f], rfl, by simp [zz_f, zz_o_sz]⟩
  | i + 1 => by
    obtain ⟨a, b, e, u⟩ := zz_f_facts s c d N K i
    have hlt : s.heap.size < (zz_f s c d N K i).heap.size := by omega
    have hb : ((zz_f s c d N K i).pushCell (zz_i d K)).heap[s.heap.size]? = some (zz_o c N s.heap.size i) := by rw [State.heap_pushCell_of_lt (h := hlt)]; exact b
    refine ⟨?_, State.heap_setCell_self hb, by simp [zz_f, e], ?_⟩
    · simp [zz_f, State.setCell, a]; omega
    · simp [zz_f, u, zz_i_sz, Nat.succ_mul]; omega
theorem zz_f_top (s : State) (f : JFrame) (c d : ClassId) (N K : Nat) : ∀ i, zz_f (s.setTop f) c d N K i = (zz_f s c d N K i).setTop f
  | 0 => rfl
  | i + 1 => by simp only [zz_f, zz_f_top s f c d N K i, State.heap_setTop, State.pushCell_setTop, State.setCell_setTop]
theorem zz_f_old (s : State) (c d : ClassId) (N K : Nat) {a : Addr} (ha : a < s.heap.size) : ∀ i, (zz_f s c d N K i).heap[a]? = s.heap[a]?
  | 0 => State.heap_pushCell_of_lt _ _ ha
  | i + 1 => by
    have hz := (zz_f_facts s c d N K i).1
    have hlt : a < (zz_f s c d N K i).heap.size := Nat.lt_of_lt_of_le ha (by rw [hz]; omega)
    show (((zz_f s c d N K i).pushCell (zz_i d K)).setCell s.heap.size _).heap[a]? = _
    rw [State.heap_setCell_other (Nat.ne_of_gt ha), State.heap_pushCell_of_lt (h := hlt)]
    exact zz_f_old s c d N K ha i
theorem zz_f_row (s : State) (c d : ClassId) (N K : Nat) : ∀ i j, j < i → (zz_f s c d N K i).heap[s.heap.size + 1 + j]? = some (zz_i d K)
  | 0, _, h => absurd h (Nat.not_lt_zero _)
  | i + 1, j, h => by
    have hz := (zz_f_facts s c d N K i).1
    show (((zz_f s c d N K i).pushCell (zz_i d K)).setCell s.heap.size _).heap[s.heap.size + 1 + j]? = _
    rw [State.heap_setCell_other (show s.heap.size ≠ s.heap.size + 1 + j by omega)]
    by_cases hj : j < i
    · have hlt : s.heap.size + 1 + j < (zz_f s c d N K i).heap.size := by rw [hz]; omega
      rw [State.heap_pushCell_of_lt (h := hlt)]
      exact zz_f_row s c d N K i j hj
    · rw [show s.heap.size + 1 + j = (zz_f s c d N K i).heap.size by omega]
      exact State.heap_pushCell_size _ _
section
variable {E : CtlPost} {e : Env} {d : Bool} {acts : List Action} {s : State}
theorem zz_newArr {c comp : ClassId} {k : Class} {type : FieldType} {len : Nat} {init : Value} (hk : s.vm.classes[c]? = some k) (hkind : k.kind = .array comp type) (hlimit : ¬ len > e.platform.arrayLengthLimit) (hheap : ¬ len * componentBytes type > e.platform.maxHeapBytes)
    (hfit : fits type init = true) (hdef : init.isDefault = true) {Q : Addr → Pre} (h1 : s.heap.size < e.platform.maxCells) (h2 : s.slotsUsed + len ≤ e.platform.maxSlots)
    (hq : Q s.heap.size d acts (s.pushCell { cls := c, slots := Array.replicate len init, vm := .none })) : wp (Jvm.newArray c len init) Q E e d acts s := by
  have hfits : ∀ i v, (Array.replicate len init)[i]? = some v → s.fitsSlot c .none i v = true := by
    intro i v hv
    rw [Array.getElem?_replicate] at hv
    split at hv
    · cases hv
      simp [State.fitsSlot, State.slotType?, hk, hkind, hfit]
    · cases hv
  have hall : ((Array.replicate len init).all (·.isDefault)) = true := by
    rw [Array.all_replicate]
    split <;> simp [hdef]
  have hda : allocActs (Array.replicate len init) s.heap.size acts = acts := by
    unfold allocActs
    rw [if_pos hall]
  simp only [Jvm.newArray, Jvm.arrayFits, wp_bind', W.ask, W.ite, hlimit, if_false, wp_pure', W.theClass, hk, hkind, hheap, W.alloc, W.stop, Option.some.injEq, exists_eq_left', Array.size_replicate, hda]
  rw [if_neg (by omega)]
  exact ⟨h1, h2, hfits, hq⟩
theorem zz_make1 {comp cc : ClassId} {kc : Class} {m : Int32} {K : Nat} (hK : m.toNatClampNeg = K) (hkc : s.vm.classes[comp]? = some kc) (hkindc : kc.kind = .array cc .int) (hm : ¬ m < 0) (hl2 : ¬ K > e.platform.arrayLengthLimit) (hh2 : ¬ K * componentBytes .int > e.platform.maxHeapBytes)
    (h1 : s.heap.size < e.platform.maxCells) (h2 : s.slotsUsed + K ≤ e.platform.maxSlots) {Q : Addr → Pre} (hq : Q s.heap.size d acts (s.pushCell (zz_i comp K))) : wp (multianewarray.make comp [m]) Q E e d acts s := by
  subst hK
  rw [zz_i_new] at hq
  rw [multianewarray.make]
  simp only [wp_bind', W.ite, hm, if_false, wp_pure', W.theClass, hkc, hkindc, Option.some.injEq, exists_eq_left']
  exact zz_newArr hkc hkindc hl2 hh2 rfl rfl h1 h2 hq
theorem zz_make2 {c comp cc : ClassId} {k kc : Class} {n m : Int32} {N K : Nat} (hN : n.toNatClampNeg = N) (hK : m.toNatClampNeg = K) (hk : s.vm.classes[c]? = some k) (hkind : k.kind = .array comp (.array .int)) (hkc : s.vm.classes[comp]? = some kc) (hkindc : kc.kind = .array cc .int) (hn : ¬ n < 0) (hm : ¬ m < 0)
    (hl1 : ¬ N > e.platform.arrayLengthLimit) (hh1 : ¬ N * componentBytes (.array .int) > e.platform.maxHeapBytes) (hl2 : ¬ K > e.platform.arrayLengthLimit) (hh2 : ¬ K * componentBytes .int > e.platform.maxHeapBytes)
    (hc : s.heap.size + 1 + N ≤ e.platform.maxCells) (hs : s.slotsUsed + N + N * K ≤ e.platform.maxSlots) {Q : Addr → Pre} (hq : ∀ d' acts', Q s.heap.size d' acts' (zz_f s c comp N K N)) : wp (multianewarray.make c [n, m]) Q E e d acts s := by
  have hfind : ([m].find? (· < 0)) = none := by simp [hm]
  rw [multianewarray.make]
  simp only [wp_bind', W.ite, hn, if_false, wp_pure', W.theClass, hk, hkind, Option.some.injEq, exists_eq_left', hN]
  refine zz_newArr hk hkind hl1 hh1 rfl rfl (by omega) (by have := Nat.zero_le (N * K); omega) ?_
  rw [← zz_o_new c N s.heap.size]
  simp only [hfind]
  rw [ite_self, wp_bind', Std.Legacy.Range.forIn_eq_forIn_range']
  have hsz : ([:N] : Std.Legacy.Range).size = N := by simp [Std.Legacy.Range.size]
  rw [hsz]
  show wp (forIn (List.range' 0 N 1) PUnit.unit _) _ E e d acts _
  refine wp_forIn_inv (fun rest s' => ∃ i, i ≤ N ∧ rest = List.range' i (N - i) ∧ s' = zz_f s c comp N K i) _ _ ⟨0, Nat.zero_le _, rfl, rfl⟩ ?_ ?_
  · rintro x rest s' d' acts' Q' ⟨i, hi, hl, rfl⟩ hnext
    have hlt : i < N := by
      rcases Nat.lt_or_ge i N with h | h
      · exact h
      · rw [show N - i = 0 by omega] at hl
        simp at hl
    rw [show N - i = (N - (i + 1)) + 1 by omega, List.range'_succ] at hl
    obtain ⟨rfl, hrest⟩ := List.cons.inj hl
    obtain ⟨f1, f2, f3, f4⟩ := zz_f_facts s c comp N K x
    have hmul : x * K + K ≤ N * K := by
      have h9 := Nat.mul_le_mul_right K (show x + 1 ≤ N from hlt)
      rw [Nat.succ_mul] at h9
      exact h9
    simp only [wp_bind']
    refine zz_make1 hK (by rw [f3]; exact hkc) hkindc hm hl2 hh2 (by rw [f1]; omega) (by rw [f4]; omega) ?_
    have hlt0 : s.heap.size < (zz_f s c comp N K x).heap.size := by rw [f1]; omega
    simp only [wp_bind', W.writeLoc, wp_pure']
    refine ⟨zz_o c N s.heap.size x, by rw [State.heap_pushCell_of_lt (h := hlt0)]; exact f2, (by intro h; cases h), by rw [zz_o_sz]; exact hlt, ?_, hnext _ _ _ ⟨x + 1, hlt, hrest, ?_⟩⟩
    · show State.fitsSlot _ c .none x _ = true
      simp [State.fitsSlot, State.slotType?, f3, hk, hkind, fits]
    · rw [f1, zz_o_next]
      rfl
  · rintro s' d' acts' ⟨i, hi, hl, rfl⟩
    have hiN : i = N := by
      rcases Nat.lt_or_ge i N with h | h
      · rw [show N - i = (N - (i + 1)) + 1 by omega, List.range'_succ] at hl
        cases hl
      · omega
    subst hiN
    simp only [wp_pure']
    exact hq _ _
end
section
variable {p : Program} {l : Launch} {e : Env} {R : Room} {s : State} {m : MethodId} {args : Array Value} {below : List Frame} {meth : Method} {c : Code} {T : State} {locs : List Loc} {cells slots : Nat}
theorem zz_filled (X : Stand p l e R s m args below meth c T locs cells slots) (cA comp : ClassId) (N K : Nat) :
    ∀ i, Stand p l e R s m args below meth c (zz_f T cA comp N K i) (locs ++ (List.range i).map fun j => ⟨T.heap.size, j⟩) (cells + 1 + i) (slots + N + i * K)
  | 0 => by
    have h := X.pushed (zz_o cA N T.heap.size 0)
    rw [zz_o_sz] at h
    simpa [zz_f] using h
  | i + 1 => by
    have Xi := zz_filled X cA comp N K i
    obtain ⟨f1, f2, f3, f4⟩ := zz_f_facts T cA comp N K i
    have hlt0 : T.heap.size < (zz_f T cA comp N K i).heap.size := by rw [f1]; omega
    have hcell : ((zz_f T cA comp N K i).pushCell (zz_i comp K)).heap[T.heap.size]? = some (zz_o cA N T.heap.size i) := by rw [State.heap_pushCell_of_lt (h := hlt0)]; exact f2
    have h := (Xi.pushed (zz_i comp K)).stored hcell i (.ref (T.heap.size + 1 + i))
    rw [zz_i_sz, zz_o_next] at h
    have e2 : (locs ++ (List.range (i + 1)).map fun j => (⟨T.heap.size, j⟩ : Loc)) = (locs ++ (List.range i).map fun j => (⟨T.heap.size, j⟩ : Loc)) ++ [⟨T.heap.size, i⟩] := by simp [List.range_succ, List.append_assoc]
    have e3 : slots + N + (i + 1) * K = slots + N + i * K + K := by rw [Nat.succ_mul]; omega
    rw [e2, e3]
    exact h
theorem zz_overA {o : Option Outcome} {first s : State} {idx : List Nat} (h : (Cond.arrayOver (.array .int)).holds args first o s idx = true) :
    ∃ comp c k, s.vm.findClass "[I" = some comp ∧ s.vm.classes[c]? = some k ∧ k.kind = .array comp (.array .int) ∧ s.vm.findClass "[[I" = some c := by
  simp only [Cond.holds, Cond.value, beq_iff_eq] at h
  cases hc : s.vm.findClass (FieldType.array .int).toString with
  | none => simp [hc] at h
  | some comp =>
    simp only [hc, Option.bind_some, Option.bind_eq_some_iff, Option.map_eq_some_iff] at h
    obtain ⟨c, hi, k, hk, hb⟩ := h
    obtain ⟨hlt, hp, -⟩ := Array.findIdx?_eq_some_iff_getElem.mp hi
    rw [(Array.getElem?_eq_some_iff.mp hk).2] at hp
    cases hkind : k.kind with
    | array component ty =>
      rw [hkind] at hb hp
      simp at hb hp
      exact ⟨comp, c, k, hc, hk, by rw [hkind, hp, hb.1], hb.2⟩
    | _ => rw [hkind] at hb; simp at hb
theorem zz_multi (X : Stand p l e R s m args below meth c T locs cells slots) (hexec : p.tables.exec = Jvm.exec) {own : String} {index : Nat} (hown : s.vm.findClass own = some m.cls) (hclink : (Cond.classLink own index "[[I").before args s = true)
    (hover : ∃ comp c k, s.vm.findClass "[I" = some comp ∧ s.vm.classes[c]? = some k ∧ k.kind = .array comp (.array .int) ∧ s.vm.findClass "[[I" = some c) (harr : (Cond.arrayClass .int).before args s = true) {g : JFrame} (hg : g.method = m) (hdg : decode c.code g.pc = .ok (.multianewarray index 2, 4)) {n k : Int32} {N K : Nat} {rest : List Value} (hstack : g.stack = .int k :: .int n :: rest)
    (hn : ¬ n < 0) (hk : ¬ k < 0) (hN : n.toNatClampNeg = N) (hK : k.toNatClampNeg = K) (hb1 : N ≤ 100000) (hb2 : K ≤ 100000) (hcells : cells + (1 + N) ≤ R.cells) (hslots : slots + (N + N * K) ≤ R.slots) :
    ∃ (vm₁ : Vm) (cA comp : ClassId), s.vm.findClass "[[I" = some cA ∧ s.vm.findClass "[I" = some comp ∧ ArrOfT s cA (.array .int) ∧
      Stand p l e R s m args below meth c (zz_f (T.setVm vm₁) cA comp N K N) (locs ++ (List.range N).map fun j => ⟨T.heap.size, j⟩) (cells + 1 + N) (slots + N + N * K) ∧
      ∀ target, Steps p.tables e below ((zz_f (T.setVm vm₁) cA comp N K N).setTop { g with pc := g.pc + 4, stack := .ref T.heap.size :: rest }) target → Steps p.tables e below (T.setTop g) target := by
  subst hg
  have hpl : e.platform.magicAccessors = ({} : Platform).magicAccessors := by rw [X.admits.platform]
  obtain ⟨comp, cA, kA, hcomp, hkA, hkindA, hnameA⟩ := hover
  obtain ⟨comp', kC, cc, hcomp', hkC, hkindC⟩ := Cond.arrayClass_spec harr
  have ecomp : comp' = comp := Option.some.inj (hcomp'.symm.trans hcomp)
  subst ecomp
  obtain ⟨c0, hfc0, hcl⟩ := Cond.classLink_spec hown hclink e.platform hpl
  cases hnameA.symm.trans hfc0
  obtain ⟨hg₁, hwarm₁, hready₁⟩ := State.classEntry (e := e) X.warmed hcl
  generalize T.vm.noted g.method.cls index (.cls cA) = vm₁ at hg₁ hwarm₁ hready₁
  obtain ⟨kA₁, hkA₁, heA⟩ := hwarm₁.alike.2.2 _ _ hkA
  obtain ⟨kC₁, hkC₁, heC⟩ := hwarm₁.alike.2.2 _ _ hkC
  have hkindA₁ : kA₁.kind = .array comp' (.array .int) := by rw [heA]; exact hkindA
  have hkindC₁ : kC₁.kind = .array cc .int := by rw [heC]; exact hkindC
  have X₁ := X.noted hwarm₁
  obtain ⟨hr1, hr2⟩ := X.roomAbove hcells hslots
  refine ⟨vm₁, cA, comp', hnameA, hcomp, fun n z => ⟨fun x h => (by cases h), kA, hkA, comp', hkindA⟩, zz_filled X₁ cA comp' _ _ _, fun target hrest => ?_⟩
  have hl1 : ¬ N > e.platform.arrayLengthLimit := by rw [Launch.admits_arrayLengthLimit X.admits]; omega
  have hh1 : ¬ N * componentBytes (.array .int) > e.platform.maxHeapBytes := by
    rw [Launch.admits_maxHeapBytes X.admits]
    show ¬ N * 4 > 536870912
    omega
  have hl2 : ¬ K > e.platform.arrayLengthLimit := by rw [Launch.admits_arrayLengthLimit X.admits]; omega
  have hh2 : ¬ K * componentBytes .int > e.platform.maxHeapBytes := by
    rw [Launch.admits_maxHeapBytes X.admits]
    show ¬ K * 4 > 536870912
    omega
  jvm_step X.here [hexec, hdg]
  simp only [multianewarray.sem, wp_bind', W.resolveClassAt_links (State.method?_setTop g X.here.top) hg₁]
  rw [W.popN, if_neg (by decide)]
  refine ⟨g, State.topJava?_setTop' (s := T.setVm vm₁) g X.here.top, [.int n, .int k], rest, rfl, hstack, ?_⟩
  simp only [List.mapM_cons, List.mapM_nil, wp_bind', wp_pure']
  refine zz_make2 hN hK (k := kA₁) (kc := kC₁) (comp := comp') (cc := cc) hkA₁ hkindA₁ hkC₁ hkindC₁ hn hk hl1 hh1 hl2 hh2 (by show T.heap.size + 1 + _ ≤ _; omega) (by show T.slotsUsed + _ + _ ≤ _; omega) (fun d' acts' => ?_)
  have XF := zz_filled X₁ cA comp' N K N
  have eS : ((T.setTop g).setVm vm₁).setTop { g with stack := rest } = (T.setVm vm₁).setTop { g with stack := rest } := by
    show ((T.setVm vm₁).setTop g).setTop _ = _
    rw [State.setTop_setTop]
  rw [eS, zz_f_top]
  simp only [wp_bind', W.mark, W.pushRef, State.topJava?_setTop' _ XF.here.top, Option.some.injEq, exists_eq_left', State.setTop_setTop, State.heap_setTop]
  intro acts
  simp [jvm, XF.here.top]
  exact hrest
end
end ZZM
section ZZX
/-- what the search for a handler gives, and the tables that it leaves -/
def zz_Fd (e : Env) (s : State) (f : JFrame) (a : Addr) (rows : List ExceptionTableEntry) (h : Nat) (vm' : Vm) : Prop :=
  ∀ (Q : Handler → Pre) (E : CtlPost) (d : Bool) (acts : List Action), wp (findHandler.go f a rows) Q E e d acts s ↔ Q (.found h) d acts (s.setVm vm')
/-- one row that covers the place and names a class: taken or passed by what the class is; the entry is noted -/
theorem zz_row {e : Env} {s : State} {f : JFrame} {a : Addr} {x : ExceptionTableEntry} {t : List ExceptionTableEntry} {c : ClassId} {cell : Cell} (hx : covers x f.pc = true) (h0 : x.catchType ≠ 0) (hl : s.vm.ClassLinks e.platform f.method.cls x.catchType c)
    (hcell : s.heap[a]? = some cell) (hobj : ∀ k, cell.vm ≠ .statics k) (hk : ∃ k, s.vm.classes[cell.cls]? = some k) (hc : ∃ k, s.vm.classes[c]? = some k) (Q : Handler → Pre) (E : CtlPost) (d : Bool) (acts : List Action) :
    wp (findHandler.go f a (x :: t)) Q E e d acts s ↔ if s.vm.assignable cell.cls c = true then Q (.found x.handlerPc) d acts (s.setVm (s.vm.noted f.method.cls x.catchType (.cls c))) else wp (findHandler.go f a t) Q E e d acts (s.setVm (s.vm.noted f.method.cls x.catchType (.cls c))) := by
  simp only [covers] at hx
  obtain ⟨ha, ht⟩ := (resolveClass_links e.toSetting hl).op (op := VmOp.resolveClass f.method.cls x.catchType) rfl
  have hal : s.vm.Alike (s.vm.noted f.method.cls x.catchType (.cls c)) := (Vm.Alike.refl s.vm).noted _ _ _
  obtain ⟨k1, hk1⟩ := hk
  obtain ⟨k2, hk2⟩ := hc
  obtain ⟨k1', hk1', -⟩ := hal.2.2 _ _ hk1
  obtain ⟨k2', hk2', -⟩ := hal.2.2 _ _ hk2
  have hq : (s.vm.noted f.method.cls x.catchType (.cls c)).assignable cell.cls c = s.vm.assignable cell.cls c := hal.assignable _ _
  cases hb : s.vm.assignable cell.cls c
  · rw [hb] at hq
    simp [findHandler.go, hx, h0, ha, ht, hcell, hobj, hk1', hk2', hq, VmOp.dirties, VmOp.acts]
  · rw [hb] at hq
    simp [findHandler.go, hx, h0, ha, ht, hcell, hobj, hk1', hk2', hq, VmOp.dirties, VmOp.acts]
/-- the search through rows: each passes (it doesn't cover the place, or names another class), until one takes it -/
theorem zz_rows {e : Env} {s₀ : State} {f : JFrame} {a : Addr} {cell : Cell} (hobj : ∀ k, cell.vm ≠ .statics k) (hk0 : ∃ k, s₀.vm.classes[cell.cls]? = some k) (x : ExceptionTableEntry) (suf : List ExceptionTableEntry) (hx : covers x f.pc = true) (h0 : x.catchType ≠ 0)
    {cx : ClassId} (hlx : s₀.vm.ClassLinks e.platform f.method.cls x.catchType cx) (hfx : s₀.vm.assignable cell.cls cx = true) :
    ∀ (pre : List ExceptionTableEntry) (S : State), s₀.WarmedH S.vm → S.heap[a]? = some cell → (∀ y ∈ pre, covers y f.pc = false ∨ (y.catchType ≠ 0 ∧ ∃ c, s₀.vm.ClassLinks e.platform f.method.cls y.catchType c ∧ s₀.vm.assignable cell.cls c = false)) →
      ∃ vm', s₀.WarmedH vm' ∧ zz_Fd e S f a (pre ++ x :: suf) x.handlerPc vm' := by
  obtain ⟨k0, hk0⟩ := hk0
  intro pre
  induction pre with
  | nil =>
    intro S hW hcell _
    obtain ⟨k0', hk0', -⟩ := hW.alike.2.2 _ _ hk0
    obtain ⟨dk, _, _, kt, hd, _, _, _, _, hkt, _, hopen⟩ := hlx.here
    obtain ⟨kt', hkt', -⟩ := hW.alike.2.2 _ _ hkt
    refine ⟨_, hW.noted hd hopen (State.rightAt_cls hlx), fun Q E d acts => ?_⟩
    rw [List.nil_append, zz_row hx h0 (hW.classLinks hlx) hcell hobj ⟨k0', hk0'⟩ ⟨kt', hkt'⟩, if_pos (by rw [hW.alike.assignable]; exact hfx)]
  | cons y ys ih =>
    intro S hW hcell hpass
    obtain ⟨k0', hk0', -⟩ := hW.alike.2.2 _ _ hk0
    have hys : ∀ z ∈ ys, _ := fun z hz => hpass z (List.mem_cons_of_mem _ hz)
    cases hcov : covers y f.pc
    · obtain ⟨vm', hW', hq⟩ := ih S hW hcell hys
      refine ⟨vm', hW', fun Q E d acts => ?_⟩
      rw [List.cons_append, W.findHandler_go_skip hcov]
      exact hq Q E d acts
    · rcases hpass y List.mem_cons_self with h | ⟨hy0, c, hl, hno⟩
      · rw [h] at hcov
        cases hcov
      · obtain ⟨dk, _, _, kt, hd, _, _, _, _, hkt, _, hopen⟩ := hl.here
        obtain ⟨kt', hkt', -⟩ := hW.alike.2.2 _ _ hkt
        obtain ⟨vm', hW', hq⟩ := ih (S.setVm (S.vm.noted f.method.cls y.catchType (.cls c))) (hW.noted hd hopen (State.rightAt_cls hl)) hcell hys
        refine ⟨vm', hW', fun Q E d acts => ?_⟩
        rw [List.cons_append, zz_row hcov hy0 (hW.classLinks hl) hcell hobj ⟨k0', hk0'⟩ ⟨kt', hkt'⟩, if_neg (by rw [hW.alike.assignable, hno]; decide)]
        exact hq Q E d acts
theorem zz_caught {tb : Tables} {e : Env} {s target : State} {g : JFrame} {c : Code} {below : List Frame} {a : Addr} (h : At s g.method c below) {meth : Method} (hm : s.vm.method? g.method = some meth) (hc : meth.code = some c) {pc : Nat} {vm' : Vm}
    (hfind : zz_Fd e ((s.setTop g).pushFrame (.throwing a)) g a c.exceptionTable.toList pc vm') (hrest : Steps tb e below ((s.setVm vm').setTop { g with pc := pc, stack := [.ref a] }) target) :
    Steps tb e below ((s.setTop g).pushFrame (.throwing a)) target := by
  obtain ⟨hgo, hw⟩ := h.throwing a
  refine Steps.head hgo hw ?_
  have key : (stepThrowing e ((s.setTop g).pushFrame (.throwing a)) a (.java g :: s.frames.tail)).Is ((((s.setTop g).pushFrame (.throwing a)).setVm vm').setFrames (.java { g with pc := pc, stack := [.ref a] } :: s.frames.tail)) [] := by
    simp only [stepThrowing, searchFrame, vmDo]
    generalize hr : Sem.go _ e false [] _ = res
    obtain ⟨as, rfl, ha⟩ := Sem.eq_ok_of hr (a := Handler.found pc) (s' := ((s.setTop g).pushFrame (.throwing a)).setVm vm') (acts' := []) (by
      have hf : ∀ (Q : Handler → Pre) (E : CtlPost) (d : Bool) (acts : List Action), wp (findHandler g a) Q E e d acts ((s.setTop g).pushFrame (.throwing a)) ↔ Q (.found pc) d acts (((s.setTop g).pushFrame (.throwing a)).setVm vm') := fun Q E d acts => by
        rw [W.findHandler_eq (s := (s.setTop g).pushFrame (.throwing a)) (meth := meth) (code := c) hm hc]
        exact hfind Q E d acts
      simp [hf])
    exact ⟨rfl, ha⟩
  rw [stepThread_throwing (frames_entered h.top _), key.1]
  obtain ⟨g₀, hg⟩ := Option.isSome_iff_exists.mp h.top
  obtain ⟨r, hr⟩ := State.topJava?_eq_some.mp hg
  have hr' : (s.setVm vm').frames = .java g₀ :: r := hr
  have hsv : ∀ (u : State) (F G : List Frame), ((u.setFrames F).setVm vm').setFrames G = (u.setVm vm').setFrames G := fun u F G => by
    have h1 : (u.setFrames F).setVm vm' = (u.setVm vm').setFrames F := rfl
    rw [h1, State.setFrames_setFrames]
  rw [State.setTop_of_frames _ hr'] at hrest
  rw [hr, List.tail_cons, State.pushFrame, hsv, State.setTop_of_frames _ hr, hsv]
  exact hrest
variable {p : Program} {l : Launch} {e : Env} {R : Room} {s : State} {m : MethodId} {args : Array Value} {below : List Frame} {meth : Method} {c : Code} {H : Heap} {locs : List Loc} {cells slots : Nat} {Q : State → Prop} {pc : Nat} {ls : Array Slot} {rest : List Value}
/-- caught by the row x of this method's table; the rows ahead don't take it -/
theorem zz_catch {own name : String} {E : String} {ce : Cell} {q : Addr} (hown : s.vm.findClass own = some m.cls) (pre : List ExceptionTableEntry) (x : ExceptionTableEntry) (suf : List ExceptionTableEntry) (hsplit : c.exceptionTable.toList = pre ++ x :: suf)
    (hpass : ∀ z ∈ pre, covers z pc = false ∨ (z.catchType ≠ 0 ∧ ∃ nm : String, (Cond.classLink own z.catchType nm).before args s = true ∧ va_Nc E nm s)) (hx : covers x pc = true) (h0 : x.catchType ≠ 0)
    (hlink : (Cond.classLink own x.catchType name).before args s = true) (hcast : (Cond.castable E name).before args s = true) (hcell : H[q]? = some ce) (hv : ce.vm = .none) (hcl : s.vm.findClass E = some ce.cls)
    (kk : W p l e R s m args below meth c H locs cells slots Q (F0 m x.handlerPc ls [.ref q])) : vx_W p l e R s m args below meth c H locs cells slots Q (F0 m pc ls rest) q := by
  intro T hT X
  have hpl : e.platform.magicAccessors = ({} : Platform).magicAccessors := by rw [X.admits.platform]
  obtain ⟨c3, c4, hc3, hc4, hasg⟩ := Cond.castable_spec hcast
  cases Option.some.inj (hc3.symm.trans hcl)
  obtain ⟨c5, hc5, hcl5⟩ := Cond.classLink_spec hown hlink e.platform hpl
  cases Option.some.inj (hc4.symm.trans hc5)
  obtain ⟨k9, h9, -⟩ := Vm.findClass_spec hcl
  obtain ⟨vm', hW', hf⟩ := zz_rows (e := e) (s₀ := s) (f := F0 m pc ls rest) (a := q) (cell := ce) (VmData.ne_statics_of (by rw [hv]; rfl)) ⟨k9, h9⟩ x suf hx h0 hcl5 hasg pre ((T.setTop (F0 m pc ls rest)).pushFrame (.throwing q)) X.warmed (by show T.heap[q]? = _; rw [hT]; exact hcell)
    (fun z hz => by
      rcases hpass z hz with h | ⟨hz0, nm, hl1, hn1⟩
      · exact Or.inl h
      · obtain ⟨c6, hc6, hcl6⟩ := Cond.classLink_spec hown hl1 e.platform hpl
        obtain ⟨a8, b8, h1, h2, h3⟩ := hn1
        cases Option.some.inj (h1.symm.trans hcl)
        cases Option.some.inj (h2.symm.trans hc6)
        exact Or.inr ⟨hz0, _, hcl6, h3⟩)
  obtain ⟨t, a1, b1⟩ := kk (T.setVm vm') hT (X.noted hW')
  exact ⟨t, zz_caught (g := F0 m pc ls rest) X.here X.method' X.code (by rw [hsplit]; exact hf) a1, b1⟩
end ZZX
end
section
/-! A light judgement over W: the machine's context is hidden; the heap is told by a world of numbered cells (0: the script; 1, 2 ..: the cells made since the law began, in their order, so their addresses are known). -/
abbrev zv_V : Type := Launch × State × Nat × Nat × (Nat → Int32) × (Nat → ClassId) × (Nat → Nat → Nat) × (Nat → ClassId)
abbrev zv_l (V : zv_V) : Launch := V.1
abbrev zv_s (V : zv_V) : State := V.2.1
abbrev zv_b (V : zv_V) : Nat := V.2.2.1
abbrev zv_L (V : zv_V) : Nat := V.2.2.2.1
abbrev zv_x (V : zv_V) : Nat → Int32 := V.2.2.2.2.1
abbrev zv_C (V : zv_V) : Nat → ClassId := V.2.2.2.2.2.1
abbrev zv_I (V : zv_V) : Nat → Nat → Nat := V.2.2.2.2.2.2.1
abbrev zv_A (V : zv_V) : Nat → ClassId := V.2.2.2.2.2.2.2
abbrev zv_S (V : zv_V) : Nat := (zv_s V).heap.size
/-- the classes whose objects are made -/
abbrev zc_cl : List vw_C := [(RX0, TX0, 4), (RX1, TX1, 3), (RX2, TX2, 3), (RX3, TX3, 7), (RX4, TX4, 17)]
/-- is field j of class c a reference? -/
def zc_rf (c j : Nat) : Bool := if c = 0 then decide (j < 3) else if c = 1 then decide (j < 2) else if c = 2 then decide (j < 1) else if c = 3 then decide (j < 6) else decide (j < 3) || (decide (9 ≤ j) && decide (j < 14))
def zc_nf (c : Nat) : Nat := if c = 0 then 4 else if c = 1 then 3 else if c = 2 then 3 else if c = 3 then 7 else 17
def zc_ex (k : Nat) : String := if k = 20 then "java/lang/IllegalArgumentException" else "java/lang/IllegalStateException"
/-- what may be made in all, the script's cell counted -/
def zc_cn : Nat := 601025
def zc_cs : Nat := 7293034
/-- the texts of the exceptions -/
def zc_tx : List (Nat × String) := [(176, "no such page"), (180, "no such byte"), (182, "not the number of a byte"), (184, "the store is broken"), (229, "no sector is free for the page"), (81, "the page has no change that could be spilled"), (91, "too many writes are held back"), (186, "no change is open"), (104, "no sector is free for the table"), (178, "no such sector"), (138, "no such table"), (152, "no such write is held back"), (158, "no such total")]
/-- a world: how many cells, how many slots, the cells' tags (class or kind of array, and how long), references, ints, longs -/
abbrev zw_W : Type := Nat × Nat × (Nat → Nat × Nat) × (Nat → Nat → Option Nat) × (Nat → Nat → Int32) × (Nat → Nat → Int64)
abbrev zw_t (w : zw_W) : Nat → Nat × Nat := w.2.2.1
abbrev zw_r (w : zw_W) : Nat → Nat → Option Nat := w.2.2.2.1
abbrev zw_i (w : zw_W) : Nat → Nat → Int32 := w.2.2.2.2.1
abbrev zw_l (w : zw_W) : Nat → Nat → Int64 := w.2.2.2.2.2
def zw_up {α : Type} (f : Nat → Nat → α) (k j : Nat) (x : α) : Nat → Nat → α := fun a c => if a = k ∧ c = j then x else f a c
def zw_ro {α : Type} (f : Nat → α) (k : Nat) (g : α) : Nat → α := fun a => if a = k then g else f a
theorem zw_up_s {α : Type} (f : Nat → Nat → α) (k j : Nat) (x : α) : zw_up f k j x k j = x := if_pos ⟨rfl, rfl⟩
theorem zw_up_n {α : Type} (f : Nat → Nat → α) {k j a c : Nat} (x : α) (h : a ≠ k ∨ c ≠ j) : zw_up f k j x a c = f a c := if_neg (fun q => h.elim (fun z => z q.1) (fun z => z q.2))
theorem zw_up_row {α : Type} (f : Nat → Nat → α) {k a : Nat} (j : Nat) (x : α) (h : a ≠ k) : zw_up f k j x a = f a := funext fun _ => zw_up_n f x (Or.inl h)
theorem zw_ro_s {α : Type} (f : Nat → α) (k : Nat) (g : α) : zw_ro f k g k = g := if_pos rfl
theorem zw_ro_n {α : Type} (f : Nat → α) {k a : Nat} (g : α) (h : a ≠ k) : zw_ro f k g a = f a := if_neg h
/-- the address of a numbered cell -/
def zv_ad (V : zv_V) (k : Nat) : Nat := if k = 0 then zv_b V else zv_S V + (k - 1)
def zv_rf (V : zv_V) : Option Nat → Value
  | none => .null
  | some k => .ref (zv_ad V k)
def zv_cv (V : zv_V) : Value → Value
  | .ref k => .ref (zv_ad V k)
  | v => v
def zv_lp (V : zv_V) (q : Nat × Value) : Nat × Value := (q.1, zv_cv V q.2)
theorem zv_cat (V : zv_V) (v : Value) : (zv_cv V v).category = v.category := by cases v <;> rfl
theorem zv_ad_1 (V : zv_V) {k : Nat} (h : 1 ≤ k) : zv_ad V k = zv_S V + (k - 1) := if_neg (by omega)
theorem zv_ad_ne (V : zv_V) {k j : Nat} (hk : 1 ≤ k) (hj : 1 ≤ j) (h : k ≠ j) : zv_ad V k ≠ zv_ad V j := by
  rw [zv_ad_1 V hk, zv_ad_1 V hj]
  omega
def zw_cell (V : zv_V) (t : Nat × Nat) (r : Nat → Option Nat) (i : Nat → Int32) (lo : Nat → Int64) (a : Nat) (H : Heap) : Prop :=
  if t.1 < 5 then t.2 = zc_nf t.1 ∧ t_OB a (zv_C V t.1) t.2 (zv_I V t.1) H (fun j => if zc_rf t.1 j = true then zv_rf V (r j) else .int (i j))
  else if t.1 = 10 then H[a]? = some (arrV (zv_A V 0) t.2 (fun j => .int (i j)))
  else if t.1 = 11 then H[a]? = some (arrV (zv_A V 1) t.2 (fun j => .int (i j)))
  else if t.1 = 12 then H[a]? = some (arrV (zv_A V 2) t.2 (fun j => .long (lo j)))
  else if t.1 = 13 then H[a]? = some (arrV (zv_A V 3) t.2 (fun j => zv_rf V (r j)))
  else True
theorem zw_cell_kept {V : zv_V} {t : Nat × Nat} {r : Nat → Option Nat} {i : Nat → Int32} {lo : Nat → Int64} {a : Nat} {H H1 : Heap} (h : zw_cell V t r i lo a H) (e : H1[a]? = H[a]?) : zw_cell V t r i lo a H1 := by
  unfold zw_cell at h ⊢
  split
  · rename_i h5
    rw [if_pos h5] at h
    exact ⟨h.1, h.2.kept e⟩
  · rename_i h5
    rw [if_neg h5] at h
    rw [e]
    exact h
def zw_P (V : zv_V) (w : zw_W) (H : Heap) : Prop := H.size + 1 = zv_S V + w.1 ∧ (∀ q, q < zv_S V → H[q]? = (zv_s V).heap[q]?) ∧ ∀ k, 1 ≤ k → k < w.1 → zw_cell V (zw_t w k) (zw_r w k) (zw_i w k) (zw_l w k) (zv_ad V k) H
/-- what the law's start gives -/
def zv_OK (V : zv_V) : Prop :=
  (zv_l V).stackTraces = false ∧ (∀ w ∈ lw_tbl, w.before #[.ref (zv_b V)] (zv_s V) = true) ∧ va_X (zv_b V) (zv_L V) (zv_x V) (zv_s V) (zv_s V).heap ∧ zv_b V < zv_S V ∧
  (∀ (k : Nat) (q : vw_C), zc_cl[k]? = some q → u_Kn (zv_s V) q.1 q.2.1 q.2.2 (zv_C V k) (zv_I V k)) ∧
  (ArrOfT (zv_s V) (zv_A V 0) .int ∧ (zv_s V).vm.findClass "[I" = some (zv_A V 0)) ∧ (ArrOfT (zv_s V) (zv_A V 1) .boolean ∧ (zv_s V).vm.findClass "[Z" = some (zv_A V 1)) ∧ (ArrOfT (zv_s V) (zv_A V 2) .long ∧ (zv_s V).vm.findClass "[J" = some (zv_A V 2)) ∧ (ArrOfT (zv_s V) (zv_A V 3) (.array .int) ∧ (zv_s V).vm.findClass "[[I" = some (zv_A V 3)) ∧
  vx_Zq Bundle.tN "UNASSIGNED_STACK" Bundle.steD (fun q => zv_S V ≤ q) (zv_s V) (zv_s V).heap ∧ vx_Zq Bundle.tN "SUPPRESSED_SENTINEL" Bundle.listD (fun q => zv_S V ≤ q) (zv_s V) (zv_s V).heap ∧
  (∀ q ∈ zc_tx, ∃ sa, vk_R "FlipPages" q.1 q.2 sa (zv_s V)) ∧ va_Nc (zc_ex 21) (zc_ex 20) (zv_s V)
/-- a method: its class, code, locals, what it returns, its handlers -/
abbrev zg_M : Type := String × ByteArray × Nat × Option FieldType × List (Nat × Nat × Nat × Nat)
/-- how a method ends: with a value, or with an exception of a kind -/
abbrev zg_O : Type := Option Value ⊕ Nat
def zg_oc (V : zv_V) (t : State) (o : Outcome) : zg_O → Prop
  | .inl v => o = .returned (v.map (zv_cv V))
  | .inr k => ∃ (kx : Nat) (ce : Cell), o = .threw (zv_ad V kx) ∧ t.heap[zv_ad V kx]? = some ce ∧ ce.vm = .none ∧ (zv_s V).vm.findClass (zc_ex k) = some ce.cls
/-- what is so when a method that began at s with n0 cells, u0 slots has ended -/
def zg_F (V : zv_V) (s : State) (n0 u0 : Nat) (Q : zg_O → zw_W → Prop) (o : Outcome) (t : State) : Prop :=
  ∃ (o' : zg_O) (w : zw_W) (L : List Loc), zg_oc V t o o' ∧ zw_P V w t.heap ∧ Q o' w ∧ n0 ≤ w.1 ∧ u0 ≤ w.2.1 ∧ s.WarmedH t.vm ∧ s.sameButNew ({ t with vm := s.vm } : State) L (w.1 - n0) (w.2.1 - u0) ∧ ∀ q ∈ L, zv_S V ≤ q.base
def zg_E (V : zv_V) (below : List Frame) (s : State) (n0 u0 : Nat) (Q : zg_O → zw_W → Prop) : State → Prop := fun t =>
  ∃ o : Outcome, t.status = .running ∧ Ended t below o ∧ zg_F V s n0 u0 Q o t
def zg_X (V : zv_V) (M : zg_M) (p : Program) (s : State) (m : MethodId) (meth : Method) (c : Code) : Prop :=
  p.tables.exec = Jvm.exec ∧ c.code = M.2.1 ∧ meth.sig.returnType = M.2.2.2.1 ∧ c.maxLocals = M.2.2.1 ∧ s.vm.findClass M.1 = some m.cls ∧ meth.locks = false ∧ c.exceptionTable.toList = tableOf M.2.2.2.2 ∧ (zv_s V).WarmedH s.vm ∧ (∀ q, q < zv_S V → s.heap[q]? = (zv_s V).heap[q]?) ∧ zv_S V ≤ s.heap.size
def zg_K (V : zv_V) (M : zg_M) (fr lc n0 u0 : Nat) (lv : List (Nat × Value)) (w : zw_W) (p : Program) (R : Room) (s : State) (m : MethodId) (meth : Method) (c : Code) (H : Heap) (locs : List Loc) (cells slots : Nat) (ls : Array Slot) : Prop :=
  zg_X V M p s m meth c ∧ (fr ≤ R.frames ∧ lc ≤ R.locals ∧ zc_cn ≤ n0 + R.cells ∧ zc_cs ≤ u0 + R.slots) ∧ n0 + cells = w.1 ∧ u0 + slots = w.2.1 ∧ zw_P V w H ∧ ((∀ q ∈ locs, zv_S V ≤ q.base) ∧ s.heap.size + 1 = zv_S V + n0) ∧ lv_has ls M.2.2.1 (lv.map (zv_lp V))
/-- at pc, with the operand stack st, the locals lv, the world w, the method ends with Q -/
def zg_G (V : zv_V) (M : zg_M) (fr lc n0 u0 : Nat) (pc : Nat) (st : List Value) (lv : List (Nat × Value)) (w : zw_W) (Q : zg_O → zw_W → Prop) : Prop :=
  ∀ (p : Program) (e : Env) (R : Room) (s : State) (m : MethodId) (args : Array Value) (below : List Frame) (meth : Method) (c : Code) (H : Heap) (locs : List Loc) (cells slots : Nat) (ls : Array Slot),
    zg_K V M fr lc n0 u0 lv w p R s m meth c H locs cells slots ls → W p (zv_l V) e R s m args below meth c H locs cells slots (zg_E V below s n0 u0 Q) (F0 m pc ls (st.map (zv_cv V)))
/-- .. with an exception of the kind k over the frame -/
def zg_T (V : zv_V) (M : zg_M) (fr lc n0 u0 : Nat) (pc : Nat) (k : Nat) (lv : List (Nat × Value)) (w : zw_W) (Q : zg_O → zw_W → Prop) : Prop :=
  ∀ (p : Program) (e : Env) (R : Room) (s : State) (m : MethodId) (args : Array Value) (below : List Frame) (meth : Method) (c : Code) (H : Heap) (locs : List Loc) (cells slots : Nat) (ls : Array Slot) (rest : List Value) (kx : Nat) (ce : Cell),
    zg_K V M fr lc n0 u0 lv w p R s m meth c H locs cells slots ls → H[zv_ad V kx]? = some ce → ce.vm = .none → s.vm.findClass (zc_ex k) = some ce.cls → vx_W p (zv_l V) e R s m args below meth c H locs cells slots (zg_E V below s n0 u0 Q) (F0 m pc ls rest) (zv_ad V kx)
/-- a local variable by its number -/
def zg_lk : List (Nat × Value) → Nat → Option Value
  | [], _ => none
  | q :: l, i => if q.1 = i then some q.2 else zg_lk l i
theorem zg_lk_in {i : Nat} {v : Value} : ∀ {l : List (Nat × Value)}, zg_lk l i = some v → (i, v) ∈ l
  | [], h => by cases h
  | q :: l, h => by
    unfold zg_lk at h
    split at h
    · rename_i e
      cases h
      rw [← e]
      exact List.mem_cons_self
    · exact List.mem_cons_of_mem _ (zg_lk_in h)
theorem zg_lk_at {V : zv_V} {ls : Array Slot} {nL i : Nat} {lv : List (Nat × Value)} {v : Value} (h : lv_has ls nL (lv.map (zv_lp V))) (hk : zg_lk lv i = some v) : ls[i]? = some (.val (zv_cv V v)) :=
  h.2.2 (i, zv_cv V v) (List.mem_map.mpr ⟨(i, v), zg_lk_in hk, rfl⟩)
def zg_s1 (lv : List (Nat × Value)) (i : Nat) (v : Value) : List (Nat × Value) := (i, v) :: lv.filter (fun q => !(q.1 == i) && !(q.1 + 1 == i && q.2.category == 2))
def zg_s2 (lv : List (Nat × Value)) (i : Nat) (v : Value) : List (Nat × Value) := (i, v) :: lv.filter (fun q => !(q.1 == i) && (!(q.1 == i + 1) && !(q.1 + 1 == i && q.2.category == 2)))
theorem zg_s1_map (V : zv_V) (lv : List (Nat × Value)) (i : Nat) (v : Value) : (i, zv_cv V v) :: (lv.map (zv_lp V)).filter (fun q => !(q.1 == i) && !(q.1 + 1 == i && q.2.category == 2)) = (zg_s1 lv i v).map (zv_lp V) := by
  unfold zg_s1
  rw [List.map_cons, List.filter_map]
  refine congrArg _ (congrArg _ (List.filter_congr fun q _ => ?_))
  show _ = _
  simp [zv_lp, zv_cat]
theorem zg_s2_map (V : zv_V) (lv : List (Nat × Value)) (i : Nat) (v : Value) : (i, zv_cv V v) :: (lv.map (zv_lp V)).filter (fun q => !(q.1 == i) && (!(q.1 == i + 1) && !(q.1 + 1 == i && q.2.category == 2))) = (zg_s2 lv i v).map (zv_lp V) := by
  unfold zg_s2
  rw [List.map_cons, List.filter_map]
  refine congrArg _ (congrArg _ (List.filter_congr fun q _ => ?_))
  show _ = _
  simp [zv_lp, zv_cat]
section ZGR
variable {V : zv_V} {M : zg_M} {fr lc n0 u0 pc : Nat} {st : List Value} {lv : List (Nat × Value)} {w : zw_W} {Q : zg_O → zw_W → Prop}
theorem zg_iconst {n : Int} {v : Int32} (hd : decode M.2.1 pc = .ok (.iconst n, 1)) (hv : Int32.ofInt n = v) (k : zg_G V M fr lc n0 u0 (pc + 1) (.int v :: st) lv w Q) : zg_G V M fr lc n0 u0 pc (st) lv w Q := fun p e R s m args below meth c H locs cells slots ls K => lv_iconst K.1.1 K.1.2.1 hd hv (k p e R s m args below meth c H locs cells slots ls K)
theorem zg_bipush {n : Int} {v : Int32} (hd : decode M.2.1 pc = .ok (.bipush n, 2)) (hv : (Int8.ofInt n).toInt32 = v) (k : zg_G V M fr lc n0 u0 (pc + 2) (.int v :: st) lv w Q) : zg_G V M fr lc n0 u0 pc (st) lv w Q := fun p e R s m args below meth c H locs cells slots ls K => lv_bipush K.1.1 K.1.2.1 hd hv (k p e R s m args below meth c H locs cells slots ls K)
theorem zg_sipush {n : Int} {v : Int32} (hd : decode M.2.1 pc = .ok (.sipush n, 3)) (hv : (Int16.ofInt n).toInt32 = v) (k : zg_G V M fr lc n0 u0 (pc + 3) (.int v :: st) lv w Q) : zg_G V M fr lc n0 u0 pc (st) lv w Q := fun p e R s m args below meth c H locs cells slots ls K => lv_sipush K.1.1 K.1.2.1 hd hv (k p e R s m args below meth c H locs cells slots ls K)
theorem zg_lconst {n : Fin 2} {v : Int64} (hd : decode M.2.1 pc = .ok (.lconst n, 1)) (hv : Int64.ofNat (n : Nat) = v) (k : zg_G V M fr lc n0 u0 (pc + 1) (.long v :: st) lv w Q) : zg_G V M fr lc n0 u0 pc (st) lv w Q := fun p e R s m args below meth c H locs cells slots ls K => lv_lconst K.1.1 K.1.2.1 hd hv (k p e R s m args below meth c H locs cells slots ls K)
theorem zg_iload_n {j : Fin 4} {x : Int32} (hd : decode M.2.1 pc = .ok (.iload_n j, 1)) (hl : zg_lk lv j = some (.int x)) (k : zg_G V M fr lc n0 u0 (pc + 1) (.int x :: st) lv w Q) : zg_G V M fr lc n0 u0 pc (st) lv w Q := fun p e R s m args below meth c H locs cells slots ls K => lv_iload_n K.1.1 K.1.2.1 hd rfl (zg_lk_at K.2.2.2.2.2.2 hl) (k p e R s m args below meth c H locs cells slots ls K)
theorem zg_iload {j : Nat} {x : Int32} (hd : decode M.2.1 pc = .ok (.iload j, 2)) (hl : zg_lk lv j = some (.int x)) (k : zg_G V M fr lc n0 u0 (pc + 2) (.int x :: st) lv w Q) : zg_G V M fr lc n0 u0 pc (st) lv w Q := fun p e R s m args below meth c H locs cells slots ls K => lv_iload K.1.1 K.1.2.1 hd (zg_lk_at K.2.2.2.2.2.2 hl) (k p e R s m args below meth c H locs cells slots ls K)
theorem zg_lload_n {j : Fin 4} {x : Int64} (hd : decode M.2.1 pc = .ok (.lload_n j, 1)) (hl : zg_lk lv j = some (.long x)) (k : zg_G V M fr lc n0 u0 (pc + 1) (.long x :: st) lv w Q) : zg_G V M fr lc n0 u0 pc (st) lv w Q := fun p e R s m args below meth c H locs cells slots ls K => lv_lload_n K.1.1 K.1.2.1 hd rfl (zg_lk_at K.2.2.2.2.2.2 hl) (k p e R s m args below meth c H locs cells slots ls K)
theorem zg_lload {j : Nat} {x : Int64} (hd : decode M.2.1 pc = .ok (.lload j, 2)) (hl : zg_lk lv j = some (.long x)) (k : zg_G V M fr lc n0 u0 (pc + 2) (.long x :: st) lv w Q) : zg_G V M fr lc n0 u0 pc (st) lv w Q := fun p e R s m args below meth c H locs cells slots ls K => lv_lload K.1.1 K.1.2.1 hd (zg_lk_at K.2.2.2.2.2.2 hl) (k p e R s m args below meth c H locs cells slots ls K)
theorem zg_aload_n {j : Fin 4} {x : Nat} (hd : decode M.2.1 pc = .ok (.aload_n j, 1)) (hl : zg_lk lv j = some (.ref x)) (k : zg_G V M fr lc n0 u0 (pc + 1) (.ref x :: st) lv w Q) : zg_G V M fr lc n0 u0 pc (st) lv w Q := fun p e R s m args below meth c H locs cells slots ls K => lv_aload_n K.1.1 K.1.2.1 hd rfl (zg_lk_at K.2.2.2.2.2.2 hl) (k p e R s m args below meth c H locs cells slots ls K)
theorem zg_aload {j : Nat} {x : Nat} (hd : decode M.2.1 pc = .ok (.aload j, 2)) (hl : zg_lk lv j = some (.ref x)) (k : zg_G V M fr lc n0 u0 (pc + 2) (.ref x :: st) lv w Q) : zg_G V M fr lc n0 u0 pc (st) lv w Q := fun p e R s m args below meth c H locs cells slots ls K => lv_aload K.1.1 K.1.2.1 hd (zg_lk_at K.2.2.2.2.2.2 hl) (k p e R s m args below meth c H locs cells slots ls K)
theorem zg_istore_n {j : Fin 4} {x : Int32} {lv' : List (Nat × Value)} (hd : decode M.2.1 pc = .ok (.istore_n j, 1)) (hn : (j : Nat) < M.2.2.1) (hl : zg_s1 lv (j : Nat) (.int x) = lv') (k : zg_G V M fr lc n0 u0 (pc + 1) st lv' w Q) : zg_G V M fr lc n0 u0 pc (.int x :: st) lv w Q := by
  subst hl
  exact fun p e R s m args below meth c H locs cells slots ls K => lv_istore_n K.1.1 K.1.2.1 hd rfl K.2.2.2.2.2.2 hn (zg_s1_map V lv _ (.int x)) (fun ls' h => k p e R s m args below meth c H locs cells slots ls' ⟨K.1, K.2.1, K.2.2.1, K.2.2.2.1, K.2.2.2.2.1, K.2.2.2.2.2.1, h⟩)
theorem zg_istore {j : Nat} {x : Int32} {lv' : List (Nat × Value)} (hd : decode M.2.1 pc = .ok (.istore j, 2)) (hn : (j : Nat) < M.2.2.1) (hl : zg_s1 lv j (.int x) = lv') (k : zg_G V M fr lc n0 u0 (pc + 2) st lv' w Q) : zg_G V M fr lc n0 u0 pc (.int x :: st) lv w Q := by
  subst hl
  exact fun p e R s m args below meth c H locs cells slots ls K => lv_istore K.1.1 K.1.2.1 hd K.2.2.2.2.2.2 hn (zg_s1_map V lv _ (.int x)) (fun ls' h => k p e R s m args below meth c H locs cells slots ls' ⟨K.1, K.2.1, K.2.2.1, K.2.2.2.1, K.2.2.2.2.1, K.2.2.2.2.2.1, h⟩)
theorem zg_lstore_n {j : Fin 4} {x : Int64} {lv' : List (Nat × Value)} (hd : decode M.2.1 pc = .ok (.lstore_n j, 1)) (hn : (j : Nat) + 1 < M.2.2.1) (hl : zg_s2 lv (j : Nat) (.long x) = lv') (k : zg_G V M fr lc n0 u0 (pc + 1) st lv' w Q) : zg_G V M fr lc n0 u0 pc (.long x :: st) lv w Q := by
  subst hl
  exact fun p e R s m args below meth c H locs cells slots ls K => lv_lstore_n K.1.1 K.1.2.1 hd rfl K.2.2.2.2.2.2 hn (zg_s2_map V lv _ (.long x)) (fun ls' h => k p e R s m args below meth c H locs cells slots ls' ⟨K.1, K.2.1, K.2.2.1, K.2.2.2.1, K.2.2.2.2.1, K.2.2.2.2.2.1, h⟩)
theorem zg_lstore {j : Nat} {x : Int64} {lv' : List (Nat × Value)} (hd : decode M.2.1 pc = .ok (.lstore j, 2)) (hn : (j : Nat) + 1 < M.2.2.1) (hl : zg_s2 lv j (.long x) = lv') (k : zg_G V M fr lc n0 u0 (pc + 2) st lv' w Q) : zg_G V M fr lc n0 u0 pc (.long x :: st) lv w Q := by
  subst hl
  exact fun p e R s m args below meth c H locs cells slots ls K => lv_lstore K.1.1 K.1.2.1 hd K.2.2.2.2.2.2 hn (zg_s2_map V lv _ (.long x)) (fun ls' h => k p e R s m args below meth c H locs cells slots ls' ⟨K.1, K.2.1, K.2.2.1, K.2.2.2.1, K.2.2.2.2.1, K.2.2.2.2.2.1, h⟩)
theorem zg_astore_n {j : Fin 4} {x : Nat} {lv' : List (Nat × Value)} (hd : decode M.2.1 pc = .ok (.astore_n j, 1)) (hn : (j : Nat) < M.2.2.1) (hl : zg_s1 lv (j : Nat) (.ref x) = lv') (k : zg_G V M fr lc n0 u0 (pc + 1) st lv' w Q) : zg_G V M fr lc n0 u0 pc (.ref x :: st) lv w Q := by
  subst hl
  exact fun p e R s m args below meth c H locs cells slots ls K => lv_astore_n K.1.1 K.1.2.1 hd rfl K.2.2.2.2.2.2 hn (zg_s1_map V lv _ (.ref x)) (fun ls' h => k p e R s m args below meth c H locs cells slots ls' ⟨K.1, K.2.1, K.2.2.1, K.2.2.2.1, K.2.2.2.2.1, K.2.2.2.2.2.1, h⟩)
theorem zg_astore {j : Nat} {x : Nat} {lv' : List (Nat × Value)} (hd : decode M.2.1 pc = .ok (.astore j, 2)) (hn : (j : Nat) < M.2.2.1) (hl : zg_s1 lv j (.ref x) = lv') (k : zg_G V M fr lc n0 u0 (pc + 2) st lv' w Q) : zg_G V M fr lc n0 u0 pc (.ref x :: st) lv w Q := by
  subst hl
  exact fun p e R s m args below meth c H locs cells slots ls K => lv_astore K.1.1 K.1.2.1 hd K.2.2.2.2.2.2 hn (zg_s1_map V lv _ (.ref x)) (fun ls' h => k p e R s m args below meth c H locs cells slots ls' ⟨K.1, K.2.1, K.2.2.1, K.2.2.2.1, K.2.2.2.2.1, K.2.2.2.2.2.1, h⟩)
theorem zg_iinc {j : Nat} {n : Int} {x v : Int32} {lv' : List (Nat × Value)} (hd : decode M.2.1 pc = .ok (.iinc j n, 3)) (hk : zg_lk lv j = some (.int x)) (hv : x + Int32.ofInt n = v) (hn : j < M.2.2.1) (hl : zg_s1 lv j (.int v) = lv') (k : zg_G V M fr lc n0 u0 (pc + 3) st lv' w Q) : zg_G V M fr lc n0 u0 pc st lv w Q := by
  subst hl
  intro p e R s m args below meth c H locs cells slots ls K
  obtain ⟨i, hi⟩ := List.getElem?_of_mem (List.mem_map.mpr ⟨(j, .int x), zg_lk_in hk, rfl⟩ : (j, Value.int x) ∈ lv.map (zv_lp V))
  exact lv_iinc K.1.1 K.1.2.1 hd K.2.2.2.2.2.2 hi hv hn (zg_s1_map V lv _ (.int v)) (fun ls' h => k p e R s m args below meth c H locs cells slots ls' ⟨K.1, K.2.1, K.2.2.1, K.2.2.2.1, K.2.2.2.2.1, K.2.2.2.2.2.1, h⟩)
theorem zg_iadd {x y : Int32} (hd : decode M.2.1 pc = .ok (.iadd, 1)) (k : zg_G V M fr lc n0 u0 (pc + 1) (.int (x + y) :: st) lv w Q) : zg_G V M fr lc n0 u0 pc (.int y :: .int x :: st) lv w Q := fun p e R s m args below meth c H locs cells slots ls K => lv_iadd K.1.1 K.1.2.1 hd (k p e R s m args below meth c H locs cells slots ls K)
theorem zg_isub {x y : Int32} (hd : decode M.2.1 pc = .ok (.isub, 1)) (k : zg_G V M fr lc n0 u0 (pc + 1) (.int (x - y) :: st) lv w Q) : zg_G V M fr lc n0 u0 pc (.int y :: .int x :: st) lv w Q := fun p e R s m args below meth c H locs cells slots ls K => lv_isub K.1.1 K.1.2.1 hd (k p e R s m args below meth c H locs cells slots ls K)
theorem zg_imul {x y : Int32} (hd : decode M.2.1 pc = .ok (.imul, 1)) (k : zg_G V M fr lc n0 u0 (pc + 1) (.int (x * y) :: st) lv w Q) : zg_G V M fr lc n0 u0 pc (.int y :: .int x :: st) lv w Q := fun p e R s m args below meth c H locs cells slots ls K => lv_imul K.1.1 K.1.2.1 hd (k p e R s m args below meth c H locs cells slots ls K)
theorem zg_iand {x y : Int32} (hd : decode M.2.1 pc = .ok (.iand, 1)) (k : zg_G V M fr lc n0 u0 (pc + 1) (.int (x &&& y) :: st) lv w Q) : zg_G V M fr lc n0 u0 pc (.int y :: .int x :: st) lv w Q := fun p e R s m args below meth c H locs cells slots ls K => lv_iand K.1.1 K.1.2.1 hd (k p e R s m args below meth c H locs cells slots ls K)
theorem zg_ior {x y : Int32} (hd : decode M.2.1 pc = .ok (.ior, 1)) (k : zg_G V M fr lc n0 u0 (pc + 1) (.int (x ||| y) :: st) lv w Q) : zg_G V M fr lc n0 u0 pc (.int y :: .int x :: st) lv w Q := fun p e R s m args below meth c H locs cells slots ls K => lv_ior K.1.1 K.1.2.1 hd (k p e R s m args below meth c H locs cells slots ls K)
theorem zg_ixor {x y : Int32} (hd : decode M.2.1 pc = .ok (.ixor, 1)) (k : zg_G V M fr lc n0 u0 (pc + 1) (.int (x ^^^ y) :: st) lv w Q) : zg_G V M fr lc n0 u0 pc (.int y :: .int x :: st) lv w Q := fun p e R s m args below meth c H locs cells slots ls K => lv_ixor K.1.1 K.1.2.1 hd (k p e R s m args below meth c H locs cells slots ls K)
theorem zg_ishl {x y : Int32} (hd : decode M.2.1 pc = .ok (.ishl, 1)) (k : zg_G V M fr lc n0 u0 (pc + 1) (.int (x <<< (y &&& 31)) :: st) lv w Q) : zg_G V M fr lc n0 u0 pc (.int y :: .int x :: st) lv w Q := fun p e R s m args below meth c H locs cells slots ls K => lv_ishl K.1.1 K.1.2.1 hd (k p e R s m args below meth c H locs cells slots ls K)
theorem zg_ishr {x y : Int32} (hd : decode M.2.1 pc = .ok (.ishr, 1)) (k : zg_G V M fr lc n0 u0 (pc + 1) (.int (x >>> (y &&& 31)) :: st) lv w Q) : zg_G V M fr lc n0 u0 pc (.int y :: .int x :: st) lv w Q := fun p e R s m args below meth c H locs cells slots ls K => lv_ishr K.1.1 K.1.2.1 hd (k p e R s m args below meth c H locs cells slots ls K)
theorem zg_irem {x y : Int32} (hd : decode M.2.1 pc = .ok (.irem, 1)) (hne : ¬ y = 0) (k : zg_G V M fr lc n0 u0 (pc + 1) (.int (x - x / y * y) :: st) lv w Q) : zg_G V M fr lc n0 u0 pc (.int y :: .int x :: st) lv w Q := fun p e R s m args below meth c H locs cells slots ls K => lv_irem K.1.1 K.1.2.1 hd hne (k p e R s m args below meth c H locs cells slots ls K)
theorem zg_iushr {x y : Int32} (hd : decode M.2.1 pc = .ok (.iushr, 1)) (k : zg_G V M fr lc n0 u0 (pc + 1) (.int ((x.toUInt32 >>> (y.toUInt32 &&& Int32.toUInt32 31)).toInt32) :: st) lv w Q) : zg_G V M fr lc n0 u0 pc (.int y :: .int x :: st) lv w Q := fun p e R s m args below meth c H locs cells slots ls K => lv_iushr K.1.1 K.1.2.1 hd rfl (k p e R s m args below meth c H locs cells slots ls K)
theorem zg_ladd {x y : Int64} (hd : decode M.2.1 pc = .ok (.ladd, 1)) (k : zg_G V M fr lc n0 u0 (pc + 1) (.long (x + y) :: st) lv w Q) : zg_G V M fr lc n0 u0 pc (.long y :: .long x :: st) lv w Q := fun p e R s m args below meth c H locs cells slots ls K => lv_ladd K.1.1 K.1.2.1 hd (k p e R s m args below meth c H locs cells slots ls K)
theorem zg_lsub {x y : Int64} (hd : decode M.2.1 pc = .ok (.lsub, 1)) (k : zg_G V M fr lc n0 u0 (pc + 1) (.long (x - y) :: st) lv w Q) : zg_G V M fr lc n0 u0 pc (.long y :: .long x :: st) lv w Q := fun p e R s m args below meth c H locs cells slots ls K => lv_lsub K.1.1 K.1.2.1 hd (k p e R s m args below meth c H locs cells slots ls K)
theorem zg_lmul {x y : Int64} (hd : decode M.2.1 pc = .ok (.lmul, 1)) (k : zg_G V M fr lc n0 u0 (pc + 1) (.long (x * y) :: st) lv w Q) : zg_G V M fr lc n0 u0 pc (.long y :: .long x :: st) lv w Q := fun p e R s m args below meth c H locs cells slots ls K => lv_lmul K.1.1 K.1.2.1 hd (k p e R s m args below meth c H locs cells slots ls K)
theorem zg_land {x y : Int64} (hd : decode M.2.1 pc = .ok (.land, 1)) (k : zg_G V M fr lc n0 u0 (pc + 1) (.long (x &&& y) :: st) lv w Q) : zg_G V M fr lc n0 u0 pc (.long y :: .long x :: st) lv w Q := fun p e R s m args below meth c H locs cells slots ls K => lv_land K.1.1 K.1.2.1 hd (k p e R s m args below meth c H locs cells slots ls K)
theorem zg_lor {x y : Int64} (hd : decode M.2.1 pc = .ok (.lor, 1)) (k : zg_G V M fr lc n0 u0 (pc + 1) (.long (x ||| y) :: st) lv w Q) : zg_G V M fr lc n0 u0 pc (.long y :: .long x :: st) lv w Q := fun p e R s m args below meth c H locs cells slots ls K => lv_lor K.1.1 K.1.2.1 hd (k p e R s m args below meth c H locs cells slots ls K)
theorem zg_lxor {x y : Int64} (hd : decode M.2.1 pc = .ok (.lxor, 1)) (k : zg_G V M fr lc n0 u0 (pc + 1) (.long (x ^^^ y) :: st) lv w Q) : zg_G V M fr lc n0 u0 pc (.long y :: .long x :: st) lv w Q := fun p e R s m args below meth c H locs cells slots ls K => lv_lxor K.1.1 K.1.2.1 hd (k p e R s m args below meth c H locs cells slots ls K)
theorem zg_lcmp {x y : Int64} (hd : decode M.2.1 pc = .ok (.lcmp, 1)) (k : zg_G V M fr lc n0 u0 (pc + 1) (.int (lg_cmp x y) :: st) lv w Q) : zg_G V M fr lc n0 u0 pc (.long y :: .long x :: st) lv w Q := fun p e R s m args below meth c H locs cells slots ls K => W.lcmp K.1.1 K.1.2.1 hd (k p e R s m args below meth c H locs cells slots ls K)
theorem zg_lushr {x : Int64} {y : Int32} (hd : decode M.2.1 pc = .ok (.lushr, 1)) (k : zg_G V M fr lc n0 u0 (pc + 1) (.long ((x.toUInt64 >>> (y.toInt64.toUInt64 &&& Int64.toUInt64 63)).toInt64) :: st) lv w Q) : zg_G V M fr lc n0 u0 pc (.int y :: .long x :: st) lv w Q := fun p e R s m args below meth c H locs cells slots ls K => lv_lushr K.1.1 K.1.2.1 hd rfl (k p e R s m args below meth c H locs cells slots ls K)
theorem zg_lshl {x : Int64} {y : Int32} (hd : decode M.2.1 pc = .ok (.lshl, 1)) (k : zg_G V M fr lc n0 u0 (pc + 1) (.long (x <<< (y.toInt64 &&& 63)) :: st) lv w Q) : zg_G V M fr lc n0 u0 pc (.int y :: .long x :: st) lv w Q := fun p e R s m args below meth c H locs cells slots ls K => lv_lshl K.1.1 K.1.2.1 hd rfl (k p e R s m args below meth c H locs cells slots ls K)
theorem zg_lshr {x : Int64} {y : Int32} (hd : decode M.2.1 pc = .ok (.lshr, 1)) (k : zg_G V M fr lc n0 u0 (pc + 1) (.long (x >>> (y.toInt64 &&& 63)) :: st) lv w Q) : zg_G V M fr lc n0 u0 pc (.int y :: .long x :: st) lv w Q := fun p e R s m args below meth c H locs cells slots ls K => lv_lshr K.1.1 K.1.2.1 hd rfl (k p e R s m args below meth c H locs cells slots ls K)
theorem zg_i2l {x : Int32} (hd : decode M.2.1 pc = .ok (.i2l, 1)) (k : zg_G V M fr lc n0 u0 (pc + 1) (.long x.toInt64 :: st) lv w Q) : zg_G V M fr lc n0 u0 pc (.int x :: st) lv w Q := fun p e R s m args below meth c H locs cells slots ls K => lv_i2l K.1.1 K.1.2.1 hd rfl (k p e R s m args below meth c H locs cells slots ls K)
theorem zg_l2i {x : Int64} (hd : decode M.2.1 pc = .ok (.l2i, 1)) (k : zg_G V M fr lc n0 u0 (pc + 1) (.int x.toInt32 :: st) lv w Q) : zg_G V M fr lc n0 u0 pc (.long x :: st) lv w Q := fun p e R s m args below meth c H locs cells slots ls K => lv_l2i K.1.1 K.1.2.1 hd rfl (k p e R s m args below meth c H locs cells slots ls K)
theorem zg_dup {v : Value} (hd : decode M.2.1 pc = .ok (.dup, 1)) (hv : v.category = 1) (k : zg_G V M fr lc n0 u0 (pc + 1) (v :: v :: st) lv w Q) : zg_G V M fr lc n0 u0 pc (v :: st) lv w Q := fun p e R s m args below meth c H locs cells slots ls K => lv_dup K.1.1 K.1.2.1 hd (by rw [zv_cat]; exact hv) (k p e R s m args below meth c H locs cells slots ls K)
theorem zg_pop {v : Value} (hd : decode M.2.1 pc = .ok (.pop, 1)) (hv : v.category = 1) (k : zg_G V M fr lc n0 u0 (pc + 1) (st) lv w Q) : zg_G V M fr lc n0 u0 pc (v :: st) lv w Q := fun p e R s m args below meth c H locs cells slots ls K => lv_pop K.1.1 K.1.2.1 hd (by rw [zv_cat]; exact hv) (k p e R s m args below meth c H locs cells slots ls K)
theorem zg_if_eq {x : Int32} {off : Int} {tgt : Nat} (hd : decode M.2.1 pc = .ok (.ifCond .eq off, 3)) (ht : (pc : Int) + off = (tgt : Int)) (kt : x = 0 → zg_G V M fr lc n0 u0 tgt st lv w Q) (kf : ¬ (x = 0) → zg_G V M fr lc n0 u0 (pc + 3) st lv w Q) : zg_G V M fr lc n0 u0 pc (.int x :: st) lv w Q := fun p e R s m args below meth c H locs cells slots ls K => lv_if_eq K.1.1 K.1.2.1 hd ht (fun h => kt h p e R s m args below meth c H locs cells slots ls K) (fun h => kf h p e R s m args below meth c H locs cells slots ls K)
theorem zg_icmp_eq {x y : Int32} {off : Int} {tgt : Nat} (hd : decode M.2.1 pc = .ok (.if_icmp .eq off, 3)) (ht : (pc : Int) + off = (tgt : Int)) (kt : x = y → zg_G V M fr lc n0 u0 tgt st lv w Q) (kf : ¬ (x = y) → zg_G V M fr lc n0 u0 (pc + 3) st lv w Q) : zg_G V M fr lc n0 u0 pc (.int y :: .int x :: st) lv w Q := fun p e R s m args below meth c H locs cells slots ls K => lv_icmp_eq K.1.1 K.1.2.1 hd ht (fun h => kt h p e R s m args below meth c H locs cells slots ls K) (fun h => kf h p e R s m args below meth c H locs cells slots ls K)
theorem zg_if_ne {x : Int32} {off : Int} {tgt : Nat} (hd : decode M.2.1 pc = .ok (.ifCond .ne off, 3)) (ht : (pc : Int) + off = (tgt : Int)) (kt : ¬ x = 0 → zg_G V M fr lc n0 u0 tgt st lv w Q) (kf : x = 0 → zg_G V M fr lc n0 u0 (pc + 3) st lv w Q) : zg_G V M fr lc n0 u0 pc (.int x :: st) lv w Q := fun p e R s m args below meth c H locs cells slots ls K => lv_if_ne K.1.1 K.1.2.1 hd ht (fun h => kt h p e R s m args below meth c H locs cells slots ls K) (fun h => kf h p e R s m args below meth c H locs cells slots ls K)
theorem zg_icmp_ne {x y : Int32} {off : Int} {tgt : Nat} (hd : decode M.2.1 pc = .ok (.if_icmp .ne off, 3)) (ht : (pc : Int) + off = (tgt : Int)) (kt : ¬ x = y → zg_G V M fr lc n0 u0 tgt st lv w Q) (kf : x = y → zg_G V M fr lc n0 u0 (pc + 3) st lv w Q) : zg_G V M fr lc n0 u0 pc (.int y :: .int x :: st) lv w Q := fun p e R s m args below meth c H locs cells slots ls K => lv_icmp_ne K.1.1 K.1.2.1 hd ht (fun h => kt h p e R s m args below meth c H locs cells slots ls K) (fun h => kf h p e R s m args below meth c H locs cells slots ls K)
theorem zg_if_lt {x : Int32} {off : Int} {tgt : Nat} (hd : decode M.2.1 pc = .ok (.ifCond .lt off, 3)) (ht : (pc : Int) + off = (tgt : Int)) (kt : x < 0 → zg_G V M fr lc n0 u0 tgt st lv w Q) (kf : ¬ (x < 0) → zg_G V M fr lc n0 u0 (pc + 3) st lv w Q) : zg_G V M fr lc n0 u0 pc (.int x :: st) lv w Q := fun p e R s m args below meth c H locs cells slots ls K => lv_if_lt K.1.1 K.1.2.1 hd ht (fun h => kt h p e R s m args below meth c H locs cells slots ls K) (fun h => kf h p e R s m args below meth c H locs cells slots ls K)
theorem zg_icmp_lt {x y : Int32} {off : Int} {tgt : Nat} (hd : decode M.2.1 pc = .ok (.if_icmp .lt off, 3)) (ht : (pc : Int) + off = (tgt : Int)) (kt : x < y → zg_G V M fr lc n0 u0 tgt st lv w Q) (kf : ¬ (x < y) → zg_G V M fr lc n0 u0 (pc + 3) st lv w Q) : zg_G V M fr lc n0 u0 pc (.int y :: .int x :: st) lv w Q := fun p e R s m args below meth c H locs cells slots ls K => lv_icmp_lt K.1.1 K.1.2.1 hd ht (fun h => kt h p e R s m args below meth c H locs cells slots ls K) (fun h => kf h p e R s m args below meth c H locs cells slots ls K)
theorem zg_if_ge {x : Int32} {off : Int} {tgt : Nat} (hd : decode M.2.1 pc = .ok (.ifCond .ge off, 3)) (ht : (pc : Int) + off = (tgt : Int)) (kt : 0 ≤ x → zg_G V M fr lc n0 u0 tgt st lv w Q) (kf : ¬ (0 ≤ x) → zg_G V M fr lc n0 u0 (pc + 3) st lv w Q) : zg_G V M fr lc n0 u0 pc (.int x :: st) lv w Q := fun p e R s m args below meth c H locs cells slots ls K => lv_if_ge K.1.1 K.1.2.1 hd ht (fun h => kt h p e R s m args below meth c H locs cells slots ls K) (fun h => kf h p e R s m args below meth c H locs cells slots ls K)
theorem zg_icmp_ge {x y : Int32} {off : Int} {tgt : Nat} (hd : decode M.2.1 pc = .ok (.if_icmp .ge off, 3)) (ht : (pc : Int) + off = (tgt : Int)) (kt : y ≤ x → zg_G V M fr lc n0 u0 tgt st lv w Q) (kf : ¬ (y ≤ x) → zg_G V M fr lc n0 u0 (pc + 3) st lv w Q) : zg_G V M fr lc n0 u0 pc (.int y :: .int x :: st) lv w Q := fun p e R s m args below meth c H locs cells slots ls K => lv_icmp_ge K.1.1 K.1.2.1 hd ht (fun h => kt h p e R s m args below meth c H locs cells slots ls K) (fun h => kf h p e R s m args below meth c H locs cells slots ls K)
theorem zg_if_gt {x : Int32} {off : Int} {tgt : Nat} (hd : decode M.2.1 pc = .ok (.ifCond .gt off, 3)) (ht : (pc : Int) + off = (tgt : Int)) (kt : 0 < x → zg_G V M fr lc n0 u0 tgt st lv w Q) (kf : ¬ (0 < x) → zg_G V M fr lc n0 u0 (pc + 3) st lv w Q) : zg_G V M fr lc n0 u0 pc (.int x :: st) lv w Q := fun p e R s m args below meth c H locs cells slots ls K => lv_if_gt K.1.1 K.1.2.1 hd ht (fun h => kt h p e R s m args below meth c H locs cells slots ls K) (fun h => kf h p e R s m args below meth c H locs cells slots ls K)
theorem zg_icmp_gt {x y : Int32} {off : Int} {tgt : Nat} (hd : decode M.2.1 pc = .ok (.if_icmp .gt off, 3)) (ht : (pc : Int) + off = (tgt : Int)) (kt : y < x → zg_G V M fr lc n0 u0 tgt st lv w Q) (kf : ¬ (y < x) → zg_G V M fr lc n0 u0 (pc + 3) st lv w Q) : zg_G V M fr lc n0 u0 pc (.int y :: .int x :: st) lv w Q := fun p e R s m args below meth c H locs cells slots ls K => lv_icmp_gt K.1.1 K.1.2.1 hd ht (fun h => kt h p e R s m args below meth c H locs cells slots ls K) (fun h => kf h p e R s m args below meth c H locs cells slots ls K)
theorem zg_if_le {x : Int32} {off : Int} {tgt : Nat} (hd : decode M.2.1 pc = .ok (.ifCond .le off, 3)) (ht : (pc : Int) + off = (tgt : Int)) (kt : x ≤ 0 → zg_G V M fr lc n0 u0 tgt st lv w Q) (kf : ¬ (x ≤ 0) → zg_G V M fr lc n0 u0 (pc + 3) st lv w Q) : zg_G V M fr lc n0 u0 pc (.int x :: st) lv w Q := fun p e R s m args below meth c H locs cells slots ls K => lv_if_le K.1.1 K.1.2.1 hd ht (fun h => kt h p e R s m args below meth c H locs cells slots ls K) (fun h => kf h p e R s m args below meth c H locs cells slots ls K)
theorem zg_icmp_le {x y : Int32} {off : Int} {tgt : Nat} (hd : decode M.2.1 pc = .ok (.if_icmp .le off, 3)) (ht : (pc : Int) + off = (tgt : Int)) (kt : x ≤ y → zg_G V M fr lc n0 u0 tgt st lv w Q) (kf : ¬ (x ≤ y) → zg_G V M fr lc n0 u0 (pc + 3) st lv w Q) : zg_G V M fr lc n0 u0 pc (.int y :: .int x :: st) lv w Q := fun p e R s m args below meth c H locs cells slots ls K => lv_icmp_le K.1.1 K.1.2.1 hd ht (fun h => kt h p e R s m args below meth c H locs cells slots ls K) (fun h => kf h p e R s m args below meth c H locs cells slots ls K)
theorem zg_goto {off : Int} {tgt : Nat} (hd : decode M.2.1 pc = .ok (.goto off, 3)) (ht : (pc : Int) + off = (tgt : Int)) (k : zg_G V M fr lc n0 u0 tgt st lv w Q) : zg_G V M fr lc n0 u0 pc st lv w Q := fun p e R s m args below meth c H locs cells slots ls K => lv_goto K.1.1 K.1.2.1 hd ht (k p e R s m args below meth c H locs cells slots ls K)
theorem zg_tabIn {dflt lo hi : Int} {offs : Array Int} {len : Nat} {x : Int32} {off : Int} {tgt : Nat} (hd : decode M.2.1 pc = .ok (.tableswitch dflt lo hi offs, len)) (h1 : ¬ x.toInt < lo) (h2 : ¬ hi < x.toInt) (ho : offs[(x.toInt - lo).toNat]? = some off) (ht : (pc : Int) + off = (tgt : Int)) (k : zg_G V M fr lc n0 u0 tgt st lv w Q) : zg_G V M fr lc n0 u0 pc (.int x :: st) lv w Q := fun p e R s m args below meth c H locs cells slots ls K => lv_tableIn K.1.1 K.1.2.1 hd h1 h2 ho ht (k p e R s m args below meth c H locs cells slots ls K)
theorem zg_tabOut {dflt lo hi : Int} {offs : Array Int} {len : Nat} {x : Int32} {tgt : Nat} (hd : decode M.2.1 pc = .ok (.tableswitch dflt lo hi offs, len)) (h : x.toInt < lo ∨ hi < x.toInt) (ht : (pc : Int) + dflt = (tgt : Int)) (k : zg_G V M fr lc n0 u0 tgt st lv w Q) : zg_G V M fr lc n0 u0 pc (.int x :: st) lv w Q := fun p e R s m args below meth c H locs cells slots ls K => lv_tableOut K.1.1 K.1.2.1 hd h ht (k p e R s m args below meth c H locs cells slots ls K)
end ZGR
end
section
/-! The light judgement's rows for the heap. -/
theorem zx_w {V : zv_V} {M : zg_M} {p : Program} {s : State} {m : MethodId} {meth : Method} {c : Code} (E : zv_OK V) (X : zg_X V M p s m meth c) {w : Cond} (h : w ∈ lw_tbl) (hg : goodWord w = true) (args : Array Value) : w.before args s = true :=
  word_at X.2.2.2.2.2.2.2.1 (good_of_word hg) (E.2.1 w h)
theorem zc_lay : ∀ (k : Nat) (q : vw_C), zc_cl[k]? = some q → ∀ w ∈ u_ws q.1 q.2.1 q.2.2, w ∈ lw_tbl ∧ goodWord w = true := by
  intro k q h
  match k, h with
  | 0, h => cases h; decide +kernel
  | 1, h => cases h; decide +kernel
  | 2, h => cases h; decide +kernel
  | 3, h => cases h; decide +kernel
  | 4, h => cases h; decide +kernel
  | k + 5, h => simp [zc_cl] at h
theorem zc_num : ∀ (k : Nat) (q : vw_C), zc_cl[k]? = some q → k < 5 ∧ q.2.2 = zc_nf k := by
  intro k q h
  match k, h with
  | 0, h => cases h; decide
  | 1, h => cases h; decide
  | 2, h => cases h; decide
  | 3, h => cases h; decide
  | 4, h => cases h; decide
  | k + 5, h => simp [zc_cl] at h
/-- the fields' types -/
def zc_ty (k : Nat) : Nat → FieldType := if k = 0 then tyX0 else if k = 1 then tyX1 else if k = 2 then tyX2 else if k = 3 then tyX3 else tyX4
theorem zc_tyok : ∀ (k : Nat) (q : vw_C), zc_cl[k]? = some q → (∀ j, j < q.2.2 → parseFieldDescriptor (q.2.1 j).2.2.1 = some (zc_ty k j)) ∧ (∀ a, a < q.2.2 → ∀ b, b < q.2.2 → a ≠ b → (q.2.1 a).2.1 ≠ (q.2.1 b).2.1) ∧ (∀ j, j < q.2.2 → (q.2.1 j).1 = q.1) := by
  intro k q h
  match k, h with
  | 0, h => cases h; exact ⟨tyX0_ok, nmX0, by decide +kernel⟩
  | 1, h => cases h; exact ⟨tyX1_ok, nmX1, by decide +kernel⟩
  | 2, h => cases h; exact ⟨tyX2_ok, nmX2, by decide +kernel⟩
  | 3, h => cases h; exact ⟨tyX3_ok, nmX3, by decide +kernel⟩
  | 4, h => cases h; exact ⟨tyX4_ok, nmX4, by decide +kernel⟩
  | k + 5, h => simp [zc_cl] at h
theorem zc_dflt : ∀ (k : Nat) (q : vw_C), zc_cl[k]? = some q → ∀ j, j < q.2.2 → defaultValue (zc_ty k j) = if zc_rf k j = true then .null else .int 0 := by
  intro k q h
  match k, h with
  | 0, h => cases h; decide +kernel
  | 1, h => cases h; decide +kernel
  | 2, h => cases h; decide +kernel
  | 3, h => cases h; decide +kernel
  | 4, h => cases h; decide +kernel
  | k + 5, h => simp [zc_cl] at h
/-- a cell changes, the others stay -/
theorem zw_put {V : zv_V} {w w' : zw_W} {H H1 : Heap} {k : Nat} (hP : zw_P V w H) (hn : w'.1 = w.1) (hk : 1 ≤ k) (hz : H1.size = H.size) (ho : ∀ q, q ≠ zv_ad V k → H1[q]? = H[q]?)
    (hr : ∀ a, a ≠ k → zw_t w' a = zw_t w a ∧ zw_r w' a = zw_r w a ∧ zw_i w' a = zw_i w a ∧ zw_l w' a = zw_l w a) (hc : zw_cell V (zw_t w' k) (zw_r w' k) (zw_i w' k) (zw_l w' k) (zv_ad V k) H1) : zw_P V w' H1 := by
  refine ⟨by rw [hz, hn]; exact hP.1, fun q hq => ?_, fun a ha hb => ?_⟩
  · rw [ho q (by rw [zv_ad_1 V hk]; omega)]
    exact hP.2.1 q hq
  · by_cases e : a = k
    · subst e
      exact hc
    · obtain ⟨e1, e2, e3, e4⟩ := hr a e
      rw [e1, e2, e3, e4]
      exact zw_cell_kept (hP.2.2 a ha (by rw [← hn]; exact hb)) (ho _ (zv_ad_ne V ha hk e))
/-- a cell comes -/
theorem zw_push {V : zv_V} {w w' : zw_W} {H H1 : Heap} (hP : zw_P V w H) (h1 : 1 ≤ w.1) (hn : w'.1 = w.1 + 1) (hz : H1.size = H.size + 1) (ho : ∀ q, q < H.size → H1[q]? = H[q]?)
    (hr : ∀ a, a < w.1 → zw_t w' a = zw_t w a ∧ zw_r w' a = zw_r w a ∧ zw_i w' a = zw_i w a ∧ zw_l w' a = zw_l w a) (hc : zw_cell V (zw_t w' w.1) (zw_r w' w.1) (zw_i w' w.1) (zw_l w' w.1) H.size H1) : zw_P V w' H1 := by
  have hs := hP.1
  refine ⟨by rw [hz, hn]; omega, fun q hq => ?_, fun a ha hb => ?_⟩
  · rw [ho q (by omega)]
    exact hP.2.1 q hq
  · by_cases e : a = w.1
    · subst e
      rw [show zv_ad V w.1 = H.size by rw [zv_ad_1 V ha]; omega]
      exact hc
    · have hlt : a < w.1 := by omega
      obtain ⟨e1, e2, e3, e4⟩ := hr a hlt
      rw [e1, e2, e3, e4]
      exact zw_cell_kept (hP.2.2 a ha hlt) (ho _ (by rw [zv_ad_1 V ha]; omega))
theorem zw_adn {V : zv_V} {w : zw_W} {H : Heap} (hP : zw_P V w H) (h1 : 1 ≤ w.1) : zv_ad V w.1 = H.size := by
  have hs := hP.1
  rw [zv_ad_1 V h1]
  omega
theorem zw_obj {V : zv_V} {w : zw_W} {H : Heap} {k ci : Nat} {q : vw_C} (hP : zw_P V w H) (hk : 1 ≤ k) (hn : k < w.1) (hc : zc_cl[ci]? = some q) (ht : (zw_t w k).1 = ci) :
    (zw_t w k).2 = q.2.2 ∧ t_OB (zv_ad V k) (zv_C V ci) q.2.2 (zv_I V ci) H (fun j => if zc_rf ci j = true then zv_rf V (zw_r w k j) else .int (zw_i w k j)) := by
  have h := hP.2.2 k hk hn
  obtain ⟨h5, hN⟩ := zc_num ci q hc
  unfold zw_cell at h
  rw [ht, if_pos h5] at h
  rw [hN]
  exact ⟨h.1, by rw [← h.1]; exact h.2⟩
theorem zw_aI {V : zv_V} {w : zw_W} {H : Heap} {k n : Nat} (hP : zw_P V w H) (hk : 1 ≤ k) (hn : k < w.1) (ht : zw_t w k = (10, n)) : H[zv_ad V k]? = some (arrV (zv_A V 0) n (fun j => .int (zw_i w k j))) := by
  have h := hP.2.2 k hk hn
  rw [ht] at h
  exact h
theorem zw_aZ {V : zv_V} {w : zw_W} {H : Heap} {k n : Nat} (hP : zw_P V w H) (hk : 1 ≤ k) (hn : k < w.1) (ht : zw_t w k = (11, n)) : H[zv_ad V k]? = some (arrV (zv_A V 1) n (fun j => .int (zw_i w k j))) := by
  have h := hP.2.2 k hk hn
  rw [ht] at h
  exact h
theorem zw_aL {V : zv_V} {w : zw_W} {H : Heap} {k n : Nat} (hP : zw_P V w H) (hk : 1 ≤ k) (hn : k < w.1) (ht : zw_t w k = (12, n)) : H[zv_ad V k]? = some (arrV (zv_A V 2) n (fun j => .long (zw_l w k j))) := by
  have h := hP.2.2 k hk hn
  rw [ht] at h
  exact h
theorem zw_aR {V : zv_V} {w : zw_W} {H : Heap} {k n : Nat} (hP : zw_P V w H) (hk : 1 ≤ k) (hn : k < w.1) (ht : zw_t w k = (13, n)) : H[zv_ad V k]? = some (arrV (zv_A V 3) n (fun j => zv_rf V (zw_r w k j))) := by
  have h := hP.2.2 k hk hn
  rw [ht] at h
  exact h
abbrev zw_si (w : zw_W) (k j : Nat) (x : Int32) : zw_W := (w.1, w.2.1, zw_t w, zw_r w, zw_up (zw_i w) k j x, zw_l w)
abbrev zw_sl (w : zw_W) (k j : Nat) (x : Int64) : zw_W := (w.1, w.2.1, zw_t w, zw_r w, zw_i w, zw_up (zw_l w) k j x)
abbrev zw_sr (w : zw_W) (k j : Nat) (x : Option Nat) : zw_W := (w.1, w.2.1, zw_t w, zw_up (zw_r w) k j x, zw_i w, zw_l w)
abbrev zw_sa (w : zw_W) (k : Nat) (f : Nat → Int32) : zw_W := (w.1, w.2.1, zw_t w, zw_r w, zw_ro (zw_i w) k f, zw_l w)
/-- a new cell of the tag t -/
abbrev zw_nw (w : zw_W) (t : Nat × Nat) : zw_W := (w.1 + 1, w.2.1 + t.2, zw_ro (zw_t w) w.1 t, zw_ro (zw_r w) w.1 (fun _ => none), zw_ro (zw_i w) w.1 (fun _ => 0), zw_ro (zw_l w) w.1 (fun _ => 0))
theorem zw_rest_i {w : zw_W} {k j : Nat} {x : Int32} : ∀ a, a ≠ k → zw_t (zw_si w k j x) a = zw_t w a ∧ zw_r (zw_si w k j x) a = zw_r w a ∧ zw_i (zw_si w k j x) a = zw_i w a ∧ zw_l (zw_si w k j x) a = zw_l w a := fun a h => ⟨rfl, rfl, zw_up_row _ _ _ h, rfl⟩
theorem zw_rest_l {w : zw_W} {k j : Nat} {x : Int64} : ∀ a, a ≠ k → zw_t (zw_sl w k j x) a = zw_t w a ∧ zw_r (zw_sl w k j x) a = zw_r w a ∧ zw_i (zw_sl w k j x) a = zw_i w a ∧ zw_l (zw_sl w k j x) a = zw_l w a := fun a h => ⟨rfl, rfl, rfl, zw_up_row _ _ _ h⟩
theorem zw_rest_r {w : zw_W} {k j : Nat} {x : Option Nat} : ∀ a, a ≠ k → zw_t (zw_sr w k j x) a = zw_t w a ∧ zw_r (zw_sr w k j x) a = zw_r w a ∧ zw_i (zw_sr w k j x) a = zw_i w a ∧ zw_l (zw_sr w k j x) a = zw_l w a := fun a h => ⟨rfl, zw_up_row _ _ _ h, rfl, rfl⟩
theorem zw_rest_n {w : zw_W} {t : Nat × Nat} : ∀ a, a < w.1 → zw_t (zw_nw w t) a = zw_t w a ∧ zw_r (zw_nw w t) a = zw_r w a ∧ zw_i (zw_nw w t) a = zw_i w a ∧ zw_l (zw_nw w t) a = zw_l w a := fun a h => ⟨zw_ro_n _ _ (Nat.ne_of_lt h), zw_ro_n _ _ (Nat.ne_of_lt h), zw_ro_n _ _ (Nat.ne_of_lt h), zw_ro_n _ _ (Nat.ne_of_lt h)⟩
theorem zx_in {i : Int32} {j n : Nat} (hi : i = nI j) (hj : j < n) (hn : n < 2 ^ 31) : ¬ (i < 0 ∨ n ≤ i.toNatClampNeg) := by
  rw [hi]
  exact nI_in hj hn
theorem zx_cl {i : Int32} {j n : Nat} (hi : i = nI j) (hj : j < n) (hn : n < 2 ^ 31) : i.toNatClampNeg = j := by
  rw [hi]
  exact nI_clamp (by omega)
section ZGH
variable {V : zv_V} {M : zg_M} {fr lc n0 u0 pc : Nat} {st : List Value} {lv : List (Nat × Value)} {w : zw_W} {Q : zg_O → zw_W → Prop}
theorem zg_ldc (E : zv_OK V) {i : Nat} {v : Int32} (hd : decode M.2.1 pc = .ok (.ldc i, 2)) (hw : Cond.constant M.1 i v ∈ lw_tbl) (k : zg_G V M fr lc n0 u0 (pc + 2) (.int v :: st) lv w Q) : zg_G V M fr lc n0 u0 pc st lv w Q :=
  fun p e R s m args below meth c H locs cells slots ls K => lv_ldc K.1.1 K.1.2.1 K.1.2.2.2.2.1 (zx_w E K.1 hw rfl args) hd (k p e R s m args below meth c H locs cells slots ls K)
theorem zg_ldc2 (E : zv_OK V) {i : Nat} {v : Int64} (hd : decode M.2.1 pc = .ok (.ldc2_w i, 3)) (hw : Cond.constantLong M.1 i v ∈ lw_tbl) (k : zg_G V M fr lc n0 u0 (pc + 3) (.long v :: st) lv w Q) : zg_G V M fr lc n0 u0 pc st lv w Q :=
  fun p e R s m args below meth c H locs cells slots ls K => lv_ldc2 K.1.1 K.1.2.1 K.1.2.2.2.2.1 (zx_w E K.1 hw rfl args) hd (k p e R s m args below meth c H locs cells slots ls K)
theorem zg_getV (E : zv_OK V) {k ci j i : Nat} {q : vw_C} (hd : decode M.2.1 pc = .ok (.getfield i, 3)) (hc : zc_cl[ci]? = some q) (ht : (zw_t w k).1 = ci) (hk : 1 ≤ k) (hn : k < w.1) (hj : j < q.2.2) (hl : Cond.fieldLink M.1 i q.1 (q.2.1 j).2.1 (q.2.1 j).2.2.1 ∈ lw_tbl)
    {v : Value} (hv : (if zc_rf ci j = true then zv_rf V (zw_r w k j) else .int (zw_i w k j)) = zv_cv V v) (kk : zg_G V M fr lc n0 u0 (pc + 3) (v :: st) lv w Q) : zg_G V M fr lc n0 u0 pc (.ref k :: st) lv w Q := by
  intro p e R s m args below meth c H locs cells slots ls K
  obtain ⟨-, cell, q1, q2, q3, q4⟩ := zw_obj K.2.2.2.2.1 hk hn hc ht
  have hal := K.1.2.2.2.2.2.2.2.1.alike
  obtain ⟨hS, hfc, kC, hkC, hkind⟩ := u_Kn_moved hal (E.2.2.2.2.1 ci q hc)
  obtain ⟨cf, kf, fi, f, hi, hsl⟩ := hS j hj
  have hts : ∀ x ∈ u_ws q.1 q.2.1 q.2.2, x.before args s = true := fun x hx => zx_w E K.1 (zc_lay ci q hc x hx).1 (zc_lay ci q hc x hx).2 args
  refine W.getf K.1.1 K.1.2.1 K.1.2.2.2.2.1 (zx_w E K.1 hl rfl args) (by rw [(zc_tyok ci q hc).2.2 j hj] at hi; exact hi) (u_facts hfc hkC (u_lays hts (fun _ h => h) hj) hi).1 q1 (by rw [q3]; exact fun h => by cases h) (v := zv_cv V v) ?_ rfl rfl hd (kk p e R s m args below meth c H locs cells slots ls K)
  rw [hsl, q4 j hj]
  exact congrArg some hv
theorem zg_getI (E : zv_OK V) {k ci j i : Nat} {q : vw_C} (hd : decode M.2.1 pc = .ok (.getfield i, 3)) (hc : zc_cl[ci]? = some q) (ht : (zw_t w k).1 = ci) (hk : 1 ≤ k) (hn : k < w.1) (hj : j < q.2.2) (hl : Cond.fieldLink M.1 i q.1 (q.2.1 j).2.1 (q.2.1 j).2.2.1 ∈ lw_tbl)
    (hr : zc_rf ci j = false) (kk : zg_G V M fr lc n0 u0 (pc + 3) (.int (zw_i w k j) :: st) lv w Q) : zg_G V M fr lc n0 u0 pc (.ref k :: st) lv w Q :=
  zg_getV E hd hc ht hk hn hj hl (by rw [hr]; rfl) kk
theorem zg_getR (E : zv_OK V) {k ci j i r : Nat} {q : vw_C} (hd : decode M.2.1 pc = .ok (.getfield i, 3)) (hc : zc_cl[ci]? = some q) (ht : (zw_t w k).1 = ci) (hk : 1 ≤ k) (hn : k < w.1) (hj : j < q.2.2) (hl : Cond.fieldLink M.1 i q.1 (q.2.1 j).2.1 (q.2.1 j).2.2.1 ∈ lw_tbl)
    (hr : zc_rf ci j = true) (hv : zw_r w k j = some r) (kk : zg_G V M fr lc n0 u0 (pc + 3) (.ref r :: st) lv w Q) : zg_G V M fr lc n0 u0 pc (.ref k :: st) lv w Q :=
  zg_getV E hd hc ht hk hn hj hl (v := .ref r) (by rw [hr, hv]; rfl) kk
theorem zg_locs {V : zv_V} {locs : List Loc} {k j : Nat} (hk : 1 ≤ k) (h : ∀ q ∈ locs, zv_S V ≤ q.base) : ∀ q ∈ locs ++ [(⟨zv_ad V k, j⟩ : Loc)], zv_S V ≤ q.base := by
  intro q hq
  rcases List.mem_append.mp hq with h1 | h1
  · exact h q h1
  · rw [List.mem_singleton.mp h1]
    show zv_S V ≤ zv_ad V k
    rw [zv_ad_1 V hk]
    omega
/-- a field that isn't final; b: the field's type is boolean -/
theorem zg_putI (E : zv_OK V) {k ci j i : Nat} {q : vw_C} {x : Int32} (hd : decode M.2.1 pc = .ok (.putfield i, 3)) (hc : zc_cl[ci]? = some q) (ht : (zw_t w k).1 = ci) (hk : 1 ≤ k) (hn : k < w.1) (hj : j < q.2.2) (hl : Cond.fieldLink M.1 i q.1 (q.2.1 j).2.1 (q.2.1 j).2.2.1 ∈ lw_tbl)
    (hr : zc_rf ci j = false) (hf : (q.2.1 j).2.2.2 = false) (hx : narrow (zc_ty ci j) (.int x) = .int x) (hfit : fits (zc_ty ci j) (.int x) = true) (kk : zg_G V M fr lc n0 u0 (pc + 3) st lv (zw_si w k j x) Q) : zg_G V M fr lc n0 u0 pc (.int x :: .ref k :: st) lv w Q := by
  intro p e R s m args below meth c H locs cells slots ls K
  obtain ⟨hN, cell, q1, q2, q3, q4⟩ := zw_obj K.2.2.2.2.1 hk hn hc ht
  have hal := K.1.2.2.2.2.2.2.2.1.alike
  have hKn := u_Kn_moved hal (E.2.2.2.2.1 ci q hc)
  obtain ⟨hS, hfc, kC, hkC, hkind⟩ := hKn
  obtain ⟨cf, kf, fi, f, hi, hsl⟩ := hS j hj
  have hts : ∀ x ∈ u_ws q.1 q.2.1 q.2.2, x.before args s = true := fun x hx => zx_w E K.1 (zc_lay ci q hc x hx).1 (zc_lay ci q hc x hx).2 args
  have hty := zc_tyok ci q hc
  have hap : ∀ a, a < q.2.2 → ∀ b, b < q.2.2 → a ≠ b → zv_I V ci a ≠ zv_I V ci b := by
    intro a ha b hb hne
    obtain ⟨_, _, _, fa, hia, ea⟩ := hS a ha
    obtain ⟨_, _, _, fb, hib, eb⟩ := hS b hb
    rw [← ea, ← eb]
    refine u_apart (u_lays hts (fun _ h => h) ha) (u_lays hts (fun _ h => h) hb) hia hib ?_
    rw [(State.fieldFound?_type hia (hty.1 a ha)).1, (State.fieldFound?_type hib (hty.1 b hb)).1]
    exact hty.2.1 a ha b hb hne
  have hlay := hts _ (u_in_lay hj)
  unfold u_lay at hlay
  rw [if_neg (by rw [hf]; decide)] at hlay
  have hst := (u_facts hfc hkC (u_lays hts (fun _ h => h) hj) hi).1
  have h6 := u_store hfc hkC hkind hlay hi (hty.1 j hj) hx hfit
  have hi' := hi
  rw [hty.2.2 j hj] at hi'
  refine W.putK K.1.1 K.1.2.1 (f := f) ⟨K.1.2.2.2.2.1, zx_w E K.1 hl rfl args, ⟨_, _, _, hi'⟩, hst⟩ (by rw [q2]; exact h6) q1 q3 (by rw [hsl]; exact k2_hasslot (q4 j hj)) rfl rfl hd fun H' e1 e2 e3 => ?_
  rw [hsl] at e1
  refine kk p e R s m args below meth c H' _ cells slots ls ⟨K.1, K.2.1, K.2.2.1, K.2.2.2.1, zw_put K.2.2.2.2.1 rfl hk e2 e3 zw_rest_i ?_, ⟨zg_locs hk K.2.2.2.2.2.1.1, K.2.2.2.2.2.1.2⟩, K.2.2.2.2.2.2⟩
  have h5 := zc_num ci q hc
  unfold zw_cell
  show if (zw_t w k).1 < 5 then _ else _
  rw [ht, if_pos h5.1]
  refine ⟨by show (zw_t w k).2 = _; rw [hN]; exact h5.2, ?_⟩
  show t_OB _ _ (zw_t w k).2 _ _ _
  rw [hN]
  refine t_OB.to (V := updV (fun j => if zc_rf ci j = true then zv_rf V (zw_r w k j) else .int (zw_i w k j)) j (.int x)) ⟨_, e1, q2, q3, t_set q4 (fun a b ha hb => hap a ha b hb) hj _⟩ (fun a _ => ?_)
  by_cases e : a = j
  · subst e
    show updV _ a _ a = if zc_rf ci a = true then _ else Value.int (zw_up (zw_i w) k a x k a)
    rw [zw_up_s, hr]
    simp [updV]
  · show updV _ j _ a = if zc_rf ci a = true then _ else Value.int (zw_up (zw_i w) k j x k a)
    rw [zw_up_n _ _ (Or.inr e)]
    simp only [updV, if_neg e]
theorem zg_iald (E : zv_OK V) {k j n : Nat} {i : Int32} (hd : decode M.2.1 pc = .ok (.iaload, 1)) (ht : zw_t w k = (10, n)) (hk : 1 ≤ k) (hn : k < w.1) (hi : i = nI j) (hj : j < n) (hn2 : n < 2 ^ 31) (kk : zg_G V M fr lc n0 u0 (pc + 1) (.int (zw_i w k j) :: st) lv w Q) : zg_G V M fr lc n0 u0 pc (.int i :: .ref k :: st) lv w Q := by
  intro p e R s m args below meth c H locs cells slots ls K
  exact W.iald (v := .int (zw_i w k j)) K.1.1 K.1.2.1 (zw_aI K.2.2.2.2.1 hk hn ht) (arrOfT_moved K.1.2.2.2.2.2.2.2.1.alike E.2.2.2.2.2.1.1 n _) (fun h => by cases h) (by rw [arrV_size]; exact zx_in hi hj hn2) (by rw [zx_cl hi hj hn2, arrV_read _ _ hj]) rfl rfl hd (kk p e R s m args below meth c H locs cells slots ls K)
theorem zg_zald (E : zv_OK V) {k j n : Nat} {i : Int32} (hd : decode M.2.1 pc = .ok (.baload, 1)) (ht : zw_t w k = (11, n)) (hk : 1 ≤ k) (hn : k < w.1) (hi : i = nI j) (hj : j < n) (hn2 : n < 2 ^ 31) (kk : zg_G V M fr lc n0 u0 (pc + 1) (.int (zw_i w k j) :: st) lv w Q) : zg_G V M fr lc n0 u0 pc (.int i :: .ref k :: st) lv w Q := by
  intro p e R s m args below meth c H locs cells slots ls K
  exact W.zald (v := .int (zw_i w k j)) K.1.1 K.1.2.1 (zw_aZ K.2.2.2.2.1 hk hn ht) (arrOfT_moved K.1.2.2.2.2.2.2.2.1.alike E.2.2.2.2.2.2.1.1 n _) (fun h => by cases h) (by rw [arrV_size]; exact zx_in hi hj hn2) (by rw [zx_cl hi hj hn2, arrV_read _ _ hj]) rfl rfl hd (kk p e R s m args below meth c H locs cells slots ls K)
theorem zg_lald (E : zv_OK V) {k j n : Nat} {i : Int32} (hd : decode M.2.1 pc = .ok (.laload, 1)) (ht : zw_t w k = (12, n)) (hk : 1 ≤ k) (hn : k < w.1) (hi : i = nI j) (hj : j < n) (hn2 : n < 2 ^ 31) (kk : zg_G V M fr lc n0 u0 (pc + 1) (.long (zw_l w k j) :: st) lv w Q) : zg_G V M fr lc n0 u0 pc (.int i :: .ref k :: st) lv w Q := by
  intro p e R s m args below meth c H locs cells slots ls K
  exact W.lald (v := .long (zw_l w k j)) K.1.1 K.1.2.1 (zw_aL K.2.2.2.2.1 hk hn ht) (arrOfT_moved K.1.2.2.2.2.2.2.2.1.alike E.2.2.2.2.2.2.2.1.1 n _) (fun h => by cases h) (by rw [arrV_size]; exact zx_in hi hj hn2) (by rw [zx_cl hi hj hn2, arrV_read _ _ hj]) rfl rfl hd (kk p e R s m args below meth c H locs cells slots ls K)
theorem zg_aald (E : zv_OK V) {k j n r : Nat} {i : Int32} (hd : decode M.2.1 pc = .ok (.aaload, 1)) (ht : zw_t w k = (13, n)) (hk : 1 ≤ k) (hn : k < w.1) (hi : i = nI j) (hj : j < n) (hn2 : n < 2 ^ 31) (hr : zw_r w k j = some r) (kk : zg_G V M fr lc n0 u0 (pc + 1) (.ref r :: st) lv w Q) : zg_G V M fr lc n0 u0 pc (.int i :: .ref k :: st) lv w Q := by
  intro p e R s m args below meth c H locs cells slots ls K
  exact W.aald (v := zv_cv V (.ref r)) (ty := .array .int) K.1.1 K.1.2.1 (zw_aR K.2.2.2.2.1 hk hn ht) (arrOfT_moved K.1.2.2.2.2.2.2.2.1.alike E.2.2.2.2.2.2.2.2.1.1 n _) rfl (fun h => by cases h) (by rw [arrV_size]; exact zx_in hi hj hn2) (by rw [zx_cl hi hj hn2, arrV_read _ _ hj, hr]; rfl) rfl rfl hd (kk p e R s m args below meth c H locs cells slots ls K)
theorem zg_iast (E : zv_OK V) {k j n : Nat} {i x : Int32} (hd : decode M.2.1 pc = .ok (.iastore, 1)) (ht : zw_t w k = (10, n)) (hk : 1 ≤ k) (hn : k < w.1) (hi : i = nI j) (hj : j < n) (hn2 : n < 2 ^ 31) (kk : zg_G V M fr lc n0 u0 (pc + 1) st lv (zw_si w k j x) Q) : zg_G V M fr lc n0 u0 pc (.int x :: .int i :: .ref k :: st) lv w Q := by
  intro p e R s m args below meth c H locs cells slots ls K
  refine W.iast K.1.1 K.1.2.1 (zw_aI K.2.2.2.2.1 hk hn ht) (arrOfT_moved K.1.2.2.2.2.2.2.2.1.alike E.2.2.2.2.2.1.1 n _) (fun h => by cases h) (by rw [arrV_size]; exact zx_in hi hj hn2) rfl rfl hd fun H1 e1 z1 o1 => ?_
  refine kk p e R s m args below meth c H1 _ cells slots ls ⟨K.1, K.2.1, K.2.2.1, K.2.2.2.1, zw_put K.2.2.2.2.1 rfl hk z1 o1 zw_rest_i ?_, ⟨zg_locs hk K.2.2.2.2.2.1.1, K.2.2.2.2.2.1.2⟩, K.2.2.2.2.2.2⟩
  show zw_cell V (zw_t w k) _ _ _ _ _
  rw [ht]
  show H1[zv_ad V k]? = some (arrV _ _ _)
  rw [e1, zx_cl hi hj hn2, arrV_store]
  refine congrArg (fun f => some (arrV (zv_A V 0) n f)) (funext fun a => ?_)
  by_cases h : a = j
  · subst h
    show updV _ a _ a = Value.int (zw_up (zw_i w) k a x k a)
    rw [zw_up_s]
    simp [updV]
  · show updV _ j _ a = Value.int (zw_up (zw_i w) k j x k a)
    rw [zw_up_n _ _ (Or.inr h)]
    simp [updV, h]
theorem zg_zast (E : zv_OK V) {k j n : Nat} {i x y : Int32} (hd : decode M.2.1 pc = .ok (.bastore, 1)) (ht : zw_t w k = (11, n)) (hk : 1 ≤ k) (hn : k < w.1) (hi : i = nI j) (hj : j < n) (hn2 : n < 2 ^ 31) (hx : narrow .boolean (.int x) = .int y) (kk : zg_G V M fr lc n0 u0 (pc + 1) st lv (zw_si w k j y) Q) : zg_G V M fr lc n0 u0 pc (.int x :: .int i :: .ref k :: st) lv w Q := by
  intro p e R s m args below meth c H locs cells slots ls K
  refine W.zast K.1.1 K.1.2.1 (zw_aZ K.2.2.2.2.1 hk hn ht) (arrOfT_moved K.1.2.2.2.2.2.2.2.1.alike E.2.2.2.2.2.2.1.1 n _) (fun h => by cases h) (by rw [arrV_size]; exact zx_in hi hj hn2) rfl rfl hd fun H1 e1 z1 o1 => ?_
  refine kk p e R s m args below meth c H1 _ cells slots ls ⟨K.1, K.2.1, K.2.2.1, K.2.2.2.1, zw_put K.2.2.2.2.1 rfl hk z1 o1 zw_rest_i ?_, ⟨zg_locs hk K.2.2.2.2.2.1.1, K.2.2.2.2.2.1.2⟩, K.2.2.2.2.2.2⟩
  show zw_cell V (zw_t w k) _ _ _ _ _
  rw [ht]
  show H1[zv_ad V k]? = some (arrV _ _ _)
  rw [e1, zx_cl hi hj hn2, hx, arrV_store]
  refine congrArg (fun f => some (arrV (zv_A V 1) n f)) (funext fun a => ?_)
  by_cases h : a = j
  · subst h
    show updV _ a _ a = Value.int (zw_up (zw_i w) k a y k a)
    rw [zw_up_s]
    simp [updV]
  · show updV _ j _ a = Value.int (zw_up (zw_i w) k j y k a)
    rw [zw_up_n _ _ (Or.inr h)]
    simp [updV, h]
theorem zg_last (E : zv_OK V) {k j n : Nat} {i : Int32} {x : Int64} (hd : decode M.2.1 pc = .ok (.lastore, 1)) (ht : zw_t w k = (12, n)) (hk : 1 ≤ k) (hn : k < w.1) (hi : i = nI j) (hj : j < n) (hn2 : n < 2 ^ 31) (kk : zg_G V M fr lc n0 u0 (pc + 1) st lv (zw_sl w k j x) Q) : zg_G V M fr lc n0 u0 pc (.long x :: .int i :: .ref k :: st) lv w Q := by
  intro p e R s m args below meth c H locs cells slots ls K
  refine W.last K.1.1 K.1.2.1 (zw_aL K.2.2.2.2.1 hk hn ht) (arrOfT_moved K.1.2.2.2.2.2.2.2.1.alike E.2.2.2.2.2.2.2.1.1 n _) (fun h => by cases h) (by rw [arrV_size]; exact zx_in hi hj hn2) rfl rfl hd fun H1 e1 z1 o1 => ?_
  refine kk p e R s m args below meth c H1 _ cells slots ls ⟨K.1, K.2.1, K.2.2.1, K.2.2.2.1, zw_put K.2.2.2.2.1 rfl hk z1 o1 zw_rest_l ?_, ⟨zg_locs hk K.2.2.2.2.2.1.1, K.2.2.2.2.2.1.2⟩, K.2.2.2.2.2.2⟩
  show zw_cell V (zw_t w k) _ _ _ _ _
  rw [ht]
  show H1[zv_ad V k]? = some (arrV _ _ _)
  rw [e1, zx_cl hi hj hn2, arrV_store]
  refine congrArg (fun f => some (arrV (zv_A V 2) n f)) (funext fun a => ?_)
  by_cases h : a = j
  · subst h
    show updV _ a _ a = Value.long (zw_up (zw_l w) k a x k a)
    rw [zw_up_s]
    simp [updV]
  · show updV _ j _ a = Value.long (zw_up (zw_l w) k j x k a)
    rw [zw_up_n _ _ (Or.inr h)]
    simp [updV, h]
theorem zg_alenI (E : zv_OK V) {k n : Nat} (hd : decode M.2.1 pc = .ok (.arraylength, 1)) (ht : zw_t w k = (10, n)) (hk : 1 ≤ k) (hn : k < w.1) (kk : zg_G V M fr lc n0 u0 (pc + 1) (.int (nI n) :: st) lv w Q) : zg_G V M fr lc n0 u0 pc (.ref k :: st) lv w Q := by
  intro p e R s m args below meth c H locs cells slots ls K
  exact W.alen (n := nI n) K.1.1 K.1.2.1 (zw_aI K.2.2.2.2.1 hk hn ht) (arrOfT_moved K.1.2.2.2.2.2.2.2.1.alike E.2.2.2.2.2.1.1 n _) (by rw [arrV_size]; rfl) rfl rfl hd (kk p e R s m args below meth c H locs cells slots ls K)
/-- the script -/
theorem zg_sld (E : zv_OK V) {j : Nat} {i : Int32} (hd : decode M.2.1 pc = .ok (.iaload, 1)) (hi : i = nI j) (hj : j < zv_L V) (hn2 : zv_L V < 2 ^ 31) (kk : zg_G V M fr lc n0 u0 (pc + 1) (.int (zv_x V j) :: st) lv w Q) : zg_G V M fr lc n0 u0 pc (.int i :: .ref 0 :: st) lv w Q := by
  intro p e R s m args below meth c H locs cells slots ls K
  obtain ⟨scr, h1, h2, h3, h4, h5⟩ := va_X.moved K.1.2.2.2.2.2.2.2.1.alike E.2.2.1
  exact W.iald (a := zv_b V) (v := .int (zv_x V j)) K.1.1 K.1.2.1 (by rw [K.2.2.2.2.1.2.1 _ E.2.2.2.1]; exact h1) h2 h3 (by rw [h4]; exact zx_in hi hj hn2) (by rw [zx_cl hi hj hn2]; exact h5 j hj) rfl rfl hd (kk p e R s m args below meth c H locs cells slots ls K)
theorem zg_slen (E : zv_OK V) (hd : decode M.2.1 pc = .ok (.arraylength, 1)) (kk : zg_G V M fr lc n0 u0 (pc + 1) (.int (nI (zv_L V)) :: st) lv w Q) : zg_G V M fr lc n0 u0 pc (.ref 0 :: st) lv w Q := by
  intro p e R s m args below meth c H locs cells slots ls K
  obtain ⟨scr, h1, h2, h3, h4, h5⟩ := va_X.moved K.1.2.2.2.2.2.2.2.1.alike E.2.2.1
  exact W.alen (a := zv_b V) (n := nI (zv_L V)) K.1.1 K.1.2.1 (by rw [K.2.2.2.2.1.2.1 _ E.2.2.2.1]; exact h1) h2 (by rw [h4]; rfl) rfl rfl hd (kk p e R s m args below meth c H locs cells slots ls K)
end ZGH
end
section
/-! The light judgement's rows for what is made, for System.arraycopy, for the ends of a method and its throws. -/
section ZGN
variable {V : zv_V} {M : zg_M} {fr lc n0 u0 pc : Nat} {st : List Value} {lv : List (Nat × Value)} {w : zw_W} {Q : zg_O → zw_W → Prop}
theorem zg_new (E : zv_OK V) {ci i : Nat} {q : vw_C} (hd : decode M.2.1 pc = .ok (.new i, 3)) (hc : zc_cl[ci]? = some q) (h1 : 1 ≤ w.1) (hl : Cond.classLink M.1 i q.1 ∈ lw_tbl) (hin : Cond.instantiable q.1 q.2.2 ∈ lw_tbl) (hini : Cond.initialized q.1 ∈ lw_tbl) (hcn : w.1 + 1 ≤ zc_cn) (hcs : w.2.1 + q.2.2 ≤ zc_cs)
    (kk : zg_G V M fr lc n0 u0 (pc + 3) (.ref w.1 :: st) lv (zw_nw w (ci, q.2.2)) Q) : zg_G V M fr lc n0 u0 pc st lv w Q := by
  intro p e R s m args below meth c H locs cells slots ls K
  have hal := K.1.2.2.2.2.2.2.2.1.alike
  have hKn := u_Kn_moved hal (E.2.2.2.2.1 ci q hc)
  have hts : ∀ x ∈ u_ws q.1 q.2.1 q.2.2, x.before args s = true := fun x hx => zx_w E K.1 (zc_lay ci q hc x hx).1 (zc_lay ci q hc x hx).2 args
  have hr := K.2.1
  have hc1 := K.2.2.1
  have hc2 := K.2.2.2.1
  refine W.newcK K.1.1 K.1.2.1 K.1.2.2.2.2.1 (zx_w E K.1 hl rfl args) (zx_w E K.1 hin rfl args) (zx_w E K.1 hini rfl args) rfl hd (by omega) (by omega) hKn.2.1 rfl fun H1 kC hkC e1 z1 o1 => ?_
  have hP := K.2.2.2.2.1
  have g := kk p e R s m args below meth c H1 locs (cells + 1) (slots + q.2.2) ls ⟨K.1, K.2.1, by show n0 + (cells + 1) = w.1 + 1; omega, by show u0 + (slots + q.2.2) = w.2.1 + q.2.2; omega, zw_push hP h1 rfl z1 o1 zw_rest_n ?_, K.2.2.2.2.2.1, K.2.2.2.2.2.2⟩
  · have e2 : zv_cv V (.ref w.1) = .ref H.size := by show Value.ref (zv_ad V w.1) = _; rw [zw_adn hP h1]
    rw [List.map_cons, e2] at g
    exact g
  · show zw_cell V (zw_ro (zw_t w) w.1 (ci, q.2.2) w.1) (zw_ro (zw_r w) w.1 (fun _ => none) w.1) (zw_ro (zw_i w) w.1 (fun _ => 0) w.1) (zw_ro (zw_l w) w.1 (fun _ => 0) w.1) _ _
    rw [zw_ro_s, zw_ro_s, zw_ro_s, zw_ro_s]
    unfold zw_cell
    rw [if_pos (zc_num ci q hc).1]
    exact ⟨(zc_num ci q hc).2, (u_born (zc_ty ci) hts (fun _ h => h) hKn hkC e1 (zc_tyok ci q hc).1).to (zc_dflt ci q hc)⟩
theorem zg_newA (E : zv_OK V) {kd n : Nat} {i : Int32} {at_ : ArrayType} {ty : FieldType} {ca : Nat} (hd : decode M.2.1 pc = .ok (.newarray at_, 2)) (hty : newarray.typeOf at_ = ty) (h1 : 1 ≤ w.1) (hl : Cond.arrayClass ty ∈ lw_tbl) (hi : i = nI n) (hn : n < 100000) (hcn : w.1 + 1 ≤ zc_cn) (hcs : w.2.1 + n ≤ zc_cs)
    (hb : componentBytes ty ≤ 8) (hcl : (zv_s V).vm.findClass ("[" ++ ty.toString) = some (zv_A V ca)) (hce : ∀ H1 : Heap, H1[zv_ad V w.1]? = some (arrV (zv_A V ca) n (fun _ => defaultValue ty)) → zw_cell V (kd, n) (fun _ => none) (fun _ => 0) (fun _ => 0) (zv_ad V w.1) H1)
    (kk : zg_G V M fr lc n0 u0 (pc + 2) (.ref w.1 :: st) lv (zw_nw w (kd, n)) Q) : zg_G V M fr lc n0 u0 pc (.int i :: st) lv w Q := by
  subst hty
  intro p e R s m args below meth c H locs cells slots ls K
  have hr := K.2.1
  have hc1 := K.2.2.1
  have hc2 := K.2.2.2.1
  have hP := K.2.2.2.2.1
  refine va_newaK (N := n) K.1.1 K.1.2.1 (zx_w E K.1 hl rfl args) rfl hd rfl (by rw [hi]; exact nI_pos (by omega)) (by rw [hi]; exact nI_clamp (by omega)) (by have := Nat.mul_le_mul_left n hb; omega) (by omega) (by omega) rfl fun H1 cA e1 z1 o1 _ hNm => ?_
  have ecA : cA = zv_A V ca := by
    have h9 := hNm
    rw [K.1.2.2.2.2.2.2.2.1.alike.findClass, hcl] at h9
    exact (Option.some.inj h9).symm
  subst ecA
  have g := kk p e R s m args below meth c H1 locs (cells + 1) (slots + n) ls ⟨K.1, K.2.1, by show n0 + (cells + 1) = w.1 + 1; omega, by show u0 + (slots + n) = w.2.1 + n; omega, zw_push hP h1 rfl z1 o1 zw_rest_n ?_, K.2.2.2.2.2.1, K.2.2.2.2.2.2⟩
  · have e2 : zv_cv V (.ref w.1) = .ref H.size := by show Value.ref (zv_ad V w.1) = _; rw [zw_adn hP h1]
    rw [List.map_cons, e2] at g
    exact g
  · show zw_cell V (zw_ro (zw_t w) w.1 (kd, n) w.1) (zw_ro (zw_r w) w.1 (fun _ => none) w.1) (zw_ro (zw_i w) w.1 (fun _ => 0) w.1) (zw_ro (zw_l w) w.1 (fun _ => 0) w.1) _ _
    rw [zw_ro_s, zw_ro_s, zw_ro_s, zw_ro_s, ← zw_adn hP h1]
    refine hce H1 ?_
    rw [zw_adn hP h1]
    exact e1
theorem zg_newI (E : zv_OK V) {n : Nat} {i : Int32} (hd : decode M.2.1 pc = .ok (.newarray .int, 2)) (h1 : 1 ≤ w.1) (hi : i = nI n) (hn : n < 100000) (hcn : w.1 + 1 ≤ zc_cn) (hcs : w.2.1 + n ≤ zc_cs) (kk : zg_G V M fr lc n0 u0 (pc + 2) (.ref w.1 :: st) lv (zw_nw w (10, n)) Q) : zg_G V M fr lc n0 u0 pc (.int i :: st) lv w Q :=
  zg_newA E (kd := 10) (ca := 0) hd rfl h1 (by decide +kernel) hi hn hcn hcs (by decide) E.2.2.2.2.2.1.2 (fun _ h => h) kk
theorem zg_newZ (E : zv_OK V) {n : Nat} {i : Int32} (hd : decode M.2.1 pc = .ok (.newarray .boolean, 2)) (h1 : 1 ≤ w.1) (hi : i = nI n) (hn : n < 100000) (hcn : w.1 + 1 ≤ zc_cn) (hcs : w.2.1 + n ≤ zc_cs) (kk : zg_G V M fr lc n0 u0 (pc + 2) (.ref w.1 :: st) lv (zw_nw w (11, n)) Q) : zg_G V M fr lc n0 u0 pc (.int i :: st) lv w Q :=
  zg_newA E (kd := 11) (ca := 1) hd rfl h1 (by decide +kernel) hi hn hcn hcs (by decide) E.2.2.2.2.2.2.1.2 (fun _ h => h) kk
theorem zg_newL (E : zv_OK V) {n : Nat} {i : Int32} (hd : decode M.2.1 pc = .ok (.newarray .long, 2)) (h1 : 1 ≤ w.1) (hi : i = nI n) (hn : n < 100000) (hcn : w.1 + 1 ≤ zc_cn) (hcs : w.2.1 + n ≤ zc_cs) (kk : zg_G V M fr lc n0 u0 (pc + 2) (.ref w.1 :: st) lv (zw_nw w (12, n)) Q) : zg_G V M fr lc n0 u0 pc (.int i :: st) lv w Q :=
  zg_newA E (kd := 12) (ca := 2) hd rfl h1 (by decide +kernel) hi hn hcn hcs (by decide) E.2.2.2.2.2.2.2.1.2 (fun _ h => h) kk
/-- new int[n][k] -/
abbrev zw_mm (w : zw_W) (n k : Nat) : zw_W := (w.1 + 1 + n, w.2.1 + n + n * k, (fun a => if a = w.1 then (13, n) else if w.1 < a ∧ a < w.1 + 1 + n then (10, k) else zw_t w a), (fun a => if a = w.1 then (fun j => if j < n then some (w.1 + 1 + j) else none) else zw_r w a), (fun a => if w.1 < a ∧ a < w.1 + 1 + n then (fun _ => 0) else zw_i w a), zw_l w)
theorem zg_multi (E : zv_OK V) {i n k : Nat} {x y : Int32} (hd : decode M.2.1 pc = .ok (.multianewarray i 2, 4)) (h1 : 1 ≤ w.1) (hl : Cond.classLink M.1 i "[[I" ∈ lw_tbl) (hx : x = nI n) (hy : y = nI k) (hn : n < 100000) (hk : k < 100000) (hcn : w.1 + 1 + n ≤ zc_cn) (hcs : w.2.1 + n + n * k ≤ zc_cs)
    (kk : zg_G V M fr lc n0 u0 (pc + 4) (.ref w.1 :: st) lv (zw_mm w n k) Q) : zg_G V M fr lc n0 u0 pc (.int y :: .int x :: st) lv w Q := by
  intro p e R s m args below meth c H locs cells slots ls K T hT X
  have hr := K.2.1
  have hc1 := K.2.2.1
  have hc2 := K.2.2.2.1
  have hP := K.2.2.2.2.1
  have hal := K.1.2.2.2.2.2.2.2.1.alike
  have hov : ∃ comp c k, s.vm.findClass "[I" = some comp ∧ s.vm.classes[c]? = some k ∧ k.kind = .array comp (.array .int) ∧ s.vm.findClass "[[I" = some c := by
    obtain ⟨c1, c2, k2, g1, g2, g3, g4⟩ := zz_overA (o := none) (first := zv_s V) (idx := []) (E.2.1 (Cond.arrayOver (.array .int)) (by decide +kernel))
    obtain ⟨k3, g5, g6⟩ := hal.2.2 _ _ g2
    exact ⟨c1, c2, k3, by rw [hal.findClass]; exact g1, g5, by rw [g6]; exact g3, by rw [hal.findClass]; exact g4⟩
  obtain ⟨vm₁, cA, comp, fA, fC, -, X', step⟩ := zz_multi X K.1.1 K.1.2.2.2.2.1 (zx_w E K.1 hl rfl args) hov (zx_w E K.1 (by decide +kernel : Cond.arrayClass .int ∈ lw_tbl) rfl args)
    (g := F0 m pc ls ((.int y :: .int x :: st).map (zv_cv V))) rfl (by rw [K.1.2.1]; exact hd) (n := x) (k := y) (N := n) (K := k) (rest := st.map (zv_cv V)) rfl (by rw [hx]; exact nI_pos (by omega)) (by rw [hy]; exact nI_pos (by omega)) (by rw [hx]; exact nI_clamp (by omega)) (by rw [hy]; exact nI_clamp (by omega)) (by omega) (by omega) (by omega) (by omega)
  have ecA : cA = zv_A V 3 := by
    rw [hal.findClass, E.2.2.2.2.2.2.2.2.1.2] at fA
    exact (Option.some.inj fA).symm
  have ecC : comp = zv_A V 0 := by
    rw [hal.findClass, E.2.2.2.2.2.1.2] at fC
    exact (Option.some.inj fC).symm
  subst ecA
  subst ecC
  have hTh : (T.setVm vm₁).heap = H := hT
  obtain ⟨f1, f2, -, -⟩ := zz_f_facts (T.setVm vm₁) (zv_A V 3) (zv_A V 0) n k n
  have fo : ∀ a : Nat, a < H.size → (zz_f (T.setVm vm₁) (zv_A V 3) (zv_A V 0) n k n).heap[a]? = H[a]? := fun a ha => by
    have h9 := zz_f_old (T.setVm vm₁) (zv_A V 3) (zv_A V 0) n k (a := a) (by rw [hTh]; exact ha) n
    rw [hTh] at h9
    exact h9
  have fr9 := zz_f_row (T.setVm vm₁) (zv_A V 3) (zv_A V 0) n k n
  rw [hTh] at f1 f2 fr9
  generalize zz_f (T.setVm vm₁) (zv_A V 3) (zv_A V 0) n k n = F at X' step f1 f2 fo fr9
  have hs := hP.1
  have had := zw_adn hP h1
  have hW : zw_P V (zw_mm w n k) F.heap := by
    refine ⟨by show F.heap.size + 1 = zv_S V + (w.1 + 1 + n); omega, fun q hq => by rw [fo q (by omega)]; exact hP.2.1 q hq, fun a ha hb => ?_⟩
    have hb' : a < w.1 + 1 + n := hb
    show zw_cell V (if a = w.1 then (13, n) else if w.1 < a ∧ a < w.1 + 1 + n then (10, k) else zw_t w a) ((if a = w.1 then (fun j => if j < n then some (w.1 + 1 + j) else none) else zw_r w a)) (if w.1 < a ∧ a < w.1 + 1 + n then (fun _ => 0) else zw_i w a) (zw_l w a) _ _
    by_cases e1 : a = w.1
    · subst e1
      rw [if_pos rfl, if_pos rfl]
      show F.heap[zv_ad V w.1]? = some (arrV _ _ _)
      rw [had, f2]
      unfold zz_o
      refine congrArg (fun f => some (arrV (zv_A V 3) n f)) (funext fun j => ?_)
      show _ = zv_rf V (if j < n then some (w.1 + 1 + j) else none)
      by_cases hj : j < n
      · rw [if_pos hj, if_pos hj]
        show Value.ref _ = Value.ref (zv_ad V (w.1 + 1 + j))
        rw [zv_ad_1 V (by omega)]
        exact congrArg Value.ref (show H.size + 1 + j = zv_S V + (w.1 + 1 + j - 1) by omega)
      · rw [if_neg hj, if_neg hj]
        rfl
    · rw [if_neg e1, if_neg e1]
      by_cases e3 : w.1 < a ∧ a < w.1 + 1 + n
      · rw [if_pos e3, if_pos e3]
        show F.heap[zv_ad V a]? = some (arrV _ _ _)
        have h9 := fr9 (a - w.1 - 1) (by omega)
        rw [zv_ad_1 V ha, show zv_S V + (a - 1) = H.size + 1 + (a - w.1 - 1) by omega, h9]
        rfl
      · rw [if_neg e3, if_neg e3]
        have hlt : a < w.1 := by omega
        exact zw_cell_kept (hP.2.2 a ha hlt) (fo _ (by rw [zv_ad_1 V ha]; omega))
  have hL : ∀ q ∈ locs ++ (List.range n).map (fun j => (⟨T.heap.size, j⟩ : Loc)), zv_S V ≤ q.base := by
    intro q hq
    rcases List.mem_append.mp hq with h | h
    · exact K.2.2.2.2.2.1.1 q h
    · obtain ⟨j, -, rfl⟩ := List.mem_map.mp h
      show zv_S V ≤ T.heap.size
      rw [hT]
      omega
  obtain ⟨t, a1, b1⟩ := kk p e R s m args below meth c F.heap _ (cells + 1 + n) (slots + n + n * k) ls ⟨K.1, K.2.1, by show n0 + (cells + 1 + n) = w.1 + 1 + n; omega, by show u0 + (slots + n + n * k) = w.2.1 + n + n * k; omega, hW, ⟨hL, K.2.2.2.2.2.1.2⟩, K.2.2.2.2.2.2⟩ F rfl X'
  refine ⟨t, step t ?_, b1⟩
  have e2 : zv_cv V (.ref w.1) = .ref T.heap.size := by show Value.ref (zv_ad V w.1) = _; rw [had, hT]
  rw [List.map_cons, e2] at a1
  exact a1
end ZGN
end
section
/-! The light judgement's ends, throws, catches and calls. -/
section ZBA
variable {p : Program} {l : Launch} {e : Env} {R : Room} {s : State} {m : MethodId} {args : Array Value} {below : List Frame} {meth : Method} {c : Code} {H : Heap} {locs : List Loc} {cells slots : Nat}
theorem zz_mono {Q Q' : State → Prop} {g : JFrame} (h : ∀ t, Q t → Q' t) (k : W p l e R s m args below meth c H locs cells slots Q g) : W p l e R s m args below meth c H locs cells slots Q' g := by
  intro T hT X
  obtain ⟨t, a, b⟩ := k T hT X
  exact ⟨t, a, h t b⟩
/-- 'throw new E("text")': one cell comes, at the heap's end -/
theorem zz_throwS {T : State} {cc : ByteArray} {pc : Nat} {ls : Array Slot} {rest : List Value} (X : Stand p l e R s m args below meth c T locs cells slots) (hexec : p.tables.exec = Jvm.exec) (hb : c.code = cc) (hl : l.stackTraces = false) {own cls text : String} {names : List String} {ik is ic sa : Nat} {A : Nat → Prop}
    (hown : s.vm.findClass own = some m.cls) (hcls : Bundle.fit cls = true) (hnames : ∀ n ∈ names, Bundle.fit n = true)
    (hk : (Cond.classLink own ik cls).before args s = true) (hini : (Cond.initialized cls).before args s = true) (hstr : vk_R own is text sa s) (hat : ∀ w ∈ vx_atS own ic cls names, w.before args s = true)
    (hgood : ∀ w ∈ Cond.classLink own ik cls :: Cond.initialized cls :: vx_atS own ic cls names, vx_ot w = true)
    (hU : vx_Zq Bundle.tN "UNASSIGNED_STACK" Bundle.steD A s T.heap) (hN : vx_Zq Bundle.tN "SUPPRESSED_SENTINEL" Bundle.listD A s T.heap) (hsize : ls.size = c.maxLocals)
    (d0 : decode cc pc = .ok (.new ik, 3)) (d3 : decode cc (pc + 3) = .ok (.dup, 1)) (d4 : decode cc (pc + 4) = .ok (.ldc is, 2)) (d6 : decode cc (pc + 6) = .ok (.invokespecial ic, 3)) (d9 : decode cc (pc + 9) = .ok (.athrow, 1))
    (hout : ∀ x ∈ c.exceptionTable.toList, covers x (pc + 9) = false)
    (hRframes : names.length + 3 < R.frames) (hRlocals : (rest.map fun v => v.category).sum + (13 * (names.length + 1) + 43) ≤ R.locals) (hRcells : cells + 1 ≤ R.cells) (hRslots : slots + 6 ≤ R.slots) (hlocks : meth.locks = false) :
    ∃ U : State, Steps p.tables e below (T.setTop (F0 m pc ls rest)) U ∧ U.status = .running ∧ Ended U below (.threw T.heap.size) ∧ s.WarmedH U.vm ∧ s.sameButNew ({ U with vm := s.vm } : State) locs (cells + 1) (slots + 6) ∧ U.heap.size = T.heap.size + 1 ∧ (∀ q : Nat, q < T.heap.size → U.heap[q]? = T.heap[q]?) ∧
      ∃ ce : Cell, U.heap[T.heap.size]? = some ce ∧ ce.vm = .none ∧ s.vm.findClass cls = some ce.cls := by
  have htr : e.platform.stackTraces = false := (show e.platform.stackTraces = l.stackTraces by rw [X.admits.platform]).trans hl
  have Y := vx_rebase X (R' := { frames := R.frames, locals := R.locals, cells := 1, slots := 6 }) (Nat.le_refl _) (Nat.le_refl _) hRcells hRslots
  obtain ⟨s', hA⟩ : ∃ z, z = (T.setVm s.vm).setFrames (.invoking m args :: below) := ⟨_, rfl⟩
  rw [← hA] at Y
  have hvm : s'.vm = s.vm := by rw [hA]; rfl
  have hhp : s'.heap = T.heap := by rw [hA]; rfl
  have hW0 : s.WarmedH s'.vm := by rw [hvm]; exact State.WarmedH.refl s
  have hat' : ∀ w ∈ vx_atS own ic cls names, w.before args s' = true := fun w hw => vx_ot_at hW0 hvm.symm (hgood w (List.mem_cons_of_mem _ (List.mem_cons_of_mem _ hw))) (hat w hw)
  have hk' : (Cond.classLink own ik cls).before args s' = true := vx_ot_at hW0 hvm.symm (hgood _ List.mem_cons_self) hk
  have hini' : (Cond.initialized cls).before args s' = true := vx_ot_at hW0 hvm.symm (hgood _ (List.mem_cons_of_mem _ List.mem_cons_self)) hini
  have hU' : vx_Zq Bundle.tN "UNASSIGNED_STACK" Bundle.steD A s' s'.heap := by rw [hhp]; exact vx_Zq.moved hW0.alike hU
  have hN' : vx_Zq Bundle.tN "SUPPRESSED_SENTINEL" Bundle.listD A s' s'.heap := by rw [hhp]; exact vx_Zq.moved hW0.alike hN
  have h : ∀ w ∈ Bundle.ownAtoms own ic cls names, w.before args s' = true := vx_own hat' (vx_isRefq hU'.1) (vx_isRefq hN'.1) hU'.2.word hN'.2.word
  have hown' : s'.vm.findClass own = some m.cls := by rw [hvm]; exact hown
  have hins : (Cond.instantiable cls 6).before args s' = true := h _ (by simp [Bundle.ownAtoms])
  obtain ⟨vm₁, cX, kX, hfX, hkX, -, -, X₁, st1⟩ := Y.newCold hexec (own := own) (C := cls) (index := ik) (n := 6) hown' hk' hins hini'
    (g := F0 m pc ls rest) rfl (by rw [hb]; exact d0) (Nat.le_refl _) (Nat.le_refl _)
  generalize hT1 : (T.setVm vm₁).pushCell { cls := cX, slots := kX.instanceTypes.map defaultValue, vm := .none } = T1 at X₁ st1
  have hcat : (Value.ref T.heap.size).category = 1 := rfl
  have hcellA : T1.heap[T.heap.size]? = some (freshCell cX kX) := by rw [← hT1]; exact State.heap_pushCell_size _ _
  have d3' : decode c.code (pc + 3) = .ok (.dup, 1) := by rw [hb]; exact d3
  have d4' : decode c.code (pc + 4) = .ok (.ldc is, 2) := by rw [hb]; exact d4
  have hstr' : vk_R own is text sa s' := vk_R.warm hW0 hstr
  obtain ⟨U, hsteps, hrun, hend, hW, hsame, ce, hce, hO⟩ := X₁.ctorThrowS hexec htr (own := own) (cls := cls) (names := names) (ic := ic) hown' hcls hnames h (fun x hx => nomatch hx) hfX hkX hcellA (by rw [hhp]; exact Nat.le_refl _) (msg := .ref sa) rfl
    (g := { method := m, pc := pc + 6, locals := ls, stack := .ref sa :: .ref T.heap.size :: .ref T.heap.size :: rest, locked := none }) rfl hsize rfl rfl (rest := rest) rfl
    (by rw [hb]; exact d6) (by rw [hb]; exact d9) hout hRframes (by simp only [List.map_cons, List.sum_cons, hcat]; omega) hlocks
  obtain ⟨f1, f2⟩ := vx_frame hsame
  rw [hhp] at f1 f2
  have hcl : s.vm.findClass cls = some ce.cls := by
    have h9 := hO.cls
    rw [hvm] at h9
    exact h9
  have hle : U.heap.size ≤ T.heap.size + 1 := by
    have h9 : U.heap.size ≤ s'.heap.size + (0 + 1) := hsame.2.2.1
    rw [hhp] at h9
    omega
  have hlt : T.heap.size < U.heap.size := (Array.getElem?_eq_some_iff.mp hce).1
  have hall : s.sameButNew ({ U with vm := s.vm } : State) locs (cells + 1) (slots + 6) := by
    subst hA
    obtain ⟨e1, e2⟩ := hsame
    rw [State.setFrames_setFrames] at e1
    have h2 : (T.setVm s.vm).sameButNew ({ U with vm := s.vm } : State) [] (0 + 1) (0 + 6) := ⟨e1, e2⟩
    have h3 := X.same.trans h2
    rw [List.append_nil, Nat.zero_add, Nat.zero_add] at h3
    exact h3
  refine ⟨U, st1 _ ?_, hrun, hend, State.WarmedH.trans hW0 hW, hall, by omega, fun q hq => f2 q hq (fun z hz => nomatch hz), ce, hce, hO.vm, hcl⟩
  show Steps p.tables e below (T1.setTop { method := m, pc := pc + 3, locals := ls, stack := .ref T.heap.size :: rest, locked := none }) _
  jvm_step X₁.here [X₁.here.top, hexec, d3', Value.category]
  exact X₁.ldcString hexec (own := own) (text := text) (index := is) (a := sa) hown' hstr'.1 hstr'.2
    (g := { method := m, pc := pc + 4, locals := ls, stack := .ref T.heap.size :: .ref T.heap.size :: rest, locked := none }) rfl d4' _ hsteps
end ZBA
section ZBB
variable {l : Launch} {R : Room} {p : Program} {e : Env} {below : List Frame} {s : State} {sargs : Array Value} {y : MethodName} {len W9 : Nat} {m : MethodId} {meth : Method} {c : Code} {U : State} {Ls : List Loc} {c0 s0 : Nat}
/-- a callee by its contract: how it ends, and the walk behind it -/
theorem zb_back {S : Spec} {Pc : Array Value → State → Prop} {Qc : Array Value → State → Outcome → State → Prop} {g : JFrame} {ig : Instr} {mk : MethodId} {a : Array Value} {methY : Method} {cY : Code} {maxL : Nat}
    (hM : MetFree l y S Pc (fun _ _ _ _ _ => True) Qc) (X : Stand p l e R s m sargs below meth c U Ls c0 s0) (hg : g.method = m) (hsize : g.locals.size = c.maxLocals) (hdg : decode c.code g.pc = .ok (ig, len)) (hW : 2 * g.monitorRoom + (g.stack.map fun v => v.category).sum ≤ W9)
    (hn : U.methodNamed? y = some mk) (hmY : U.vm.method? mk = some methY) (hcY : methY.code = some cY) (hlY : cY.maxLocals = maxL) (h3 : (Cond.initialized y.cls).before a U = true) (hframes : S.room.frames + 1 ≤ R.frames) (hlocals : W9 + (maxL + 11) + S.room.locals ≤ R.locals)
    (h4 : c0 + S.room.cells ≤ R.cells) (h5 : s0 + S.room.slots ≤ R.slots) (h1 : S.pre.before a U = true) (hPc : Pc a (U.calling g mk a)) :
    ∃ (o : Outcome) (t : State), Qc a (U.calling g mk a) o t ∧ ∀ (L : List Loc) (k n : Nat), U.WarmedH t.vm → (U.calling g mk a).sameButNew ({ t with vm := (U.calling g mk a).vm } : State) L k n →
      ∃ U' : State, U'.heap = t.heap ∧ U'.vm = t.vm ∧ Stand p l e R s m sargs below meth c U' (Ls ++ L) (c0 + k) (s0 + n) ∧
        (∀ v, o = .returned v → Steps p.tables e below (doInvoke e (U.setTop g) [] mk a).1 (U'.setTop { g with pc := g.pc + len, stack := v.toList ++ g.stack })) ∧
        (∀ q, o = .threw q → Steps p.tables e below (doInvoke e (U.setTop g) [] mk a).1 ((U'.setTop g).pushFrame (.throwing q))) := by
  obtain ⟨kY, hkY, -⟩ := className_of_methodNamed hn
  have hinitY : kY.init = .initialized := Cond.initialized_spec (findClass_of_methodNamed hn) hkY h3
  have h : At U g.method c below := by rw [hg]; exact X.here
  have happ : S.appliesLoose y e.platform (U.calling g mk a) = true :=
    Spec.appliesLoose_calling (g := g) h hdg hn hkY hinitY (X.room_calling (g := g) (R' := S.room) hsize hmY hcY hframes (by rw [hlY]; omega) h4 h5) h1
  obtain ⟨mid, hmid⟩ := h.above
  have hfr : (U.setTop g).frames = (.java g :: mid) ++ below := by rw [State.frames_setTop' g h.top, hmid]; rfl
  obtain ⟨o, s₂, hsteps, -, hend, hq⟩ := Steps.callFree hM p X.admits X.cas X.clock (acts := []) hfr happ hPc trivial
  rw [State.frames_setTop' g h.top] at hend
  obtain ⟨g₀, hg0⟩ := Option.isSome_iff_exists.mp h.top
  obtain ⟨r, hr⟩ := State.topJava?_eq_some.mp hg0
  have hr' : (({ U with heap := s₂.heap, slotsUsed := s₂.slotsUsed } : State).setVm s₂.vm).frames = .java g₀ :: r := hr
  refine ⟨o, s₂, hq, fun L k n hW₂ hsm => ?_⟩
  obtain ⟨e2, q2, q3, q4, q5, q6⟩ := id hsm
  have e3 : s₂ = ({ (U.calling g mk a).setFrames s₂.frames with heap := s₂.heap, slotsUsed := s₂.slotsUsed } : State).setVm s₂.vm := by
    have : s₂ = ({ s₂ with vm := (U.calling g mk a).vm } : State).setVm s₂.vm := rfl
    rw [e2] at this
    exact this
  have hsame : U.sameButNew ({ U with heap := s₂.heap, slotsUsed := s₂.slotsUsed } : State) L k n := by
    refine ⟨?_, q2, q3, q4, q5, q6⟩
    obtain ⟨t, ht, -⟩ := State.frames_cons hr
    show ({ U with heap := s₂.heap, slotsUsed := s₂.slotsUsed } : State) = { U.setFrames U.frames with heap := s₂.heap, slotsUsed := s₂.slotsUsed }
    rw [State.setFrames_self ht]
  refine ⟨(({ U with heap := s₂.heap, slotsUsed := s₂.slotsUsed } : State).setVm s₂.vm), rfl, rfl, ?_, ?_, ?_⟩
  · exact ⟨X.admits, X.cas, X.clock, X.frames, X.room, X.hears, X.method, X.code, (X.here.setHeapUsed s₂.heap s₂.slotsUsed).setVm hW₂.alike, X.tail, State.WarmedH.trans X.warmed hW₂, X.limits, X.bytes, X.same.trans (hsame.setVm s.vm)⟩
  · intro v hv
    subst hv
    obtain ⟨c₂, i₂, len₂, hc₂, hd₂, hf₂⟩ := hend
    have hcc : c₂ = c := by
      have h1 : s₂.code? g.method = U.code? g.method := by
        rw [State.code?_eq, State.code?_eq, hW₂.alike.method?]
      exact Option.some.inj (hc₂.symm.trans (h1.trans h.code))
    subst hcc
    have hlen : len₂ = len := by rw [hdg] at hd₂; cases hd₂; rfl
    subst hlen
    have hs₂ : s₂ = (({ U with heap := s₂.heap, slotsUsed := s₂.slotsUsed } : State).setVm s₂.vm).setTop { g with pc := g.pc + len₂, stack := v.toList ++ g.stack } := by
      refine e3.trans ?_
      rw [hf₂, State.calling_eq h.top, State.setFrames_setFrames, State.setTop_of_frames _ hr', hr]
      rfl
    rw [← hs₂]
    exact hsteps
  · intro q hv
    subst hv
    have hf₂ : s₂.frames = .throwing q :: .java g :: U.frames.tail := hend
    have hs₂ : s₂ = ((({ U with heap := s₂.heap, slotsUsed := s₂.slotsUsed } : State).setVm s₂.vm).setTop g).pushFrame (.throwing q) := by
      refine e3.trans ?_
      rw [hf₂, State.calling_eq h.top, State.setFrames_setFrames, State.pushFrame, State.frames_setTop _ hr', State.setTop_of_frames _ hr', State.setFrames_setFrames, hr]
      rfl
    rw [← hs₂]
    exact hsteps
end ZBB
section ZBC
variable {V : zv_V} {M : zg_M} {fr lc n0 u0 pc : Nat} {st : List Value} {lv : List (Nat × Value)} {w : zw_W} {Q : zg_O → zw_W → Prop}
/-- a method's end by a value, out of the kit's rows -/
theorem zg_back {p : Program} {e : Env} {R : Room} {s : State} {m : MethodId} {args : Array Value} {below : List Frame} {meth : Method} {c : Code} {H : Heap} {locs : List Loc} {cells slots : Nat} {ls : Array Slot} {g : JFrame} (K : zg_K V M fr lc n0 u0 lv w p R s m meth c H locs cells slots ls) {v : Option Value} (hq : Q (.inl v) w)
    (k : W p (zv_l V) e R s m args below meth c H locs cells slots (MQ below (fun _ _ o t => o = .returned (v.map (zv_cv V)) ∧ t.heap = H) args s cells slots (fun q => zv_S V ≤ q)) g) : W p (zv_l V) e R s m args below meth c H locs cells slots (zg_E V below s n0 u0 Q) g := by
  refine zz_mono (fun t ht => ?_) k
  obtain ⟨o, h1, h2, ⟨h3, h4⟩, L, ⟨h5, h6, h7⟩, h8⟩ := ht
  have hc1 := K.2.2.1
  have hc2 := K.2.2.2.1
  refine ⟨o, h1, h2, .inl v, w, L, h3, by rw [h4]; exact K.2.2.2.2.1, hq, by omega, by omega, h6, ?_, h8⟩
  rw [show w.1 - n0 = cells by omega, show w.2.1 - u0 = slots by omega]
  exact h7
theorem zg_iret {v : Int32} (hr : M.2.2.2.1 = some .int) (hd : decode M.2.1 pc = .ok (.ireturn, 1)) (hq : Q (.inl (some (.int v))) w) : zg_G V M fr lc n0 u0 pc [.int v] lv w Q :=
  fun p e R s m args below meth c H locs cells slots ls K => zg_back K hq (W.iret K.1.1 K.1.2.1 (K.1.2.2.1.trans hr) (fun t ht _ => ⟨rfl, ht⟩) K.2.2.2.2.2.1.1 hd K.1.2.2.2.2.2.1)
theorem zg_zret {v : Int32} (hr : M.2.2.2.1 = some .boolean) (hn : narrow .boolean (.int v) = .int v) (hd : decode M.2.1 pc = .ok (.ireturn, 1)) (hq : Q (.inl (some (.int v))) w) : zg_G V M fr lc n0 u0 pc [.int v] lv w Q :=
  fun p e R s m args below meth c H locs cells slots ls K => zg_back K hq (W.zret K.1.1 K.1.2.1 (K.1.2.2.1.trans hr) hn (fun t ht _ => ⟨rfl, ht⟩) K.2.2.2.2.2.1.1 hd K.1.2.2.2.2.2.1)
theorem zg_lret {v : Int64} (hr : M.2.2.2.1 = some .long) (hd : decode M.2.1 pc = .ok (.lreturn, 1)) (hq : Q (.inl (some (.long v))) w) : zg_G V M fr lc n0 u0 pc [.long v] lv w Q :=
  fun p e R s m args below meth c H locs cells slots ls K => zg_back K hq (W.lret K.1.1 K.1.2.1 (K.1.2.2.1.trans hr) (fun t ht _ => ⟨rfl, ht⟩) K.2.2.2.2.2.1.1 hd K.1.2.2.2.2.2.1)
theorem zg_vret (hr : M.2.2.2.1 = none) (hd : decode M.2.1 pc = .ok (.return_, 1)) (hq : Q (.inl none) w) : zg_G V M fr lc n0 u0 pc [] lv w Q :=
  fun p e R s m args below meth c H locs cells slots ls K => zg_back K hq (W.vret K.1.1 K.1.2.1 (K.1.2.2.1.trans hr) (fun t ht _ => ⟨rfl, ht⟩) K.2.2.2.2.2.1.1 hd K.1.2.2.2.2.2.1)
end ZBC
end
section
/-! The light judgement: throws, catches, contracts, calls, System.arraycopy. -/
def zg_cw (M : zg_M) (y : MethodName) : Cond := if M.2.2.2.2.isEmpty then .code y M.2.1 M.2.2.1 M.2.2.2.1 else .codeWith y M.2.1 M.2.2.1 M.2.2.2.1 M.2.2.2.2
/-- a method's contract: from the world w, called with args, it ends with Q; it needs fr frames, lc words of the stack -/
def zg_C (V : zv_V) (M : zg_M) (y : MethodName) (fr lc : Nat) (args : List Value) (w : zw_W) (Q : zg_O → zw_W → Prop) : Prop :=
  ∀ rm : Room, fr ≤ rm.frames → lc ≤ rm.locals → zc_cn ≤ w.1 + rm.cells → zc_cs ≤ w.2.1 + rm.slots →
    MetFree (zv_l V) y (headSpec [zg_cw M y] rm) (fun a s => a = (args.map (zv_cv V)).toArray ∧ (zv_s V).WarmedH s.vm ∧ zw_P V w s.heap) (fun _ _ _ _ _ => True) (fun _ s o t => zg_F V s w.1 w.2.1 Q o t)
theorem zg_cw_spec {M : zg_M} {y : MethodName} {args : Array Value} {s : State} {m : MethodId} (h : (zg_cw M y).before args s = true) (hn : s.methodNamed? y = some m) :
    ∃ meth c, s.vm.method? m = some meth ∧ meth.code = some c ∧ c.code = M.2.1 ∧ c.maxLocals = M.2.2.1 ∧ meth.sig.returnType = M.2.2.2.1 ∧ meth.locks = false ∧ c.exceptionTable.toList = tableOf M.2.2.2.2 := by
  unfold zg_cw at h
  split at h
  · rename_i hh
    obtain ⟨meth, c, h1, h2, h3, h4, h5, h6, h7, -⟩ := Cond.code_spec hn h
    have e : M.2.2.2.2 = [] := List.isEmpty_iff.mp hh
    refine ⟨meth, c, h1, h2, h3, h4, h5, h6, ?_⟩
    rw [e, Array.isEmpty_iff.mp h7]
    rfl
  · obtain ⟨m9, meth, c, hn9, h1, h2, h3, h4, h6, h7, h8, -⟩ := Cond.codeWith_spec h
    cases hn.symm.trans hn9
    refine ⟨meth, c, h1, h2, h3, h4, h7, h8, ?_⟩
    rw [← h6, table_eq]
theorem zg_args (V : zv_V) : ∀ (vs : List Value) (i : Nat), lv_args i (vs.map (zv_cv V)) = (lv_args i vs).map (zv_lp V)
  | [], _ => rfl
  | v :: vs, i => by
    show (i, zv_cv V v) :: lv_args _ (vs.map (zv_cv V)) = zv_lp V (i, v) :: (lv_args _ vs).map (zv_lp V)
    rw [zg_args V vs, zv_cat]
    rfl
theorem zg_sls (V : zv_V) : ∀ (vs : List Value), (lg_sl (vs.map (zv_cv V))).length = (lg_sl vs).length
  | [] => rfl
  | v :: vs => by
    have ih := zg_sls V vs
    unfold lg_sl at ih ⊢
    rw [List.map_cons, List.flatMap_cons, List.flatMap_cons, List.length_append, List.length_append, ih, zv_cat]
    split <;> rfl
/-- a contract out of the walk of the body -/
theorem zg_of {V : zv_V} {M : zg_M} {y : MethodName} {fr lc : Nat} {args : List Value} {w : zw_W} {Q : zg_O → zw_W → Prop} (hy : plainName y.cls = true) (hM : y.cls = M.1) (ha : (lg_sl args).length ≤ M.2.2.1) (hG : zg_G V M fr lc w.1 w.2.1 0 [] (lv_args 0 args) w Q) : zg_C V M y fr lc args w Q := by
  intro rm r1 r2 r3 r4
  refine MetFree.of_bodyS (code := M.2.1) (maxLocals := M.2.2.1) (ret := M.2.2.2.1) hy ?_ ?_
  · intro a s m h hn
    obtain ⟨meth, c, h1, h2, h3, h4, h5, h6, -⟩ := zg_cw_spec (atoms_spec (ws := [zg_cw M y]) h _ List.mem_cons_self) hn
    exact ⟨meth, c, h1, h2, h3, h4, h5, h6⟩
  · intro p e s m a below meth c s₁ B hml hP _
    obtain ⟨rfl, hW, hw⟩ := hP
    obtain ⟨meth', c', h1, h2, h3, h4, h5, h6, h7⟩ := zg_cw_spec (atoms_spec (ws := [zg_cw M y]) B.pre _ List.mem_cons_self) B.named
    cases h1.symm.trans B.method
    cases h2.symm.trans (Stand.of_body B).code
    have hown : s.vm.findClass M.1 = some m.cls := by rw [← hM]; exact findClass_of_methodNamed B.named
    have hh0 : s₁.heap = s.heap := by rw [B.state]; rfl
    have hl := lv_entry (args.map (zv_cv V)) (n := M.2.2.1) (by rw [zg_sls]; exact ha)
    rw [zg_args] at hl
    have hs := hw.1
    have hpos : 1 ≤ w.1 ∨ w.1 = 0 := by omega
    have g := hG p e rm s m (args.map (zv_cv V)).toArray below meth c s.heap [] 0 0 _ ⟨⟨B.exec, B.bytes, B.returns, hml, hown, B.notSynchronized, h7, hW, hw.2.1, ?_⟩, ⟨r1, r2, r3, r4⟩, rfl, rfl, hw, ⟨(fun _ h => nomatch h), hs⟩, hl⟩ s₁ hh0 (Stand.of_body B)
    · obtain ⟨t, a1, o, b1, b2, b3⟩ := g
      refine ⟨t, o, ?_, b1, b2, b3⟩
      rw [lg_entry_eq]
      exact a1
    · rcases Nat.lt_or_ge s.heap.size (zv_S V) with h | h
      · exfalso
        have h9 := hw.2.1 s.heap.size h
        rw [Array.getElem?_eq_getElem h] at h9
        simp at h9
      · exact h
/-- words that a step which only resolves can't change -/
def zx_fc (w : Cond) : Bool := w.onTables && w.keepsFace
theorem zx_face {args a' : Array Value} {s U : State} {w : Cond} (hW : s.WarmedH U.vm) (hg : zx_fc w = true) (h : w.before args s = true) : w.before a' U = true := by
  unfold zx_fc at hg
  rw [Bool.and_eq_true] at hg
  exact va_tabs hg.1 (rfl : (s.setVm U.vm).vm = U.vm) (Cond.before_shiftedFace (State.Shifted.of_warmed hW) _ hg.2 h)
section ZCA
variable {V : zv_V} {M : zg_M} {fr lc n0 u0 pc : Nat} {st : List Value} {lv : List (Nat × Value)} {w : zw_W} {Q : zg_O → zw_W → Prop}
/-- the kinds of exceptions are classes of no fields of ours: nothing is told of their cells -/
theorem zw_exc {V : zv_V} {k : Nat} (hk : 14 ≤ k) (n : Nat) (r : Nat → Option Nat) (i : Nat → Int32) (lo : Nat → Int64) (a : Nat) (H : Heap) : zw_cell V (k, n) r i lo a H := by
  unfold zw_cell
  have h1 : ¬ (k, n).1 < 5 := by show ¬ k < 5; omega
  have h2 : ¬ (k, n).1 = 10 := by show ¬ k = 10; omega
  have h3 : ¬ (k, n).1 = 11 := by show ¬ k = 11; omega
  have h4 : ¬ (k, n).1 = 12 := by show ¬ k = 12; omega
  have h5 : ¬ (k, n).1 = 13 := by show ¬ k = 13; omega
  rw [if_neg h1, if_neg h2, if_neg h3, if_neg h4, if_neg h5]
  trivial
theorem zg_throw (E : zv_OK V) (k : Nat) {ik is ic : Nat} {text : String} (hkk : k = 20 ∨ k = 21) (hM : M.1 = "FlipPages") (hh : M.2.2.2.2 = []) (d0 : decode M.2.1 pc = .ok (.new ik, 3)) (d3 : decode M.2.1 (pc + 3) = .ok (.dup, 1)) (d4 : decode M.2.1 (pc + 4) = .ok (.ldc is, 2)) (d6 : decode M.2.1 (pc + 6) = .ok (.invokespecial ic, 3)) (d9 : decode M.2.1 (pc + 9) = .ok (.athrow, 1))
    (htx : (is, text) ∈ zc_tx) (hw1 : Cond.classLink "FlipPages" ik (zc_ex k) ∈ lw_tbl) (hw2 : Cond.initialized (zc_ex k) ∈ lw_tbl) (hw3 : ∀ x ∈ vx_atS "FlipPages" ic (zc_ex k) ["java/lang/RuntimeException", "java/lang/Exception"], x ∈ lw_tbl ∧ zx_fc x = true)
    (h1 : 1 ≤ w.1) (hcn : w.1 + 1 ≤ zc_cn) (hcs : w.2.1 + 6 ≤ zc_cs) (hfr : 6 ≤ fr) (hst : (st.map fun v => v.category).sum + 82 ≤ lc) (hq : Q (.inr k) (zw_nw w (k, 6))) : zg_G V M fr lc n0 u0 pc st lv w Q := by
  intro p e R s m args below meth c H locs cells slots ls K T hT X
  have hr := K.2.1
  have hc1 := K.2.2.1
  have hc2 := K.2.2.2.1
  have hP := K.2.2.2.2.1
  have hal := K.1.2.2.2.2.2.2.2.1.alike
  obtain ⟨sa, hsa⟩ := E.2.2.2.2.2.2.2.2.2.2.2.1 (is, text) htx
  have hfits : Bundle.fit (zc_ex k) = true := by
    rcases hkk with rfl | rfl <;> decide +kernel
  have hold : ∀ a : Nat, a < (zv_s V).heap.size → ¬ (fun q => zv_S V ≤ q) a → T.heap[a]? = (zv_s V).heap[a]? := fun a ha _ => by rw [hT]; exact hP.2.1 a ha
  have hcat : (((st.map (zv_cv V)).map fun v => v.category).sum) = (st.map fun v => v.category).sum := by
    rw [List.map_map]
    exact congrArg List.sum (List.map_congr_left fun v _ => zv_cat V v)
  obtain ⟨U, a1, a2, a3, a4, a5, a6, a7, ce, a8, a9, a10⟩ := zz_throwS (cc := M.2.1) (pc := pc) (ls := ls) (rest := st.map (zv_cv V)) (own := "FlipPages") (cls := zc_ex k) (names := ["java/lang/RuntimeException", "java/lang/Exception"]) (ik := ik) (is := is) (ic := ic) (text := text) (sa := sa) (A := fun q => zv_S V ≤ q) X K.1.1 K.1.2.1 E.1 (by rw [← hM]; exact K.1.2.2.2.2.1) hfits (by decide +kernel)
    (zx_w E K.1 hw1 rfl args) (zx_w E K.1 hw2 rfl args) (vk_R.warm K.1.2.2.2.2.2.2.2.1 hsa) (fun x hx => zx_face K.1.2.2.2.2.2.2.2.1 (hw3 x hx).2 (E.2.1 x (hw3 x hx).1))
    (fun x hx => by
      have hgx : x.onTables = true := by
        rcases List.mem_cons.mp hx with rfl | hx
        · rfl
        · rcases List.mem_cons.mp hx with rfl | hx
          · rfl
          · have h9 := (hw3 x hx).2
            unfold zx_fc at h9
            rw [Bool.and_eq_true] at h9
            exact h9.1
      show (x.onTables || goodWord x) = true
      rw [hgx, Bool.true_or])
    (vx_Zq.moved hal (E.2.2.2.2.2.2.2.2.2.1.kept hold)) (vx_Zq.moved hal (E.2.2.2.2.2.2.2.2.2.2.1.kept hold)) (K.2.2.2.2.2.2.1.trans K.1.2.2.2.1.symm) d0 d3 d4 d6 d9
    (fun x hx => by rw [K.1.2.2.2.2.2.2.1, hh] at hx; exact nomatch hx) (by show 2 + 3 < R.frames; omega) (by rw [hcat]; show _ + (13 * (2 + 1) + 43) ≤ _; omega) (by omega) (by omega) K.1.2.2.2.2.2.1
  rw [hT] at a3 a6 a7 a8
  have had := zw_adn hP h1
  refine ⟨U, a1, .threw H.size, a2, a3, .inr k, zw_nw w (k, 6), locs, ⟨w.1, ce, by rw [had], by rw [had]; exact a8, a9, by rw [← hal.findClass]; exact a10⟩, ?_, hq, by show n0 ≤ w.1 + 1; omega, by show u0 ≤ w.2.1 + 6; omega, a4, ?_, K.2.2.2.2.2.1.1⟩
  · exact zw_push hP h1 rfl a6 a7 zw_rest_n (by
      show zw_cell V (zw_ro (zw_t w) w.1 (k, 6) w.1) _ _ _ _ _
      rw [zw_ro_s]
      exact zw_exc (by omega) _ _ _ _ _ _)
  · show s.sameButNew _ locs (w.1 + 1 - n0) (w.2.1 + 6 - u0)
    rw [show w.1 + 1 - n0 = cells + 1 by omega, show w.2.1 + 6 - u0 = slots + 6 by omega]
    exact a5
/-- no handlers here: the exception leaves the method -/
theorem zg_out {k : Nat} (hh : M.2.2.2.2 = []) (hq : Q (.inr k) w) : zg_T V M fr lc n0 u0 pc k lv w Q := by
  intro p e R s m args below meth c H locs cells slots ls rest kx ce K hce hcv hcl T hT X
  have hc1 := K.2.2.1
  have hc2 := K.2.2.2.1
  obtain ⟨st1, hrun, hend, hW, hsm⟩ := X.leaveThrown (zv_ad V kx) (g := F0 m pc ls rest) rfl rfl rfl (fun x hx => by rw [K.1.2.2.2.2.2.2.1, hh] at hx; exact nomatch hx) K.1.2.2.2.2.2.1
  refine ⟨_, st1, .threw (zv_ad V kx), hrun, hend, .inr k, w, locs, ⟨kx, ce, rfl, ?_, hcv, ?_⟩, ?_, hq, by omega, by omega, hW, ?_, K.2.2.2.2.2.1.1⟩
  · show T.heap[zv_ad V kx]? = some ce
    rw [hT]
    exact hce
  · rw [← K.1.2.2.2.2.2.2.2.1.alike.findClass]
    exact hcl
  · show zw_P V w T.heap
    rw [hT]
    exact K.2.2.2.2.1
  · rw [show w.1 - n0 = cells by omega, show w.2.1 - u0 = slots by omega]
    exact hsm
theorem zg_catch (E : zv_OK V) {k : Nat} {pre suf : List ExceptionTableEntry} {x : ExceptionTableEntry} (hs : tableOf M.2.2.2.2 = pre ++ x :: suf) (hp : ∀ z ∈ pre, covers z pc = false ∨ (z.catchType ≠ 0 ∧ ∃ nm : String, Cond.classLink M.1 z.catchType nm ∈ lw_tbl ∧ va_Nc (zc_ex k) nm (zv_s V))) (hx : covers x pc = true) (h0 : x.catchType ≠ 0)
    (hl : Cond.classLink M.1 x.catchType (zc_ex k) ∈ lw_tbl) (hca : Cond.castable (zc_ex k) (zc_ex k) ∈ lw_tbl) (kk : ∀ kx, zg_G V M fr lc n0 u0 x.handlerPc [.ref kx] lv w Q) : zg_T V M fr lc n0 u0 pc k lv w Q := by
  intro p e R s m args below meth c H locs cells slots ls rest kx ce K hce hcv hcl
  have hal := K.1.2.2.2.2.2.2.2.1
  refine zz_catch K.1.2.2.2.2.1 pre x suf (by rw [K.1.2.2.2.2.2.2.1]; exact hs) (fun z hz => ?_) hx h0 (zx_w E K.1 hl rfl args) (va_Nw.use rfl (va_Nw.warmC hal (va_Nw.of rfl (E.2.1 _ hca)))) hce hcv hcl (kk kx p e R s m args below meth c H locs cells slots ls K)
  rcases hp z hz with h | ⟨h, nm, h1, h2⟩
  · exact Or.inl h
  · exact Or.inr ⟨h, nm, zx_w E K.1 h1 rfl args, h2.moved hal.alike⟩
end ZCA
end
section
/-! The light judgement: calls and System.arraycopy. -/
section ZDA
variable {V : zv_V} {M : zg_M} {fr lc n0 u0 pc : Nat} {st : List Value} {lv : List (Nat × Value)} {w : zw_W} {Q : zg_O → zw_W → Prop}
theorem zv_cats (V : zv_V) (st : List Value) : (((st.map (zv_cv V)).map fun v => v.category).sum) = (st.map fun v => v.category).sum := by
  rw [List.map_map]
  exact congrArg List.sum (List.map_congr_left fun v _ => zv_cat V v)
/-- the callee's run, once its frame is to be laid -/
theorem zg_into {p : Program} {e : Env} {R : Room} {s : State} {m : MethodId} {args : Array Value} {below : List Frame} {meth : Method} {c : Code} {H : Heap} {locs : List Loc} {cells slots : Nat} {ls : Array Slot} {U : State} {M' : zg_M} {y : MethodName} {fr' lc' : Nat} {av : List Value} {Qc : zg_O → zw_W → Prop} {ig : Instr} {mk : MethodId}
    (E : zv_OK V) (K : zg_K V M fr lc n0 u0 lv w p R s m meth c H locs cells slots ls) (hU : U.heap = H) (X : Stand p (zv_l V) e R s m args below meth c U locs cells slots) (hC : zg_C V M' y fr' lc' av w Qc) (hfr : fr' + 1 ≤ fr) (hlc : 19 + M'.2.2.1 + lc' ≤ lc) (hst : (st.map fun v => v.category).sum ≤ 8) (hcn : w.1 ≤ zc_cn) (hcs : w.2.1 ≤ zc_cs)
    (hd : decode M.2.1 pc = .ok (ig, 3)) (hmk : U.methodNamed? y = some mk) (hwc : zg_cw M' y ∈ lw_tbl) (hwg : goodWord (zg_cw M' y) = true) (hwi : Cond.initialized y.cls ∈ lw_tbl)
    (kr : ∀ v w', Qc (.inl v) w' → zg_G V M fr lc n0 u0 (pc + 3) (v.toList ++ st) lv w' Q) (kt : ∀ k w', Qc (.inr k) w' → zg_T V M fr lc n0 u0 pc k lv w' Q) :
    ∃ t, Steps p.tables e below (doInvoke e (U.setTop (F0 m pc ls (st.map (zv_cv V)))) [] mk (av.map (zv_cv V)).toArray).1 t ∧ zg_E V below s n0 u0 Q t := by
  have hr := K.2.1
  have hc1 := K.2.2.1
  have hc2 := K.2.2.2.1
  have hP := K.2.2.2.2.1
  have hWU : (zv_s V).WarmedH U.vm := State.WarmedH.trans K.1.2.2.2.2.2.2.2.1 X.warmed
  have hword : ∀ a : Array Value, (zg_cw M' y).before a U = true := fun a => word_at hWU (good_of_word hwg) (E.2.1 _ hwc)
  have hini : ∀ a : Array Value, (Cond.initialized y.cls).before a U = true := fun a => word_at hWU (good_of_word rfl) (E.2.1 _ hwi)
  obtain ⟨methY, cY, hmY, hcY, -, hlY, -⟩ := zg_cw_spec (hword #[]) hmk
  obtain ⟨o, t, hq, hb⟩ := zb_back (S := headSpec [zg_cw M' y] { frames := fr', cells := zc_cn - w.1, slots := zc_cs - w.2.1, locals := lc' }) (W9 := 8) (g := F0 m pc ls (st.map (zv_cv V))) (ig := ig) (len := 3) (a := (av.map (zv_cv V)).toArray) (hC { frames := fr', cells := zc_cn - w.1, slots := zc_cs - w.2.1, locals := lc' } (Nat.le_refl _) (Nat.le_refl _) (by show zc_cn ≤ w.1 + (zc_cn - w.1); omega) (by show zc_cs ≤ w.2.1 + (zc_cs - w.2.1); omega)) X rfl (K.2.2.2.2.2.2.1.trans K.1.2.2.2.1.symm) (by rw [K.1.2.1]; exact hd) (by show 2 * 0 + ((st.map (zv_cv V)).map fun v => v.category).sum ≤ 8; rw [zv_cats]; omega) hmk hmY hcY hlY (hini _)
    (by show fr' + 1 ≤ R.frames; omega) (by show 8 + (M'.2.2.1 + 11) + lc' ≤ R.locals; omega) (by show cells + (zc_cn - w.1) ≤ R.cells; omega) (by show slots + (zc_cs - w.2.1) ≤ R.slots; omega) (atoms_intro fun x hx => by rw [List.mem_singleton.mp hx]; exact hword _) ⟨rfl, hWU, by show zw_P V w U.heap; rw [hU]; exact hP⟩
  obtain ⟨o', w', L, q1, q2, q3, q4, q5, q6, q7, q8⟩ := hq
  obtain ⟨U', e1, e2, X', sr, sx⟩ := hb L _ _ q6 q7
  have K' : zg_K V M fr lc n0 u0 lv w' p R s m meth c U'.heap (locs ++ L) (cells + (w'.1 - w.1)) (slots + (w'.2.1 - w.2.1)) ls := by
    refine ⟨K.1, K.2.1, by omega, by omega, by rw [e1]; exact q2, ⟨fun q hq => ?_, K.2.2.2.2.2.1.2⟩, K.2.2.2.2.2.2⟩
    rcases List.mem_append.mp hq with h | h
    · exact K.2.2.2.2.2.1.1 q h
    · exact q8 q h
  match o', q1, q3 with
  | .inl v, q1, q3 =>
    have q1 : o = .returned (v.map (zv_cv V)) := q1
    obtain ⟨t2, a1, b1⟩ := kr v w' q3 p e R s m args below meth c U'.heap _ _ _ ls K' U' rfl X'
    refine ⟨t2, (sr _ q1).trans ?_, b1⟩
    have es : (v.map (zv_cv V)).toList ++ st.map (zv_cv V) = (v.toList ++ st).map (zv_cv V) := by
      cases v <;> simp
    show Steps p.tables e below (U'.setTop (F0 m (pc + 3) ls ((v.map (zv_cv V)).toList ++ st.map (zv_cv V)))) t2
    rw [es]
    exact a1
  | .inr k, q1, q3 =>
    obtain ⟨kx, ce, g1, g2, g3, g4⟩ := q1
    obtain ⟨t2, a1, b1⟩ := kt k w' q3 p e R s m args below meth c U'.heap _ _ _ ls (st.map (zv_cv V)) kx ce K' (by rw [e1]; exact g2) g3 (by rw [K.1.2.2.2.2.2.2.2.1.alike.findClass]; exact g4) U' rfl X'
    exact ⟨t2, (sx _ g1).trans a1, b1⟩
theorem zg_len {y : MethodName} {n : Nat} (h : (parseMethodDescriptor y.desc).map (fun d => d.parameters.length) = some n) : ∀ sig, parseMethodDescriptor y.desc = some sig → n = sig.parameters.length := fun sig hs => by
  rw [hs] at h
  exact (Option.some.inj h).symm
theorem zg_invS (E : zv_OK V) {M' : zg_M} {y : MethodName} {fr' lc' i : Nat} {av : List Value} {Qc : zg_O → zw_W → Prop} (hd : decode M.2.1 pc = .ok (.invokestatic i, 3)) (hC : zg_C V M' y fr' lc' av w Qc) (hw : [Cond.methodLink M.1 i y, Cond.static y, Cond.initialized y.cls, zg_cw M' y].all (fun x => decide (x ∈ lw_tbl) && goodWord x) = true)
    (hy : y.cls ≠ "java/lang/invoke/MethodHandle" ∧ y.cls ≠ "java/lang/invoke/VarHandle") (hn : (parseMethodDescriptor y.desc).map (fun d => d.parameters.length) = some av.length) (hfr : fr' + 1 ≤ fr) (hlc : 19 + M'.2.2.1 + lc' ≤ lc) (hst : (st.map fun v => v.category).sum ≤ 8) (hcn : w.1 ≤ zc_cn) (hcs : w.2.1 ≤ zc_cs)
    {st0 : List Value} (h0 : st0 = av.reverse ++ st) (kr : ∀ v w', Qc (.inl v) w' → zg_G V M fr lc n0 u0 (pc + 3) (v.toList ++ st) lv w' Q) (kt : ∀ k w', Qc (.inr k) w' → zg_T V M fr lc n0 u0 pc k lv w' Q) : zg_G V M fr lc n0 u0 pc st0 lv w Q := by
  subst h0
  simp only [List.all_cons, List.all_nil, Bool.and_true, Bool.and_eq_true, decide_eq_true_eq] at hw
  obtain ⟨⟨h1, g1⟩, ⟨h2, g2⟩, ⟨h3, g3⟩, ⟨h4, g4⟩⟩ := hw
  intro p e R s m args below meth c H locs cells slots ls K T hT X
  have hstat := zx_w E K.1 h2 g2 args
  have hcw := zx_w E K.1 h4 g4 args
  obtain ⟨mk, hnamed⟩ : ∃ mk, s.methodNamed? y = some mk := by
    unfold zg_cw at hcw
    split at hcw
    · exact Cond.code_named hcw
    · obtain ⟨m9, _, _, hn9, _⟩ := Cond.codeWith_spec hcw
      exact ⟨m9, hn9⟩
  obtain ⟨methM, cM, hmethM, -⟩ := zg_cw_spec hcw hnamed
  have hstatic : methM.isStatic = true := Cond.static_spec hnamed hmethM hstat
  obtain ⟨kP, hkP, -⟩ := className_of_methodNamed hnamed
  have hinitP : kP.init = .initialized := Cond.initialized_spec (findClass_of_methodNamed hnamed) hkP (zx_w E K.1 h3 g3 args)
  have hsig : (av.map (zv_cv V)).length = methM.sig.parameters.length := by
    rw [List.length_map]
    have hp : parseMethodDescriptor y.desc = some methM.sig := by
      unfold zg_cw at hcw
      split at hcw
      · obtain ⟨m2, _, g2, _, _, _, _, _, _, g9⟩ := Cond.code_spec hnamed hcw
        cases hmethM.symm.trans g2
        exact g9
      · obtain ⟨m9, m2, _, hn9, g2, _, _, _, _, _, _, g9⟩ := Cond.codeWith_spec hcw
        cases hnamed.symm.trans hn9
        cases hmethM.symm.trans g2
        exact g9
    exact zg_len hn _ hp
  obtain ⟨vm₁, X₁, hstep₁⟩ := X.invokestatic K.1.1 K.1.2.2.2.2.1 (zx_w E K.1 h1 g1 args) hnamed hmethM hstatic hkP hinitP hy (g := F0 m pc ls ((av.reverse ++ st).map (zv_cv V))) rfl (argsL := av.map (zv_cv V)) (rest := st.map (zv_cv V)) hsig (by show (av.reverse ++ st).map (zv_cv V) = _; rw [List.map_append, List.map_reverse]) (by rw [K.1.2.1]; exact hd)
  obtain ⟨t, a1, b1⟩ := zg_into (U := T.setVm vm₁) E K hT X₁ hC hfr hlc hst hcn hcs hd (X₁.named hnamed) h4 g4 h3 kr kt
  exact ⟨t, hstep₁ _ fun acts => by rw [doInvoke_state]; exact a1, b1⟩
theorem zg_invV (E : zv_OK V) {M' : zg_M} {y : MethodName} {fr' lc' i k ci : Nat} {q : vw_C} {av : List Value} {Qc : zg_O → zw_W → Prop} (hd : decode M.2.1 pc = .ok (.invokevirtual i, 3)) (hC : zg_C V M' y fr' lc' (.ref k :: av) w Qc) (hw : [Cond.methodLink M.1 i y, Cond.instanceMethod y, Cond.selects q.1 y y, Cond.initialized y.cls, zg_cw M' y].all (fun x => decide (x ∈ lw_tbl) && goodWord x) = true)
    (hc : zc_cl[ci]? = some q) (ht : (zw_t w k).1 = ci) (hk : 1 ≤ k) (hkn : k < w.1) (hh : M'.2.2.2.2 = []) (hy : y.cls ≠ "java/lang/invoke/MethodHandle" ∧ y.cls ≠ "java/lang/invoke/VarHandle") (hn : (parseMethodDescriptor y.desc).map (fun d => d.parameters.length) = some av.length) (hfr : fr' + 1 ≤ fr) (hlc : 19 + M'.2.2.1 + lc' ≤ lc) (hst : (st.map fun v => v.category).sum ≤ 8) (hcn : w.1 ≤ zc_cn) (hcs : w.2.1 ≤ zc_cs)
    {st0 : List Value} (h0 : st0 = av.reverse ++ .ref k :: st) (kr : ∀ v w', Qc (.inl v) w' → zg_G V M fr lc n0 u0 (pc + 3) (v.toList ++ st) lv w' Q) (kt : ∀ k w', Qc (.inr k) w' → zg_T V M fr lc n0 u0 pc k lv w' Q) : zg_G V M fr lc n0 u0 pc st0 lv w Q := by
  subst h0
  simp only [List.all_cons, List.all_nil, Bool.and_true, Bool.and_eq_true, decide_eq_true_eq] at hw
  obtain ⟨⟨h1, g1⟩, ⟨h2, g2⟩, ⟨h5, g5⟩, ⟨h3, g3⟩, ⟨h4, g4⟩⟩ := hw
  intro p e R s m args below meth c H locs cells slots ls K T hT X
  have hinst := zx_w E K.1 h2 g2 args
  have hsel := zx_w E K.1 h5 g5 args
  have hcw := zx_w E K.1 h4 g4 args
  have hcode : (Cond.code y M'.2.1 M'.2.2.1 M'.2.2.2.1).before args s = true := by
    unfold zg_cw at hcw
    rw [hh] at hcw
    exact hcw
  obtain ⟨mk, methM, hnamed, hmethM, hstM, habM⟩ := Cond.instanceMethod_spec hinst
  obtain ⟨methM', cM, hmethM', -, -, -, -, -, -, hsigM⟩ := Cond.code_spec hnamed hcode
  cases hmethM.symm.trans hmethM'
  obtain ⟨-, cellB, b1, b2, b3, -⟩ := zw_obj K.2.2.2.2.1 hk hkn hc ht
  have hfc : s.vm.findClass q.1 = some cellB.cls := by
    rw [b2]
    exact (u_Kn_moved K.1.2.2.2.2.2.2.2.1.alike (E.2.2.2.2.1 ci q hc)).2.1
  obtain ⟨c2, r2, m2, q1, q2, q3, q4, kP, hkP, hkPi⟩ := Cond.selects_spec hsel
  cases hfc.symm.trans q1
  cases (State.methodFound?_of_named hnamed hy).symm.trans q2
  cases hnamed.symm.trans q3
  have hselP : selectMethod e.platform s.vm cellB.cls mk = .method mk := by rw [Launch.admits_selectMethod X.admits]; exact q4
  obtain ⟨vm₁, X₁, hstep₁⟩ := X.invokevirtual K.1.1 K.1.2.2.2.2.1 (zx_w E K.1 h1 g1 args) hnamed hmethM hstM hkP hkPi hy (a := zv_ad V k) (cell := cellB) (by rw [hT]; exact b1)
    (fun z h => by rw [b3] at h; cases h) hselP hmethM habM hkP hkPi (g := F0 m pc ls ((av.reverse ++ .ref k :: st).map (zv_cv V))) rfl (argsL := av.map (zv_cv V)) (rest := st.map (zv_cv V)) (by rw [List.length_map]; exact zg_len hn _ hsigM) (by show (av.reverse ++ .ref k :: st).map (zv_cv V) = _; rw [List.map_append, List.map_reverse, List.map_cons]; rfl) (by rw [K.1.2.1]; exact hd)
  obtain ⟨t, a1, b1⟩ := zg_into (U := T.setVm vm₁) E K hT X₁ hC hfr hlc hst hcn hcs hd (X₁.named hnamed) h4 g4 h3 kr kt
  exact ⟨t, hstep₁ _ fun acts => by rw [doInvoke_state]; exact a1, b1⟩
/-- a constructor; nest: of a nest mate's class -/
theorem zg_invI (E : zv_OK V) (nest : Bool) {M' : zg_M} {y : MethodName} {fr' lc' i k : Nat} {av : List Value} {Qc : zg_O → zw_W → Prop} (hd : decode M.2.1 pc = .ok (.invokespecial i, 3)) (hC : zg_C V M' y fr' lc' (.ref k :: av) w Qc) (hw : [Cond.instanceMethod y, Cond.initialized y.cls, zg_cw M' y].all (fun x => decide (x ∈ lw_tbl) && goodWord x) = true)
    (hl : if nest then Cond.methodLinkNest M.1 i y "FlipPages" ∈ lw_tbl else Cond.methodLink M.1 i y ∈ lw_tbl) (hy1 : y.name = "<init>") (hh : M'.2.2.2.2 = []) (hr : M'.2.2.2.1 = none) (hy : y.cls ≠ "java/lang/invoke/MethodHandle" ∧ y.cls ≠ "java/lang/invoke/VarHandle") (hn : (parseMethodDescriptor y.desc).map (fun d => d.parameters.length) = some av.length) (hfr : fr' + 1 ≤ fr) (hlc : 19 + M'.2.2.1 + lc' ≤ lc) (hst : (st.map fun v => v.category).sum ≤ 8) (hcn : w.1 ≤ zc_cn) (hcs : w.2.1 ≤ zc_cs)
    {st0 : List Value} (h0 : st0 = av.reverse ++ .ref k :: st) (kr : ∀ v w', Qc (.inl v) w' → zg_G V M fr lc n0 u0 (pc + 3) (v.toList ++ st) lv w' Q) (kt : ∀ k w', Qc (.inr k) w' → zg_T V M fr lc n0 u0 pc k lv w' Q) : zg_G V M fr lc n0 u0 pc st0 lv w Q := by
  subst h0
  simp only [List.all_cons, List.all_nil, Bool.and_true, Bool.and_eq_true, decide_eq_true_eq] at hw
  obtain ⟨⟨h2, g2⟩, ⟨h3, g3⟩, ⟨h4, g4⟩⟩ := hw
  intro p e R s m args below meth c H locs cells slots ls K T hT X
  have hinst := zx_w E K.1 h2 g2 args
  have hcw := zx_w E K.1 h4 g4 args
  have hcode : (Cond.code y M'.2.1 M'.2.2.1 none).before args s = true := by
    unfold zg_cw at hcw
    rw [hh, hr] at hcw
    exact hcw
  have hpl : e.platform.magicAccessors = ({} : Platform).magicAccessors := by rw [X.admits.platform]
  have hstk : (F0 m pc ls ((av.reverse ++ .ref k :: st).map (zv_cv V))).stack = (av.map (zv_cv V)).reverse ++ .ref (zv_ad V k) :: st.map (zv_cv V) := by
    show (av.reverse ++ .ref k :: st).map (zv_cv V) = _
    rw [List.map_append, List.map_reverse, List.map_cons]
    rfl
  have hlen : ∀ sig, parseMethodDescriptor y.desc = some sig → (av.map (zv_cv V)).length = sig.parameters.length := fun sig h => by
    rw [List.length_map]
    exact zg_len hn _ h
  have key : ∃ tm vm', s.methodNamed? y = some tm ∧ s.WarmedH vm' ∧ ∀ target, (∀ acts, Steps p.tables e below (doInvoke e ((T.setVm vm').setTop (F0 m pc ls (st.map (zv_cv V)))) acts tm (.ref (zv_ad V k) :: av.map (zv_cv V)).toArray).1 target) → Steps p.tables e below (T.setTop (F0 m pc ls ((av.reverse ++ .ref k :: st).map (zv_cv V)))) target := by
    cases nest
    · obtain ⟨tm, _, _, _, vm', z1, -, -, -, -, -, -, -, z2, z3⟩ := Steps.initColdArgs (e := e) X.here K.1.1 X.warmed hpl K.1.2.2.2.2.1 hy1 hy (zx_w E K.1 hl rfl args) hinst hcode (f := F0 m pc ls ((av.reverse ++ .ref k :: st).map (zv_cv V))) rfl hlen hstk (by rw [K.1.2.1]; exact hd)
      exact ⟨tm, vm', z1, z2, z3⟩
    · have hl9 : (Cond.methodLinkNest M.1 i y "FlipPages").before args s = true := va_Nw.use rfl (va_Nw.warmM K.1.2.2.2.2.2.2.2.1 (va_Nw.of rfl (E.2.1 _ hl)))
      obtain ⟨tm, _, _, _, vm', z1, -, -, -, -, -, -, -, z2, z3⟩ := Steps.initColdArgsNest (e := e) X.here K.1.1 X.warmed hpl K.1.2.2.2.2.1 hy1 hy hl9 hinst hcode (f := F0 m pc ls ((av.reverse ++ .ref k :: st).map (zv_cv V))) rfl hlen hstk (by rw [K.1.2.1]; exact hd)
      exact ⟨tm, vm', z1, z2, z3⟩
  obtain ⟨tm, vm', z1, z2, z3⟩ := key
  have X₁ := X.noted z2
  obtain ⟨t, a1, b1⟩ := zg_into (U := T.setVm vm') E K hT X₁ hC hfr hlc hst hcn hcs hd (X₁.named z1) h4 g4 h3 kr kt
  exact ⟨t, z3 _ fun acts => by rw [doInvoke_state]; exact a1, b1⟩
theorem zg_obj0 (E : zv_OK V) {i k : Nat} (hd : decode M.2.1 pc = .ok (.invokespecial i, 3)) (hl : Cond.methodLink M.1 i objectInit ∈ lw_tbl) (hfr : 1 ≤ fr) (hlc : (st.map fun v => v.category).sum + 12 ≤ lc) (kk : zg_G V M fr lc n0 u0 (pc + 3) st lv w Q) : zg_G V M fr lc n0 u0 pc (.ref k :: st) lv w Q := by
  intro p e R s m args below meth c H locs cells slots ls K
  have hr := K.2.1
  exact W.objInit K.1.1 K.1.2.1 K.1.2.2.2.2.1 (zx_w E K.1 hl rfl args) (zx_w E K.1 (by decide +kernel : Cond.instanceMethod objectInit ∈ lw_tbl) rfl args) (zx_w E K.1 (by decide +kernel : Cond.code objectInit ⟨#[0xb1]⟩ 1 none ∈ lw_tbl) rfl args) rfl (K.2.2.2.2.2.2.1.trans K.1.2.2.2.1.symm) rfl hd (by omega) (by show 2 * 0 + _ + 12 ≤ _; rw [zv_cats]; omega) (kk p e R s m args below meth c H locs cells slots ls K)
/-- System.arraycopy(a, 0, b, 0, n) between two int arrays -/
theorem zg_copy (E : zv_OK V) {i k0 k1 m0 m1 n : Nat} {x y z : Int32} (hd : decode M.2.1 pc = .ok (.invokestatic i, 3)) (hl : Cond.methodLink M.1 i arraycopyName ∈ lw_tbl) (ht0 : zw_t w k0 = (10, m0)) (ht1 : zw_t w k1 = (10, m1)) (h0 : 1 ≤ k0) (h0n : k0 < w.1) (h1 : 1 ≤ k1) (h1n : k1 < w.1) (hx : x = nI n) (hy : y = 0) (hz : z = 0) (hn0 : n ≤ m0) (hn1 : n ≤ m1) (hm : m0 < 2 ^ 31) (hm1 : m1 < 2 ^ 31)
    (hfr : 1 ≤ fr) (hlc : (st.map fun v => v.category).sum + 100 ≤ lc) (kk : zg_G V M fr lc n0 u0 (pc + 3) st lv (zw_sa w k1 (fun j => if j < n then zw_i w k0 j else zw_i w k1 j)) Q) : zg_G V M fr lc n0 u0 pc (.int x :: .int y :: .ref k1 :: .int z :: .ref k0 :: st) lv w Q := by
  subst hx
  subst hy
  subst hz
  intro p e R s m args below meth c H locs cells slots ls K T hT X
  have hr := K.2.1
  have hP := K.2.2.2.2.1
  have hal := K.1.2.2.2.2.2.2.2.1.alike
  have hA := arrOfT_moved hal E.2.2.2.2.2.1.1
  have hc0 := zw_aI hP h0 h0n ht0
  have hc1 := zw_aI hP h1 h1n ht1
  obtain ⟨-, q0, hk0, cm0, hkk0⟩ := hA m0 (fun j => .int (zw_i w k0 j))
  obtain ⟨-, q1, hk1, cm1, hkk1⟩ := hA m1 (fun j => .int (zw_i w k1 j))
  have en : (nI n).toNatClampNeg = n := nI_clamp (by omega)
  have et : (nI n).toInt = (n : Int) := nI_toInt (by omega)
  have e0 : (0 : Int32).toNatClampNeg = 0 := rfl
  have hfw : nativeFrameWords "java/lang/System" "arraycopy" 5 + 11 ≤ 100 := by decide +kernel
  obtain ⟨vm', X', step⟩ := X.arraycopy K.1.1 K.1.2.2.2.2.1 (zx_w E K.1 hl rfl args) (zx_w E K.1 (by decide +kernel : Cond.native arraycopyName ∈ lw_tbl) rfl args) (zx_w E K.1 (by decide +kernel : Cond.static arraycopyName ∈ lw_tbl) rfl args) (zx_w E K.1 (by decide +kernel : Cond.initialized "java/lang/System" ∈ lw_tbl) rfl args) (src := zv_ad V k0) (dst := zv_ad V k1) (cs := arrV (zv_A V 0) m0 (fun j => .int (zw_i w k0 j))) (cd := arrV (zv_A V 0) m1 (fun j => .int (zw_i w k1 j))) (srcPos := 0) (destPos := 0) (n := nI n) (by rw [hT]; exact hc0) (by rw [hT]; exact hc1)
    (fun _ h => by cases h) (fun _ h => by cases h) (fun h => by cases h) (fun h => by cases h) hk0 hk1 hkk0 hkk1 (by rfl) (by decide) (by decide) (nI_pos (by omega))
    (by rw [et, arrV_size]; show ¬ (0 : Int) + _ > _; omega) (by rw [et, arrV_size]; show ¬ (0 : Int) + _ > _; omega)
    (fun vm₁ _ j hj => by
      have ej : (arrV (zv_A V 0) m0 (fun j => .int (zw_i w k0 j))).slots.getD ((0 : Int32).toNatClampNeg + j) .null = .int (zw_i w k0 j) := by
        rw [en] at hj
        rw [e0, Nat.zero_add, Array.getD_eq_getD_getElem?, arrV_read _ _ (by omega)]
        rfl
      refine ⟨?_, ?_⟩
      · rw [ej]
        rfl
      · rw [ej]
        exact trivial)
    (g := F0 m pc ls ((.int (nI n) :: .int 0 :: .ref k1 :: .int 0 :: .ref k0 :: st).map (zv_cv V))) rfl (K.2.2.2.2.2.2.1.trans K.1.2.2.2.1.symm) (rest := st.map (zv_cv V)) rfl (by rw [K.1.2.1]; exact hd) (by omega) (by show 2 * 0 + ((st.map (zv_cv V)).map fun v => v.category).sum + _ ≤ _; rw [zv_cats]; omega)
  have e1 : copied (arrV (zv_A V 0) m0 (fun j => .int (zw_i w k0 j))) (arrV (zv_A V 0) m1 (fun j => .int (zw_i w k1 j))) 0 0 (nI n) = arrV (zv_A V 0) m1 (fun j => .int (if j < n then zw_i w k0 j else zw_i w k1 j)) := by
    have h9 := va_copied (n0 := m0) (n1 := m1) (sp := (0 : Int32).toNatClampNeg) (dp := (0 : Int32).toNatClampNeg) (n := (nI n).toNatClampNeg) (fun z : Int32 => Value.int z) (zv_A V 0) (zv_A V 0) (zw_i w k0) (zw_i w k1) (by rw [e0, en]; omega)
    refine Eq.trans h9 ?_
    rw [e0, en]
    refine congrArg (arrV (zv_A V 0) m1) (funext fun j => ?_)
    unfold va_cpy
    by_cases hj : j < n
    · rw [if_pos ⟨Nat.zero_le _, by omega⟩, if_pos hj, Nat.zero_add, Nat.sub_zero]
    · rw [if_neg (by omega), if_neg hj]
  rw [e1] at X' step
  have hl2 : zv_ad V k1 < H.size := (Array.getElem?_eq_some_iff.mp hc1).1
  have hheap : ((T.setVm vm').setCell (zv_ad V k1) (arrV (zv_A V 0) m1 (fun j => .int (if j < n then zw_i w k0 j else zw_i w k1 j)))).heap = H.setIfInBounds (zv_ad V k1) (arrV (zv_A V 0) m1 (fun j => .int (if j < n then zw_i w k0 j else zw_i w k1 j))) := by rw [← hT]; rfl
  have hW : zw_P V (zw_sa w k1 (fun j => if j < n then zw_i w k0 j else zw_i w k1 j)) (H.setIfInBounds (zv_ad V k1) (arrV (zv_A V 0) m1 (fun j => .int (if j < n then zw_i w k0 j else zw_i w k1 j)))) := by
    refine zw_put hP rfl h1 (by simp) (fun q hq => by simp [Array.getElem?_setIfInBounds, Ne.symm hq]) (fun a ha => ⟨rfl, rfl, zw_ro_n _ _ ha, rfl⟩) ?_
    show zw_cell V (zw_t w k1) (zw_r w k1) (zw_ro (zw_i w) k1 _ k1) (zw_l w k1) _ _
    rw [ht1, zw_ro_s]
    show (H.setIfInBounds (zv_ad V k1) _)[zv_ad V k1]? = some _
    simp [Array.getElem?_setIfInBounds, hl2]
  obtain ⟨t, a1, b1⟩ := kk p e R s m args below meth c _ _ cells slots ls ⟨K.1, K.2.1, K.2.2.1, K.2.2.2.1, hW, ⟨fun q hq => by
    rcases List.mem_append.mp hq with h | h
    · exact K.2.2.2.2.2.1.1 q h
    · obtain ⟨z, -, hz⟩ := List.mem_map.mp h
      rw [← hz]
      show zv_S V ≤ zv_ad V k1
      rw [zv_ad_1 V h1]
      omega, K.2.2.2.2.2.1.2⟩, K.2.2.2.2.2.2⟩ _ hheap X'
  exact ⟨t, step t a1, b1⟩
end ZDA
end
section
/-! Calls with a told outcome; final references put by constructors; where the cells lie. -/
/-- the method ends with o, in a world of which P holds -/
def zq_p (o : zg_O) (P : zw_W → Prop) : zg_O → zw_W → Prop := fun o' w' => o' = o ∧ P w'
section ZEA
variable {V : zv_V} {M : zg_M} {fr lc n0 u0 pc : Nat} {st : List Value} {lv : List (Nat × Value)} {w : zw_W} {Q : zg_O → zw_W → Prop}
theorem zg_sret (E : zv_OK V) {M' : zg_M} {y : MethodName} {fr' lc' i : Nat} {av : List Value} {v : Option Value} {P : zw_W → Prop} (hd : decode M.2.1 pc = .ok (.invokestatic i, 3)) (hC : zg_C V M' y fr' lc' av w (zq_p (.inl v) P)) (hw : [Cond.methodLink M.1 i y, Cond.static y, Cond.initialized y.cls, zg_cw M' y].all (fun x => decide (x ∈ lw_tbl) && goodWord x) = true)
    (hy : y.cls ≠ "java/lang/invoke/MethodHandle" ∧ y.cls ≠ "java/lang/invoke/VarHandle") (hn : (parseMethodDescriptor y.desc).map (fun d => d.parameters.length) = some av.length) (hfr : fr' + 1 ≤ fr) (hlc : 19 + M'.2.2.1 + lc' ≤ lc) (hst : (st.map fun v => v.category).sum ≤ 8) (hcn : w.1 ≤ zc_cn ∧ w.2.1 ≤ zc_cs)
    {st0 : List Value} (h0 : st0 = av.reverse ++ st) (kr : ∀ w', P w' → zg_G V M fr lc n0 u0 (pc + 3) (v.toList ++ st) lv w' Q) : zg_G V M fr lc n0 u0 pc st0 lv w Q :=
  zg_invS E hd hC hw hy hn hfr hlc hst hcn.1 hcn.2 h0 (fun v' w' h => by obtain ⟨h1, h2⟩ := h; cases h1; exact kr w' h2) (fun k w' h => by cases h.1)
theorem zg_sthr (E : zv_OK V) {M' : zg_M} {y : MethodName} {fr' lc' i k : Nat} {av : List Value} {P : zw_W → Prop} (hd : decode M.2.1 pc = .ok (.invokestatic i, 3)) (hC : zg_C V M' y fr' lc' av w (zq_p (.inr k) P)) (hw : [Cond.methodLink M.1 i y, Cond.static y, Cond.initialized y.cls, zg_cw M' y].all (fun x => decide (x ∈ lw_tbl) && goodWord x) = true)
    (hy : y.cls ≠ "java/lang/invoke/MethodHandle" ∧ y.cls ≠ "java/lang/invoke/VarHandle") (hn : (parseMethodDescriptor y.desc).map (fun d => d.parameters.length) = some av.length) (hfr : fr' + 1 ≤ fr) (hlc : 19 + M'.2.2.1 + lc' ≤ lc) (hst : (st.map fun v => v.category).sum ≤ 8) (hcn : w.1 ≤ zc_cn ∧ w.2.1 ≤ zc_cs)
    {st0 : List Value} (h0 : st0 = av.reverse ++ st) (kt : ∀ w', P w' → zg_T V M fr lc n0 u0 pc k lv w' Q) : zg_G V M fr lc n0 u0 pc st0 lv w Q :=
  zg_invS E hd hC hw hy hn hfr hlc hst hcn.1 hcn.2 h0 (fun v' w' h => by cases h.1) (fun k' w' h => by obtain ⟨h1, h2⟩ := h; cases h1; exact kt w' h2)
theorem zg_vrt (E : zv_OK V) {M' : zg_M} {y : MethodName} {fr' lc' i k ci : Nat} {q : vw_C} {av : List Value} {v : Option Value} {P : zw_W → Prop} (hd : decode M.2.1 pc = .ok (.invokevirtual i, 3)) (hC : zg_C V M' y fr' lc' (.ref k :: av) w (zq_p (.inl v) P)) (hw : [Cond.methodLink M.1 i y, Cond.instanceMethod y, Cond.selects q.1 y y, Cond.initialized y.cls, zg_cw M' y].all (fun x => decide (x ∈ lw_tbl) && goodWord x) = true)
    (hc : zc_cl[ci]? = some q) (ht : (zw_t w k).1 = ci) (hk : 1 ≤ k) (hkn : k < w.1) (hh : M'.2.2.2.2 = []) (hy : y.cls ≠ "java/lang/invoke/MethodHandle" ∧ y.cls ≠ "java/lang/invoke/VarHandle") (hn : (parseMethodDescriptor y.desc).map (fun d => d.parameters.length) = some av.length) (hfr : fr' + 1 ≤ fr) (hlc : 19 + M'.2.2.1 + lc' ≤ lc) (hst : (st.map fun v => v.category).sum ≤ 8) (hcn : w.1 ≤ zc_cn ∧ w.2.1 ≤ zc_cs)
    {st0 : List Value} (h0 : st0 = av.reverse ++ .ref k :: st) (kr : ∀ w', P w' → zg_G V M fr lc n0 u0 (pc + 3) (v.toList ++ st) lv w' Q) : zg_G V M fr lc n0 u0 pc st0 lv w Q :=
  zg_invV E hd hC hw hc ht hk hkn hh hy hn hfr hlc hst hcn.1 hcn.2 h0 (fun v' w' h => by obtain ⟨h1, h2⟩ := h; cases h1; exact kr w' h2) (fun k w' h => by cases h.1)
theorem zg_vth (E : zv_OK V) {M' : zg_M} {y : MethodName} {fr' lc' i k ci x : Nat} {q : vw_C} {av : List Value} {P : zw_W → Prop} (hd : decode M.2.1 pc = .ok (.invokevirtual i, 3)) (hC : zg_C V M' y fr' lc' (.ref k :: av) w (zq_p (.inr x) P)) (hw : [Cond.methodLink M.1 i y, Cond.instanceMethod y, Cond.selects q.1 y y, Cond.initialized y.cls, zg_cw M' y].all (fun x => decide (x ∈ lw_tbl) && goodWord x) = true)
    (hc : zc_cl[ci]? = some q) (ht : (zw_t w k).1 = ci) (hk : 1 ≤ k) (hkn : k < w.1) (hh : M'.2.2.2.2 = []) (hy : y.cls ≠ "java/lang/invoke/MethodHandle" ∧ y.cls ≠ "java/lang/invoke/VarHandle") (hn : (parseMethodDescriptor y.desc).map (fun d => d.parameters.length) = some av.length) (hfr : fr' + 1 ≤ fr) (hlc : 19 + M'.2.2.1 + lc' ≤ lc) (hst : (st.map fun v => v.category).sum ≤ 8) (hcn : w.1 ≤ zc_cn ∧ w.2.1 ≤ zc_cs)
    {st0 : List Value} (h0 : st0 = av.reverse ++ .ref k :: st) (kt : ∀ w', P w' → zg_T V M fr lc n0 u0 pc x lv w' Q) : zg_G V M fr lc n0 u0 pc st0 lv w Q :=
  zg_invV E hd hC hw hc ht hk hkn hh hy hn hfr hlc hst hcn.1 hcn.2 h0 (fun v' w' h => by cases h.1) (fun k' w' h => by obtain ⟨h1, h2⟩ := h; cases h1; exact kt w' h2)
theorem zg_irt (E : zv_OK V) (nest : Bool) {M' : zg_M} {y : MethodName} {fr' lc' i k : Nat} {av : List Value} {P : zw_W → Prop} (hd : decode M.2.1 pc = .ok (.invokespecial i, 3)) (hC : zg_C V M' y fr' lc' (.ref k :: av) w (zq_p (.inl none) P)) (hw : [Cond.instanceMethod y, Cond.initialized y.cls, zg_cw M' y].all (fun x => decide (x ∈ lw_tbl) && goodWord x) = true)
    (hl : if nest then Cond.methodLinkNest M.1 i y "FlipPages" ∈ lw_tbl else Cond.methodLink M.1 i y ∈ lw_tbl) (hy1 : y.name = "<init>") (hh : M'.2.2.2.2 = []) (hr : M'.2.2.2.1 = none) (hy : y.cls ≠ "java/lang/invoke/MethodHandle" ∧ y.cls ≠ "java/lang/invoke/VarHandle") (hn : (parseMethodDescriptor y.desc).map (fun d => d.parameters.length) = some av.length) (hfr : fr' + 1 ≤ fr) (hlc : 19 + M'.2.2.1 + lc' ≤ lc) (hst : (st.map fun v => v.category).sum ≤ 8) (hcn : w.1 ≤ zc_cn ∧ w.2.1 ≤ zc_cs)
    {st0 : List Value} (h0 : st0 = av.reverse ++ .ref k :: st) (kr : ∀ w', P w' → zg_G V M fr lc n0 u0 (pc + 3) st lv w' Q) : zg_G V M fr lc n0 u0 pc st0 lv w Q :=
  zg_invI E nest hd hC hw hl hy1 hh hr hy hn hfr hlc hst hcn.1 hcn.2 h0 (fun v' w' h => by obtain ⟨h1, h2⟩ := h; cases h1; exact kr w' h2) (fun k w' h => by cases h.1)
end ZEA
/-- where things lie: the tags of cells 1 .. 165 -/
def zl_t (k : Nat) : Nat × Nat :=
  if k = 1 then (3, 7) else if k = 2 then (13, 48) else if k < 51 then (10, 16) else if k = 51 then (1, 3) else if k = 52 then (10, 77) else if k = 53 then (13, 77) else if k < 131 then (10, 16) else
  if k = 131 then (2, 3) else if k = 132 then (10, 16) else if k = 133 then (2, 3) else if k = 134 then (10, 16) else if k = 135 then (0, 4) else if k = 136 then (10, 16) else if k = 137 then (13, 16) else if k < 154 then (10, 16) else
  if k = 154 then (11, 16) else if k = 155 then (10, 16) else if k = 156 then (4, 17) else if k = 157 then (10, 768) else if k < 161 then (10, 16) else if k = 161 then (11, 16) else if k = 162 then (10, 256) else if k = 163 then (10, 100) else if k = 164 then (10, 1600) else (12, 1)
/-- .. and their references -/
def zl_r (k j : Nat) : Option Nat :=
  if k = 1 then (if j = 0 then some 2 else if j = 1 then some 51 else if j = 2 then some 131 else if j = 3 then some 133 else if j = 4 then some 135 else if j = 5 then some 155 else none) else
  if k = 2 then (if j < 48 then some (3 + j) else none) else
  if k = 51 then (if j = 0 then some 52 else if j = 1 then some 53 else none) else
  if k = 53 then (if j < 77 then some (54 + j) else none) else
  if k = 131 then (if j = 0 then some 132 else none) else if k = 133 then (if j = 0 then some 134 else none) else
  if k = 135 then (if j = 0 then some 136 else if j = 1 then some 137 else if j = 2 then some 154 else none) else
  if k = 137 then (if j < 16 then some (138 + j) else none) else
  if k = 156 then (if j = 0 then some 157 else if j = 1 then some 158 else if j = 2 then some 159 else if j = 9 then some 160 else if j = 10 then some 161 else if j = 11 then some 162 else if j = 12 then some 163 else if j = 13 then some 164 else none) else none
/-- the class's cells stand; there is room for what comes -/
def zl_X (w : zw_W) : Prop := 156 ≤ w.1 ∧ (∀ k, 1 ≤ k → k < 156 → zw_t w k = zl_t k ∧ ∀ j r, zl_r k j = some r → zw_r w k j = some r) ∧ w.1 + 2000 ≤ zc_cn ∧ w.2.1 + 20000 ≤ zc_cs
/-- the reference's cells stand -/
def zl_M (w : zw_W) : Prop := 165 ≤ w.1 ∧ (∀ k, 156 ≤ k → k < 165 → zw_t w k = zl_t k ∧ ∀ j r, zl_r k j = some r → zw_r w k j = some r) ∧ w.1 + 2000 ≤ zc_cn ∧ w.2.1 + 20000 ≤ zc_cs
theorem zl_cap {w : zw_W} (h : zl_X w) : w.1 ≤ zc_cn ∧ w.2.1 ≤ zc_cs := ⟨by have := h.2.2.1; omega, by have := h.2.2.2; omega⟩
theorem zl_capM {w : zw_W} (h : zl_M w) : w.1 ≤ zc_cn ∧ w.2.1 ≤ zc_cs := ⟨by have := h.2.2.1; omega, by have := h.2.2.2; omega⟩
theorem zl_at {w : zw_W} (h : zl_X w) {k : Nat} {t : Nat × Nat} (ht : zl_t k = t) (h1 : 1 ≤ k) (h2 : k < 156) : zw_t w k = t := (h.2.1 k h1 h2).1.trans ht
theorem zl_lt {w : zw_W} (h : zl_X w) {k : Nat} (h2 : k < 156) : k < w.1 := Nat.lt_of_lt_of_le h2 h.1
theorem zl_rf {w : zw_W} (h : zl_X w) {k j r : Nat} (hr : zl_r k j = some r) (h1 : 1 ≤ k) (h2 : k < 156) : zw_r w k j = some r := (h.2.1 k h1 h2).2 j r hr
theorem zl_Mat {w : zw_W} (h : zl_M w) {k : Nat} {t : Nat × Nat} (ht : zl_t k = t) (h1 : 156 ≤ k) (h2 : k < 165) : zw_t w k = t := (h.2.1 k h1 h2).1.trans ht
theorem zl_Mlt {w : zw_W} (h : zl_M w) {k : Nat} (h2 : k < 165) : k < w.1 := Nat.lt_of_lt_of_le h2 h.1
theorem zl_Mrf {w : zw_W} (h : zl_M w) {k j r : Nat} (hr : zl_r k j = some r) (h1 : 156 ≤ k) (h2 : k < 165) : zw_r w k j = some r := (h.2.1 k h1 h2).2 j r hr
/-- a sector's array, a held write's, a changed page's -/
theorem zl_sec {s : Nat} (h : s < 48) : zl_t (3 + s) = (10, 16) ∧ zl_r 2 s = some (3 + s) := by
  unfold zl_t zl_r
  rw [if_neg (by omega), if_neg (by omega), if_pos (by omega), if_neg (by omega), if_pos rfl, if_pos h]
  exact ⟨rfl, rfl⟩
theorem zl_row {s : Nat} (h : s < 77) : zl_t (54 + s) = (10, 16) ∧ zl_r 53 s = some (54 + s) := by
  unfold zl_t zl_r
  rw [if_neg (by omega), if_neg (by omega), if_neg (by omega), if_neg (by omega), if_neg (by omega), if_neg (by omega), if_pos (by omega)]
  exact ⟨rfl, by simp [h]⟩
theorem zl_pag {s : Nat} (h : s < 16) : zl_t (138 + s) = (10, 16) ∧ zl_r 137 s = some (138 + s) := by
  unfold zl_t zl_r
  rw [if_neg (by omega), if_neg (by omega), if_neg (by omega), if_neg (by omega), if_neg (by omega), if_neg (by omega), if_neg (by omega), if_neg (by omega), if_neg (by omega), if_neg (by omega), if_neg (by omega), if_neg (by omega), if_neg (by omega), if_neg (by omega), if_pos (by omega)]
  exact ⟨rfl, by simp [h]⟩
/-- small numbers in branches -/
theorem zn_lt {i n : Nat} (h : ¬ nI n ≤ nI i) (hi : i < 2 ^ 31) (hn : n < 2 ^ 31) : i < n := by
  rcases Nat.lt_or_ge i n with g | g
  · exact g
  · exact absurd ((nI_leI hn hi).mpr g) h
theorem zn_ge {i n : Nat} (h : nI n ≤ nI i) (hi : i < 2 ^ 31) (hn : n < 2 ^ 31) : n ≤ i := (nI_leI hn hi).mp h
end
section
/-! Names by program: field links, words of throws, decode rows, methods. -/
theorem fl_X3_11 : Cond.fieldLink RX3 11 RX3 (TX3 0).2.1 (TX3 0).2.2.1 ∈ lw_tbl := by decide +kernel
theorem fl_X3_17 : Cond.fieldLink RX3 17 RX3 (TX3 1).2.1 (TX3 1).2.2.1 ∈ lw_tbl := by decide +kernel
theorem fl_X3_24 : Cond.fieldLink RX3 24 RX3 (TX3 2).2.1 (TX3 2).2.2.1 ∈ lw_tbl := by decide +kernel
theorem fl_X3_28 : Cond.fieldLink RX3 28 RX3 (TX3 3).2.1 (TX3 3).2.2.1 ∈ lw_tbl := by decide +kernel
theorem fl_X3_34 : Cond.fieldLink RX3 34 RX3 (TX3 4).2.1 (TX3 4).2.2.1 ∈ lw_tbl := by decide +kernel
theorem fl_X3_38 : Cond.fieldLink RX3 38 RX3 (TX3 5).2.1 (TX3 5).2.2.1 ∈ lw_tbl := by decide +kernel
theorem fl_X3_61 : Cond.fieldLink RX3 61 RX0 (TX0 1).2.1 (TX0 1).2.2.1 ∈ lw_tbl := by decide +kernel
theorem fl_X3_64 : Cond.fieldLink RX3 64 RX0 (TX0 3).2.1 (TX0 3).2.2.1 ∈ lw_tbl := by decide +kernel
theorem fl_X3_72 : Cond.fieldLink RX3 72 RX2 (TX2 0).2.1 (TX2 0).2.2.1 ∈ lw_tbl := by decide +kernel
theorem fl_X3_75 : Cond.fieldLink RX3 75 RX0 (TX0 2).2.1 (TX0 2).2.2.1 ∈ lw_tbl := by decide +kernel
theorem fl_X3_86 : Cond.fieldLink RX3 86 RX1 (TX1 2).2.1 (TX1 2).2.2.1 ∈ lw_tbl := by decide +kernel
theorem fl_X3_118 : Cond.fieldLink RX3 118 RX2 (TX2 2).2.1 (TX2 2).2.2.1 ∈ lw_tbl := by decide +kernel
theorem fl_X3_131 : Cond.fieldLink RX3 131 RX3 (TX3 6).2.1 (TX3 6).2.2.1 ∈ lw_tbl := by decide +kernel
theorem fl_X3_154 : Cond.fieldLink RX3 154 RX1 (TX1 0).2.1 (TX1 0).2.2.1 ∈ lw_tbl := by decide +kernel
theorem fl_X3_157 : Cond.fieldLink RX3 157 RX1 (TX1 1).2.1 (TX1 1).2.2.1 ∈ lw_tbl := by decide +kernel
theorem fl_X3_173 : Cond.fieldLink RX3 173 RX2 (TX2 1).2.1 (TX2 1).2.2.1 ∈ lw_tbl := by decide +kernel
theorem fl_X3_222 : Cond.fieldLink RX3 222 RX0 (TX0 0).2.1 (TX0 0).2.2.1 ∈ lw_tbl := by decide +kernel
theorem fl_X0_9 : Cond.fieldLink RX0 9 RX0 (TX0 0).2.1 (TX0 0).2.2.1 ∈ lw_tbl := by decide +kernel
theorem fl_X0_17 : Cond.fieldLink RX0 17 RX0 (TX0 1).2.1 (TX0 1).2.2.1 ∈ lw_tbl := by decide +kernel
theorem fl_X0_20 : Cond.fieldLink RX0 20 RX0 (TX0 2).2.1 (TX0 2).2.2.1 ∈ lw_tbl := by decide +kernel
theorem fl_X0_24 : Cond.fieldLink RX0 24 RX0 (TX0 3).2.1 (TX0 3).2.2.1 ∈ lw_tbl := by decide +kernel
theorem fl_X1_9 : Cond.fieldLink RX1 9 RX1 (TX1 0).2.1 (TX1 0).2.2.1 ∈ lw_tbl := by decide +kernel
theorem fl_X1_17 : Cond.fieldLink RX1 17 RX1 (TX1 1).2.1 (TX1 1).2.2.1 ∈ lw_tbl := by decide +kernel
theorem fl_X1_20 : Cond.fieldLink RX1 20 RX1 (TX1 2).2.1 (TX1 2).2.2.1 ∈ lw_tbl := by decide +kernel
theorem fl_X2_9 : Cond.fieldLink RX2 9 RX2 (TX2 0).2.1 (TX2 0).2.2.1 ∈ lw_tbl := by decide +kernel
theorem fl_X2_21 : Cond.fieldLink RX2 21 RX2 (TX2 1).2.1 (TX2 1).2.2.1 ∈ lw_tbl := by decide +kernel
theorem fl_X2_25 : Cond.fieldLink RX2 25 RX2 (TX2 2).2.1 (TX2 2).2.2.1 ∈ lw_tbl := by decide +kernel
theorem fl_X4_7 : Cond.fieldLink RX4 7 RX4 (TX4 0).2.1 (TX4 0).2.2.1 ∈ lw_tbl := by decide +kernel
theorem fl_X4_13 : Cond.fieldLink RX4 13 RX4 (TX4 1).2.1 (TX4 1).2.2.1 ∈ lw_tbl := by decide +kernel
theorem fl_X4_16 : Cond.fieldLink RX4 16 RX4 (TX4 2).2.1 (TX4 2).2.2.1 ∈ lw_tbl := by decide +kernel
theorem fl_X4_19 : Cond.fieldLink RX4 19 RX4 (TX4 9).2.1 (TX4 9).2.2.1 ∈ lw_tbl := by decide +kernel
theorem fl_X4_22 : Cond.fieldLink RX4 22 RX4 (TX4 10).2.1 (TX4 10).2.2.1 ∈ lw_tbl := by decide +kernel
theorem fl_X4_26 : Cond.fieldLink RX4 26 RX4 (TX4 11).2.1 (TX4 11).2.2.1 ∈ lw_tbl := by decide +kernel
theorem fl_X4_29 : Cond.fieldLink RX4 29 RX4 (TX4 12).2.1 (TX4 12).2.2.1 ∈ lw_tbl := by decide +kernel
theorem fl_X4_32 : Cond.fieldLink RX4 32 RX4 (TX4 13).2.1 (TX4 13).2.2.1 ∈ lw_tbl := by decide +kernel
theorem fl_X4_38 : Cond.fieldLink RX4 38 RX4 (TX4 16).2.1 (TX4 16).2.2.1 ∈ lw_tbl := by decide +kernel
theorem fl_X4_54 : Cond.fieldLink RX4 54 RX4 (TX4 14).2.1 (TX4 14).2.2.1 ∈ lw_tbl := by decide +kernel
theorem fl_X4_57 : Cond.fieldLink RX4 57 RX4 (TX4 15).2.1 (TX4 15).2.2.1 ∈ lw_tbl := by decide +kernel
theorem fl_X4_61 : Cond.fieldLink RX4 61 RX4 (TX4 8).2.1 (TX4 8).2.2.1 ∈ lw_tbl := by decide +kernel
theorem fl_X4_64 : Cond.fieldLink RX4 64 RX4 (TX4 7).2.1 (TX4 7).2.2.1 ∈ lw_tbl := by decide +kernel
theorem fl_X4_71 : Cond.fieldLink RX4 71 RX4 (TX4 3).2.1 (TX4 3).2.2.1 ∈ lw_tbl := by decide +kernel
theorem fl_X4_74 : Cond.fieldLink RX4 74 RX4 (TX4 5).2.1 (TX4 5).2.2.1 ∈ lw_tbl := by decide +kernel
theorem fl_X4_80 : Cond.fieldLink RX4 80 RX4 (TX4 4).2.1 (TX4 4).2.2.1 ∈ lw_tbl := by decide +kernel
theorem fl_X4_83 : Cond.fieldLink RX4 83 RX4 (TX4 6).2.1 (TX4 6).2.2.1 ∈ lw_tbl := by decide +kernel
set_option maxRecDepth 100000 in
theorem tw_20_83 : ∀ x ∈ vx_atS "FlipPages" 83 (zc_ex 20) ["java/lang/RuntimeException", "java/lang/Exception"], x ∈ lw_tbl ∧ zx_fc x = true := by decide +kernel
set_option maxRecDepth 100000 in
theorem tw_21_93 : ∀ x ∈ vx_atS "FlipPages" 93 (zc_ex 21) ["java/lang/RuntimeException", "java/lang/Exception"], x ∈ lw_tbl ∧ zx_fc x = true := by decide +kernel
theorem zt_cap {w : zw_W} (h : zl_X w) : 1 ≤ w.1 ∧ w.1 + 1 ≤ zc_cn ∧ w.2.1 + 6 ≤ zc_cs := ⟨by have := h.1; omega, by have := h.2.2.1; omega, by have := h.2.2.2; omega⟩
theorem dX0_init_0 : decode cX0_init 0 = .ok (.aload_n 0, 1) := by decide +kernel
theorem dX0_init_1 : decode cX0_init 1 = .ok (.invokespecial 3, 3) := by decide +kernel
theorem dX0_init_4 : decode cX0_init 4 = .ok (.aload_n 0, 1) := by decide +kernel
theorem dX0_init_5 : decode cX0_init 5 = .ok (.bipush 16, 2) := by decide +kernel
theorem dX0_init_7 : decode cX0_init 7 = .ok (.newarray .int, 2) := by decide +kernel
theorem dX0_init_9 : decode cX0_init 9 = .ok (.putfield 9, 3) := by decide +kernel
theorem dX0_init_12 : decode cX0_init 12 = .ok (.aload_n 0, 1) := by decide +kernel
theorem dX0_init_13 : decode cX0_init 13 = .ok (.bipush 16, 2) := by decide +kernel
theorem dX0_init_15 : decode cX0_init 15 = .ok (.bipush 16, 2) := by decide +kernel
theorem dX0_init_17 : decode cX0_init 17 = .ok (.multianewarray 15 2, 4) := by decide +kernel
theorem dX0_init_21 : decode cX0_init 21 = .ok (.putfield 17, 3) := by decide +kernel
theorem dX0_init_24 : decode cX0_init 24 = .ok (.aload_n 0, 1) := by decide +kernel
theorem dX0_init_25 : decode cX0_init 25 = .ok (.bipush 16, 2) := by decide +kernel
theorem dX0_init_27 : decode cX0_init 27 = .ok (.newarray .boolean, 2) := by decide +kernel
theorem dX0_init_29 : decode cX0_init 29 = .ok (.putfield 20, 3) := by decide +kernel
theorem dX0_init_32 : decode cX0_init 32 = .ok (.return_, 1) := by decide +kernel
abbrev zm_X0_init : zg_M := (RX0, cX0_init, 1, none, [])
theorem dX0_isOpen_0 : decode cX0_isOpen 0 = .ok (.aload_n 0, 1) := by decide +kernel
theorem dX0_isOpen_1 : decode cX0_isOpen 1 = .ok (.getfield 24, 3) := by decide +kernel
theorem dX0_isOpen_4 : decode cX0_isOpen 4 = .ok (.ifCond .le 7, 3) := by decide +kernel
theorem dX0_isOpen_7 : decode cX0_isOpen 7 = .ok (.iconst 1, 1) := by decide +kernel
theorem dX0_isOpen_8 : decode cX0_isOpen 8 = .ok (.goto 4, 3) := by decide +kernel
theorem dX0_isOpen_11 : decode cX0_isOpen 11 = .ok (.iconst 0, 1) := by decide +kernel
theorem dX0_isOpen_12 : decode cX0_isOpen 12 = .ok (.ireturn, 1) := by decide +kernel
abbrev zm_X0_isOpen : zg_M := (RX0, cX0_isOpen, 1, (some .boolean), [])
theorem dX0_has_0 : decode cX0_has 0 = .ok (.aload_n 0, 1) := by decide +kernel
theorem dX0_has_1 : decode cX0_has 1 = .ok (.getfield 9, 3) := by decide +kernel
theorem dX0_has_4 : decode cX0_has 4 = .ok (.iload_n 1, 1) := by decide +kernel
theorem dX0_has_5 : decode cX0_has 5 = .ok (.iaload, 1) := by decide +kernel
theorem dX0_has_6 : decode cX0_has 6 = .ok (.ifCond .eq 7, 3) := by decide +kernel
theorem dX0_has_9 : decode cX0_has 9 = .ok (.iconst 1, 1) := by decide +kernel
theorem dX0_has_10 : decode cX0_has 10 = .ok (.goto 4, 3) := by decide +kernel
theorem dX0_has_13 : decode cX0_has 13 = .ok (.iconst 0, 1) := by decide +kernel
theorem dX0_has_14 : decode cX0_has 14 = .ok (.ireturn, 1) := by decide +kernel
abbrev zm_X0_has : zg_M := (RX0, cX0_has, 2, (some .boolean), [])
theorem dX0_add_0 : decode cX0_add 0 = .ok (.aload_n 0, 1) := by decide +kernel
theorem dX0_add_1 : decode cX0_add 1 = .ok (.getfield 9, 3) := by decide +kernel
theorem dX0_add_4 : decode cX0_add 4 = .ok (.iload_n 1, 1) := by decide +kernel
theorem dX0_add_5 : decode cX0_add 5 = .ok (.iload_n 2, 1) := by decide +kernel
theorem dX0_add_6 : decode cX0_add 6 = .ok (.iastore, 1) := by decide +kernel
theorem dX0_add_7 : decode cX0_add 7 = .ok (.aload_n 0, 1) := by decide +kernel
theorem dX0_add_8 : decode cX0_add 8 = .ok (.dup, 1) := by decide +kernel
theorem dX0_add_9 : decode cX0_add 9 = .ok (.getfield 24, 3) := by decide +kernel
theorem dX0_add_12 : decode cX0_add 12 = .ok (.iconst 1, 1) := by decide +kernel
theorem dX0_add_13 : decode cX0_add 13 = .ok (.iadd, 1) := by decide +kernel
theorem dX0_add_14 : decode cX0_add 14 = .ok (.putfield 24, 3) := by decide +kernel
theorem dX0_add_17 : decode cX0_add 17 = .ok (.return_, 1) := by decide +kernel
abbrev zm_X0_add : zg_M := (RX0, cX0_add, 3, none, [])
theorem dX0_close_0 : decode cX0_close 0 = .ok (.aload_n 0, 1) := by decide +kernel
theorem dX0_close_1 : decode cX0_close 1 = .ok (.getfield 9, 3) := by decide +kernel
theorem dX0_close_4 : decode cX0_close 4 = .ok (.iconst 0, 1) := by decide +kernel
theorem dX0_close_5 : decode cX0_close 5 = .ok (.invokestatic 28, 3) := by decide +kernel
theorem dX0_close_8 : decode cX0_close 8 = .ok (.aload_n 0, 1) := by decide +kernel
theorem dX0_close_9 : decode cX0_close 9 = .ok (.iconst 0, 1) := by decide +kernel
theorem dX0_close_10 : decode cX0_close 10 = .ok (.putfield 24, 3) := by decide +kernel
theorem dX0_close_13 : decode cX0_close 13 = .ok (.return_, 1) := by decide +kernel
abbrev zm_X0_close : zg_M := (RX0, cX0_close, 1, none, [])
theorem dX1_init_0 : decode cX1_init 0 = .ok (.aload_n 0, 1) := by decide +kernel
theorem dX1_init_1 : decode cX1_init 1 = .ok (.invokespecial 3, 3) := by decide +kernel
theorem dX1_init_4 : decode cX1_init 4 = .ok (.aload_n 0, 1) := by decide +kernel
theorem dX1_init_5 : decode cX1_init 5 = .ok (.bipush 77, 2) := by decide +kernel
theorem dX1_init_7 : decode cX1_init 7 = .ok (.newarray .int, 2) := by decide +kernel
theorem dX1_init_9 : decode cX1_init 9 = .ok (.putfield 9, 3) := by decide +kernel
theorem dX1_init_12 : decode cX1_init 12 = .ok (.aload_n 0, 1) := by decide +kernel
theorem dX1_init_13 : decode cX1_init 13 = .ok (.bipush 77, 2) := by decide +kernel
theorem dX1_init_15 : decode cX1_init 15 = .ok (.bipush 16, 2) := by decide +kernel
theorem dX1_init_17 : decode cX1_init 17 = .ok (.multianewarray 15 2, 4) := by decide +kernel
theorem dX1_init_21 : decode cX1_init 21 = .ok (.putfield 17, 3) := by decide +kernel
theorem dX1_init_24 : decode cX1_init 24 = .ok (.return_, 1) := by decide +kernel
abbrev zm_X1_init : zg_M := (RX1, cX1_init, 1, none, [])
theorem dX1_add_0 : decode cX1_add 0 = .ok (.aload_n 0, 1) := by decide +kernel
theorem dX1_add_1 : decode cX1_add 1 = .ok (.getfield 9, 3) := by decide +kernel
theorem dX1_add_4 : decode cX1_add 4 = .ok (.aload_n 0, 1) := by decide +kernel
theorem dX1_add_5 : decode cX1_add 5 = .ok (.getfield 20, 3) := by decide +kernel
theorem dX1_add_8 : decode cX1_add 8 = .ok (.iload_n 1, 1) := by decide +kernel
theorem dX1_add_9 : decode cX1_add 9 = .ok (.iastore, 1) := by decide +kernel
theorem dX1_add_10 : decode cX1_add 10 = .ok (.aload_n 2, 1) := by decide +kernel
theorem dX1_add_11 : decode cX1_add 11 = .ok (.iconst 0, 1) := by decide +kernel
theorem dX1_add_12 : decode cX1_add 12 = .ok (.aload_n 0, 1) := by decide +kernel
theorem dX1_add_13 : decode cX1_add 13 = .ok (.getfield 17, 3) := by decide +kernel
theorem dX1_add_16 : decode cX1_add 16 = .ok (.aload_n 0, 1) := by decide +kernel
theorem dX1_add_17 : decode cX1_add 17 = .ok (.getfield 20, 3) := by decide +kernel
theorem dX1_add_20 : decode cX1_add 20 = .ok (.aaload, 1) := by decide +kernel
theorem dX1_add_21 : decode cX1_add 21 = .ok (.iconst 0, 1) := by decide +kernel
theorem dX1_add_22 : decode cX1_add 22 = .ok (.bipush 16, 2) := by decide +kernel
theorem dX1_add_24 : decode cX1_add 24 = .ok (.invokestatic 24, 3) := by decide +kernel
theorem dX1_add_27 : decode cX1_add 27 = .ok (.aload_n 0, 1) := by decide +kernel
theorem dX1_add_28 : decode cX1_add 28 = .ok (.dup, 1) := by decide +kernel
theorem dX1_add_29 : decode cX1_add 29 = .ok (.getfield 20, 3) := by decide +kernel
theorem dX1_add_32 : decode cX1_add 32 = .ok (.iconst 1, 1) := by decide +kernel
theorem dX1_add_33 : decode cX1_add 33 = .ok (.iadd, 1) := by decide +kernel
theorem dX1_add_34 : decode cX1_add 34 = .ok (.putfield 20, 3) := by decide +kernel
theorem dX1_add_37 : decode cX1_add 37 = .ok (.return_, 1) := by decide +kernel
abbrev zm_X1_add : zg_M := (RX1, cX1_add, 3, none, [])
theorem dX1_carryOut_0 : decode cX1_carryOut 0 = .ok (.aload_n 0, 1) := by decide +kernel
theorem dX1_carryOut_1 : decode cX1_carryOut 1 = .ok (.getfield 17, 3) := by decide +kernel
theorem dX1_carryOut_4 : decode cX1_carryOut 4 = .ok (.iload_n 1, 1) := by decide +kernel
theorem dX1_carryOut_5 : decode cX1_carryOut 5 = .ok (.aaload, 1) := by decide +kernel
theorem dX1_carryOut_6 : decode cX1_carryOut 6 = .ok (.iconst 0, 1) := by decide +kernel
theorem dX1_carryOut_7 : decode cX1_carryOut 7 = .ok (.aload_n 2, 1) := by decide +kernel
theorem dX1_carryOut_8 : decode cX1_carryOut 8 = .ok (.aload_n 0, 1) := by decide +kernel
theorem dX1_carryOut_9 : decode cX1_carryOut 9 = .ok (.getfield 9, 3) := by decide +kernel
theorem dX1_carryOut_12 : decode cX1_carryOut 12 = .ok (.iload_n 1, 1) := by decide +kernel
theorem dX1_carryOut_13 : decode cX1_carryOut 13 = .ok (.iaload, 1) := by decide +kernel
theorem dX1_carryOut_14 : decode cX1_carryOut 14 = .ok (.aaload, 1) := by decide +kernel
theorem dX1_carryOut_15 : decode cX1_carryOut 15 = .ok (.iconst 0, 1) := by decide +kernel
theorem dX1_carryOut_16 : decode cX1_carryOut 16 = .ok (.bipush 16, 2) := by decide +kernel
theorem dX1_carryOut_18 : decode cX1_carryOut 18 = .ok (.invokestatic 24, 3) := by decide +kernel
theorem dX1_carryOut_21 : decode cX1_carryOut 21 = .ok (.return_, 1) := by decide +kernel
abbrev zm_X1_carryOut : zg_M := (RX1, cX1_carryOut, 3, none, [])
theorem dX2_init_0 : decode cX2_init 0 = .ok (.aload_n 0, 1) := by decide +kernel
theorem dX2_init_1 : decode cX2_init 1 = .ok (.invokespecial 3, 3) := by decide +kernel
theorem dX2_init_4 : decode cX2_init 4 = .ok (.aload_n 0, 1) := by decide +kernel
theorem dX2_init_5 : decode cX2_init 5 = .ok (.bipush 16, 2) := by decide +kernel
theorem dX2_init_7 : decode cX2_init 7 = .ok (.newarray .int, 2) := by decide +kernel
theorem dX2_init_9 : decode cX2_init 9 = .ok (.putfield 9, 3) := by decide +kernel
theorem dX2_init_12 : decode cX2_init 12 = .ok (.return_, 1) := by decide +kernel
abbrev zm_X2_init : zg_M := (RX2, cX2_init, 1, none, [])
theorem dX2_become_0 : decode cX2_become 0 = .ok (.aload_n 1, 1) := by decide +kernel
theorem dX2_become_1 : decode cX2_become 1 = .ok (.getfield 9, 3) := by decide +kernel
theorem dX2_become_4 : decode cX2_become 4 = .ok (.iconst 0, 1) := by decide +kernel
theorem dX2_become_5 : decode cX2_become 5 = .ok (.aload_n 0, 1) := by decide +kernel
theorem dX2_become_6 : decode cX2_become 6 = .ok (.getfield 9, 3) := by decide +kernel
theorem dX2_become_9 : decode cX2_become 9 = .ok (.iconst 0, 1) := by decide +kernel
theorem dX2_become_10 : decode cX2_become 10 = .ok (.bipush 16, 2) := by decide +kernel
theorem dX2_become_12 : decode cX2_become 12 = .ok (.invokestatic 15, 3) := by decide +kernel
theorem dX2_become_15 : decode cX2_become 15 = .ok (.aload_n 0, 1) := by decide +kernel
theorem dX2_become_16 : decode cX2_become 16 = .ok (.aload_n 1, 1) := by decide +kernel
theorem dX2_become_17 : decode cX2_become 17 = .ok (.getfield 21, 3) := by decide +kernel
theorem dX2_become_20 : decode cX2_become 20 = .ok (.putfield 21, 3) := by decide +kernel
theorem dX2_become_23 : decode cX2_become 23 = .ok (.aload_n 0, 1) := by decide +kernel
theorem dX2_become_24 : decode cX2_become 24 = .ok (.aload_n 1, 1) := by decide +kernel
theorem dX2_become_25 : decode cX2_become 25 = .ok (.getfield 25, 3) := by decide +kernel
theorem dX2_become_28 : decode cX2_become 28 = .ok (.putfield 25, 3) := by decide +kernel
theorem dX2_become_31 : decode cX2_become 31 = .ok (.return_, 1) := by decide +kernel
abbrev zm_X2_become : zg_M := (RX2, cX2_become, 2, none, [])
theorem dX2_usedSet_0 : decode cX2_usedSet 0 = .ok (.lconst 1, 1) := by decide +kernel
theorem dX2_usedSet_1 : decode cX2_usedSet 1 = .ok (.aload_n 0, 1) := by decide +kernel
theorem dX2_usedSet_2 : decode cX2_usedSet 2 = .ok (.getfield 21, 3) := by decide +kernel
theorem dX2_usedSet_5 : decode cX2_usedSet 5 = .ok (.lshl, 1) := by decide +kernel
theorem dX2_usedSet_6 : decode cX2_usedSet 6 = .ok (.lstore_n 1, 1) := by decide +kernel
theorem dX2_usedSet_7 : decode cX2_usedSet 7 = .ok (.iconst 0, 1) := by decide +kernel
theorem dX2_usedSet_8 : decode cX2_usedSet 8 = .ok (.istore_n 3, 1) := by decide +kernel
theorem dX2_usedSet_9 : decode cX2_usedSet 9 = .ok (.iload_n 3, 1) := by decide +kernel
theorem dX2_usedSet_10 : decode cX2_usedSet 10 = .ok (.bipush 16, 2) := by decide +kernel
theorem dX2_usedSet_12 : decode cX2_usedSet 12 = .ok (.if_icmp .ge 20, 3) := by decide +kernel
theorem dX2_usedSet_15 : decode cX2_usedSet 15 = .ok (.lload_n 1, 1) := by decide +kernel
theorem dX2_usedSet_16 : decode cX2_usedSet 16 = .ok (.lconst 1, 1) := by decide +kernel
theorem dX2_usedSet_17 : decode cX2_usedSet 17 = .ok (.aload_n 0, 1) := by decide +kernel
theorem dX2_usedSet_18 : decode cX2_usedSet 18 = .ok (.getfield 9, 3) := by decide +kernel
theorem dX2_usedSet_21 : decode cX2_usedSet 21 = .ok (.iload_n 3, 1) := by decide +kernel
theorem dX2_usedSet_22 : decode cX2_usedSet 22 = .ok (.iaload, 1) := by decide +kernel
theorem dX2_usedSet_23 : decode cX2_usedSet 23 = .ok (.lshl, 1) := by decide +kernel
theorem dX2_usedSet_24 : decode cX2_usedSet 24 = .ok (.lor, 1) := by decide +kernel
theorem dX2_usedSet_25 : decode cX2_usedSet 25 = .ok (.lstore_n 1, 1) := by decide +kernel
theorem dX2_usedSet_26 : decode cX2_usedSet 26 = .ok (.iinc 3 1, 3) := by decide +kernel
theorem dX2_usedSet_29 : decode cX2_usedSet 29 = .ok (.goto (-20), 3) := by decide +kernel
theorem dX2_usedSet_32 : decode cX2_usedSet 32 = .ok (.lload_n 1, 1) := by decide +kernel
theorem dX2_usedSet_33 : decode cX2_usedSet 33 = .ok (.lreturn, 1) := by decide +kernel
abbrev zm_X2_usedSet : zg_M := (RX2, cX2_usedSet, 4, (some .long), [])
theorem dX3_init_0 : decode cX3_init 0 = .ok (.aload_n 0, 1) := by decide +kernel
theorem dX3_init_1 : decode cX3_init 1 = .ok (.invokespecial 3, 3) := by decide +kernel
theorem dX3_init_4 : decode cX3_init 4 = .ok (.aload_n 0, 1) := by decide +kernel
theorem dX3_init_5 : decode cX3_init 5 = .ok (.bipush 48, 2) := by decide +kernel
theorem dX3_init_7 : decode cX3_init 7 = .ok (.bipush 16, 2) := by decide +kernel
theorem dX3_init_9 : decode cX3_init 9 = .ok (.multianewarray 9 2, 4) := by decide +kernel
theorem dX3_init_13 : decode cX3_init 13 = .ok (.putfield 11, 3) := by decide +kernel
theorem dX3_init_16 : decode cX3_init 16 = .ok (.aload_n 0, 1) := by decide +kernel
theorem dX3_init_17 : decode cX3_init 17 = .ok (.new 14, 3) := by decide +kernel
theorem dX3_init_20 : decode cX3_init 20 = .ok (.dup, 1) := by decide +kernel
theorem dX3_init_21 : decode cX3_init 21 = .ok (.invokespecial 16, 3) := by decide +kernel
theorem dX3_init_24 : decode cX3_init 24 = .ok (.putfield 17, 3) := by decide +kernel
theorem dX3_init_27 : decode cX3_init 27 = .ok (.aload_n 0, 1) := by decide +kernel
theorem dX3_init_28 : decode cX3_init 28 = .ok (.new 21, 3) := by decide +kernel
theorem dX3_init_31 : decode cX3_init 31 = .ok (.dup, 1) := by decide +kernel
theorem dX3_init_32 : decode cX3_init 32 = .ok (.invokespecial 23, 3) := by decide +kernel
theorem dX3_init_35 : decode cX3_init 35 = .ok (.putfield 24, 3) := by decide +kernel
theorem dX3_init_38 : decode cX3_init 38 = .ok (.aload_n 0, 1) := by decide +kernel
theorem dX3_init_39 : decode cX3_init 39 = .ok (.new 21, 3) := by decide +kernel
theorem dX3_init_42 : decode cX3_init 42 = .ok (.dup, 1) := by decide +kernel
theorem dX3_init_43 : decode cX3_init 43 = .ok (.invokespecial 23, 3) := by decide +kernel
theorem dX3_init_46 : decode cX3_init 46 = .ok (.putfield 28, 3) := by decide +kernel
theorem dX3_init_49 : decode cX3_init 49 = .ok (.aload_n 0, 1) := by decide +kernel
theorem dX3_init_50 : decode cX3_init 50 = .ok (.new 31, 3) := by decide +kernel
theorem dX3_init_53 : decode cX3_init 53 = .ok (.dup, 1) := by decide +kernel
theorem dX3_init_54 : decode cX3_init 54 = .ok (.invokespecial 33, 3) := by decide +kernel
theorem dX3_init_57 : decode cX3_init 57 = .ok (.putfield 34, 3) := by decide +kernel
theorem dX3_init_60 : decode cX3_init 60 = .ok (.aload_n 0, 1) := by decide +kernel
theorem dX3_init_61 : decode cX3_init 61 = .ok (.bipush 16, 2) := by decide +kernel
theorem dX3_init_63 : decode cX3_init 63 = .ok (.newarray .int, 2) := by decide +kernel
theorem dX3_init_65 : decode cX3_init 65 = .ok (.putfield 38, 3) := by decide +kernel
theorem dX3_init_68 : decode cX3_init 68 = .ok (.aload_n 0, 1) := by decide +kernel
theorem dX3_init_69 : decode cX3_init 69 = .ok (.invokevirtual 42, 3) := by decide +kernel
theorem dX3_init_72 : decode cX3_init 72 = .ok (.return_, 1) := by decide +kernel
abbrev zm_X3_init : zg_M := (RX3, cX3_init, 1, none, [])
theorem dX3_format_0 : decode cX3_format 0 = .ok (.aload_n 0, 1) := by decide +kernel
theorem dX3_format_1 : decode cX3_format 1 = .ok (.invokevirtual 42, 3) := by decide +kernel
theorem dX3_format_4 : decode cX3_format 4 = .ok (.return_, 1) := by decide +kernel
abbrev zm_X3_format : zg_M := (RX3, cX3_format, 1, none, [])
theorem dX3_write_0 : decode cX3_write 0 = .ok (.iload_n 1, 1) := by decide +kernel
theorem dX3_write_1 : decode cX3_write 1 = .ok (.invokestatic 45, 3) := by decide +kernel
theorem dX3_write_4 : decode cX3_write 4 = .ok (.iload_n 2, 1) := by decide +kernel
theorem dX3_write_5 : decode cX3_write 5 = .ok (.invokestatic 49, 3) := by decide +kernel
theorem dX3_write_8 : decode cX3_write 8 = .ok (.iload_n 3, 1) := by decide +kernel
theorem dX3_write_9 : decode cX3_write 9 = .ok (.invokestatic 52, 3) := by decide +kernel
theorem dX3_write_12 : decode cX3_write 12 = .ok (.aload_n 0, 1) := by decide +kernel
theorem dX3_write_13 : decode cX3_write 13 = .ok (.invokevirtual 55, 3) := by decide +kernel
theorem dX3_write_16 : decode cX3_write 16 = .ok (.aload_n 0, 1) := by decide +kernel
theorem dX3_write_17 : decode cX3_write 17 = .ok (.iload_n 1, 1) := by decide +kernel
theorem dX3_write_18 : decode cX3_write 18 = .ok (.invokevirtual 58, 3) := by decide +kernel
theorem dX3_write_21 : decode cX3_write 21 = .ok (.aload_n 0, 1) := by decide +kernel
theorem dX3_write_22 : decode cX3_write 22 = .ok (.getfield 34, 3) := by decide +kernel
theorem dX3_write_25 : decode cX3_write 25 = .ok (.getfield 61, 3) := by decide +kernel
theorem dX3_write_28 : decode cX3_write 28 = .ok (.iload_n 1, 1) := by decide +kernel
theorem dX3_write_29 : decode cX3_write 29 = .ok (.aaload, 1) := by decide +kernel
theorem dX3_write_30 : decode cX3_write 30 = .ok (.iload_n 2, 1) := by decide +kernel
theorem dX3_write_31 : decode cX3_write 31 = .ok (.iaload, 1) := by decide +kernel
theorem dX3_write_32 : decode cX3_write 32 = .ok (.istore 4, 2) := by decide +kernel
theorem dX3_write_34 : decode cX3_write 34 = .ok (.aload_n 0, 1) := by decide +kernel
theorem dX3_write_35 : decode cX3_write 35 = .ok (.getfield 34, 3) := by decide +kernel
theorem dX3_write_38 : decode cX3_write 38 = .ok (.getfield 61, 3) := by decide +kernel
theorem dX3_write_41 : decode cX3_write 41 = .ok (.iload_n 1, 1) := by decide +kernel
theorem dX3_write_42 : decode cX3_write 42 = .ok (.aaload, 1) := by decide +kernel
theorem dX3_write_43 : decode cX3_write 43 = .ok (.iload_n 2, 1) := by decide +kernel
theorem dX3_write_44 : decode cX3_write 44 = .ok (.iload_n 3, 1) := by decide +kernel
theorem dX3_write_45 : decode cX3_write 45 = .ok (.iastore, 1) := by decide +kernel
theorem dX3_write_46 : decode cX3_write 46 = .ok (.iload 4, 2) := by decide +kernel
theorem dX3_write_48 : decode cX3_write 48 = .ok (.ireturn, 1) := by decide +kernel
abbrev zm_X3_write : zg_M := (RX3, cX3_write, 5, (some .int), [])
theorem dX3_fill_0 : decode cX3_fill 0 = .ok (.iload_n 1, 1) := by decide +kernel
theorem dX3_fill_1 : decode cX3_fill 1 = .ok (.invokestatic 45, 3) := by decide +kernel
theorem dX3_fill_4 : decode cX3_fill 4 = .ok (.aload_n 0, 1) := by decide +kernel
theorem dX3_fill_5 : decode cX3_fill 5 = .ok (.invokevirtual 55, 3) := by decide +kernel
theorem dX3_fill_8 : decode cX3_fill 8 = .ok (.aload_n 0, 1) := by decide +kernel
theorem dX3_fill_9 : decode cX3_fill 9 = .ok (.iload_n 1, 1) := by decide +kernel
theorem dX3_fill_10 : decode cX3_fill 10 = .ok (.invokevirtual 58, 3) := by decide +kernel
theorem dX3_fill_13 : decode cX3_fill 13 = .ok (.aload_n 0, 1) := by decide +kernel
theorem dX3_fill_14 : decode cX3_fill 14 = .ok (.getfield 34, 3) := by decide +kernel
theorem dX3_fill_17 : decode cX3_fill 17 = .ok (.getfield 61, 3) := by decide +kernel
theorem dX3_fill_20 : decode cX3_fill 20 = .ok (.iload_n 1, 1) := by decide +kernel
theorem dX3_fill_21 : decode cX3_fill 21 = .ok (.aaload, 1) := by decide +kernel
theorem dX3_fill_22 : decode cX3_fill 22 = .ok (.astore 6, 2) := by decide +kernel
theorem dX3_fill_24 : decode cX3_fill 24 = .ok (.bipush 8, 2) := by decide +kernel
theorem dX3_fill_26 : decode cX3_fill 26 = .ok (.istore 7, 2) := by decide +kernel
theorem dX3_fill_28 : decode cX3_fill 28 = .ok (.iconst 0, 1) := by decide +kernel
theorem dX3_fill_29 : decode cX3_fill 29 = .ok (.istore 8, 2) := by decide +kernel
theorem dX3_fill_31 : decode cX3_fill 31 = .ok (.iload 8, 2) := by decide +kernel
theorem dX3_fill_33 : decode cX3_fill 33 = .ok (.iload 7, 2) := by decide +kernel
theorem dX3_fill_35 : decode cX3_fill 35 = .ok (.if_icmp .ge 47, 3) := by decide +kernel
theorem dX3_fill_38 : decode cX3_fill 38 = .ok (.aload 6, 2) := by decide +kernel
theorem dX3_fill_40 : decode cX3_fill 40 = .ok (.iload 8, 2) := by decide +kernel
theorem dX3_fill_42 : decode cX3_fill 42 = .ok (.lload_n 2, 1) := by decide +kernel
theorem dX3_fill_43 : decode cX3_fill 43 = .ok (.bipush 8, 2) := by decide +kernel
theorem dX3_fill_45 : decode cX3_fill 45 = .ok (.iload 8, 2) := by decide +kernel
theorem dX3_fill_47 : decode cX3_fill 47 = .ok (.imul, 1) := by decide +kernel
theorem dX3_fill_48 : decode cX3_fill 48 = .ok (.lushr, 1) := by decide +kernel
theorem dX3_fill_49 : decode cX3_fill 49 = .ok (.l2i, 1) := by decide +kernel
theorem dX3_fill_50 : decode cX3_fill 50 = .ok (.sipush 255, 3) := by decide +kernel
theorem dX3_fill_53 : decode cX3_fill 53 = .ok (.iand, 1) := by decide +kernel
theorem dX3_fill_54 : decode cX3_fill 54 = .ok (.iastore, 1) := by decide +kernel
theorem dX3_fill_55 : decode cX3_fill 55 = .ok (.aload 6, 2) := by decide +kernel
theorem dX3_fill_57 : decode cX3_fill 57 = .ok (.iload 7, 2) := by decide +kernel
theorem dX3_fill_59 : decode cX3_fill 59 = .ok (.iload 8, 2) := by decide +kernel
theorem dX3_fill_61 : decode cX3_fill 61 = .ok (.iadd, 1) := by decide +kernel
theorem dX3_fill_62 : decode cX3_fill 62 = .ok (.lload 4, 2) := by decide +kernel
theorem dX3_fill_64 : decode cX3_fill 64 = .ok (.bipush 8, 2) := by decide +kernel
theorem dX3_fill_66 : decode cX3_fill 66 = .ok (.iload 8, 2) := by decide +kernel
theorem dX3_fill_68 : decode cX3_fill 68 = .ok (.imul, 1) := by decide +kernel
theorem dX3_fill_69 : decode cX3_fill 69 = .ok (.lushr, 1) := by decide +kernel
theorem dX3_fill_70 : decode cX3_fill 70 = .ok (.l2i, 1) := by decide +kernel
theorem dX3_fill_71 : decode cX3_fill 71 = .ok (.sipush 255, 3) := by decide +kernel
theorem dX3_fill_74 : decode cX3_fill 74 = .ok (.iand, 1) := by decide +kernel
theorem dX3_fill_75 : decode cX3_fill 75 = .ok (.iastore, 1) := by decide +kernel
theorem dX3_fill_76 : decode cX3_fill 76 = .ok (.iinc 8 1, 3) := by decide +kernel
theorem dX3_fill_79 : decode cX3_fill 79 = .ok (.goto (-48), 3) := by decide +kernel
theorem dX3_fill_82 : decode cX3_fill 82 = .ok (.aload_n 0, 1) := by decide +kernel
theorem dX3_fill_83 : decode cX3_fill 83 = .ok (.getfield 34, 3) := by decide +kernel
theorem dX3_fill_86 : decode cX3_fill 86 = .ok (.getfield 64, 3) := by decide +kernel
theorem dX3_fill_89 : decode cX3_fill 89 = .ok (.ireturn, 1) := by decide +kernel
abbrev zm_X3_fill : zg_M := (RX3, cX3_fill, 9, (some .int), [])
theorem dX3_read_0 : decode cX3_read 0 = .ok (.iload_n 1, 1) := by decide +kernel
theorem dX3_read_1 : decode cX3_read 1 = .ok (.invokestatic 45, 3) := by decide +kernel
theorem dX3_read_4 : decode cX3_read 4 = .ok (.iload_n 2, 1) := by decide +kernel
theorem dX3_read_5 : decode cX3_read 5 = .ok (.invokestatic 49, 3) := by decide +kernel
theorem dX3_read_8 : decode cX3_read 8 = .ok (.aload_n 0, 1) := by decide +kernel
theorem dX3_read_9 : decode cX3_read 9 = .ok (.invokevirtual 55, 3) := by decide +kernel
theorem dX3_read_12 : decode cX3_read 12 = .ok (.iload_n 3, 1) := by decide +kernel
theorem dX3_read_13 : decode cX3_read 13 = .ok (.ifCond .ne 26, 3) := by decide +kernel
theorem dX3_read_16 : decode cX3_read 16 = .ok (.aload_n 0, 1) := by decide +kernel
theorem dX3_read_17 : decode cX3_read 17 = .ok (.getfield 34, 3) := by decide +kernel
theorem dX3_read_20 : decode cX3_read 20 = .ok (.iload_n 1, 1) := by decide +kernel
theorem dX3_read_21 : decode cX3_read 21 = .ok (.invokevirtual 68, 3) := by decide +kernel
theorem dX3_read_24 : decode cX3_read 24 = .ok (.ifCond .eq 15, 3) := by decide +kernel
theorem dX3_read_27 : decode cX3_read 27 = .ok (.aload_n 0, 1) := by decide +kernel
theorem dX3_read_28 : decode cX3_read 28 = .ok (.getfield 34, 3) := by decide +kernel
theorem dX3_read_31 : decode cX3_read 31 = .ok (.getfield 61, 3) := by decide +kernel
theorem dX3_read_34 : decode cX3_read 34 = .ok (.iload_n 1, 1) := by decide +kernel
theorem dX3_read_35 : decode cX3_read 35 = .ok (.aaload, 1) := by decide +kernel
theorem dX3_read_36 : decode cX3_read 36 = .ok (.iload_n 2, 1) := by decide +kernel
theorem dX3_read_37 : decode cX3_read 37 = .ok (.iaload, 1) := by decide +kernel
theorem dX3_read_38 : decode cX3_read 38 = .ok (.ireturn, 1) := by decide +kernel
theorem dX3_read_39 : decode cX3_read 39 = .ok (.aload_n 0, 1) := by decide +kernel
theorem dX3_read_40 : decode cX3_read 40 = .ok (.getfield 24, 3) := by decide +kernel
theorem dX3_read_43 : decode cX3_read 43 = .ok (.getfield 72, 3) := by decide +kernel
theorem dX3_read_46 : decode cX3_read 46 = .ok (.iload_n 1, 1) := by decide +kernel
theorem dX3_read_47 : decode cX3_read 47 = .ok (.iaload, 1) := by decide +kernel
theorem dX3_read_48 : decode cX3_read 48 = .ok (.istore 4, 2) := by decide +kernel
theorem dX3_read_50 : decode cX3_read 50 = .ok (.iload 4, 2) := by decide +kernel
theorem dX3_read_52 : decode cX3_read 52 = .ok (.ifCond .ne 7, 3) := by decide +kernel
theorem dX3_read_55 : decode cX3_read 55 = .ok (.iconst 0, 1) := by decide +kernel
theorem dX3_read_56 : decode cX3_read 56 = .ok (.goto 12, 3) := by decide +kernel
theorem dX3_read_59 : decode cX3_read 59 = .ok (.aload_n 0, 1) := by decide +kernel
theorem dX3_read_60 : decode cX3_read 60 = .ok (.getfield 11, 3) := by decide +kernel
theorem dX3_read_63 : decode cX3_read 63 = .ok (.iload 4, 2) := by decide +kernel
theorem dX3_read_65 : decode cX3_read 65 = .ok (.aaload, 1) := by decide +kernel
theorem dX3_read_66 : decode cX3_read 66 = .ok (.iload_n 2, 1) := by decide +kernel
theorem dX3_read_67 : decode cX3_read 67 = .ok (.iaload, 1) := by decide +kernel
theorem dX3_read_68 : decode cX3_read 68 = .ok (.ireturn, 1) := by decide +kernel
abbrev zm_X3_read : zg_M := (RX3, cX3_read, 5, (some .int), [])
theorem dX3_spill_0 : decode cX3_spill 0 = .ok (.iload_n 1, 1) := by decide +kernel
theorem dX3_spill_1 : decode cX3_spill 1 = .ok (.invokestatic 45, 3) := by decide +kernel
theorem dX3_spill_4 : decode cX3_spill 4 = .ok (.aload_n 0, 1) := by decide +kernel
theorem dX3_spill_5 : decode cX3_spill 5 = .ok (.getfield 34, 3) := by decide +kernel
theorem dX3_spill_8 : decode cX3_spill 8 = .ok (.iload_n 1, 1) := by decide +kernel
theorem dX3_spill_9 : decode cX3_spill 9 = .ok (.invokevirtual 68, 3) := by decide +kernel
theorem dX3_spill_12 : decode cX3_spill 12 = .ok (.ifCond .eq 15, 3) := by decide +kernel
theorem dX3_spill_15 : decode cX3_spill 15 = .ok (.aload_n 0, 1) := by decide +kernel
theorem dX3_spill_16 : decode cX3_spill 16 = .ok (.getfield 34, 3) := by decide +kernel
theorem dX3_spill_19 : decode cX3_spill 19 = .ok (.getfield 75, 3) := by decide +kernel
theorem dX3_spill_22 : decode cX3_spill 22 = .ok (.iload_n 1, 1) := by decide +kernel
theorem dX3_spill_23 : decode cX3_spill 23 = .ok (.baload, 1) := by decide +kernel
theorem dX3_spill_24 : decode cX3_spill 24 = .ok (.ifCond .eq 13, 3) := by decide +kernel
theorem dX3_spill_27 : decode cX3_spill 27 = .ok (.new 79, 3) := by decide +kernel
theorem dX3_spill_30 : decode cX3_spill 30 = .ok (.dup, 1) := by decide +kernel
theorem dX3_spill_31 : decode cX3_spill 31 = .ok (.ldc 81, 2) := by decide +kernel
theorem dX3_spill_33 : decode cX3_spill 33 = .ok (.invokespecial 83, 3) := by decide +kernel
theorem dX3_spill_36 : decode cX3_spill 36 = .ok (.athrow, 1) := by decide +kernel
theorem dX3_spill_37 : decode cX3_spill 37 = .ok (.aload_n 0, 1) := by decide +kernel
theorem dX3_spill_38 : decode cX3_spill 38 = .ok (.getfield 17, 3) := by decide +kernel
theorem dX3_spill_41 : decode cX3_spill 41 = .ok (.getfield 86, 3) := by decide +kernel
theorem dX3_spill_44 : decode cX3_spill 44 = .ok (.bipush 60, 2) := by decide +kernel
theorem dX3_spill_46 : decode cX3_spill 46 = .ok (.if_icmp .lt 13, 3) := by decide +kernel
theorem dX3_spill_49 : decode cX3_spill 49 = .ok (.new 89, 3) := by decide +kernel
theorem dX3_spill_52 : decode cX3_spill 52 = .ok (.dup, 1) := by decide +kernel
theorem dX3_spill_53 : decode cX3_spill 53 = .ok (.ldc 91, 2) := by decide +kernel
theorem dX3_spill_55 : decode cX3_spill 55 = .ok (.invokespecial 93, 3) := by decide +kernel
theorem dX3_spill_58 : decode cX3_spill 58 = .ok (.athrow, 1) := by decide +kernel
theorem dX3_spill_59 : decode cX3_spill 59 = .ok (.aload_n 0, 1) := by decide +kernel
theorem dX3_spill_60 : decode cX3_spill 60 = .ok (.iload_n 1, 1) := by decide +kernel
theorem dX3_spill_61 : decode cX3_spill 61 = .ok (.invokevirtual 94, 3) := by decide +kernel
theorem dX3_spill_64 : decode cX3_spill 64 = .ok (.aload_n 0, 1) := by decide +kernel
theorem dX3_spill_65 : decode cX3_spill 65 = .ok (.getfield 17, 3) := by decide +kernel
theorem dX3_spill_68 : decode cX3_spill 68 = .ok (.getfield 86, 3) := by decide +kernel
theorem dX3_spill_71 : decode cX3_spill 71 = .ok (.ireturn, 1) := by decide +kernel
abbrev zm_X3_spill : zg_M := (RX3, cX3_spill, 2, (some .int), [])
theorem dX3_commit_0 : decode cX3_commit 0 = .ok (.aload_n 0, 1) := by decide +kernel
theorem dX3_commit_1 : decode cX3_commit 1 = .ok (.invokevirtual 55, 3) := by decide +kernel
theorem dX3_commit_4 : decode cX3_commit 4 = .ok (.aload_n 0, 1) := by decide +kernel
theorem dX3_commit_5 : decode cX3_commit 5 = .ok (.invokevirtual 97, 3) := by decide +kernel
theorem dX3_commit_8 : decode cX3_commit 8 = .ok (.aload_n 0, 1) := by decide +kernel
theorem dX3_commit_9 : decode cX3_commit 9 = .ok (.invokevirtual 100, 3) := by decide +kernel
theorem dX3_commit_12 : decode cX3_commit 12 = .ok (.istore_n 2, 1) := by decide +kernel
theorem dX3_commit_13 : decode cX3_commit 13 = .ok (.iload_n 2, 1) := by decide +kernel
theorem dX3_commit_14 : decode cX3_commit 14 = .ok (.iconst (-1), 1) := by decide +kernel
theorem dX3_commit_15 : decode cX3_commit 15 = .ok (.if_icmp .ne 13, 3) := by decide +kernel
theorem dX3_commit_18 : decode cX3_commit 18 = .ok (.new 89, 3) := by decide +kernel
theorem dX3_commit_21 : decode cX3_commit 21 = .ok (.dup, 1) := by decide +kernel
theorem dX3_commit_22 : decode cX3_commit 22 = .ok (.ldc 104, 2) := by decide +kernel
theorem dX3_commit_24 : decode cX3_commit 24 = .ok (.invokespecial 93, 3) := by decide +kernel
theorem dX3_commit_27 : decode cX3_commit 27 = .ok (.athrow, 1) := by decide +kernel
theorem dX3_commit_28 : decode cX3_commit 28 = .ok (.aload_n 0, 1) := by decide +kernel
theorem dX3_commit_29 : decode cX3_commit 29 = .ok (.invokevirtual 106, 3) := by decide +kernel
theorem dX3_commit_32 : decode cX3_commit 32 = .ok (.aload_n 0, 1) := by decide +kernel
theorem dX3_commit_33 : decode cX3_commit 33 = .ok (.iload_n 2, 1) := by decide +kernel
theorem dX3_commit_34 : decode cX3_commit 34 = .ok (.invokevirtual 109, 3) := by decide +kernel
theorem dX3_commit_37 : decode cX3_commit 37 = .ok (.aload_n 0, 1) := by decide +kernel
theorem dX3_commit_38 : decode cX3_commit 38 = .ok (.invokevirtual 112, 3) := by decide +kernel
theorem dX3_commit_41 : decode cX3_commit 41 = .ok (.pop, 1) := by decide +kernel
theorem dX3_commit_42 : decode cX3_commit 42 = .ok (.aload_n 0, 1) := by decide +kernel
theorem dX3_commit_43 : decode cX3_commit 43 = .ok (.iload_n 2, 1) := by decide +kernel
theorem dX3_commit_44 : decode cX3_commit 44 = .ok (.invokevirtual 115, 3) := by decide +kernel
theorem dX3_commit_47 : decode cX3_commit 47 = .ok (.iload_n 1, 1) := by decide +kernel
theorem dX3_commit_48 : decode cX3_commit 48 = .ok (.ifCond .eq 8, 3) := by decide +kernel
theorem dX3_commit_51 : decode cX3_commit 51 = .ok (.aload_n 0, 1) := by decide +kernel
theorem dX3_commit_52 : decode cX3_commit 52 = .ok (.invokevirtual 112, 3) := by decide +kernel
theorem dX3_commit_55 : decode cX3_commit 55 = .ok (.pop, 1) := by decide +kernel
theorem dX3_commit_56 : decode cX3_commit 56 = .ok (.aload_n 0, 1) := by decide +kernel
theorem dX3_commit_57 : decode cX3_commit 57 = .ok (.getfield 24, 3) := by decide +kernel
theorem dX3_commit_60 : decode cX3_commit 60 = .ok (.getfield 118, 3) := by decide +kernel
theorem dX3_commit_63 : decode cX3_commit 63 = .ok (.ireturn, 1) := by decide +kernel
abbrev zm_X3_commit : zg_M := (RX3, cX3_commit, 3, (some .int), [])
theorem dX3_abort_0 : decode cX3_abort 0 = .ok (.aload_n 0, 1) := by decide +kernel
theorem dX3_abort_1 : decode cX3_abort 1 = .ok (.invokevirtual 55, 3) := by decide +kernel
theorem dX3_abort_4 : decode cX3_abort 4 = .ok (.aload_n 0, 1) := by decide +kernel
theorem dX3_abort_5 : decode cX3_abort 5 = .ok (.invokevirtual 97, 3) := by decide +kernel
theorem dX3_abort_8 : decode cX3_abort 8 = .ok (.aload_n 0, 1) := by decide +kernel
theorem dX3_abort_9 : decode cX3_abort 9 = .ok (.getfield 34, 3) := by decide +kernel
theorem dX3_abort_12 : decode cX3_abort 12 = .ok (.getfield 64, 3) := by decide +kernel
theorem dX3_abort_15 : decode cX3_abort 15 = .ok (.istore_n 1, 1) := by decide +kernel
theorem dX3_abort_16 : decode cX3_abort 16 = .ok (.aload_n 0, 1) := by decide +kernel
theorem dX3_abort_17 : decode cX3_abort 17 = .ok (.getfield 34, 3) := by decide +kernel
theorem dX3_abort_20 : decode cX3_abort 20 = .ok (.invokevirtual 121, 3) := by decide +kernel
theorem dX3_abort_23 : decode cX3_abort 23 = .ok (.iload_n 1, 1) := by decide +kernel
theorem dX3_abort_24 : decode cX3_abort 24 = .ok (.ireturn, 1) := by decide +kernel
abbrev zm_X3_abort : zg_M := (RX3, cX3_abort, 2, (some .int), [])
theorem dX3_flush_0 : decode cX3_flush 0 = .ok (.aload_n 0, 1) := by decide +kernel
theorem dX3_flush_1 : decode cX3_flush 1 = .ok (.invokevirtual 55, 3) := by decide +kernel
theorem dX3_flush_4 : decode cX3_flush 4 = .ok (.aload_n 0, 1) := by decide +kernel
theorem dX3_flush_5 : decode cX3_flush 5 = .ok (.invokevirtual 112, 3) := by decide +kernel
theorem dX3_flush_8 : decode cX3_flush 8 = .ok (.ireturn, 1) := by decide +kernel
abbrev zm_X3_flush : zg_M := (RX3, cX3_flush, 1, (some .int), [])
theorem dX3_fail_0 : decode cX3_fail 0 = .ok (.iconst 0, 1) := by decide +kernel
theorem dX3_fail_1 : decode cX3_fail 1 = .ok (.istore_n 3, 1) := by decide +kernel
theorem dX3_fail_2 : decode cX3_fail 2 = .ok (.iload_n 3, 1) := by decide +kernel
theorem dX3_fail_3 : decode cX3_fail 3 = .ok (.aload_n 0, 1) := by decide +kernel
theorem dX3_fail_4 : decode cX3_fail 4 = .ok (.getfield 17, 3) := by decide +kernel
theorem dX3_fail_7 : decode cX3_fail 7 = .ok (.getfield 86, 3) := by decide +kernel
theorem dX3_fail_10 : decode cX3_fail 10 = .ok (.if_icmp .ge 31, 3) := by decide +kernel
theorem dX3_fail_13 : decode cX3_fail 13 = .ok (.lload_n 1, 1) := by decide +kernel
theorem dX3_fail_14 : decode cX3_fail 14 = .ok (.iload_n 3, 1) := by decide +kernel
theorem dX3_fail_15 : decode cX3_fail 15 = .ok (.lushr, 1) := by decide +kernel
theorem dX3_fail_16 : decode cX3_fail 16 = .ok (.lconst 1, 1) := by decide +kernel
theorem dX3_fail_17 : decode cX3_fail 17 = .ok (.land, 1) := by decide +kernel
theorem dX3_fail_18 : decode cX3_fail 18 = .ok (.lconst 0, 1) := by decide +kernel
theorem dX3_fail_19 : decode cX3_fail 19 = .ok (.lcmp, 1) := by decide +kernel
theorem dX3_fail_20 : decode cX3_fail 20 = .ok (.ifCond .eq 15, 3) := by decide +kernel
theorem dX3_fail_23 : decode cX3_fail 23 = .ok (.aload_n 0, 1) := by decide +kernel
theorem dX3_fail_24 : decode cX3_fail 24 = .ok (.getfield 17, 3) := by decide +kernel
theorem dX3_fail_27 : decode cX3_fail 27 = .ok (.iload_n 3, 1) := by decide +kernel
theorem dX3_fail_28 : decode cX3_fail 28 = .ok (.aload_n 0, 1) := by decide +kernel
theorem dX3_fail_29 : decode cX3_fail 29 = .ok (.getfield 11, 3) := by decide +kernel
theorem dX3_fail_32 : decode cX3_fail 32 = .ok (.invokevirtual 124, 3) := by decide +kernel
theorem dX3_fail_35 : decode cX3_fail 35 = .ok (.iinc 3 1, 3) := by decide +kernel
theorem dX3_fail_38 : decode cX3_fail 38 = .ok (.goto (-36), 3) := by decide +kernel
theorem dX3_fail_41 : decode cX3_fail 41 = .ok (.aload_n 0, 1) := by decide +kernel
theorem dX3_fail_42 : decode cX3_fail 42 = .ok (.invokevirtual 128, 3) := by decide +kernel
theorem dX3_fail_45 : decode cX3_fail 45 = .ok (.aload_n 0, 1) := by decide +kernel
theorem dX3_fail_46 : decode cX3_fail 46 = .ok (.getfield 131, 3) := by decide +kernel
theorem dX3_fail_49 : decode cX3_fail 49 = .ok (.ifCond .ne 7, 3) := by decide +kernel
theorem dX3_fail_52 : decode cX3_fail 52 = .ok (.iconst 1, 1) := by decide +kernel
theorem dX3_fail_53 : decode cX3_fail 53 = .ok (.goto 4, 3) := by decide +kernel
theorem dX3_fail_56 : decode cX3_fail 56 = .ok (.iconst 0, 1) := by decide +kernel
theorem dX3_fail_57 : decode cX3_fail 57 = .ok (.ireturn, 1) := by decide +kernel
abbrev zm_X3_fail : zg_M := (RX3, cX3_fail, 4, (some .boolean), [])
theorem dX3_damage_0 : decode cX3_damage 0 = .ok (.iload_n 1, 1) := by decide +kernel
theorem dX3_damage_1 : decode cX3_damage 1 = .ok (.invokestatic 135, 3) := by decide +kernel
theorem dX3_damage_4 : decode cX3_damage 4 = .ok (.iload_n 2, 1) := by decide +kernel
theorem dX3_damage_5 : decode cX3_damage 5 = .ok (.invokestatic 49, 3) := by decide +kernel
theorem dX3_damage_8 : decode cX3_damage 8 = .ok (.iload_n 3, 1) := by decide +kernel
theorem dX3_damage_9 : decode cX3_damage 9 = .ok (.invokestatic 52, 3) := by decide +kernel
theorem dX3_damage_12 : decode cX3_damage 12 = .ok (.aload_n 0, 1) := by decide +kernel
theorem dX3_damage_13 : decode cX3_damage 13 = .ok (.getfield 11, 3) := by decide +kernel
theorem dX3_damage_16 : decode cX3_damage 16 = .ok (.iload_n 1, 1) := by decide +kernel
theorem dX3_damage_17 : decode cX3_damage 17 = .ok (.aaload, 1) := by decide +kernel
theorem dX3_damage_18 : decode cX3_damage 18 = .ok (.iload_n 2, 1) := by decide +kernel
theorem dX3_damage_19 : decode cX3_damage 19 = .ok (.iaload, 1) := by decide +kernel
theorem dX3_damage_20 : decode cX3_damage 20 = .ok (.istore 4, 2) := by decide +kernel
theorem dX3_damage_22 : decode cX3_damage 22 = .ok (.aload_n 0, 1) := by decide +kernel
theorem dX3_damage_23 : decode cX3_damage 23 = .ok (.getfield 11, 3) := by decide +kernel
theorem dX3_damage_26 : decode cX3_damage 26 = .ok (.iload_n 1, 1) := by decide +kernel
theorem dX3_damage_27 : decode cX3_damage 27 = .ok (.aaload, 1) := by decide +kernel
theorem dX3_damage_28 : decode cX3_damage 28 = .ok (.iload_n 2, 1) := by decide +kernel
theorem dX3_damage_29 : decode cX3_damage 29 = .ok (.iload_n 3, 1) := by decide +kernel
theorem dX3_damage_30 : decode cX3_damage 30 = .ok (.iastore, 1) := by decide +kernel
theorem dX3_damage_31 : decode cX3_damage 31 = .ok (.iload 4, 2) := by decide +kernel
theorem dX3_damage_33 : decode cX3_damage 33 = .ok (.ireturn, 1) := by decide +kernel
abbrev zm_X3_damage : zg_M := (RX3, cX3_damage, 5, (some .int), [])
theorem dX3_disk_0 : decode cX3_disk 0 = .ok (.iload_n 1, 1) := by decide +kernel
theorem dX3_disk_1 : decode cX3_disk 1 = .ok (.invokestatic 135, 3) := by decide +kernel
theorem dX3_disk_4 : decode cX3_disk 4 = .ok (.iload_n 2, 1) := by decide +kernel
theorem dX3_disk_5 : decode cX3_disk 5 = .ok (.invokestatic 49, 3) := by decide +kernel
theorem dX3_disk_8 : decode cX3_disk 8 = .ok (.aload_n 0, 1) := by decide +kernel
theorem dX3_disk_9 : decode cX3_disk 9 = .ok (.getfield 11, 3) := by decide +kernel
theorem dX3_disk_12 : decode cX3_disk 12 = .ok (.iload_n 1, 1) := by decide +kernel
theorem dX3_disk_13 : decode cX3_disk 13 = .ok (.aaload, 1) := by decide +kernel
theorem dX3_disk_14 : decode cX3_disk 14 = .ok (.iload_n 2, 1) := by decide +kernel
theorem dX3_disk_15 : decode cX3_disk 15 = .ok (.iaload, 1) := by decide +kernel
theorem dX3_disk_16 : decode cX3_disk 16 = .ok (.ireturn, 1) := by decide +kernel
abbrev zm_X3_disk : zg_M := (RX3, cX3_disk, 3, (some .int), [])
theorem dX3_place_0 : decode cX3_place 0 = .ok (.iload_n 1, 1) := by decide +kernel
theorem dX3_place_1 : decode cX3_place 1 = .ok (.invokestatic 45, 3) := by decide +kernel
theorem dX3_place_4 : decode cX3_place 4 = .ok (.iload_n 2, 1) := by decide +kernel
theorem dX3_place_5 : decode cX3_place 5 = .ok (.ifCond .lt 8, 3) := by decide +kernel
theorem dX3_place_8 : decode cX3_place 8 = .ok (.iload_n 2, 1) := by decide +kernel
theorem dX3_place_9 : decode cX3_place 9 = .ok (.iconst 2, 1) := by decide +kernel
theorem dX3_place_10 : decode cX3_place 10 = .ok (.if_icmp .le 13, 3) := by decide +kernel
theorem dX3_place_13 : decode cX3_place 13 = .ok (.new 79, 3) := by decide +kernel
theorem dX3_place_16 : decode cX3_place 16 = .ok (.dup, 1) := by decide +kernel
theorem dX3_place_17 : decode cX3_place 17 = .ok (.ldc 138, 2) := by decide +kernel
theorem dX3_place_19 : decode cX3_place 19 = .ok (.invokespecial 83, 3) := by decide +kernel
theorem dX3_place_22 : decode cX3_place 22 = .ok (.athrow, 1) := by decide +kernel
theorem dX3_place_23 : decode cX3_place 23 = .ok (.aload_n 0, 1) := by decide +kernel
theorem dX3_place_24 : decode cX3_place 24 = .ok (.invokevirtual 55, 3) := by decide +kernel
theorem dX3_place_27 : decode cX3_place 27 = .ok (.iload_n 2, 1) := by decide +kernel
theorem dX3_place_28 : decode cX3_place 28 = .ok (.ifCond .ne 13, 3) := by decide +kernel
theorem dX3_place_31 : decode cX3_place 31 = .ok (.aload_n 0, 1) := by decide +kernel
theorem dX3_place_32 : decode cX3_place 32 = .ok (.getfield 24, 3) := by decide +kernel
theorem dX3_place_35 : decode cX3_place 35 = .ok (.getfield 72, 3) := by decide +kernel
theorem dX3_place_38 : decode cX3_place 38 = .ok (.iload_n 1, 1) := by decide +kernel
theorem dX3_place_39 : decode cX3_place 39 = .ok (.iaload, 1) := by decide +kernel
theorem dX3_place_40 : decode cX3_place 40 = .ok (.ireturn, 1) := by decide +kernel
theorem dX3_place_41 : decode cX3_place 41 = .ok (.iload_n 2, 1) := by decide +kernel
theorem dX3_place_42 : decode cX3_place 42 = .ok (.iconst 1, 1) := by decide +kernel
theorem dX3_place_43 : decode cX3_place 43 = .ok (.if_icmp .ne 15, 3) := by decide +kernel
theorem dX3_place_46 : decode cX3_place 46 = .ok (.aload_n 0, 1) := by decide +kernel
theorem dX3_place_47 : decode cX3_place 47 = .ok (.getfield 28, 3) := by decide +kernel
theorem dX3_place_50 : decode cX3_place 50 = .ok (.getfield 72, 3) := by decide +kernel
theorem dX3_place_53 : decode cX3_place 53 = .ok (.iload_n 1, 1) := by decide +kernel
theorem dX3_place_54 : decode cX3_place 54 = .ok (.iaload, 1) := by decide +kernel
theorem dX3_place_55 : decode cX3_place 55 = .ok (.goto 8, 3) := by decide +kernel
theorem dX3_place_58 : decode cX3_place 58 = .ok (.aload_n 0, 1) := by decide +kernel
theorem dX3_place_59 : decode cX3_place 59 = .ok (.iload_n 1, 1) := by decide +kernel
theorem dX3_place_60 : decode cX3_place 60 = .ok (.invokevirtual 140, 3) := by decide +kernel
theorem dX3_place_63 : decode cX3_place 63 = .ok (.ireturn, 1) := by decide +kernel
abbrev zm_X3_place : zg_M := (RX3, cX3_place, 3, (some .int), [])
theorem dX3_free_0 : decode cX3_free 0 = .ok (.iload_n 1, 1) := by decide +kernel
theorem dX3_free_1 : decode cX3_free 1 = .ok (.invokestatic 135, 3) := by decide +kernel
theorem dX3_free_4 : decode cX3_free 4 = .ok (.aload_n 0, 1) := by decide +kernel
theorem dX3_free_5 : decode cX3_free 5 = .ok (.invokevirtual 55, 3) := by decide +kernel
theorem dX3_free_8 : decode cX3_free 8 = .ok (.aload_n 0, 1) := by decide +kernel
theorem dX3_free_9 : decode cX3_free 9 = .ok (.invokevirtual 144, 3) := by decide +kernel
theorem dX3_free_12 : decode cX3_free 12 = .ok (.iload_n 1, 1) := by decide +kernel
theorem dX3_free_13 : decode cX3_free 13 = .ok (.invokestatic 148, 3) := by decide +kernel
theorem dX3_free_16 : decode cX3_free 16 = .ok (.ireturn, 1) := by decide +kernel
abbrev zm_X3_free : zg_M := (RX3, cX3_free, 2, (some .boolean), [])
theorem dX3_held_0 : decode cX3_held 0 = .ok (.iload_n 1, 1) := by decide +kernel
theorem dX3_held_1 : decode cX3_held 1 = .ok (.ifCond .lt 14, 3) := by decide +kernel
theorem dX3_held_4 : decode cX3_held 4 = .ok (.iload_n 1, 1) := by decide +kernel
theorem dX3_held_5 : decode cX3_held 5 = .ok (.aload_n 0, 1) := by decide +kernel
theorem dX3_held_6 : decode cX3_held 6 = .ok (.getfield 17, 3) := by decide +kernel
theorem dX3_held_9 : decode cX3_held 9 = .ok (.getfield 86, 3) := by decide +kernel
theorem dX3_held_12 : decode cX3_held 12 = .ok (.if_icmp .lt 13, 3) := by decide +kernel
theorem dX3_held_15 : decode cX3_held 15 = .ok (.new 79, 3) := by decide +kernel
theorem dX3_held_18 : decode cX3_held 18 = .ok (.dup, 1) := by decide +kernel
theorem dX3_held_19 : decode cX3_held 19 = .ok (.ldc 152, 2) := by decide +kernel
theorem dX3_held_21 : decode cX3_held 21 = .ok (.invokespecial 83, 3) := by decide +kernel
theorem dX3_held_24 : decode cX3_held 24 = .ok (.athrow, 1) := by decide +kernel
theorem dX3_held_25 : decode cX3_held 25 = .ok (.iload_n 2, 1) := by decide +kernel
theorem dX3_held_26 : decode cX3_held 26 = .ok (.iconst (-1), 1) := by decide +kernel
theorem dX3_held_27 : decode cX3_held 27 = .ok (.if_icmp .ne 13, 3) := by decide +kernel
theorem dX3_held_30 : decode cX3_held 30 = .ok (.aload_n 0, 1) := by decide +kernel
theorem dX3_held_31 : decode cX3_held 31 = .ok (.getfield 17, 3) := by decide +kernel
theorem dX3_held_34 : decode cX3_held 34 = .ok (.getfield 154, 3) := by decide +kernel
theorem dX3_held_37 : decode cX3_held 37 = .ok (.iload_n 1, 1) := by decide +kernel
theorem dX3_held_38 : decode cX3_held 38 = .ok (.iaload, 1) := by decide +kernel
theorem dX3_held_39 : decode cX3_held 39 = .ok (.ireturn, 1) := by decide +kernel
theorem dX3_held_40 : decode cX3_held 40 = .ok (.iload_n 2, 1) := by decide +kernel
theorem dX3_held_41 : decode cX3_held 41 = .ok (.invokestatic 49, 3) := by decide +kernel
theorem dX3_held_44 : decode cX3_held 44 = .ok (.aload_n 0, 1) := by decide +kernel
theorem dX3_held_45 : decode cX3_held 45 = .ok (.getfield 17, 3) := by decide +kernel
theorem dX3_held_48 : decode cX3_held 48 = .ok (.getfield 157, 3) := by decide +kernel
theorem dX3_held_51 : decode cX3_held 51 = .ok (.iload_n 1, 1) := by decide +kernel
theorem dX3_held_52 : decode cX3_held 52 = .ok (.aaload, 1) := by decide +kernel
theorem dX3_held_53 : decode cX3_held 53 = .ok (.iload_n 2, 1) := by decide +kernel
theorem dX3_held_54 : decode cX3_held 54 = .ok (.iaload, 1) := by decide +kernel
theorem dX3_held_55 : decode cX3_held 55 = .ok (.ireturn, 1) := by decide +kernel
abbrev zm_X3_held : zg_M := (RX3, cX3_held, 3, (some .int), [])
theorem dX3_total_0 : decode cX3_total 0 = .ok (.iload_n 1, 1) := by decide +kernel
theorem dX3_total_1 : decode cX3_total 1 = .ok (.ifCond .lt 9, 3) := by decide +kernel
theorem dX3_total_4 : decode cX3_total 4 = .ok (.iload_n 1, 1) := by decide +kernel
theorem dX3_total_5 : decode cX3_total 5 = .ok (.bipush 7, 2) := by decide +kernel
theorem dX3_total_7 : decode cX3_total 7 = .ok (.if_icmp .le 13, 3) := by decide +kernel
theorem dX3_total_10 : decode cX3_total 10 = .ok (.new 79, 3) := by decide +kernel
theorem dX3_total_13 : decode cX3_total 13 = .ok (.dup, 1) := by decide +kernel
theorem dX3_total_14 : decode cX3_total 14 = .ok (.ldc 158, 2) := by decide +kernel
theorem dX3_total_16 : decode cX3_total 16 = .ok (.invokespecial 83, 3) := by decide +kernel
theorem dX3_total_19 : decode cX3_total 19 = .ok (.athrow, 1) := by decide +kernel
theorem dX3_total_20 : decode cX3_total 20 = .ok (.iload_n 1, 1) := by decide +kernel
theorem dX3_total_21 : decode cX3_total 21 = .ok (.ifCond .ne 11, 3) := by decide +kernel
theorem dX3_total_24 : decode cX3_total 24 = .ok (.aload_n 0, 1) := by decide +kernel
theorem dX3_total_25 : decode cX3_total 25 = .ok (.getfield 17, 3) := by decide +kernel
theorem dX3_total_28 : decode cX3_total 28 = .ok (.getfield 86, 3) := by decide +kernel
theorem dX3_total_31 : decode cX3_total 31 = .ok (.ireturn, 1) := by decide +kernel
theorem dX3_total_32 : decode cX3_total 32 = .ok (.iload_n 1, 1) := by decide +kernel
theorem dX3_total_33 : decode cX3_total 33 = .ok (.bipush 7, 2) := by decide +kernel
theorem dX3_total_35 : decode cX3_total 35 = .ok (.if_icmp .ne 16, 3) := by decide +kernel
theorem dX3_total_38 : decode cX3_total 38 = .ok (.aload_n 0, 1) := by decide +kernel
theorem dX3_total_39 : decode cX3_total 39 = .ok (.getfield 131, 3) := by decide +kernel
theorem dX3_total_42 : decode cX3_total 42 = .ok (.ifCond .eq 7, 3) := by decide +kernel
theorem dX3_total_45 : decode cX3_total 45 = .ok (.iconst 1, 1) := by decide +kernel
theorem dX3_total_46 : decode cX3_total 46 = .ok (.goto 4, 3) := by decide +kernel
theorem dX3_total_49 : decode cX3_total 49 = .ok (.iconst 0, 1) := by decide +kernel
theorem dX3_total_50 : decode cX3_total 50 = .ok (.ireturn, 1) := by decide +kernel
theorem dX3_total_51 : decode cX3_total 51 = .ok (.aload_n 0, 1) := by decide +kernel
theorem dX3_total_52 : decode cX3_total 52 = .ok (.getfield 131, 3) := by decide +kernel
theorem dX3_total_55 : decode cX3_total 55 = .ok (.ifCond .eq 7, 3) := by decide +kernel
theorem dX3_total_58 : decode cX3_total 58 = .ok (.iconst (-1), 1) := by decide +kernel
theorem dX3_total_59 : decode cX3_total 59 = .ok (.goto 8, 3) := by decide +kernel
theorem dX3_total_62 : decode cX3_total 62 = .ok (.aload_n 0, 1) := by decide +kernel
theorem dX3_total_63 : decode cX3_total 63 = .ok (.iload_n 1, 1) := by decide +kernel
theorem dX3_total_64 : decode cX3_total 64 = .ok (.invokevirtual 160, 3) := by decide +kernel
theorem dX3_total_67 : decode cX3_total 67 = .ok (.ireturn, 1) := by decide +kernel
abbrev zm_X3_total : zg_M := (RX3, cX3_total, 2, (some .int), [])
theorem dX3_mountedTotal_0 : decode cX3_mountedTotal 0 = .ok (.iload_n 1, 1) := by decide +kernel
theorem dX3_mountedTotal_1 : decode cX3_mountedTotal 1 = .ok (.tableswitch 89 1 5 #[35, 57, 65, 73, 81], 35) := by decide +kernel
theorem dX3_mountedTotal_36 : decode cX3_mountedTotal 36 = .ok (.aload_n 0, 1) := by decide +kernel
theorem dX3_mountedTotal_37 : decode cX3_mountedTotal 37 = .ok (.getfield 34, 3) := by decide +kernel
theorem dX3_mountedTotal_40 : decode cX3_mountedTotal 40 = .ok (.invokevirtual 163, 3) := by decide +kernel
theorem dX3_mountedTotal_43 : decode cX3_mountedTotal 43 = .ok (.ifCond .eq 13, 3) := by decide +kernel
theorem dX3_mountedTotal_46 : decode cX3_mountedTotal 46 = .ok (.aload_n 0, 1) := by decide +kernel
theorem dX3_mountedTotal_47 : decode cX3_mountedTotal 47 = .ok (.getfield 34, 3) := by decide +kernel
theorem dX3_mountedTotal_50 : decode cX3_mountedTotal 50 = .ok (.getfield 64, 3) := by decide +kernel
theorem dX3_mountedTotal_53 : decode cX3_mountedTotal 53 = .ok (.goto 4, 3) := by decide +kernel
theorem dX3_mountedTotal_56 : decode cX3_mountedTotal 56 = .ok (.iconst (-1), 1) := by decide +kernel
theorem dX3_mountedTotal_57 : decode cX3_mountedTotal 57 = .ok (.ireturn, 1) := by decide +kernel
theorem dX3_mountedTotal_58 : decode cX3_mountedTotal 58 = .ok (.aload_n 0, 1) := by decide +kernel
theorem dX3_mountedTotal_59 : decode cX3_mountedTotal 59 = .ok (.invokevirtual 144, 3) := by decide +kernel
theorem dX3_mountedTotal_62 : decode cX3_mountedTotal 62 = .ok (.invokestatic 167, 3) := by decide +kernel
theorem dX3_mountedTotal_65 : decode cX3_mountedTotal 65 = .ok (.ireturn, 1) := by decide +kernel
theorem dX3_mountedTotal_66 : decode cX3_mountedTotal 66 = .ok (.aload_n 0, 1) := by decide +kernel
theorem dX3_mountedTotal_67 : decode cX3_mountedTotal 67 = .ok (.getfield 24, 3) := by decide +kernel
theorem dX3_mountedTotal_70 : decode cX3_mountedTotal 70 = .ok (.getfield 118, 3) := by decide +kernel
theorem dX3_mountedTotal_73 : decode cX3_mountedTotal 73 = .ok (.ireturn, 1) := by decide +kernel
theorem dX3_mountedTotal_74 : decode cX3_mountedTotal 74 = .ok (.aload_n 0, 1) := by decide +kernel
theorem dX3_mountedTotal_75 : decode cX3_mountedTotal 75 = .ok (.getfield 24, 3) := by decide +kernel
theorem dX3_mountedTotal_78 : decode cX3_mountedTotal 78 = .ok (.getfield 173, 3) := by decide +kernel
theorem dX3_mountedTotal_81 : decode cX3_mountedTotal 81 = .ok (.ireturn, 1) := by decide +kernel
theorem dX3_mountedTotal_82 : decode cX3_mountedTotal 82 = .ok (.aload_n 0, 1) := by decide +kernel
theorem dX3_mountedTotal_83 : decode cX3_mountedTotal 83 = .ok (.getfield 28, 3) := by decide +kernel
theorem dX3_mountedTotal_86 : decode cX3_mountedTotal 86 = .ok (.getfield 118, 3) := by decide +kernel
theorem dX3_mountedTotal_89 : decode cX3_mountedTotal 89 = .ok (.ireturn, 1) := by decide +kernel
theorem dX3_mountedTotal_90 : decode cX3_mountedTotal 90 = .ok (.aload_n 0, 1) := by decide +kernel
theorem dX3_mountedTotal_91 : decode cX3_mountedTotal 91 = .ok (.getfield 28, 3) := by decide +kernel
theorem dX3_mountedTotal_94 : decode cX3_mountedTotal 94 = .ok (.getfield 173, 3) := by decide +kernel
theorem dX3_mountedTotal_97 : decode cX3_mountedTotal 97 = .ok (.ireturn, 1) := by decide +kernel
abbrev zm_X3_mountedTotal : zg_M := (RX3, cX3_mountedTotal, 2, (some .int), [])
theorem dX3_checkPage_0 : decode cX3_checkPage 0 = .ok (.iload_n 0, 1) := by decide +kernel
theorem dX3_checkPage_1 : decode cX3_checkPage 1 = .ok (.ifCond .lt 9, 3) := by decide +kernel
theorem dX3_checkPage_4 : decode cX3_checkPage 4 = .ok (.iload_n 0, 1) := by decide +kernel
theorem dX3_checkPage_5 : decode cX3_checkPage 5 = .ok (.bipush 16, 2) := by decide +kernel
theorem dX3_checkPage_7 : decode cX3_checkPage 7 = .ok (.if_icmp .lt 13, 3) := by decide +kernel
theorem dX3_checkPage_10 : decode cX3_checkPage 10 = .ok (.new 79, 3) := by decide +kernel
theorem dX3_checkPage_13 : decode cX3_checkPage 13 = .ok (.dup, 1) := by decide +kernel
theorem dX3_checkPage_14 : decode cX3_checkPage 14 = .ok (.ldc 176, 2) := by decide +kernel
theorem dX3_checkPage_16 : decode cX3_checkPage 16 = .ok (.invokespecial 83, 3) := by decide +kernel
theorem dX3_checkPage_19 : decode cX3_checkPage 19 = .ok (.athrow, 1) := by decide +kernel
theorem dX3_checkPage_20 : decode cX3_checkPage 20 = .ok (.return_, 1) := by decide +kernel
abbrev zm_X3_checkPage : zg_M := (RX3, cX3_checkPage, 1, none, [])
theorem dX3_checkSector_0 : decode cX3_checkSector 0 = .ok (.iload_n 0, 1) := by decide +kernel
theorem dX3_checkSector_1 : decode cX3_checkSector 1 = .ok (.ifCond .lt 9, 3) := by decide +kernel
theorem dX3_checkSector_4 : decode cX3_checkSector 4 = .ok (.iload_n 0, 1) := by decide +kernel
theorem dX3_checkSector_5 : decode cX3_checkSector 5 = .ok (.bipush 48, 2) := by decide +kernel
theorem dX3_checkSector_7 : decode cX3_checkSector 7 = .ok (.if_icmp .lt 13, 3) := by decide +kernel
theorem dX3_checkSector_10 : decode cX3_checkSector 10 = .ok (.new 79, 3) := by decide +kernel
theorem dX3_checkSector_13 : decode cX3_checkSector 13 = .ok (.dup, 1) := by decide +kernel
theorem dX3_checkSector_14 : decode cX3_checkSector 14 = .ok (.ldc 178, 2) := by decide +kernel
theorem dX3_checkSector_16 : decode cX3_checkSector 16 = .ok (.invokespecial 83, 3) := by decide +kernel
theorem dX3_checkSector_19 : decode cX3_checkSector 19 = .ok (.athrow, 1) := by decide +kernel
theorem dX3_checkSector_20 : decode cX3_checkSector 20 = .ok (.return_, 1) := by decide +kernel
abbrev zm_X3_checkSector : zg_M := (RX3, cX3_checkSector, 1, none, [])
theorem dX3_checkIndex_0 : decode cX3_checkIndex 0 = .ok (.iload_n 0, 1) := by decide +kernel
theorem dX3_checkIndex_1 : decode cX3_checkIndex 1 = .ok (.ifCond .lt 9, 3) := by decide +kernel
theorem dX3_checkIndex_4 : decode cX3_checkIndex 4 = .ok (.iload_n 0, 1) := by decide +kernel
theorem dX3_checkIndex_5 : decode cX3_checkIndex 5 = .ok (.bipush 16, 2) := by decide +kernel
theorem dX3_checkIndex_7 : decode cX3_checkIndex 7 = .ok (.if_icmp .lt 13, 3) := by decide +kernel
theorem dX3_checkIndex_10 : decode cX3_checkIndex 10 = .ok (.new 79, 3) := by decide +kernel
theorem dX3_checkIndex_13 : decode cX3_checkIndex 13 = .ok (.dup, 1) := by decide +kernel
theorem dX3_checkIndex_14 : decode cX3_checkIndex 14 = .ok (.ldc 180, 2) := by decide +kernel
theorem dX3_checkIndex_16 : decode cX3_checkIndex 16 = .ok (.invokespecial 83, 3) := by decide +kernel
theorem dX3_checkIndex_19 : decode cX3_checkIndex 19 = .ok (.athrow, 1) := by decide +kernel
theorem dX3_checkIndex_20 : decode cX3_checkIndex 20 = .ok (.return_, 1) := by decide +kernel
abbrev zm_X3_checkIndex : zg_M := (RX3, cX3_checkIndex, 1, none, [])
theorem dX3_checkByte_0 : decode cX3_checkByte 0 = .ok (.iload_n 0, 1) := by decide +kernel
theorem dX3_checkByte_1 : decode cX3_checkByte 1 = .ok (.ifCond .lt 10, 3) := by decide +kernel
theorem dX3_checkByte_4 : decode cX3_checkByte 4 = .ok (.iload_n 0, 1) := by decide +kernel
theorem dX3_checkByte_5 : decode cX3_checkByte 5 = .ok (.sipush 255, 3) := by decide +kernel
theorem dX3_checkByte_8 : decode cX3_checkByte 8 = .ok (.if_icmp .le 13, 3) := by decide +kernel
theorem dX3_checkByte_11 : decode cX3_checkByte 11 = .ok (.new 79, 3) := by decide +kernel
theorem dX3_checkByte_14 : decode cX3_checkByte 14 = .ok (.dup, 1) := by decide +kernel
theorem dX3_checkByte_15 : decode cX3_checkByte 15 = .ok (.ldc 182, 2) := by decide +kernel
theorem dX3_checkByte_17 : decode cX3_checkByte 17 = .ok (.invokespecial 83, 3) := by decide +kernel
theorem dX3_checkByte_20 : decode cX3_checkByte 20 = .ok (.athrow, 1) := by decide +kernel
theorem dX3_checkByte_21 : decode cX3_checkByte 21 = .ok (.return_, 1) := by decide +kernel
abbrev zm_X3_checkByte : zg_M := (RX3, cX3_checkByte, 1, none, [])
theorem dX3_checkMounted_0 : decode cX3_checkMounted 0 = .ok (.aload_n 0, 1) := by decide +kernel
theorem dX3_checkMounted_1 : decode cX3_checkMounted 1 = .ok (.getfield 131, 3) := by decide +kernel
theorem dX3_checkMounted_4 : decode cX3_checkMounted 4 = .ok (.ifCond .eq 13, 3) := by decide +kernel
theorem dX3_checkMounted_7 : decode cX3_checkMounted 7 = .ok (.new 89, 3) := by decide +kernel
theorem dX3_checkMounted_10 : decode cX3_checkMounted 10 = .ok (.dup, 1) := by decide +kernel
theorem dX3_checkMounted_11 : decode cX3_checkMounted 11 = .ok (.ldc 184, 2) := by decide +kernel
theorem dX3_checkMounted_13 : decode cX3_checkMounted 13 = .ok (.invokespecial 93, 3) := by decide +kernel
theorem dX3_checkMounted_16 : decode cX3_checkMounted 16 = .ok (.athrow, 1) := by decide +kernel
theorem dX3_checkMounted_17 : decode cX3_checkMounted 17 = .ok (.return_, 1) := by decide +kernel
abbrev zm_X3_checkMounted : zg_M := (RX3, cX3_checkMounted, 1, none, [])
theorem dX3_checkOpen_0 : decode cX3_checkOpen 0 = .ok (.aload_n 0, 1) := by decide +kernel
theorem dX3_checkOpen_1 : decode cX3_checkOpen 1 = .ok (.getfield 34, 3) := by decide +kernel
theorem dX3_checkOpen_4 : decode cX3_checkOpen 4 = .ok (.invokevirtual 163, 3) := by decide +kernel
theorem dX3_checkOpen_7 : decode cX3_checkOpen 7 = .ok (.ifCond .ne 13, 3) := by decide +kernel
theorem dX3_checkOpen_10 : decode cX3_checkOpen 10 = .ok (.new 89, 3) := by decide +kernel
theorem dX3_checkOpen_13 : decode cX3_checkOpen 13 = .ok (.dup, 1) := by decide +kernel
theorem dX3_checkOpen_14 : decode cX3_checkOpen 14 = .ok (.ldc 186, 2) := by decide +kernel
theorem dX3_checkOpen_16 : decode cX3_checkOpen 16 = .ok (.invokespecial 93, 3) := by decide +kernel
theorem dX3_checkOpen_19 : decode cX3_checkOpen 19 = .ok (.athrow, 1) := by decide +kernel
theorem dX3_checkOpen_20 : decode cX3_checkOpen 20 = .ok (.return_, 1) := by decide +kernel
abbrev zm_X3_checkOpen : zg_M := (RX3, cX3_checkOpen, 1, none, [])
theorem dX3_formatAndMount_0 : decode cX3_formatAndMount 0 = .ok (.iconst 0, 1) := by decide +kernel
theorem dX3_formatAndMount_1 : decode cX3_formatAndMount 1 = .ok (.istore_n 1, 1) := by decide +kernel
theorem dX3_formatAndMount_2 : decode cX3_formatAndMount 2 = .ok (.iload_n 1, 1) := by decide +kernel
theorem dX3_formatAndMount_3 : decode cX3_formatAndMount 3 = .ok (.bipush 48, 2) := by decide +kernel
theorem dX3_formatAndMount_5 : decode cX3_formatAndMount 5 = .ok (.if_icmp .ge 19, 3) := by decide +kernel
theorem dX3_formatAndMount_8 : decode cX3_formatAndMount 8 = .ok (.aload_n 0, 1) := by decide +kernel
theorem dX3_formatAndMount_9 : decode cX3_formatAndMount 9 = .ok (.getfield 11, 3) := by decide +kernel
theorem dX3_formatAndMount_12 : decode cX3_formatAndMount 12 = .ok (.iload_n 1, 1) := by decide +kernel
theorem dX3_formatAndMount_13 : decode cX3_formatAndMount 13 = .ok (.aaload, 1) := by decide +kernel
theorem dX3_formatAndMount_14 : decode cX3_formatAndMount 14 = .ok (.iconst 0, 1) := by decide +kernel
theorem dX3_formatAndMount_15 : decode cX3_formatAndMount 15 = .ok (.invokestatic 188, 3) := by decide +kernel
theorem dX3_formatAndMount_18 : decode cX3_formatAndMount 18 = .ok (.iinc 1 1, 3) := by decide +kernel
theorem dX3_formatAndMount_21 : decode cX3_formatAndMount 21 = .ok (.goto (-19), 3) := by decide +kernel
theorem dX3_formatAndMount_24 : decode cX3_formatAndMount 24 = .ok (.aload_n 0, 1) := by decide +kernel
theorem dX3_formatAndMount_25 : decode cX3_formatAndMount 25 = .ok (.getfield 11, 3) := by decide +kernel
theorem dX3_formatAndMount_28 : decode cX3_formatAndMount 28 = .ok (.iconst 0, 1) := by decide +kernel
theorem dX3_formatAndMount_29 : decode cX3_formatAndMount 29 = .ok (.aaload, 1) := by decide +kernel
theorem dX3_formatAndMount_30 : decode cX3_formatAndMount 30 = .ok (.iconst 0, 1) := by decide +kernel
theorem dX3_formatAndMount_31 : decode cX3_formatAndMount 31 = .ok (.iconst 1, 1) := by decide +kernel
theorem dX3_formatAndMount_32 : decode cX3_formatAndMount 32 = .ok (.invokestatic 194, 3) := by decide +kernel
theorem dX3_formatAndMount_35 : decode cX3_formatAndMount 35 = .ok (.aload_n 0, 1) := by decide +kernel
theorem dX3_formatAndMount_36 : decode cX3_formatAndMount 36 = .ok (.invokevirtual 128, 3) := by decide +kernel
theorem dX3_formatAndMount_39 : decode cX3_formatAndMount 39 = .ok (.return_, 1) := by decide +kernel
abbrev zm_X3_formatAndMount : zg_M := (RX3, cX3_formatAndMount, 2, none, [])
theorem dX3_mount_0 : decode cX3_mount 0 = .ok (.aload_n 0, 1) := by decide +kernel
theorem dX3_mount_1 : decode cX3_mount 1 = .ok (.getfield 17, 3) := by decide +kernel
theorem dX3_mount_4 : decode cX3_mount 4 = .ok (.iconst 0, 1) := by decide +kernel
theorem dX3_mount_5 : decode cX3_mount 5 = .ok (.putfield 86, 3) := by decide +kernel
theorem dX3_mount_8 : decode cX3_mount 8 = .ok (.aload_n 0, 1) := by decide +kernel
theorem dX3_mount_9 : decode cX3_mount 9 = .ok (.getfield 34, 3) := by decide +kernel
theorem dX3_mount_12 : decode cX3_mount 12 = .ok (.invokevirtual 121, 3) := by decide +kernel
theorem dX3_mount_15 : decode cX3_mount 15 = .ok (.aload_n 0, 1) := by decide +kernel
theorem dX3_mount_16 : decode cX3_mount 16 = .ok (.aload_n 0, 1) := by decide +kernel
theorem dX3_mount_17 : decode cX3_mount 17 = .ok (.invokevirtual 198, 3) := by decide +kernel
theorem dX3_mount_20 : decode cX3_mount 20 = .ok (.ifCond .eq 10, 3) := by decide +kernel
theorem dX3_mount_23 : decode cX3_mount 23 = .ok (.aload_n 0, 1) := by decide +kernel
theorem dX3_mount_24 : decode cX3_mount 24 = .ok (.invokevirtual 201, 3) := by decide +kernel
theorem dX3_mount_27 : decode cX3_mount 27 = .ok (.ifCond .ne 7, 3) := by decide +kernel
theorem dX3_mount_30 : decode cX3_mount 30 = .ok (.iconst 1, 1) := by decide +kernel
theorem dX3_mount_31 : decode cX3_mount 31 = .ok (.goto 4, 3) := by decide +kernel
theorem dX3_mount_34 : decode cX3_mount 34 = .ok (.iconst 0, 1) := by decide +kernel
theorem dX3_mount_35 : decode cX3_mount 35 = .ok (.putfield 131, 3) := by decide +kernel
theorem dX3_mount_38 : decode cX3_mount 38 = .ok (.aload_n 0, 1) := by decide +kernel
theorem dX3_mount_39 : decode cX3_mount 39 = .ok (.getfield 131, 3) := by decide +kernel
theorem dX3_mount_42 : decode cX3_mount 42 = .ok (.ifCond .ne 84, 3) := by decide +kernel
theorem dX3_mount_45 : decode cX3_mount 45 = .ok (.aload_n 0, 1) := by decide +kernel
theorem dX3_mount_46 : decode cX3_mount 46 = .ok (.getfield 11, 3) := by decide +kernel
theorem dX3_mount_49 : decode cX3_mount 49 = .ok (.iconst 0, 1) := by decide +kernel
theorem dX3_mount_50 : decode cX3_mount 50 = .ok (.aaload, 1) := by decide +kernel
theorem dX3_mount_51 : decode cX3_mount 51 = .ok (.astore_n 1, 1) := by decide +kernel
theorem dX3_mount_52 : decode cX3_mount 52 = .ok (.aload_n 1, 1) := by decide +kernel
theorem dX3_mount_53 : decode cX3_mount 53 = .ok (.iconst 4, 1) := by decide +kernel
theorem dX3_mount_54 : decode cX3_mount 54 = .ok (.iaload, 1) := by decide +kernel
theorem dX3_mount_55 : decode cX3_mount 55 = .ok (.istore_n 2, 1) := by decide +kernel
theorem dX3_mount_56 : decode cX3_mount 56 = .ok (.aload_n 0, 1) := by decide +kernel
theorem dX3_mount_57 : decode cX3_mount 57 = .ok (.getfield 11, 3) := by decide +kernel
theorem dX3_mount_60 : decode cX3_mount 60 = .ok (.iload_n 2, 1) := by decide +kernel
theorem dX3_mount_61 : decode cX3_mount 61 = .ok (.aaload, 1) := by decide +kernel
theorem dX3_mount_62 : decode cX3_mount 62 = .ok (.iconst 0, 1) := by decide +kernel
theorem dX3_mount_63 : decode cX3_mount 63 = .ok (.aload_n 0, 1) := by decide +kernel
theorem dX3_mount_64 : decode cX3_mount 64 = .ok (.getfield 24, 3) := by decide +kernel
theorem dX3_mount_67 : decode cX3_mount 67 = .ok (.getfield 72, 3) := by decide +kernel
theorem dX3_mount_70 : decode cX3_mount 70 = .ok (.iconst 0, 1) := by decide +kernel
theorem dX3_mount_71 : decode cX3_mount 71 = .ok (.bipush 16, 2) := by decide +kernel
theorem dX3_mount_73 : decode cX3_mount 73 = .ok (.invokestatic 204, 3) := by decide +kernel
theorem dX3_mount_76 : decode cX3_mount 76 = .ok (.aload_n 0, 1) := by decide +kernel
theorem dX3_mount_77 : decode cX3_mount 77 = .ok (.getfield 24, 3) := by decide +kernel
theorem dX3_mount_80 : decode cX3_mount 80 = .ok (.iload_n 2, 1) := by decide +kernel
theorem dX3_mount_81 : decode cX3_mount 81 = .ok (.putfield 173, 3) := by decide +kernel
theorem dX3_mount_84 : decode cX3_mount 84 = .ok (.aload_n 0, 1) := by decide +kernel
theorem dX3_mount_85 : decode cX3_mount 85 = .ok (.getfield 24, 3) := by decide +kernel
theorem dX3_mount_88 : decode cX3_mount 88 = .ok (.aload_n 1, 1) := by decide +kernel
theorem dX3_mount_89 : decode cX3_mount 89 = .ok (.iconst 0, 1) := by decide +kernel
theorem dX3_mount_90 : decode cX3_mount 90 = .ok (.iaload, 1) := by decide +kernel
theorem dX3_mount_91 : decode cX3_mount 91 = .ok (.bipush 24, 2) := by decide +kernel
theorem dX3_mount_93 : decode cX3_mount 93 = .ok (.ishl, 1) := by decide +kernel
theorem dX3_mount_94 : decode cX3_mount 94 = .ok (.aload_n 1, 1) := by decide +kernel
theorem dX3_mount_95 : decode cX3_mount 95 = .ok (.iconst 1, 1) := by decide +kernel
theorem dX3_mount_96 : decode cX3_mount 96 = .ok (.iaload, 1) := by decide +kernel
theorem dX3_mount_97 : decode cX3_mount 97 = .ok (.bipush 16, 2) := by decide +kernel
theorem dX3_mount_99 : decode cX3_mount 99 = .ok (.ishl, 1) := by decide +kernel
theorem dX3_mount_100 : decode cX3_mount 100 = .ok (.ior, 1) := by decide +kernel
theorem dX3_mount_101 : decode cX3_mount 101 = .ok (.aload_n 1, 1) := by decide +kernel
theorem dX3_mount_102 : decode cX3_mount 102 = .ok (.iconst 2, 1) := by decide +kernel
theorem dX3_mount_103 : decode cX3_mount 103 = .ok (.iaload, 1) := by decide +kernel
theorem dX3_mount_104 : decode cX3_mount 104 = .ok (.bipush 8, 2) := by decide +kernel
theorem dX3_mount_106 : decode cX3_mount 106 = .ok (.ishl, 1) := by decide +kernel
theorem dX3_mount_107 : decode cX3_mount 107 = .ok (.ior, 1) := by decide +kernel
theorem dX3_mount_108 : decode cX3_mount 108 = .ok (.aload_n 1, 1) := by decide +kernel
theorem dX3_mount_109 : decode cX3_mount 109 = .ok (.iconst 3, 1) := by decide +kernel
theorem dX3_mount_110 : decode cX3_mount 110 = .ok (.iaload, 1) := by decide +kernel
theorem dX3_mount_111 : decode cX3_mount 111 = .ok (.ior, 1) := by decide +kernel
theorem dX3_mount_112 : decode cX3_mount 112 = .ok (.putfield 118, 3) := by decide +kernel
theorem dX3_mount_115 : decode cX3_mount 115 = .ok (.aload_n 0, 1) := by decide +kernel
theorem dX3_mount_116 : decode cX3_mount 116 = .ok (.getfield 28, 3) := by decide +kernel
theorem dX3_mount_119 : decode cX3_mount 119 = .ok (.aload_n 0, 1) := by decide +kernel
theorem dX3_mount_120 : decode cX3_mount 120 = .ok (.getfield 24, 3) := by decide +kernel
theorem dX3_mount_123 : decode cX3_mount 123 = .ok (.invokevirtual 210, 3) := by decide +kernel
theorem dX3_mount_126 : decode cX3_mount 126 = .ok (.return_, 1) := by decide +kernel
abbrev zm_X3_mount : zg_M := (RX3, cX3_mount, 3, none, [])
theorem dX3_masterIsRight_0 : decode cX3_masterIsRight 0 = .ok (.aload_n 0, 1) := by decide +kernel
theorem dX3_masterIsRight_1 : decode cX3_masterIsRight 1 = .ok (.getfield 11, 3) := by decide +kernel
theorem dX3_masterIsRight_4 : decode cX3_masterIsRight 4 = .ok (.iconst 0, 1) := by decide +kernel
theorem dX3_masterIsRight_5 : decode cX3_masterIsRight 5 = .ok (.aaload, 1) := by decide +kernel
theorem dX3_masterIsRight_6 : decode cX3_masterIsRight 6 = .ok (.astore_n 1, 1) := by decide +kernel
theorem dX3_masterIsRight_7 : decode cX3_masterIsRight 7 = .ok (.iconst 5, 1) := by decide +kernel
theorem dX3_masterIsRight_8 : decode cX3_masterIsRight 8 = .ok (.istore_n 2, 1) := by decide +kernel
theorem dX3_masterIsRight_9 : decode cX3_masterIsRight 9 = .ok (.iload_n 2, 1) := by decide +kernel
theorem dX3_masterIsRight_10 : decode cX3_masterIsRight 10 = .ok (.bipush 14, 2) := by decide +kernel
theorem dX3_masterIsRight_12 : decode cX3_masterIsRight 12 = .ok (.if_icmp .ge 17, 3) := by decide +kernel
theorem dX3_masterIsRight_15 : decode cX3_masterIsRight 15 = .ok (.aload_n 1, 1) := by decide +kernel
theorem dX3_masterIsRight_16 : decode cX3_masterIsRight 16 = .ok (.iload_n 2, 1) := by decide +kernel
theorem dX3_masterIsRight_17 : decode cX3_masterIsRight 17 = .ok (.iaload, 1) := by decide +kernel
theorem dX3_masterIsRight_18 : decode cX3_masterIsRight 18 = .ok (.ifCond .eq 5, 3) := by decide +kernel
theorem dX3_masterIsRight_21 : decode cX3_masterIsRight 21 = .ok (.iconst 0, 1) := by decide +kernel
theorem dX3_masterIsRight_22 : decode cX3_masterIsRight 22 = .ok (.ireturn, 1) := by decide +kernel
theorem dX3_masterIsRight_23 : decode cX3_masterIsRight 23 = .ok (.iinc 2 1, 3) := by decide +kernel
theorem dX3_masterIsRight_26 : decode cX3_masterIsRight 26 = .ok (.goto (-17), 3) := by decide +kernel
theorem dX3_masterIsRight_29 : decode cX3_masterIsRight 29 = .ok (.aload_n 1, 1) := by decide +kernel
theorem dX3_masterIsRight_30 : decode cX3_masterIsRight 30 = .ok (.bipush 14, 2) := by decide +kernel
theorem dX3_masterIsRight_32 : decode cX3_masterIsRight 32 = .ok (.iaload, 1) := by decide +kernel
theorem dX3_masterIsRight_33 : decode cX3_masterIsRight 33 = .ok (.bipush 8, 2) := by decide +kernel
theorem dX3_masterIsRight_35 : decode cX3_masterIsRight 35 = .ok (.ishl, 1) := by decide +kernel
theorem dX3_masterIsRight_36 : decode cX3_masterIsRight 36 = .ok (.aload_n 1, 1) := by decide +kernel
theorem dX3_masterIsRight_37 : decode cX3_masterIsRight 37 = .ok (.bipush 15, 2) := by decide +kernel
theorem dX3_masterIsRight_39 : decode cX3_masterIsRight 39 = .ok (.iaload, 1) := by decide +kernel
theorem dX3_masterIsRight_40 : decode cX3_masterIsRight 40 = .ok (.ior, 1) := by decide +kernel
theorem dX3_masterIsRight_41 : decode cX3_masterIsRight 41 = .ok (.aload_n 1, 1) := by decide +kernel
theorem dX3_masterIsRight_42 : decode cX3_masterIsRight 42 = .ok (.invokestatic 214, 3) := by decide +kernel
theorem dX3_masterIsRight_45 : decode cX3_masterIsRight 45 = .ok (.if_icmp .ne 7, 3) := by decide +kernel
theorem dX3_masterIsRight_48 : decode cX3_masterIsRight 48 = .ok (.iconst 1, 1) := by decide +kernel
theorem dX3_masterIsRight_49 : decode cX3_masterIsRight 49 = .ok (.goto 4, 3) := by decide +kernel
theorem dX3_masterIsRight_52 : decode cX3_masterIsRight 52 = .ok (.iconst 0, 1) := by decide +kernel
theorem dX3_masterIsRight_53 : decode cX3_masterIsRight 53 = .ok (.ireturn, 1) := by decide +kernel
abbrev zm_X3_masterIsRight : zg_M := (RX3, cX3_masterIsRight, 3, (some .boolean), [])
theorem dX3_tableIsRight_0 : decode cX3_tableIsRight 0 = .ok (.aload_n 0, 1) := by decide +kernel
theorem dX3_tableIsRight_1 : decode cX3_tableIsRight 1 = .ok (.getfield 11, 3) := by decide +kernel
theorem dX3_tableIsRight_4 : decode cX3_tableIsRight 4 = .ok (.iconst 0, 1) := by decide +kernel
theorem dX3_tableIsRight_5 : decode cX3_tableIsRight 5 = .ok (.aaload, 1) := by decide +kernel
theorem dX3_tableIsRight_6 : decode cX3_tableIsRight 6 = .ok (.iconst 4, 1) := by decide +kernel
theorem dX3_tableIsRight_7 : decode cX3_tableIsRight 7 = .ok (.iaload, 1) := by decide +kernel
theorem dX3_tableIsRight_8 : decode cX3_tableIsRight 8 = .ok (.istore_n 1, 1) := by decide +kernel
theorem dX3_tableIsRight_9 : decode cX3_tableIsRight 9 = .ok (.iload_n 1, 1) := by decide +kernel
theorem dX3_tableIsRight_10 : decode cX3_tableIsRight 10 = .ok (.iconst 1, 1) := by decide +kernel
theorem dX3_tableIsRight_11 : decode cX3_tableIsRight 11 = .ok (.if_icmp .lt 9, 3) := by decide +kernel
theorem dX3_tableIsRight_14 : decode cX3_tableIsRight 14 = .ok (.iload_n 1, 1) := by decide +kernel
theorem dX3_tableIsRight_15 : decode cX3_tableIsRight 15 = .ok (.bipush 48, 2) := by decide +kernel
theorem dX3_tableIsRight_17 : decode cX3_tableIsRight 17 = .ok (.if_icmp .lt 5, 3) := by decide +kernel
theorem dX3_tableIsRight_20 : decode cX3_tableIsRight 20 = .ok (.iconst 0, 1) := by decide +kernel
theorem dX3_tableIsRight_21 : decode cX3_tableIsRight 21 = .ok (.ireturn, 1) := by decide +kernel
theorem dX3_tableIsRight_22 : decode cX3_tableIsRight 22 = .ok (.lconst 1, 1) := by decide +kernel
theorem dX3_tableIsRight_23 : decode cX3_tableIsRight 23 = .ok (.iload_n 1, 1) := by decide +kernel
theorem dX3_tableIsRight_24 : decode cX3_tableIsRight 24 = .ok (.lshl, 1) := by decide +kernel
theorem dX3_tableIsRight_25 : decode cX3_tableIsRight 25 = .ok (.lstore_n 2, 1) := by decide +kernel
theorem dX3_tableIsRight_26 : decode cX3_tableIsRight 26 = .ok (.iconst 0, 1) := by decide +kernel
theorem dX3_tableIsRight_27 : decode cX3_tableIsRight 27 = .ok (.istore 4, 2) := by decide +kernel
theorem dX3_tableIsRight_29 : decode cX3_tableIsRight 29 = .ok (.iload 4, 2) := by decide +kernel
theorem dX3_tableIsRight_31 : decode cX3_tableIsRight 31 = .ok (.bipush 16, 2) := by decide +kernel
theorem dX3_tableIsRight_33 : decode cX3_tableIsRight 33 = .ok (.if_icmp .ge 50, 3) := by decide +kernel
theorem dX3_tableIsRight_36 : decode cX3_tableIsRight 36 = .ok (.aload_n 0, 1) := by decide +kernel
theorem dX3_tableIsRight_37 : decode cX3_tableIsRight 37 = .ok (.getfield 11, 3) := by decide +kernel
theorem dX3_tableIsRight_40 : decode cX3_tableIsRight 40 = .ok (.iload_n 1, 1) := by decide +kernel
theorem dX3_tableIsRight_41 : decode cX3_tableIsRight 41 = .ok (.aaload, 1) := by decide +kernel
theorem dX3_tableIsRight_42 : decode cX3_tableIsRight 42 = .ok (.iload 4, 2) := by decide +kernel
theorem dX3_tableIsRight_44 : decode cX3_tableIsRight 44 = .ok (.iaload, 1) := by decide +kernel
theorem dX3_tableIsRight_45 : decode cX3_tableIsRight 45 = .ok (.istore 5, 2) := by decide +kernel
theorem dX3_tableIsRight_47 : decode cX3_tableIsRight 47 = .ok (.iload 5, 2) := by decide +kernel
theorem dX3_tableIsRight_49 : decode cX3_tableIsRight 49 = .ok (.bipush 48, 2) := by decide +kernel
theorem dX3_tableIsRight_51 : decode cX3_tableIsRight 51 = .ok (.if_icmp .ge 17, 3) := by decide +kernel
theorem dX3_tableIsRight_54 : decode cX3_tableIsRight 54 = .ok (.iload 5, 2) := by decide +kernel
theorem dX3_tableIsRight_56 : decode cX3_tableIsRight 56 = .ok (.ifCond .eq 14, 3) := by decide +kernel
theorem dX3_tableIsRight_59 : decode cX3_tableIsRight 59 = .ok (.lload_n 2, 1) := by decide +kernel
theorem dX3_tableIsRight_60 : decode cX3_tableIsRight 60 = .ok (.iload 5, 2) := by decide +kernel
theorem dX3_tableIsRight_62 : decode cX3_tableIsRight 62 = .ok (.invokestatic 148, 3) := by decide +kernel
theorem dX3_tableIsRight_65 : decode cX3_tableIsRight 65 = .ok (.ifCond .eq 5, 3) := by decide +kernel
theorem dX3_tableIsRight_68 : decode cX3_tableIsRight 68 = .ok (.iconst 0, 1) := by decide +kernel
theorem dX3_tableIsRight_69 : decode cX3_tableIsRight 69 = .ok (.ireturn, 1) := by decide +kernel
theorem dX3_tableIsRight_70 : decode cX3_tableIsRight 70 = .ok (.lload_n 2, 1) := by decide +kernel
theorem dX3_tableIsRight_71 : decode cX3_tableIsRight 71 = .ok (.lconst 1, 1) := by decide +kernel
theorem dX3_tableIsRight_72 : decode cX3_tableIsRight 72 = .ok (.iload 5, 2) := by decide +kernel
theorem dX3_tableIsRight_74 : decode cX3_tableIsRight 74 = .ok (.lshl, 1) := by decide +kernel
theorem dX3_tableIsRight_75 : decode cX3_tableIsRight 75 = .ok (.lor, 1) := by decide +kernel
theorem dX3_tableIsRight_76 : decode cX3_tableIsRight 76 = .ok (.lstore_n 2, 1) := by decide +kernel
theorem dX3_tableIsRight_77 : decode cX3_tableIsRight 77 = .ok (.iinc 4 1, 3) := by decide +kernel
theorem dX3_tableIsRight_80 : decode cX3_tableIsRight 80 = .ok (.goto (-51), 3) := by decide +kernel
theorem dX3_tableIsRight_83 : decode cX3_tableIsRight 83 = .ok (.iconst 1, 1) := by decide +kernel
theorem dX3_tableIsRight_84 : decode cX3_tableIsRight 84 = .ok (.ireturn, 1) := by decide +kernel
abbrev zm_X3_tableIsRight : zg_M := (RX3, cX3_tableIsRight, 6, (some .boolean), [])
theorem dX3_checkOf_0 : decode cX3_checkOf 0 = .ok (.iconst 1, 1) := by decide +kernel
theorem dX3_checkOf_1 : decode cX3_checkOf 1 = .ok (.istore_n 1, 1) := by decide +kernel
theorem dX3_checkOf_2 : decode cX3_checkOf 2 = .ok (.iconst 0, 1) := by decide +kernel
theorem dX3_checkOf_3 : decode cX3_checkOf 3 = .ok (.istore_n 2, 1) := by decide +kernel
theorem dX3_checkOf_4 : decode cX3_checkOf 4 = .ok (.iload_n 2, 1) := by decide +kernel
theorem dX3_checkOf_5 : decode cX3_checkOf 5 = .ok (.bipush 14, 2) := by decide +kernel
theorem dX3_checkOf_7 : decode cX3_checkOf 7 = .ok (.if_icmp .ge 21, 3) := by decide +kernel
theorem dX3_checkOf_10 : decode cX3_checkOf 10 = .ok (.iload_n 1, 1) := by decide +kernel
theorem dX3_checkOf_11 : decode cX3_checkOf 11 = .ok (.bipush 31, 2) := by decide +kernel
theorem dX3_checkOf_13 : decode cX3_checkOf 13 = .ok (.imul, 1) := by decide +kernel
theorem dX3_checkOf_14 : decode cX3_checkOf 14 = .ok (.aload_n 0, 1) := by decide +kernel
theorem dX3_checkOf_15 : decode cX3_checkOf 15 = .ok (.iload_n 2, 1) := by decide +kernel
theorem dX3_checkOf_16 : decode cX3_checkOf 16 = .ok (.iaload, 1) := by decide +kernel
theorem dX3_checkOf_17 : decode cX3_checkOf 17 = .ok (.iadd, 1) := by decide +kernel
theorem dX3_checkOf_18 : decode cX3_checkOf 18 = .ok (.ldc 218, 2) := by decide +kernel
theorem dX3_checkOf_20 : decode cX3_checkOf 20 = .ok (.iand, 1) := by decide +kernel
theorem dX3_checkOf_21 : decode cX3_checkOf 21 = .ok (.istore_n 1, 1) := by decide +kernel
theorem dX3_checkOf_22 : decode cX3_checkOf 22 = .ok (.iinc 2 1, 3) := by decide +kernel
theorem dX3_checkOf_25 : decode cX3_checkOf 25 = .ok (.goto (-21), 3) := by decide +kernel
theorem dX3_checkOf_28 : decode cX3_checkOf 28 = .ok (.iload_n 1, 1) := by decide +kernel
theorem dX3_checkOf_29 : decode cX3_checkOf 29 = .ok (.ireturn, 1) := by decide +kernel
abbrev zm_X3_checkOf : zg_M := (RX3, cX3_checkOf, 3, (some .int), [])
theorem dX3_putMaster_0 : decode cX3_putMaster 0 = .ok (.aload_n 0, 1) := by decide +kernel
theorem dX3_putMaster_1 : decode cX3_putMaster 1 = .ok (.iconst 0, 1) := by decide +kernel
theorem dX3_putMaster_2 : decode cX3_putMaster 2 = .ok (.invokestatic 188, 3) := by decide +kernel
theorem dX3_putMaster_5 : decode cX3_putMaster 5 = .ok (.iconst 0, 1) := by decide +kernel
theorem dX3_putMaster_6 : decode cX3_putMaster 6 = .ok (.istore_n 3, 1) := by decide +kernel
theorem dX3_putMaster_7 : decode cX3_putMaster 7 = .ok (.iload_n 3, 1) := by decide +kernel
theorem dX3_putMaster_8 : decode cX3_putMaster 8 = .ok (.iconst 4, 1) := by decide +kernel
theorem dX3_putMaster_9 : decode cX3_putMaster 9 = .ok (.if_icmp .ge 25, 3) := by decide +kernel
theorem dX3_putMaster_12 : decode cX3_putMaster 12 = .ok (.aload_n 0, 1) := by decide +kernel
theorem dX3_putMaster_13 : decode cX3_putMaster 13 = .ok (.iload_n 3, 1) := by decide +kernel
theorem dX3_putMaster_14 : decode cX3_putMaster 14 = .ok (.iload_n 1, 1) := by decide +kernel
theorem dX3_putMaster_15 : decode cX3_putMaster 15 = .ok (.bipush 24, 2) := by decide +kernel
theorem dX3_putMaster_17 : decode cX3_putMaster 17 = .ok (.bipush 8, 2) := by decide +kernel
theorem dX3_putMaster_19 : decode cX3_putMaster 19 = .ok (.iload_n 3, 1) := by decide +kernel
theorem dX3_putMaster_20 : decode cX3_putMaster 20 = .ok (.imul, 1) := by decide +kernel
theorem dX3_putMaster_21 : decode cX3_putMaster 21 = .ok (.isub, 1) := by decide +kernel
theorem dX3_putMaster_22 : decode cX3_putMaster 22 = .ok (.iushr, 1) := by decide +kernel
theorem dX3_putMaster_23 : decode cX3_putMaster 23 = .ok (.sipush 255, 3) := by decide +kernel
theorem dX3_putMaster_26 : decode cX3_putMaster 26 = .ok (.iand, 1) := by decide +kernel
theorem dX3_putMaster_27 : decode cX3_putMaster 27 = .ok (.iastore, 1) := by decide +kernel
theorem dX3_putMaster_28 : decode cX3_putMaster 28 = .ok (.iinc 3 1, 3) := by decide +kernel
theorem dX3_putMaster_31 : decode cX3_putMaster 31 = .ok (.goto (-24), 3) := by decide +kernel
theorem dX3_putMaster_34 : decode cX3_putMaster 34 = .ok (.aload_n 0, 1) := by decide +kernel
theorem dX3_putMaster_35 : decode cX3_putMaster 35 = .ok (.iconst 4, 1) := by decide +kernel
theorem dX3_putMaster_36 : decode cX3_putMaster 36 = .ok (.iload_n 2, 1) := by decide +kernel
theorem dX3_putMaster_37 : decode cX3_putMaster 37 = .ok (.iastore, 1) := by decide +kernel
theorem dX3_putMaster_38 : decode cX3_putMaster 38 = .ok (.aload_n 0, 1) := by decide +kernel
theorem dX3_putMaster_39 : decode cX3_putMaster 39 = .ok (.invokestatic 214, 3) := by decide +kernel
theorem dX3_putMaster_42 : decode cX3_putMaster 42 = .ok (.istore_n 3, 1) := by decide +kernel
theorem dX3_putMaster_43 : decode cX3_putMaster 43 = .ok (.aload_n 0, 1) := by decide +kernel
theorem dX3_putMaster_44 : decode cX3_putMaster 44 = .ok (.bipush 14, 2) := by decide +kernel
theorem dX3_putMaster_46 : decode cX3_putMaster 46 = .ok (.iload_n 3, 1) := by decide +kernel
theorem dX3_putMaster_47 : decode cX3_putMaster 47 = .ok (.bipush 8, 2) := by decide +kernel
theorem dX3_putMaster_49 : decode cX3_putMaster 49 = .ok (.iushr, 1) := by decide +kernel
theorem dX3_putMaster_50 : decode cX3_putMaster 50 = .ok (.iastore, 1) := by decide +kernel
theorem dX3_putMaster_51 : decode cX3_putMaster 51 = .ok (.aload_n 0, 1) := by decide +kernel
theorem dX3_putMaster_52 : decode cX3_putMaster 52 = .ok (.bipush 15, 2) := by decide +kernel
theorem dX3_putMaster_54 : decode cX3_putMaster 54 = .ok (.iload_n 3, 1) := by decide +kernel
theorem dX3_putMaster_55 : decode cX3_putMaster 55 = .ok (.sipush 255, 3) := by decide +kernel
theorem dX3_putMaster_58 : decode cX3_putMaster 58 = .ok (.iand, 1) := by decide +kernel
theorem dX3_putMaster_59 : decode cX3_putMaster 59 = .ok (.iastore, 1) := by decide +kernel
theorem dX3_putMaster_60 : decode cX3_putMaster 60 = .ok (.return_, 1) := by decide +kernel
abbrev zm_X3_putMaster : zg_M := (RX3, cX3_putMaster, 4, none, [])
theorem dX3_freeSet_0 : decode cX3_freeSet 0 = .ok (.lconst 1, 1) := by decide +kernel
theorem dX3_freeSet_1 : decode cX3_freeSet 1 = .ok (.aload_n 0, 1) := by decide +kernel
theorem dX3_freeSet_2 : decode cX3_freeSet 2 = .ok (.getfield 24, 3) := by decide +kernel
theorem dX3_freeSet_5 : decode cX3_freeSet 5 = .ok (.invokevirtual 219, 3) := by decide +kernel
theorem dX3_freeSet_8 : decode cX3_freeSet 8 = .ok (.lor, 1) := by decide +kernel
theorem dX3_freeSet_9 : decode cX3_freeSet 9 = .ok (.aload_n 0, 1) := by decide +kernel
theorem dX3_freeSet_10 : decode cX3_freeSet 10 = .ok (.getfield 28, 3) := by decide +kernel
theorem dX3_freeSet_13 : decode cX3_freeSet 13 = .ok (.invokevirtual 219, 3) := by decide +kernel
theorem dX3_freeSet_16 : decode cX3_freeSet 16 = .ok (.lor, 1) := by decide +kernel
theorem dX3_freeSet_17 : decode cX3_freeSet 17 = .ok (.lstore_n 1, 1) := by decide +kernel
theorem dX3_freeSet_18 : decode cX3_freeSet 18 = .ok (.iconst 0, 1) := by decide +kernel
theorem dX3_freeSet_19 : decode cX3_freeSet 19 = .ok (.istore_n 3, 1) := by decide +kernel
theorem dX3_freeSet_20 : decode cX3_freeSet 20 = .ok (.iload_n 3, 1) := by decide +kernel
theorem dX3_freeSet_21 : decode cX3_freeSet 21 = .ok (.bipush 16, 2) := by decide +kernel
theorem dX3_freeSet_23 : decode cX3_freeSet 23 = .ok (.if_icmp .ge 23, 3) := by decide +kernel
theorem dX3_freeSet_26 : decode cX3_freeSet 26 = .ok (.lload_n 1, 1) := by decide +kernel
theorem dX3_freeSet_27 : decode cX3_freeSet 27 = .ok (.lconst 1, 1) := by decide +kernel
theorem dX3_freeSet_28 : decode cX3_freeSet 28 = .ok (.aload_n 0, 1) := by decide +kernel
theorem dX3_freeSet_29 : decode cX3_freeSet 29 = .ok (.getfield 34, 3) := by decide +kernel
theorem dX3_freeSet_32 : decode cX3_freeSet 32 = .ok (.getfield 222, 3) := by decide +kernel
theorem dX3_freeSet_35 : decode cX3_freeSet 35 = .ok (.iload_n 3, 1) := by decide +kernel
theorem dX3_freeSet_36 : decode cX3_freeSet 36 = .ok (.iaload, 1) := by decide +kernel
theorem dX3_freeSet_37 : decode cX3_freeSet 37 = .ok (.lshl, 1) := by decide +kernel
theorem dX3_freeSet_38 : decode cX3_freeSet 38 = .ok (.lor, 1) := by decide +kernel
theorem dX3_freeSet_39 : decode cX3_freeSet 39 = .ok (.lstore_n 1, 1) := by decide +kernel
theorem dX3_freeSet_40 : decode cX3_freeSet 40 = .ok (.iinc 3 1, 3) := by decide +kernel
theorem dX3_freeSet_43 : decode cX3_freeSet 43 = .ok (.goto (-23), 3) := by decide +kernel
theorem dX3_freeSet_46 : decode cX3_freeSet 46 = .ok (.lload_n 1, 1) := by decide +kernel
theorem dX3_freeSet_47 : decode cX3_freeSet 47 = .ok (.ldc2_w 225, 3) := by decide +kernel
theorem dX3_freeSet_50 : decode cX3_freeSet 50 = .ok (.lxor, 1) := by decide +kernel
theorem dX3_freeSet_51 : decode cX3_freeSet 51 = .ok (.ldc2_w 227, 3) := by decide +kernel
theorem dX3_freeSet_54 : decode cX3_freeSet 54 = .ok (.land, 1) := by decide +kernel
theorem dX3_freeSet_55 : decode cX3_freeSet 55 = .ok (.lreturn, 1) := by decide +kernel
abbrev zm_X3_freeSet : zg_M := (RX3, cX3_freeSet, 4, (some .long), [])
theorem dX3_holds_0 : decode cX3_holds 0 = .ok (.lload_n 0, 1) := by decide +kernel
theorem dX3_holds_1 : decode cX3_holds 1 = .ok (.iload_n 2, 1) := by decide +kernel
theorem dX3_holds_2 : decode cX3_holds 2 = .ok (.lushr, 1) := by decide +kernel
theorem dX3_holds_3 : decode cX3_holds 3 = .ok (.lconst 1, 1) := by decide +kernel
theorem dX3_holds_4 : decode cX3_holds 4 = .ok (.land, 1) := by decide +kernel
theorem dX3_holds_5 : decode cX3_holds 5 = .ok (.lconst 0, 1) := by decide +kernel
theorem dX3_holds_6 : decode cX3_holds 6 = .ok (.lcmp, 1) := by decide +kernel
theorem dX3_holds_7 : decode cX3_holds 7 = .ok (.ifCond .eq 7, 3) := by decide +kernel
theorem dX3_holds_10 : decode cX3_holds 10 = .ok (.iconst 1, 1) := by decide +kernel
theorem dX3_holds_11 : decode cX3_holds 11 = .ok (.goto 4, 3) := by decide +kernel
theorem dX3_holds_14 : decode cX3_holds 14 = .ok (.iconst 0, 1) := by decide +kernel
theorem dX3_holds_15 : decode cX3_holds 15 = .ok (.ireturn, 1) := by decide +kernel
abbrev zm_X3_holds : zg_M := (RX3, cX3_holds, 3, (some .boolean), [])
theorem dX3_leastFree_0 : decode cX3_leastFree 0 = .ok (.aload_n 0, 1) := by decide +kernel
theorem dX3_leastFree_1 : decode cX3_leastFree 1 = .ok (.invokevirtual 144, 3) := by decide +kernel
theorem dX3_leastFree_4 : decode cX3_leastFree 4 = .ok (.lstore_n 1, 1) := by decide +kernel
theorem dX3_leastFree_5 : decode cX3_leastFree 5 = .ok (.iconst 0, 1) := by decide +kernel
theorem dX3_leastFree_6 : decode cX3_leastFree 6 = .ok (.istore_n 3, 1) := by decide +kernel
theorem dX3_leastFree_7 : decode cX3_leastFree 7 = .ok (.iload_n 3, 1) := by decide +kernel
theorem dX3_leastFree_8 : decode cX3_leastFree 8 = .ok (.bipush 48, 2) := by decide +kernel
theorem dX3_leastFree_10 : decode cX3_leastFree 10 = .ok (.if_icmp .ge 19, 3) := by decide +kernel
theorem dX3_leastFree_13 : decode cX3_leastFree 13 = .ok (.lload_n 1, 1) := by decide +kernel
theorem dX3_leastFree_14 : decode cX3_leastFree 14 = .ok (.iload_n 3, 1) := by decide +kernel
theorem dX3_leastFree_15 : decode cX3_leastFree 15 = .ok (.invokestatic 148, 3) := by decide +kernel
theorem dX3_leastFree_18 : decode cX3_leastFree 18 = .ok (.ifCond .eq 5, 3) := by decide +kernel
theorem dX3_leastFree_21 : decode cX3_leastFree 21 = .ok (.iload_n 3, 1) := by decide +kernel
theorem dX3_leastFree_22 : decode cX3_leastFree 22 = .ok (.ireturn, 1) := by decide +kernel
theorem dX3_leastFree_23 : decode cX3_leastFree 23 = .ok (.iinc 3 1, 3) := by decide +kernel
theorem dX3_leastFree_26 : decode cX3_leastFree 26 = .ok (.goto (-19), 3) := by decide +kernel
theorem dX3_leastFree_29 : decode cX3_leastFree 29 = .ok (.iconst (-1), 1) := by decide +kernel
theorem dX3_leastFree_30 : decode cX3_leastFree 30 = .ok (.ireturn, 1) := by decide +kernel
abbrev zm_X3_leastFree : zg_M := (RX3, cX3_leastFree, 4, (some .int), [])
theorem dX3_changePage_0 : decode cX3_changePage 0 = .ok (.aload_n 0, 1) := by decide +kernel
theorem dX3_changePage_1 : decode cX3_changePage 1 = .ok (.getfield 34, 3) := by decide +kernel
theorem dX3_changePage_4 : decode cX3_changePage 4 = .ok (.iload_n 1, 1) := by decide +kernel
theorem dX3_changePage_5 : decode cX3_changePage 5 = .ok (.invokevirtual 68, 3) := by decide +kernel
theorem dX3_changePage_8 : decode cX3_changePage 8 = .ok (.ifCond .ne 46, 3) := by decide +kernel
theorem dX3_changePage_11 : decode cX3_changePage 11 = .ok (.aload_n 0, 1) := by decide +kernel
theorem dX3_changePage_12 : decode cX3_changePage 12 = .ok (.invokevirtual 100, 3) := by decide +kernel
theorem dX3_changePage_15 : decode cX3_changePage 15 = .ok (.istore_n 2, 1) := by decide +kernel
theorem dX3_changePage_16 : decode cX3_changePage 16 = .ok (.iload_n 2, 1) := by decide +kernel
theorem dX3_changePage_17 : decode cX3_changePage 17 = .ok (.iconst (-1), 1) := by decide +kernel
theorem dX3_changePage_18 : decode cX3_changePage 18 = .ok (.if_icmp .ne 13, 3) := by decide +kernel
theorem dX3_changePage_21 : decode cX3_changePage 21 = .ok (.new 89, 3) := by decide +kernel
theorem dX3_changePage_24 : decode cX3_changePage 24 = .ok (.dup, 1) := by decide +kernel
theorem dX3_changePage_25 : decode cX3_changePage 25 = .ok (.ldc 229, 2) := by decide +kernel
theorem dX3_changePage_27 : decode cX3_changePage 27 = .ok (.invokespecial 93, 3) := by decide +kernel
theorem dX3_changePage_30 : decode cX3_changePage 30 = .ok (.athrow, 1) := by decide +kernel
theorem dX3_changePage_31 : decode cX3_changePage 31 = .ok (.aload_n 0, 1) := by decide +kernel
theorem dX3_changePage_32 : decode cX3_changePage 32 = .ok (.iload_n 1, 1) := by decide +kernel
theorem dX3_changePage_33 : decode cX3_changePage 33 = .ok (.aload_n 0, 1) := by decide +kernel
theorem dX3_changePage_34 : decode cX3_changePage 34 = .ok (.getfield 34, 3) := by decide +kernel
theorem dX3_changePage_37 : decode cX3_changePage 37 = .ok (.getfield 61, 3) := by decide +kernel
theorem dX3_changePage_40 : decode cX3_changePage 40 = .ok (.iload_n 1, 1) := by decide +kernel
theorem dX3_changePage_41 : decode cX3_changePage 41 = .ok (.aaload, 1) := by decide +kernel
theorem dX3_changePage_42 : decode cX3_changePage 42 = .ok (.invokevirtual 231, 3) := by decide +kernel
theorem dX3_changePage_45 : decode cX3_changePage 45 = .ok (.aload_n 0, 1) := by decide +kernel
theorem dX3_changePage_46 : decode cX3_changePage 46 = .ok (.getfield 34, 3) := by decide +kernel
theorem dX3_changePage_49 : decode cX3_changePage 49 = .ok (.iload_n 1, 1) := by decide +kernel
theorem dX3_changePage_50 : decode cX3_changePage 50 = .ok (.iload_n 2, 1) := by decide +kernel
theorem dX3_changePage_51 : decode cX3_changePage 51 = .ok (.invokevirtual 235, 3) := by decide +kernel
theorem dX3_changePage_54 : decode cX3_changePage 54 = .ok (.aload_n 0, 1) := by decide +kernel
theorem dX3_changePage_55 : decode cX3_changePage 55 = .ok (.getfield 34, 3) := by decide +kernel
theorem dX3_changePage_58 : decode cX3_changePage 58 = .ok (.getfield 75, 3) := by decide +kernel
theorem dX3_changePage_61 : decode cX3_changePage 61 = .ok (.iload_n 1, 1) := by decide +kernel
theorem dX3_changePage_62 : decode cX3_changePage 62 = .ok (.iconst 0, 1) := by decide +kernel
theorem dX3_changePage_63 : decode cX3_changePage 63 = .ok (.bastore, 1) := by decide +kernel
theorem dX3_changePage_64 : decode cX3_changePage 64 = .ok (.return_, 1) := by decide +kernel
abbrev zm_X3_changePage : zg_M := (RX3, cX3_changePage, 3, none, [])
theorem dX3_copyLatestPage_0 : decode cX3_copyLatestPage 0 = .ok (.aload_n 0, 1) := by decide +kernel
theorem dX3_copyLatestPage_1 : decode cX3_copyLatestPage 1 = .ok (.getfield 24, 3) := by decide +kernel
theorem dX3_copyLatestPage_4 : decode cX3_copyLatestPage 4 = .ok (.getfield 72, 3) := by decide +kernel
theorem dX3_copyLatestPage_7 : decode cX3_copyLatestPage 7 = .ok (.iload_n 1, 1) := by decide +kernel
theorem dX3_copyLatestPage_8 : decode cX3_copyLatestPage 8 = .ok (.iaload, 1) := by decide +kernel
theorem dX3_copyLatestPage_9 : decode cX3_copyLatestPage 9 = .ok (.istore_n 3, 1) := by decide +kernel
theorem dX3_copyLatestPage_10 : decode cX3_copyLatestPage 10 = .ok (.iload_n 3, 1) := by decide +kernel
theorem dX3_copyLatestPage_11 : decode cX3_copyLatestPage 11 = .ok (.ifCond .ne 11, 3) := by decide +kernel
theorem dX3_copyLatestPage_14 : decode cX3_copyLatestPage 14 = .ok (.aload_n 2, 1) := by decide +kernel
theorem dX3_copyLatestPage_15 : decode cX3_copyLatestPage 15 = .ok (.iconst 0, 1) := by decide +kernel
theorem dX3_copyLatestPage_16 : decode cX3_copyLatestPage 16 = .ok (.invokestatic 188, 3) := by decide +kernel
theorem dX3_copyLatestPage_19 : decode cX3_copyLatestPage 19 = .ok (.goto 17, 3) := by decide +kernel
theorem dX3_copyLatestPage_22 : decode cX3_copyLatestPage 22 = .ok (.aload_n 0, 1) := by decide +kernel
theorem dX3_copyLatestPage_23 : decode cX3_copyLatestPage 23 = .ok (.getfield 11, 3) := by decide +kernel
theorem dX3_copyLatestPage_26 : decode cX3_copyLatestPage 26 = .ok (.iload_n 3, 1) := by decide +kernel
theorem dX3_copyLatestPage_27 : decode cX3_copyLatestPage 27 = .ok (.aaload, 1) := by decide +kernel
theorem dX3_copyLatestPage_28 : decode cX3_copyLatestPage 28 = .ok (.iconst 0, 1) := by decide +kernel
theorem dX3_copyLatestPage_29 : decode cX3_copyLatestPage 29 = .ok (.aload_n 2, 1) := by decide +kernel
theorem dX3_copyLatestPage_30 : decode cX3_copyLatestPage 30 = .ok (.iconst 0, 1) := by decide +kernel
theorem dX3_copyLatestPage_31 : decode cX3_copyLatestPage 31 = .ok (.bipush 16, 2) := by decide +kernel
theorem dX3_copyLatestPage_33 : decode cX3_copyLatestPage 33 = .ok (.invokestatic 204, 3) := by decide +kernel
theorem dX3_copyLatestPage_36 : decode cX3_copyLatestPage 36 = .ok (.return_, 1) := by decide +kernel
abbrev zm_X3_copyLatestPage : zg_M := (RX3, cX3_copyLatestPage, 4, none, [])
theorem dX3_openPlace_0 : decode cX3_openPlace 0 = .ok (.aload_n 0, 1) := by decide +kernel
theorem dX3_openPlace_1 : decode cX3_openPlace 1 = .ok (.getfield 34, 3) := by decide +kernel
theorem dX3_openPlace_4 : decode cX3_openPlace 4 = .ok (.iload_n 1, 1) := by decide +kernel
theorem dX3_openPlace_5 : decode cX3_openPlace 5 = .ok (.invokevirtual 68, 3) := by decide +kernel
theorem dX3_openPlace_8 : decode cX3_openPlace 8 = .ok (.ifCond .eq 15, 3) := by decide +kernel
theorem dX3_openPlace_11 : decode cX3_openPlace 11 = .ok (.aload_n 0, 1) := by decide +kernel
theorem dX3_openPlace_12 : decode cX3_openPlace 12 = .ok (.getfield 34, 3) := by decide +kernel
theorem dX3_openPlace_15 : decode cX3_openPlace 15 = .ok (.getfield 222, 3) := by decide +kernel
theorem dX3_openPlace_18 : decode cX3_openPlace 18 = .ok (.iload_n 1, 1) := by decide +kernel
theorem dX3_openPlace_19 : decode cX3_openPlace 19 = .ok (.iaload, 1) := by decide +kernel
theorem dX3_openPlace_20 : decode cX3_openPlace 20 = .ok (.goto 12, 3) := by decide +kernel
theorem dX3_openPlace_23 : decode cX3_openPlace 23 = .ok (.aload_n 0, 1) := by decide +kernel
theorem dX3_openPlace_24 : decode cX3_openPlace 24 = .ok (.getfield 24, 3) := by decide +kernel
theorem dX3_openPlace_27 : decode cX3_openPlace 27 = .ok (.getfield 72, 3) := by decide +kernel
theorem dX3_openPlace_30 : decode cX3_openPlace 30 = .ok (.iload_n 1, 1) := by decide +kernel
theorem dX3_openPlace_31 : decode cX3_openPlace 31 = .ok (.iaload, 1) := by decide +kernel
theorem dX3_openPlace_32 : decode cX3_openPlace 32 = .ok (.ireturn, 1) := by decide +kernel
abbrev zm_X3_openPlace : zg_M := (RX3, cX3_openPlace, 2, (some .int), [])
theorem dX3_holdBackPage_0 : decode cX3_holdBackPage 0 = .ok (.aload_n 0, 1) := by decide +kernel
theorem dX3_holdBackPage_1 : decode cX3_holdBackPage 1 = .ok (.getfield 17, 3) := by decide +kernel
theorem dX3_holdBackPage_4 : decode cX3_holdBackPage 4 = .ok (.aload_n 0, 1) := by decide +kernel
theorem dX3_holdBackPage_5 : decode cX3_holdBackPage 5 = .ok (.getfield 34, 3) := by decide +kernel
theorem dX3_holdBackPage_8 : decode cX3_holdBackPage 8 = .ok (.getfield 222, 3) := by decide +kernel
theorem dX3_holdBackPage_11 : decode cX3_holdBackPage 11 = .ok (.iload_n 1, 1) := by decide +kernel
theorem dX3_holdBackPage_12 : decode cX3_holdBackPage 12 = .ok (.iaload, 1) := by decide +kernel
theorem dX3_holdBackPage_13 : decode cX3_holdBackPage 13 = .ok (.aload_n 0, 1) := by decide +kernel
theorem dX3_holdBackPage_14 : decode cX3_holdBackPage 14 = .ok (.getfield 34, 3) := by decide +kernel
theorem dX3_holdBackPage_17 : decode cX3_holdBackPage 17 = .ok (.getfield 61, 3) := by decide +kernel
theorem dX3_holdBackPage_20 : decode cX3_holdBackPage 20 = .ok (.iload_n 1, 1) := by decide +kernel
theorem dX3_holdBackPage_21 : decode cX3_holdBackPage 21 = .ok (.aaload, 1) := by decide +kernel
theorem dX3_holdBackPage_22 : decode cX3_holdBackPage 22 = .ok (.invokevirtual 239, 3) := by decide +kernel
theorem dX3_holdBackPage_25 : decode cX3_holdBackPage 25 = .ok (.aload_n 0, 1) := by decide +kernel
theorem dX3_holdBackPage_26 : decode cX3_holdBackPage 26 = .ok (.getfield 34, 3) := by decide +kernel
theorem dX3_holdBackPage_29 : decode cX3_holdBackPage 29 = .ok (.getfield 75, 3) := by decide +kernel
theorem dX3_holdBackPage_32 : decode cX3_holdBackPage 32 = .ok (.iload_n 1, 1) := by decide +kernel
theorem dX3_holdBackPage_33 : decode cX3_holdBackPage 33 = .ok (.iconst 1, 1) := by decide +kernel
theorem dX3_holdBackPage_34 : decode cX3_holdBackPage 34 = .ok (.bastore, 1) := by decide +kernel
theorem dX3_holdBackPage_35 : decode cX3_holdBackPage 35 = .ok (.return_, 1) := by decide +kernel
abbrev zm_X3_holdBackPage : zg_M := (RX3, cX3_holdBackPage, 2, none, [])
theorem dX3_holdBackUnspilledPages_0 : decode cX3_holdBackUnspilledPages 0 = .ok (.iconst 0, 1) := by decide +kernel
theorem dX3_holdBackUnspilledPages_1 : decode cX3_holdBackUnspilledPages 1 = .ok (.istore_n 1, 1) := by decide +kernel
theorem dX3_holdBackUnspilledPages_2 : decode cX3_holdBackUnspilledPages 2 = .ok (.iload_n 1, 1) := by decide +kernel
theorem dX3_holdBackUnspilledPages_3 : decode cX3_holdBackUnspilledPages 3 = .ok (.bipush 16, 2) := by decide +kernel
theorem dX3_holdBackUnspilledPages_5 : decode cX3_holdBackUnspilledPages 5 = .ok (.if_icmp .ge 37, 3) := by decide +kernel
theorem dX3_holdBackUnspilledPages_8 : decode cX3_holdBackUnspilledPages 8 = .ok (.aload_n 0, 1) := by decide +kernel
theorem dX3_holdBackUnspilledPages_9 : decode cX3_holdBackUnspilledPages 9 = .ok (.getfield 34, 3) := by decide +kernel
theorem dX3_holdBackUnspilledPages_12 : decode cX3_holdBackUnspilledPages 12 = .ok (.iload_n 1, 1) := by decide +kernel
theorem dX3_holdBackUnspilledPages_13 : decode cX3_holdBackUnspilledPages 13 = .ok (.invokevirtual 68, 3) := by decide +kernel
theorem dX3_holdBackUnspilledPages_16 : decode cX3_holdBackUnspilledPages 16 = .ok (.ifCond .eq 20, 3) := by decide +kernel
theorem dX3_holdBackUnspilledPages_19 : decode cX3_holdBackUnspilledPages 19 = .ok (.aload_n 0, 1) := by decide +kernel
theorem dX3_holdBackUnspilledPages_20 : decode cX3_holdBackUnspilledPages 20 = .ok (.getfield 34, 3) := by decide +kernel
theorem dX3_holdBackUnspilledPages_23 : decode cX3_holdBackUnspilledPages 23 = .ok (.getfield 75, 3) := by decide +kernel
theorem dX3_holdBackUnspilledPages_26 : decode cX3_holdBackUnspilledPages 26 = .ok (.iload_n 1, 1) := by decide +kernel
theorem dX3_holdBackUnspilledPages_27 : decode cX3_holdBackUnspilledPages 27 = .ok (.baload, 1) := by decide +kernel
theorem dX3_holdBackUnspilledPages_28 : decode cX3_holdBackUnspilledPages 28 = .ok (.ifCond .ne 8, 3) := by decide +kernel
theorem dX3_holdBackUnspilledPages_31 : decode cX3_holdBackUnspilledPages 31 = .ok (.aload_n 0, 1) := by decide +kernel
theorem dX3_holdBackUnspilledPages_32 : decode cX3_holdBackUnspilledPages 32 = .ok (.iload_n 1, 1) := by decide +kernel
theorem dX3_holdBackUnspilledPages_33 : decode cX3_holdBackUnspilledPages 33 = .ok (.invokevirtual 94, 3) := by decide +kernel
theorem dX3_holdBackUnspilledPages_36 : decode cX3_holdBackUnspilledPages 36 = .ok (.iinc 1 1, 3) := by decide +kernel
theorem dX3_holdBackUnspilledPages_39 : decode cX3_holdBackUnspilledPages 39 = .ok (.goto (-37), 3) := by decide +kernel
theorem dX3_holdBackUnspilledPages_42 : decode cX3_holdBackUnspilledPages 42 = .ok (.return_, 1) := by decide +kernel
abbrev zm_X3_holdBackUnspilledPages : zg_M := (RX3, cX3_holdBackUnspilledPages, 2, none, [])
theorem dX3_holdBackTable_0 : decode cX3_holdBackTable 0 = .ok (.iconst 0, 1) := by decide +kernel
theorem dX3_holdBackTable_1 : decode cX3_holdBackTable 1 = .ok (.istore_n 2, 1) := by decide +kernel
theorem dX3_holdBackTable_2 : decode cX3_holdBackTable 2 = .ok (.iload_n 2, 1) := by decide +kernel
theorem dX3_holdBackTable_3 : decode cX3_holdBackTable 3 = .ok (.bipush 16, 2) := by decide +kernel
theorem dX3_holdBackTable_5 : decode cX3_holdBackTable 5 = .ok (.if_icmp .ge 20, 3) := by decide +kernel
theorem dX3_holdBackTable_8 : decode cX3_holdBackTable 8 = .ok (.aload_n 0, 1) := by decide +kernel
theorem dX3_holdBackTable_9 : decode cX3_holdBackTable 9 = .ok (.getfield 38, 3) := by decide +kernel
theorem dX3_holdBackTable_12 : decode cX3_holdBackTable 12 = .ok (.iload_n 2, 1) := by decide +kernel
theorem dX3_holdBackTable_13 : decode cX3_holdBackTable 13 = .ok (.aload_n 0, 1) := by decide +kernel
theorem dX3_holdBackTable_14 : decode cX3_holdBackTable 14 = .ok (.iload_n 2, 1) := by decide +kernel
theorem dX3_holdBackTable_15 : decode cX3_holdBackTable 15 = .ok (.invokevirtual 140, 3) := by decide +kernel
theorem dX3_holdBackTable_18 : decode cX3_holdBackTable 18 = .ok (.iastore, 1) := by decide +kernel
theorem dX3_holdBackTable_19 : decode cX3_holdBackTable 19 = .ok (.iinc 2 1, 3) := by decide +kernel
theorem dX3_holdBackTable_22 : decode cX3_holdBackTable 22 = .ok (.goto (-20), 3) := by decide +kernel
theorem dX3_holdBackTable_25 : decode cX3_holdBackTable 25 = .ok (.aload_n 0, 1) := by decide +kernel
theorem dX3_holdBackTable_26 : decode cX3_holdBackTable 26 = .ok (.getfield 17, 3) := by decide +kernel
theorem dX3_holdBackTable_29 : decode cX3_holdBackTable 29 = .ok (.iload_n 1, 1) := by decide +kernel
theorem dX3_holdBackTable_30 : decode cX3_holdBackTable 30 = .ok (.aload_n 0, 1) := by decide +kernel
theorem dX3_holdBackTable_31 : decode cX3_holdBackTable 31 = .ok (.getfield 38, 3) := by decide +kernel
theorem dX3_holdBackTable_34 : decode cX3_holdBackTable 34 = .ok (.invokevirtual 239, 3) := by decide +kernel
theorem dX3_holdBackTable_37 : decode cX3_holdBackTable 37 = .ok (.return_, 1) := by decide +kernel
abbrev zm_X3_holdBackTable : zg_M := (RX3, cX3_holdBackTable, 3, none, [])
theorem dX3_turnOver_0 : decode cX3_turnOver 0 = .ok (.iconst 0, 1) := by decide +kernel
theorem dX3_turnOver_1 : decode cX3_turnOver 1 = .ok (.istore_n 2, 1) := by decide +kernel
theorem dX3_turnOver_2 : decode cX3_turnOver 2 = .ok (.iload_n 2, 1) := by decide +kernel
theorem dX3_turnOver_3 : decode cX3_turnOver 3 = .ok (.bipush 16, 2) := by decide +kernel
theorem dX3_turnOver_5 : decode cX3_turnOver 5 = .ok (.if_icmp .ge 23, 3) := by decide +kernel
theorem dX3_turnOver_8 : decode cX3_turnOver 8 = .ok (.aload_n 0, 1) := by decide +kernel
theorem dX3_turnOver_9 : decode cX3_turnOver 9 = .ok (.getfield 24, 3) := by decide +kernel
theorem dX3_turnOver_12 : decode cX3_turnOver 12 = .ok (.getfield 72, 3) := by decide +kernel
theorem dX3_turnOver_15 : decode cX3_turnOver 15 = .ok (.iload_n 2, 1) := by decide +kernel
theorem dX3_turnOver_16 : decode cX3_turnOver 16 = .ok (.aload_n 0, 1) := by decide +kernel
theorem dX3_turnOver_17 : decode cX3_turnOver 17 = .ok (.iload_n 2, 1) := by decide +kernel
theorem dX3_turnOver_18 : decode cX3_turnOver 18 = .ok (.invokevirtual 140, 3) := by decide +kernel
theorem dX3_turnOver_21 : decode cX3_turnOver 21 = .ok (.iastore, 1) := by decide +kernel
theorem dX3_turnOver_22 : decode cX3_turnOver 22 = .ok (.iinc 2 1, 3) := by decide +kernel
theorem dX3_turnOver_25 : decode cX3_turnOver 25 = .ok (.goto (-23), 3) := by decide +kernel
theorem dX3_turnOver_28 : decode cX3_turnOver 28 = .ok (.aload_n 0, 1) := by decide +kernel
theorem dX3_turnOver_29 : decode cX3_turnOver 29 = .ok (.getfield 24, 3) := by decide +kernel
theorem dX3_turnOver_32 : decode cX3_turnOver 32 = .ok (.iload_n 1, 1) := by decide +kernel
theorem dX3_turnOver_33 : decode cX3_turnOver 33 = .ok (.putfield 173, 3) := by decide +kernel
theorem dX3_turnOver_36 : decode cX3_turnOver 36 = .ok (.aload_n 0, 1) := by decide +kernel
theorem dX3_turnOver_37 : decode cX3_turnOver 37 = .ok (.getfield 24, 3) := by decide +kernel
theorem dX3_turnOver_40 : decode cX3_turnOver 40 = .ok (.dup, 1) := by decide +kernel
theorem dX3_turnOver_41 : decode cX3_turnOver 41 = .ok (.getfield 118, 3) := by decide +kernel
theorem dX3_turnOver_44 : decode cX3_turnOver 44 = .ok (.iconst 1, 1) := by decide +kernel
theorem dX3_turnOver_45 : decode cX3_turnOver 45 = .ok (.iadd, 1) := by decide +kernel
theorem dX3_turnOver_46 : decode cX3_turnOver 46 = .ok (.putfield 118, 3) := by decide +kernel
theorem dX3_turnOver_49 : decode cX3_turnOver 49 = .ok (.aload_n 0, 1) := by decide +kernel
theorem dX3_turnOver_50 : decode cX3_turnOver 50 = .ok (.getfield 34, 3) := by decide +kernel
theorem dX3_turnOver_53 : decode cX3_turnOver 53 = .ok (.invokevirtual 121, 3) := by decide +kernel
theorem dX3_turnOver_56 : decode cX3_turnOver 56 = .ok (.aload_n 0, 1) := by decide +kernel
theorem dX3_turnOver_57 : decode cX3_turnOver 57 = .ok (.getfield 38, 3) := by decide +kernel
theorem dX3_turnOver_60 : decode cX3_turnOver 60 = .ok (.aload_n 0, 1) := by decide +kernel
theorem dX3_turnOver_61 : decode cX3_turnOver 61 = .ok (.getfield 24, 3) := by decide +kernel
theorem dX3_turnOver_64 : decode cX3_turnOver 64 = .ok (.getfield 118, 3) := by decide +kernel
theorem dX3_turnOver_67 : decode cX3_turnOver 67 = .ok (.iload_n 1, 1) := by decide +kernel
theorem dX3_turnOver_68 : decode cX3_turnOver 68 = .ok (.invokestatic 194, 3) := by decide +kernel
theorem dX3_turnOver_71 : decode cX3_turnOver 71 = .ok (.aload_n 0, 1) := by decide +kernel
theorem dX3_turnOver_72 : decode cX3_turnOver 72 = .ok (.getfield 17, 3) := by decide +kernel
theorem dX3_turnOver_75 : decode cX3_turnOver 75 = .ok (.iconst 0, 1) := by decide +kernel
theorem dX3_turnOver_76 : decode cX3_turnOver 76 = .ok (.aload_n 0, 1) := by decide +kernel
theorem dX3_turnOver_77 : decode cX3_turnOver 77 = .ok (.getfield 38, 3) := by decide +kernel
theorem dX3_turnOver_80 : decode cX3_turnOver 80 = .ok (.invokevirtual 239, 3) := by decide +kernel
theorem dX3_turnOver_83 : decode cX3_turnOver 83 = .ok (.return_, 1) := by decide +kernel
abbrev zm_X3_turnOver : zg_M := (RX3, cX3_turnOver, 3, none, [])
theorem dX3_carryOutAll_0 : decode cX3_carryOutAll 0 = .ok (.aload_n 0, 1) := by decide +kernel
theorem dX3_carryOutAll_1 : decode cX3_carryOutAll 1 = .ok (.getfield 17, 3) := by decide +kernel
theorem dX3_carryOutAll_4 : decode cX3_carryOutAll 4 = .ok (.getfield 86, 3) := by decide +kernel
theorem dX3_carryOutAll_7 : decode cX3_carryOutAll 7 = .ok (.istore_n 1, 1) := by decide +kernel
theorem dX3_carryOutAll_8 : decode cX3_carryOutAll 8 = .ok (.iconst 0, 1) := by decide +kernel
theorem dX3_carryOutAll_9 : decode cX3_carryOutAll 9 = .ok (.istore_n 2, 1) := by decide +kernel
theorem dX3_carryOutAll_10 : decode cX3_carryOutAll 10 = .ok (.iload_n 2, 1) := by decide +kernel
theorem dX3_carryOutAll_11 : decode cX3_carryOutAll 11 = .ok (.iload_n 1, 1) := by decide +kernel
theorem dX3_carryOutAll_12 : decode cX3_carryOutAll 12 = .ok (.if_icmp .ge 44, 3) := by decide +kernel
theorem dX3_carryOutAll_15 : decode cX3_carryOutAll 15 = .ok (.aload_n 0, 1) := by decide +kernel
theorem dX3_carryOutAll_16 : decode cX3_carryOutAll 16 = .ok (.getfield 17, 3) := by decide +kernel
theorem dX3_carryOutAll_19 : decode cX3_carryOutAll 19 = .ok (.iload_n 2, 1) := by decide +kernel
theorem dX3_carryOutAll_20 : decode cX3_carryOutAll 20 = .ok (.aload_n 0, 1) := by decide +kernel
theorem dX3_carryOutAll_21 : decode cX3_carryOutAll 21 = .ok (.getfield 11, 3) := by decide +kernel
theorem dX3_carryOutAll_24 : decode cX3_carryOutAll 24 = .ok (.invokevirtual 124, 3) := by decide +kernel
theorem dX3_carryOutAll_27 : decode cX3_carryOutAll 27 = .ok (.aload_n 0, 1) := by decide +kernel
theorem dX3_carryOutAll_28 : decode cX3_carryOutAll 28 = .ok (.getfield 17, 3) := by decide +kernel
theorem dX3_carryOutAll_31 : decode cX3_carryOutAll 31 = .ok (.getfield 154, 3) := by decide +kernel
theorem dX3_carryOutAll_34 : decode cX3_carryOutAll 34 = .ok (.iload_n 2, 1) := by decide +kernel
theorem dX3_carryOutAll_35 : decode cX3_carryOutAll 35 = .ok (.iaload, 1) := by decide +kernel
theorem dX3_carryOutAll_36 : decode cX3_carryOutAll 36 = .ok (.ifCond .ne 14, 3) := by decide +kernel
theorem dX3_carryOutAll_39 : decode cX3_carryOutAll 39 = .ok (.aload_n 0, 1) := by decide +kernel
theorem dX3_carryOutAll_40 : decode cX3_carryOutAll 40 = .ok (.getfield 28, 3) := by decide +kernel
theorem dX3_carryOutAll_43 : decode cX3_carryOutAll 43 = .ok (.aload_n 0, 1) := by decide +kernel
theorem dX3_carryOutAll_44 : decode cX3_carryOutAll 44 = .ok (.getfield 24, 3) := by decide +kernel
theorem dX3_carryOutAll_47 : decode cX3_carryOutAll 47 = .ok (.invokevirtual 210, 3) := by decide +kernel
theorem dX3_carryOutAll_50 : decode cX3_carryOutAll 50 = .ok (.iinc 2 1, 3) := by decide +kernel
theorem dX3_carryOutAll_53 : decode cX3_carryOutAll 53 = .ok (.goto (-43), 3) := by decide +kernel
theorem dX3_carryOutAll_56 : decode cX3_carryOutAll 56 = .ok (.aload_n 0, 1) := by decide +kernel
theorem dX3_carryOutAll_57 : decode cX3_carryOutAll 57 = .ok (.getfield 17, 3) := by decide +kernel
theorem dX3_carryOutAll_60 : decode cX3_carryOutAll 60 = .ok (.iconst 0, 1) := by decide +kernel
theorem dX3_carryOutAll_61 : decode cX3_carryOutAll 61 = .ok (.putfield 86, 3) := by decide +kernel
theorem dX3_carryOutAll_64 : decode cX3_carryOutAll 64 = .ok (.iload_n 1, 1) := by decide +kernel
theorem dX3_carryOutAll_65 : decode cX3_carryOutAll 65 = .ok (.ireturn, 1) := by decide +kernel
abbrev zm_X3_carryOutAll : zg_M := (RX3, cX3_carryOutAll, 3, (some .int), [])
abbrev cJ13_bitCount_95d88 : ByteArray := prog_10_method_50_code
def yJ13_bitCount_95d88 : MethodName := ⟨"java/lang/Long", "bitCount", "(J)I"⟩
theorem dJ13_bitCount_95d88_0 : decode cJ13_bitCount_95d88 0 = .ok (.lload_n 0, 1) := by decide +kernel
theorem dJ13_bitCount_95d88_1 : decode cJ13_bitCount_95d88 1 = .ok (.lload_n 0, 1) := by decide +kernel
theorem dJ13_bitCount_95d88_2 : decode cJ13_bitCount_95d88 2 = .ok (.iconst 1, 1) := by decide +kernel
theorem dJ13_bitCount_95d88_3 : decode cJ13_bitCount_95d88 3 = .ok (.lushr, 1) := by decide +kernel
theorem dJ13_bitCount_95d88_4 : decode cJ13_bitCount_95d88 4 = .ok (.ldc2_w 314, 3) := by decide +kernel
theorem dJ13_bitCount_95d88_7 : decode cJ13_bitCount_95d88 7 = .ok (.land, 1) := by decide +kernel
theorem dJ13_bitCount_95d88_8 : decode cJ13_bitCount_95d88 8 = .ok (.lsub, 1) := by decide +kernel
theorem dJ13_bitCount_95d88_9 : decode cJ13_bitCount_95d88 9 = .ok (.lstore_n 0, 1) := by decide +kernel
theorem dJ13_bitCount_95d88_10 : decode cJ13_bitCount_95d88 10 = .ok (.lload_n 0, 1) := by decide +kernel
theorem dJ13_bitCount_95d88_11 : decode cJ13_bitCount_95d88 11 = .ok (.ldc2_w 316, 3) := by decide +kernel
theorem dJ13_bitCount_95d88_14 : decode cJ13_bitCount_95d88 14 = .ok (.land, 1) := by decide +kernel
theorem dJ13_bitCount_95d88_15 : decode cJ13_bitCount_95d88 15 = .ok (.lload_n 0, 1) := by decide +kernel
theorem dJ13_bitCount_95d88_16 : decode cJ13_bitCount_95d88 16 = .ok (.iconst 2, 1) := by decide +kernel
theorem dJ13_bitCount_95d88_17 : decode cJ13_bitCount_95d88 17 = .ok (.lushr, 1) := by decide +kernel
theorem dJ13_bitCount_95d88_18 : decode cJ13_bitCount_95d88 18 = .ok (.ldc2_w 316, 3) := by decide +kernel
theorem dJ13_bitCount_95d88_21 : decode cJ13_bitCount_95d88 21 = .ok (.land, 1) := by decide +kernel
theorem dJ13_bitCount_95d88_22 : decode cJ13_bitCount_95d88 22 = .ok (.ladd, 1) := by decide +kernel
theorem dJ13_bitCount_95d88_23 : decode cJ13_bitCount_95d88 23 = .ok (.lstore_n 0, 1) := by decide +kernel
theorem dJ13_bitCount_95d88_24 : decode cJ13_bitCount_95d88 24 = .ok (.lload_n 0, 1) := by decide +kernel
theorem dJ13_bitCount_95d88_25 : decode cJ13_bitCount_95d88 25 = .ok (.lload_n 0, 1) := by decide +kernel
theorem dJ13_bitCount_95d88_26 : decode cJ13_bitCount_95d88 26 = .ok (.iconst 4, 1) := by decide +kernel
theorem dJ13_bitCount_95d88_27 : decode cJ13_bitCount_95d88 27 = .ok (.lushr, 1) := by decide +kernel
theorem dJ13_bitCount_95d88_28 : decode cJ13_bitCount_95d88 28 = .ok (.ladd, 1) := by decide +kernel
theorem dJ13_bitCount_95d88_29 : decode cJ13_bitCount_95d88 29 = .ok (.ldc2_w 318, 3) := by decide +kernel
theorem dJ13_bitCount_95d88_32 : decode cJ13_bitCount_95d88 32 = .ok (.land, 1) := by decide +kernel
theorem dJ13_bitCount_95d88_33 : decode cJ13_bitCount_95d88 33 = .ok (.lstore_n 0, 1) := by decide +kernel
theorem dJ13_bitCount_95d88_34 : decode cJ13_bitCount_95d88 34 = .ok (.lload_n 0, 1) := by decide +kernel
theorem dJ13_bitCount_95d88_35 : decode cJ13_bitCount_95d88 35 = .ok (.lload_n 0, 1) := by decide +kernel
theorem dJ13_bitCount_95d88_36 : decode cJ13_bitCount_95d88 36 = .ok (.bipush 8, 2) := by decide +kernel
theorem dJ13_bitCount_95d88_38 : decode cJ13_bitCount_95d88 38 = .ok (.lushr, 1) := by decide +kernel
theorem dJ13_bitCount_95d88_39 : decode cJ13_bitCount_95d88 39 = .ok (.ladd, 1) := by decide +kernel
theorem dJ13_bitCount_95d88_40 : decode cJ13_bitCount_95d88 40 = .ok (.lstore_n 0, 1) := by decide +kernel
theorem dJ13_bitCount_95d88_41 : decode cJ13_bitCount_95d88 41 = .ok (.lload_n 0, 1) := by decide +kernel
theorem dJ13_bitCount_95d88_42 : decode cJ13_bitCount_95d88 42 = .ok (.lload_n 0, 1) := by decide +kernel
theorem dJ13_bitCount_95d88_43 : decode cJ13_bitCount_95d88 43 = .ok (.bipush 16, 2) := by decide +kernel
theorem dJ13_bitCount_95d88_45 : decode cJ13_bitCount_95d88 45 = .ok (.lushr, 1) := by decide +kernel
theorem dJ13_bitCount_95d88_46 : decode cJ13_bitCount_95d88 46 = .ok (.ladd, 1) := by decide +kernel
theorem dJ13_bitCount_95d88_47 : decode cJ13_bitCount_95d88 47 = .ok (.lstore_n 0, 1) := by decide +kernel
theorem dJ13_bitCount_95d88_48 : decode cJ13_bitCount_95d88 48 = .ok (.lload_n 0, 1) := by decide +kernel
theorem dJ13_bitCount_95d88_49 : decode cJ13_bitCount_95d88 49 = .ok (.lload_n 0, 1) := by decide +kernel
theorem dJ13_bitCount_95d88_50 : decode cJ13_bitCount_95d88 50 = .ok (.bipush 32, 2) := by decide +kernel
theorem dJ13_bitCount_95d88_52 : decode cJ13_bitCount_95d88 52 = .ok (.lushr, 1) := by decide +kernel
theorem dJ13_bitCount_95d88_53 : decode cJ13_bitCount_95d88 53 = .ok (.ladd, 1) := by decide +kernel
theorem dJ13_bitCount_95d88_54 : decode cJ13_bitCount_95d88 54 = .ok (.lstore_n 0, 1) := by decide +kernel
theorem dJ13_bitCount_95d88_55 : decode cJ13_bitCount_95d88 55 = .ok (.lload_n 0, 1) := by decide +kernel
theorem dJ13_bitCount_95d88_56 : decode cJ13_bitCount_95d88 56 = .ok (.l2i, 1) := by decide +kernel
theorem dJ13_bitCount_95d88_57 : decode cJ13_bitCount_95d88 57 = .ok (.bipush 127, 2) := by decide +kernel
theorem dJ13_bitCount_95d88_59 : decode cJ13_bitCount_95d88 59 = .ok (.iand, 1) := by decide +kernel
theorem dJ13_bitCount_95d88_60 : decode cJ13_bitCount_95d88 60 = .ok (.ireturn, 1) := by decide +kernel
abbrev zm_J13_bitCount_95d88 : zg_M := ("java/lang/Long", cJ13_bitCount_95d88, 2, (some .int), [])
abbrev cJ7_fill_53178 : ByteArray := prog_15_method_103_code
def yJ7_fill_53178 : MethodName := ⟨"java/util/Arrays", "fill", "([II)V"⟩
theorem dJ7_fill_53178_0 : decode cJ7_fill_53178 0 = .ok (.iconst 0, 1) := by decide +kernel
theorem dJ7_fill_53178_1 : decode cJ7_fill_53178 1 = .ok (.istore_n 2, 1) := by decide +kernel
theorem dJ7_fill_53178_2 : decode cJ7_fill_53178 2 = .ok (.aload_n 0, 1) := by decide +kernel
theorem dJ7_fill_53178_3 : decode cJ7_fill_53178 3 = .ok (.arraylength, 1) := by decide +kernel
theorem dJ7_fill_53178_4 : decode cJ7_fill_53178 4 = .ok (.istore_n 3, 1) := by decide +kernel
theorem dJ7_fill_53178_5 : decode cJ7_fill_53178 5 = .ok (.iload_n 2, 1) := by decide +kernel
theorem dJ7_fill_53178_6 : decode cJ7_fill_53178 6 = .ok (.iload_n 3, 1) := by decide +kernel
theorem dJ7_fill_53178_7 : decode cJ7_fill_53178 7 = .ok (.if_icmp .ge 13, 3) := by decide +kernel
theorem dJ7_fill_53178_10 : decode cJ7_fill_53178 10 = .ok (.aload_n 0, 1) := by decide +kernel
theorem dJ7_fill_53178_11 : decode cJ7_fill_53178 11 = .ok (.iload_n 2, 1) := by decide +kernel
theorem dJ7_fill_53178_12 : decode cJ7_fill_53178 12 = .ok (.iload_n 1, 1) := by decide +kernel
theorem dJ7_fill_53178_13 : decode cJ7_fill_53178 13 = .ok (.iastore, 1) := by decide +kernel
theorem dJ7_fill_53178_14 : decode cJ7_fill_53178 14 = .ok (.iinc 2 1, 3) := by decide +kernel
theorem dJ7_fill_53178_17 : decode cJ7_fill_53178 17 = .ok (.goto (-12), 3) := by decide +kernel
theorem dJ7_fill_53178_20 : decode cJ7_fill_53178 20 = .ok (.return_, 1) := by decide +kernel
abbrev zm_J7_fill_53178 : zg_M := ("java/util/Arrays", cJ7_fill_53178, 4, none, [])
end
section
theorem dX4_init_0 : decode cX4_init 0 = .ok (.aload_n 0, 1) := by decide +kernel
theorem dX4_init_1 : decode cX4_init 1 = .ok (.invokespecial 1, 3) := by decide +kernel
theorem dX4_init_4 : decode cX4_init 4 = .ok (.aload_n 0, 1) := by decide +kernel
theorem dX4_init_5 : decode cX4_init 5 = .ok (.sipush 768, 3) := by decide +kernel
theorem dX4_init_8 : decode cX4_init 8 = .ok (.newarray .int, 2) := by decide +kernel
theorem dX4_init_10 : decode cX4_init 10 = .ok (.putfield 7, 3) := by decide +kernel
theorem dX4_init_13 : decode cX4_init 13 = .ok (.aload_n 0, 1) := by decide +kernel
theorem dX4_init_14 : decode cX4_init 14 = .ok (.bipush 16, 2) := by decide +kernel
theorem dX4_init_16 : decode cX4_init 16 = .ok (.newarray .int, 2) := by decide +kernel
theorem dX4_init_18 : decode cX4_init 18 = .ok (.putfield 13, 3) := by decide +kernel
theorem dX4_init_21 : decode cX4_init 21 = .ok (.aload_n 0, 1) := by decide +kernel
theorem dX4_init_22 : decode cX4_init 22 = .ok (.bipush 16, 2) := by decide +kernel
theorem dX4_init_24 : decode cX4_init 24 = .ok (.newarray .int, 2) := by decide +kernel
theorem dX4_init_26 : decode cX4_init 26 = .ok (.putfield 16, 3) := by decide +kernel
theorem dX4_init_29 : decode cX4_init 29 = .ok (.aload_n 0, 1) := by decide +kernel
theorem dX4_init_30 : decode cX4_init 30 = .ok (.bipush 16, 2) := by decide +kernel
theorem dX4_init_32 : decode cX4_init 32 = .ok (.newarray .int, 2) := by decide +kernel
theorem dX4_init_34 : decode cX4_init 34 = .ok (.putfield 19, 3) := by decide +kernel
theorem dX4_init_37 : decode cX4_init 37 = .ok (.aload_n 0, 1) := by decide +kernel
theorem dX4_init_38 : decode cX4_init 38 = .ok (.bipush 16, 2) := by decide +kernel
theorem dX4_init_40 : decode cX4_init 40 = .ok (.newarray .boolean, 2) := by decide +kernel
theorem dX4_init_42 : decode cX4_init 42 = .ok (.putfield 22, 3) := by decide +kernel
theorem dX4_init_45 : decode cX4_init 45 = .ok (.aload_n 0, 1) := by decide +kernel
theorem dX4_init_46 : decode cX4_init 46 = .ok (.sipush 256, 3) := by decide +kernel
theorem dX4_init_49 : decode cX4_init 49 = .ok (.newarray .int, 2) := by decide +kernel
theorem dX4_init_51 : decode cX4_init 51 = .ok (.putfield 26, 3) := by decide +kernel
theorem dX4_init_54 : decode cX4_init 54 = .ok (.aload_n 0, 1) := by decide +kernel
theorem dX4_init_55 : decode cX4_init 55 = .ok (.bipush 100, 2) := by decide +kernel
theorem dX4_init_57 : decode cX4_init 57 = .ok (.newarray .int, 2) := by decide +kernel
theorem dX4_init_59 : decode cX4_init 59 = .ok (.putfield 29, 3) := by decide +kernel
theorem dX4_init_62 : decode cX4_init 62 = .ok (.aload_n 0, 1) := by decide +kernel
theorem dX4_init_63 : decode cX4_init 63 = .ok (.sipush 1600, 3) := by decide +kernel
theorem dX4_init_66 : decode cX4_init 66 = .ok (.newarray .int, 2) := by decide +kernel
theorem dX4_init_68 : decode cX4_init 68 = .ok (.putfield 32, 3) := by decide +kernel
theorem dX4_init_71 : decode cX4_init 71 = .ok (.aload_n 0, 1) := by decide +kernel
theorem dX4_init_72 : decode cX4_init 72 = .ok (.invokevirtual 35, 3) := by decide +kernel
theorem dX4_init_75 : decode cX4_init 75 = .ok (.return_, 1) := by decide +kernel
abbrev zm_X4_init : zg_M := (RX4, cX4_init, 1, none, [])
theorem dX4_thrown_0 : decode cX4_thrown 0 = .ok (.aload_n 0, 1) := by decide +kernel
theorem dX4_thrown_1 : decode cX4_thrown 1 = .ok (.getfield 38, 3) := by decide +kernel
theorem dX4_thrown_4 : decode cX4_thrown 4 = .ok (.ireturn, 1) := by decide +kernel
abbrev zm_X4_thrown : zg_M := (RX4, cX4_thrown, 1, (some .int), [])
theorem dX4_fails_0 : decode cX4_fails 0 = .ok (.aload_n 0, 1) := by decide +kernel
theorem dX4_fails_1 : decode cX4_fails 1 = .ok (.iload_n 1, 1) := by decide +kernel
theorem dX4_fails_2 : decode cX4_fails 2 = .ok (.ifCond .eq 7, 3) := by decide +kernel
theorem dX4_fails_5 : decode cX4_fails 5 = .ok (.iload_n 2, 1) := by decide +kernel
theorem dX4_fails_6 : decode cX4_fails 6 = .ok (.goto 4, 3) := by decide +kernel
theorem dX4_fails_9 : decode cX4_fails 9 = .ok (.iconst 0, 1) := by decide +kernel
theorem dX4_fails_10 : decode cX4_fails 10 = .ok (.putfield 38, 3) := by decide +kernel
theorem dX4_fails_13 : decode cX4_fails 13 = .ok (.iload_n 1, 1) := by decide +kernel
theorem dX4_fails_14 : decode cX4_fails 14 = .ok (.ireturn, 1) := by decide +kernel
abbrev zm_X4_fails : zg_M := (RX4, cX4_fails, 3, (some .boolean), [])
theorem dX4_within_0 : decode cX4_within 0 = .ok (.iload_n 0, 1) := by decide +kernel
theorem dX4_within_1 : decode cX4_within 1 = .ok (.iload_n 1, 1) := by decide +kernel
theorem dX4_within_2 : decode cX4_within 2 = .ok (.if_icmp .lt 12, 3) := by decide +kernel
theorem dX4_within_5 : decode cX4_within 5 = .ok (.iload_n 0, 1) := by decide +kernel
theorem dX4_within_6 : decode cX4_within 6 = .ok (.iload_n 2, 1) := by decide +kernel
theorem dX4_within_7 : decode cX4_within 7 = .ok (.if_icmp .gt 7, 3) := by decide +kernel
theorem dX4_within_10 : decode cX4_within 10 = .ok (.iconst 1, 1) := by decide +kernel
theorem dX4_within_11 : decode cX4_within 11 = .ok (.goto 4, 3) := by decide +kernel
theorem dX4_within_14 : decode cX4_within 14 = .ok (.iconst 0, 1) := by decide +kernel
theorem dX4_within_15 : decode cX4_within 15 = .ok (.ireturn, 1) := by decide +kernel
abbrev zm_X4_within : zg_M := (RX4, cX4_within, 3, (some .boolean), [])
theorem dX4_checkOf_0 : decode cX4_checkOf 0 = .ok (.iconst 1, 1) := by decide +kernel
theorem dX4_checkOf_1 : decode cX4_checkOf 1 = .ok (.istore_n 3, 1) := by decide +kernel
theorem dX4_checkOf_2 : decode cX4_checkOf 2 = .ok (.iconst 0, 1) := by decide +kernel
theorem dX4_checkOf_3 : decode cX4_checkOf 3 = .ok (.istore 4, 2) := by decide +kernel
theorem dX4_checkOf_5 : decode cX4_checkOf 5 = .ok (.iload 4, 2) := by decide +kernel
theorem dX4_checkOf_7 : decode cX4_checkOf 7 = .ok (.bipush 14, 2) := by decide +kernel
theorem dX4_checkOf_9 : decode cX4_checkOf 9 = .ok (.if_icmp .ge 24, 3) := by decide +kernel
theorem dX4_checkOf_12 : decode cX4_checkOf 12 = .ok (.bipush 31, 2) := by decide +kernel
theorem dX4_checkOf_14 : decode cX4_checkOf 14 = .ok (.iload_n 3, 1) := by decide +kernel
theorem dX4_checkOf_15 : decode cX4_checkOf 15 = .ok (.imul, 1) := by decide +kernel
theorem dX4_checkOf_16 : decode cX4_checkOf 16 = .ok (.aload_n 1, 1) := by decide +kernel
theorem dX4_checkOf_17 : decode cX4_checkOf 17 = .ok (.iload_n 2, 1) := by decide +kernel
theorem dX4_checkOf_18 : decode cX4_checkOf 18 = .ok (.iload 4, 2) := by decide +kernel
theorem dX4_checkOf_20 : decode cX4_checkOf 20 = .ok (.iadd, 1) := by decide +kernel
theorem dX4_checkOf_21 : decode cX4_checkOf 21 = .ok (.iaload, 1) := by decide +kernel
theorem dX4_checkOf_22 : decode cX4_checkOf 22 = .ok (.iadd, 1) := by decide +kernel
theorem dX4_checkOf_23 : decode cX4_checkOf 23 = .ok (.ldc 42, 2) := by decide +kernel
theorem dX4_checkOf_25 : decode cX4_checkOf 25 = .ok (.iand, 1) := by decide +kernel
theorem dX4_checkOf_26 : decode cX4_checkOf 26 = .ok (.istore_n 3, 1) := by decide +kernel
theorem dX4_checkOf_27 : decode cX4_checkOf 27 = .ok (.iinc 4 1, 3) := by decide +kernel
theorem dX4_checkOf_30 : decode cX4_checkOf 30 = .ok (.goto (-25), 3) := by decide +kernel
theorem dX4_checkOf_33 : decode cX4_checkOf 33 = .ok (.iload_n 3, 1) := by decide +kernel
theorem dX4_checkOf_34 : decode cX4_checkOf 34 = .ok (.ireturn, 1) := by decide +kernel
abbrev zm_X4_checkOf : zg_M := (RX4, cX4_checkOf, 5, (some .int), [])
theorem dX4_master_0 : decode cX4_master 0 = .ok (.iconst 0, 1) := by decide +kernel
theorem dX4_master_1 : decode cX4_master 1 = .ok (.istore 5, 2) := by decide +kernel
theorem dX4_master_3 : decode cX4_master 3 = .ok (.iload 5, 2) := by decide +kernel
theorem dX4_master_5 : decode cX4_master 5 = .ok (.bipush 16, 2) := by decide +kernel
theorem dX4_master_7 : decode cX4_master 7 = .ok (.if_icmp .ge 50, 3) := by decide +kernel
theorem dX4_master_10 : decode cX4_master 10 = .ok (.aload_n 1, 1) := by decide +kernel
theorem dX4_master_11 : decode cX4_master 11 = .ok (.iload_n 2, 1) := by decide +kernel
theorem dX4_master_12 : decode cX4_master 12 = .ok (.iload 5, 2) := by decide +kernel
theorem dX4_master_14 : decode cX4_master 14 = .ok (.iadd, 1) := by decide +kernel
theorem dX4_master_15 : decode cX4_master 15 = .ok (.iload 5, 2) := by decide +kernel
theorem dX4_master_17 : decode cX4_master 17 = .ok (.iconst 4, 1) := by decide +kernel
theorem dX4_master_18 : decode cX4_master 18 = .ok (.if_icmp .ge 20, 3) := by decide +kernel
theorem dX4_master_21 : decode cX4_master 21 = .ok (.iload_n 3, 1) := by decide +kernel
theorem dX4_master_22 : decode cX4_master 22 = .ok (.bipush 24, 2) := by decide +kernel
theorem dX4_master_24 : decode cX4_master 24 = .ok (.bipush 8, 2) := by decide +kernel
theorem dX4_master_26 : decode cX4_master 26 = .ok (.iload 5, 2) := by decide +kernel
theorem dX4_master_28 : decode cX4_master 28 = .ok (.imul, 1) := by decide +kernel
theorem dX4_master_29 : decode cX4_master 29 = .ok (.isub, 1) := by decide +kernel
theorem dX4_master_30 : decode cX4_master 30 = .ok (.ishr, 1) := by decide +kernel
theorem dX4_master_31 : decode cX4_master 31 = .ok (.sipush 255, 3) := by decide +kernel
theorem dX4_master_34 : decode cX4_master 34 = .ok (.iand, 1) := by decide +kernel
theorem dX4_master_35 : decode cX4_master 35 = .ok (.goto 15, 3) := by decide +kernel
theorem dX4_master_38 : decode cX4_master 38 = .ok (.iload 5, 2) := by decide +kernel
theorem dX4_master_40 : decode cX4_master 40 = .ok (.iconst 4, 1) := by decide +kernel
theorem dX4_master_41 : decode cX4_master 41 = .ok (.if_icmp .ne 8, 3) := by decide +kernel
theorem dX4_master_44 : decode cX4_master 44 = .ok (.iload 4, 2) := by decide +kernel
theorem dX4_master_46 : decode cX4_master 46 = .ok (.goto 4, 3) := by decide +kernel
theorem dX4_master_49 : decode cX4_master 49 = .ok (.iconst 0, 1) := by decide +kernel
theorem dX4_master_50 : decode cX4_master 50 = .ok (.iastore, 1) := by decide +kernel
theorem dX4_master_51 : decode cX4_master 51 = .ok (.iinc 5 1, 3) := by decide +kernel
theorem dX4_master_54 : decode cX4_master 54 = .ok (.goto (-51), 3) := by decide +kernel
theorem dX4_master_57 : decode cX4_master 57 = .ok (.aload_n 0, 1) := by decide +kernel
theorem dX4_master_58 : decode cX4_master 58 = .ok (.aload_n 1, 1) := by decide +kernel
theorem dX4_master_59 : decode cX4_master 59 = .ok (.iload_n 2, 1) := by decide +kernel
theorem dX4_master_60 : decode cX4_master 60 = .ok (.invokevirtual 43, 3) := by decide +kernel
theorem dX4_master_63 : decode cX4_master 63 = .ok (.istore 5, 2) := by decide +kernel
theorem dX4_master_65 : decode cX4_master 65 = .ok (.aload_n 1, 1) := by decide +kernel
theorem dX4_master_66 : decode cX4_master 66 = .ok (.iload_n 2, 1) := by decide +kernel
theorem dX4_master_67 : decode cX4_master 67 = .ok (.bipush 14, 2) := by decide +kernel
theorem dX4_master_69 : decode cX4_master 69 = .ok (.iadd, 1) := by decide +kernel
theorem dX4_master_70 : decode cX4_master 70 = .ok (.iload 5, 2) := by decide +kernel
theorem dX4_master_72 : decode cX4_master 72 = .ok (.bipush 8, 2) := by decide +kernel
theorem dX4_master_74 : decode cX4_master 74 = .ok (.ishr, 1) := by decide +kernel
theorem dX4_master_75 : decode cX4_master 75 = .ok (.iastore, 1) := by decide +kernel
theorem dX4_master_76 : decode cX4_master 76 = .ok (.aload_n 1, 1) := by decide +kernel
theorem dX4_master_77 : decode cX4_master 77 = .ok (.iload_n 2, 1) := by decide +kernel
theorem dX4_master_78 : decode cX4_master 78 = .ok (.bipush 15, 2) := by decide +kernel
theorem dX4_master_80 : decode cX4_master 80 = .ok (.iadd, 1) := by decide +kernel
theorem dX4_master_81 : decode cX4_master 81 = .ok (.iload 5, 2) := by decide +kernel
theorem dX4_master_83 : decode cX4_master 83 = .ok (.sipush 255, 3) := by decide +kernel
theorem dX4_master_86 : decode cX4_master 86 = .ok (.iand, 1) := by decide +kernel
theorem dX4_master_87 : decode cX4_master 87 = .ok (.iastore, 1) := by decide +kernel
theorem dX4_master_88 : decode cX4_master 88 = .ok (.return_, 1) := by decide +kernel
abbrev zm_X4_master : zg_M := (RX4, cX4_master, 6, none, [])
theorem dX4_clear_0 : decode cX4_clear 0 = .ok (.iconst 0, 1) := by decide +kernel
theorem dX4_clear_1 : decode cX4_clear 1 = .ok (.istore_n 1, 1) := by decide +kernel
theorem dX4_clear_2 : decode cX4_clear 2 = .ok (.iload_n 1, 1) := by decide +kernel
theorem dX4_clear_3 : decode cX4_clear 3 = .ok (.sipush 768, 3) := by decide +kernel
theorem dX4_clear_6 : decode cX4_clear 6 = .ok (.if_icmp .ge 16, 3) := by decide +kernel
theorem dX4_clear_9 : decode cX4_clear 9 = .ok (.aload_n 0, 1) := by decide +kernel
theorem dX4_clear_10 : decode cX4_clear 10 = .ok (.getfield 7, 3) := by decide +kernel
theorem dX4_clear_13 : decode cX4_clear 13 = .ok (.iload_n 1, 1) := by decide +kernel
theorem dX4_clear_14 : decode cX4_clear 14 = .ok (.iconst 0, 1) := by decide +kernel
theorem dX4_clear_15 : decode cX4_clear 15 = .ok (.iastore, 1) := by decide +kernel
theorem dX4_clear_16 : decode cX4_clear 16 = .ok (.iinc 1 1, 3) := by decide +kernel
theorem dX4_clear_19 : decode cX4_clear 19 = .ok (.goto (-17), 3) := by decide +kernel
theorem dX4_clear_22 : decode cX4_clear 22 = .ok (.aload_n 0, 1) := by decide +kernel
theorem dX4_clear_23 : decode cX4_clear 23 = .ok (.aload_n 0, 1) := by decide +kernel
theorem dX4_clear_24 : decode cX4_clear 24 = .ok (.getfield 7, 3) := by decide +kernel
theorem dX4_clear_27 : decode cX4_clear 27 = .ok (.iconst 0, 1) := by decide +kernel
theorem dX4_clear_28 : decode cX4_clear 28 = .ok (.iconst 0, 1) := by decide +kernel
theorem dX4_clear_29 : decode cX4_clear 29 = .ok (.iconst 1, 1) := by decide +kernel
theorem dX4_clear_30 : decode cX4_clear 30 = .ok (.invokevirtual 47, 3) := by decide +kernel
theorem dX4_clear_33 : decode cX4_clear 33 = .ok (.aload_n 0, 1) := by decide +kernel
theorem dX4_clear_34 : decode cX4_clear 34 = .ok (.invokevirtual 51, 3) := by decide +kernel
theorem dX4_clear_37 : decode cX4_clear 37 = .ok (.return_, 1) := by decide +kernel
abbrev zm_X4_clear : zg_M := (RX4, cX4_clear, 2, none, [])
theorem dX4_mount_0 : decode cX4_mount 0 = .ok (.aload_n 0, 1) := by decide +kernel
theorem dX4_mount_1 : decode cX4_mount 1 = .ok (.iconst 0, 1) := by decide +kernel
theorem dX4_mount_2 : decode cX4_mount 2 = .ok (.putfield 54, 3) := by decide +kernel
theorem dX4_mount_5 : decode cX4_mount 5 = .ok (.aload_n 0, 1) := by decide +kernel
theorem dX4_mount_6 : decode cX4_mount 6 = .ok (.iconst 0, 1) := by decide +kernel
theorem dX4_mount_7 : decode cX4_mount 7 = .ok (.putfield 57, 3) := by decide +kernel
theorem dX4_mount_10 : decode cX4_mount 10 = .ok (.aload_n 0, 1) := by decide +kernel
theorem dX4_mount_11 : decode cX4_mount 11 = .ok (.iconst 0, 1) := by decide +kernel
theorem dX4_mount_12 : decode cX4_mount 12 = .ok (.putfield 61, 3) := by decide +kernel
theorem dX4_mount_15 : decode cX4_mount 15 = .ok (.aload_n 0, 1) := by decide +kernel
theorem dX4_mount_16 : decode cX4_mount 16 = .ok (.iconst 1, 1) := by decide +kernel
theorem dX4_mount_17 : decode cX4_mount 17 = .ok (.putfield 64, 3) := by decide +kernel
theorem dX4_mount_20 : decode cX4_mount 20 = .ok (.aload_n 0, 1) := by decide +kernel
theorem dX4_mount_21 : decode cX4_mount 21 = .ok (.aload_n 0, 1) := by decide +kernel
theorem dX4_mount_22 : decode cX4_mount 22 = .ok (.getfield 7, 3) := by decide +kernel
theorem dX4_mount_25 : decode cX4_mount 25 = .ok (.iconst 0, 1) := by decide +kernel
theorem dX4_mount_26 : decode cX4_mount 26 = .ok (.invokevirtual 43, 3) := by decide +kernel
theorem dX4_mount_29 : decode cX4_mount 29 = .ok (.istore_n 1, 1) := by decide +kernel
theorem dX4_mount_30 : decode cX4_mount 30 = .ok (.aload_n 0, 1) := by decide +kernel
theorem dX4_mount_31 : decode cX4_mount 31 = .ok (.getfield 7, 3) := by decide +kernel
theorem dX4_mount_34 : decode cX4_mount 34 = .ok (.bipush 14, 2) := by decide +kernel
theorem dX4_mount_36 : decode cX4_mount 36 = .ok (.iaload, 1) := by decide +kernel
theorem dX4_mount_37 : decode cX4_mount 37 = .ok (.iload_n 1, 1) := by decide +kernel
theorem dX4_mount_38 : decode cX4_mount 38 = .ok (.bipush 8, 2) := by decide +kernel
theorem dX4_mount_40 : decode cX4_mount 40 = .ok (.ishr, 1) := by decide +kernel
theorem dX4_mount_41 : decode cX4_mount 41 = .ok (.if_icmp .ne 18, 3) := by decide +kernel
theorem dX4_mount_44 : decode cX4_mount 44 = .ok (.aload_n 0, 1) := by decide +kernel
theorem dX4_mount_45 : decode cX4_mount 45 = .ok (.getfield 7, 3) := by decide +kernel
theorem dX4_mount_48 : decode cX4_mount 48 = .ok (.bipush 15, 2) := by decide +kernel
theorem dX4_mount_50 : decode cX4_mount 50 = .ok (.iaload, 1) := by decide +kernel
theorem dX4_mount_51 : decode cX4_mount 51 = .ok (.iload_n 1, 1) := by decide +kernel
theorem dX4_mount_52 : decode cX4_mount 52 = .ok (.sipush 255, 3) := by decide +kernel
theorem dX4_mount_55 : decode cX4_mount 55 = .ok (.iand, 1) := by decide +kernel
theorem dX4_mount_56 : decode cX4_mount 56 = .ok (.if_icmp .eq 4, 3) := by decide +kernel
theorem dX4_mount_59 : decode cX4_mount 59 = .ok (.return_, 1) := by decide +kernel
theorem dX4_mount_60 : decode cX4_mount 60 = .ok (.iconst 5, 1) := by decide +kernel
theorem dX4_mount_61 : decode cX4_mount 61 = .ok (.istore_n 2, 1) := by decide +kernel
theorem dX4_mount_62 : decode cX4_mount 62 = .ok (.iload_n 2, 1) := by decide +kernel
theorem dX4_mount_63 : decode cX4_mount 63 = .ok (.bipush 14, 2) := by decide +kernel
theorem dX4_mount_65 : decode cX4_mount 65 = .ok (.if_icmp .ge 19, 3) := by decide +kernel
theorem dX4_mount_68 : decode cX4_mount 68 = .ok (.aload_n 0, 1) := by decide +kernel
theorem dX4_mount_69 : decode cX4_mount 69 = .ok (.getfield 7, 3) := by decide +kernel
theorem dX4_mount_72 : decode cX4_mount 72 = .ok (.iload_n 2, 1) := by decide +kernel
theorem dX4_mount_73 : decode cX4_mount 73 = .ok (.iaload, 1) := by decide +kernel
theorem dX4_mount_74 : decode cX4_mount 74 = .ok (.ifCond .eq 4, 3) := by decide +kernel
theorem dX4_mount_77 : decode cX4_mount 77 = .ok (.return_, 1) := by decide +kernel
theorem dX4_mount_78 : decode cX4_mount 78 = .ok (.iinc 2 1, 3) := by decide +kernel
theorem dX4_mount_81 : decode cX4_mount 81 = .ok (.goto (-19), 3) := by decide +kernel
theorem dX4_mount_84 : decode cX4_mount 84 = .ok (.aload_n 0, 1) := by decide +kernel
theorem dX4_mount_85 : decode cX4_mount 85 = .ok (.getfield 7, 3) := by decide +kernel
theorem dX4_mount_88 : decode cX4_mount 88 = .ok (.iconst 4, 1) := by decide +kernel
theorem dX4_mount_89 : decode cX4_mount 89 = .ok (.iaload, 1) := by decide +kernel
theorem dX4_mount_90 : decode cX4_mount 90 = .ok (.istore_n 2, 1) := by decide +kernel
theorem dX4_mount_91 : decode cX4_mount 91 = .ok (.iload_n 2, 1) := by decide +kernel
theorem dX4_mount_92 : decode cX4_mount 92 = .ok (.iconst 1, 1) := by decide +kernel
theorem dX4_mount_93 : decode cX4_mount 93 = .ok (.bipush 47, 2) := by decide +kernel
theorem dX4_mount_95 : decode cX4_mount 95 = .ok (.invokestatic 67, 3) := by decide +kernel
theorem dX4_mount_98 : decode cX4_mount 98 = .ok (.ifCond .ne 4, 3) := by decide +kernel
theorem dX4_mount_101 : decode cX4_mount 101 = .ok (.return_, 1) := by decide +kernel
theorem dX4_mount_102 : decode cX4_mount 102 = .ok (.iconst 0, 1) := by decide +kernel
theorem dX4_mount_103 : decode cX4_mount 103 = .ok (.istore_n 3, 1) := by decide +kernel
theorem dX4_mount_104 : decode cX4_mount 104 = .ok (.iload_n 3, 1) := by decide +kernel
theorem dX4_mount_105 : decode cX4_mount 105 = .ok (.bipush 16, 2) := by decide +kernel
theorem dX4_mount_107 : decode cX4_mount 107 = .ok (.if_icmp .ge 74, 3) := by decide +kernel
theorem dX4_mount_110 : decode cX4_mount 110 = .ok (.aload_n 0, 1) := by decide +kernel
theorem dX4_mount_111 : decode cX4_mount 111 = .ok (.getfield 7, 3) := by decide +kernel
theorem dX4_mount_114 : decode cX4_mount 114 = .ok (.bipush 16, 2) := by decide +kernel
theorem dX4_mount_116 : decode cX4_mount 116 = .ok (.iload_n 2, 1) := by decide +kernel
theorem dX4_mount_117 : decode cX4_mount 117 = .ok (.imul, 1) := by decide +kernel
theorem dX4_mount_118 : decode cX4_mount 118 = .ok (.iload_n 3, 1) := by decide +kernel
theorem dX4_mount_119 : decode cX4_mount 119 = .ok (.iadd, 1) := by decide +kernel
theorem dX4_mount_120 : decode cX4_mount 120 = .ok (.iaload, 1) := by decide +kernel
theorem dX4_mount_121 : decode cX4_mount 121 = .ok (.istore 4, 2) := by decide +kernel
theorem dX4_mount_123 : decode cX4_mount 123 = .ok (.iload 4, 2) := by decide +kernel
theorem dX4_mount_125 : decode cX4_mount 125 = .ok (.bipush 48, 2) := by decide +kernel
theorem dX4_mount_127 : decode cX4_mount 127 = .ok (.if_icmp .ge 9, 3) := by decide +kernel
theorem dX4_mount_130 : decode cX4_mount 130 = .ok (.iload 4, 2) := by decide +kernel
theorem dX4_mount_132 : decode cX4_mount 132 = .ok (.iload_n 2, 1) := by decide +kernel
theorem dX4_mount_133 : decode cX4_mount 133 = .ok (.if_icmp .ne 4, 3) := by decide +kernel
theorem dX4_mount_136 : decode cX4_mount 136 = .ok (.return_, 1) := by decide +kernel
theorem dX4_mount_137 : decode cX4_mount 137 = .ok (.iconst 0, 1) := by decide +kernel
theorem dX4_mount_138 : decode cX4_mount 138 = .ok (.istore 5, 2) := by decide +kernel
theorem dX4_mount_140 : decode cX4_mount 140 = .ok (.iload 5, 2) := by decide +kernel
theorem dX4_mount_142 : decode cX4_mount 142 = .ok (.iload_n 3, 1) := by decide +kernel
theorem dX4_mount_143 : decode cX4_mount 143 = .ok (.if_icmp .ge 32, 3) := by decide +kernel
theorem dX4_mount_146 : decode cX4_mount 146 = .ok (.iload 4, 2) := by decide +kernel
theorem dX4_mount_148 : decode cX4_mount 148 = .ok (.ifCond .eq 21, 3) := by decide +kernel
theorem dX4_mount_151 : decode cX4_mount 151 = .ok (.aload_n 0, 1) := by decide +kernel
theorem dX4_mount_152 : decode cX4_mount 152 = .ok (.getfield 7, 3) := by decide +kernel
theorem dX4_mount_155 : decode cX4_mount 155 = .ok (.bipush 16, 2) := by decide +kernel
theorem dX4_mount_157 : decode cX4_mount 157 = .ok (.iload_n 2, 1) := by decide +kernel
theorem dX4_mount_158 : decode cX4_mount 158 = .ok (.imul, 1) := by decide +kernel
theorem dX4_mount_159 : decode cX4_mount 159 = .ok (.iload 5, 2) := by decide +kernel
theorem dX4_mount_161 : decode cX4_mount 161 = .ok (.iadd, 1) := by decide +kernel
theorem dX4_mount_162 : decode cX4_mount 162 = .ok (.iaload, 1) := by decide +kernel
theorem dX4_mount_163 : decode cX4_mount 163 = .ok (.iload 4, 2) := by decide +kernel
theorem dX4_mount_165 : decode cX4_mount 165 = .ok (.if_icmp .ne 4, 3) := by decide +kernel
theorem dX4_mount_168 : decode cX4_mount 168 = .ok (.return_, 1) := by decide +kernel
theorem dX4_mount_169 : decode cX4_mount 169 = .ok (.iinc 5 1, 3) := by decide +kernel
theorem dX4_mount_172 : decode cX4_mount 172 = .ok (.goto (-32), 3) := by decide +kernel
theorem dX4_mount_175 : decode cX4_mount 175 = .ok (.iinc 3 1, 3) := by decide +kernel
theorem dX4_mount_178 : decode cX4_mount 178 = .ok (.goto (-74), 3) := by decide +kernel
theorem dX4_mount_181 : decode cX4_mount 181 = .ok (.aload_n 0, 1) := by decide +kernel
theorem dX4_mount_182 : decode cX4_mount 182 = .ok (.iconst 0, 1) := by decide +kernel
theorem dX4_mount_183 : decode cX4_mount 183 = .ok (.putfield 64, 3) := by decide +kernel
theorem dX4_mount_186 : decode cX4_mount 186 = .ok (.aload_n 0, 1) := by decide +kernel
theorem dX4_mount_187 : decode cX4_mount 187 = .ok (.iload_n 2, 1) := by decide +kernel
theorem dX4_mount_188 : decode cX4_mount 188 = .ok (.putfield 71, 3) := by decide +kernel
theorem dX4_mount_191 : decode cX4_mount 191 = .ok (.aload_n 0, 1) := by decide +kernel
theorem dX4_mount_192 : decode cX4_mount 192 = .ok (.aload_n 0, 1) := by decide +kernel
theorem dX4_mount_193 : decode cX4_mount 193 = .ok (.getfield 7, 3) := by decide +kernel
theorem dX4_mount_196 : decode cX4_mount 196 = .ok (.iconst 0, 1) := by decide +kernel
theorem dX4_mount_197 : decode cX4_mount 197 = .ok (.iaload, 1) := by decide +kernel
theorem dX4_mount_198 : decode cX4_mount 198 = .ok (.bipush 24, 2) := by decide +kernel
theorem dX4_mount_200 : decode cX4_mount 200 = .ok (.ishl, 1) := by decide +kernel
theorem dX4_mount_201 : decode cX4_mount 201 = .ok (.aload_n 0, 1) := by decide +kernel
theorem dX4_mount_202 : decode cX4_mount 202 = .ok (.getfield 7, 3) := by decide +kernel
theorem dX4_mount_205 : decode cX4_mount 205 = .ok (.iconst 1, 1) := by decide +kernel
theorem dX4_mount_206 : decode cX4_mount 206 = .ok (.iaload, 1) := by decide +kernel
theorem dX4_mount_207 : decode cX4_mount 207 = .ok (.bipush 16, 2) := by decide +kernel
theorem dX4_mount_209 : decode cX4_mount 209 = .ok (.ishl, 1) := by decide +kernel
theorem dX4_mount_210 : decode cX4_mount 210 = .ok (.ior, 1) := by decide +kernel
theorem dX4_mount_211 : decode cX4_mount 211 = .ok (.aload_n 0, 1) := by decide +kernel
theorem dX4_mount_212 : decode cX4_mount 212 = .ok (.getfield 7, 3) := by decide +kernel
theorem dX4_mount_215 : decode cX4_mount 215 = .ok (.iconst 2, 1) := by decide +kernel
theorem dX4_mount_216 : decode cX4_mount 216 = .ok (.iaload, 1) := by decide +kernel
theorem dX4_mount_217 : decode cX4_mount 217 = .ok (.bipush 8, 2) := by decide +kernel
theorem dX4_mount_219 : decode cX4_mount 219 = .ok (.ishl, 1) := by decide +kernel
theorem dX4_mount_220 : decode cX4_mount 220 = .ok (.ior, 1) := by decide +kernel
theorem dX4_mount_221 : decode cX4_mount 221 = .ok (.aload_n 0, 1) := by decide +kernel
theorem dX4_mount_222 : decode cX4_mount 222 = .ok (.getfield 7, 3) := by decide +kernel
theorem dX4_mount_225 : decode cX4_mount 225 = .ok (.iconst 3, 1) := by decide +kernel
theorem dX4_mount_226 : decode cX4_mount 226 = .ok (.iaload, 1) := by decide +kernel
theorem dX4_mount_227 : decode cX4_mount 227 = .ok (.ior, 1) := by decide +kernel
theorem dX4_mount_228 : decode cX4_mount 228 = .ok (.putfield 74, 3) := by decide +kernel
theorem dX4_mount_231 : decode cX4_mount 231 = .ok (.iconst 0, 1) := by decide +kernel
theorem dX4_mount_232 : decode cX4_mount 232 = .ok (.istore_n 3, 1) := by decide +kernel
theorem dX4_mount_233 : decode cX4_mount 233 = .ok (.iload_n 3, 1) := by decide +kernel
theorem dX4_mount_234 : decode cX4_mount 234 = .ok (.bipush 16, 2) := by decide +kernel
theorem dX4_mount_236 : decode cX4_mount 236 = .ok (.if_icmp .ge 26, 3) := by decide +kernel
theorem dX4_mount_239 : decode cX4_mount 239 = .ok (.aload_n 0, 1) := by decide +kernel
theorem dX4_mount_240 : decode cX4_mount 240 = .ok (.getfield 13, 3) := by decide +kernel
theorem dX4_mount_243 : decode cX4_mount 243 = .ok (.iload_n 3, 1) := by decide +kernel
theorem dX4_mount_244 : decode cX4_mount 244 = .ok (.aload_n 0, 1) := by decide +kernel
theorem dX4_mount_245 : decode cX4_mount 245 = .ok (.getfield 7, 3) := by decide +kernel
theorem dX4_mount_248 : decode cX4_mount 248 = .ok (.bipush 16, 2) := by decide +kernel
theorem dX4_mount_250 : decode cX4_mount 250 = .ok (.iload_n 2, 1) := by decide +kernel
theorem dX4_mount_251 : decode cX4_mount 251 = .ok (.imul, 1) := by decide +kernel
theorem dX4_mount_252 : decode cX4_mount 252 = .ok (.iload_n 3, 1) := by decide +kernel
theorem dX4_mount_253 : decode cX4_mount 253 = .ok (.iadd, 1) := by decide +kernel
theorem dX4_mount_254 : decode cX4_mount 254 = .ok (.iaload, 1) := by decide +kernel
theorem dX4_mount_255 : decode cX4_mount 255 = .ok (.iastore, 1) := by decide +kernel
theorem dX4_mount_256 : decode cX4_mount 256 = .ok (.iinc 3 1, 3) := by decide +kernel
theorem dX4_mount_259 : decode cX4_mount 259 = .ok (.goto (-26), 3) := by decide +kernel
theorem dX4_mount_262 : decode cX4_mount 262 = .ok (.aload_n 0, 1) := by decide +kernel
theorem dX4_mount_263 : decode cX4_mount 263 = .ok (.invokevirtual 77, 3) := by decide +kernel
theorem dX4_mount_266 : decode cX4_mount 266 = .ok (.return_, 1) := by decide +kernel
abbrev zm_X4_mount : zg_M := (RX4, cX4_mount, 6, none, [])
theorem dX4_settle_0 : decode cX4_settle 0 = .ok (.aload_n 0, 1) := by decide +kernel
theorem dX4_settle_1 : decode cX4_settle 1 = .ok (.aload_n 0, 1) := by decide +kernel
theorem dX4_settle_2 : decode cX4_settle 2 = .ok (.getfield 71, 3) := by decide +kernel
theorem dX4_settle_5 : decode cX4_settle 5 = .ok (.putfield 80, 3) := by decide +kernel
theorem dX4_settle_8 : decode cX4_settle 8 = .ok (.aload_n 0, 1) := by decide +kernel
theorem dX4_settle_9 : decode cX4_settle 9 = .ok (.aload_n 0, 1) := by decide +kernel
theorem dX4_settle_10 : decode cX4_settle 10 = .ok (.getfield 74, 3) := by decide +kernel
theorem dX4_settle_13 : decode cX4_settle 13 = .ok (.putfield 83, 3) := by decide +kernel
theorem dX4_settle_16 : decode cX4_settle 16 = .ok (.iconst 0, 1) := by decide +kernel
theorem dX4_settle_17 : decode cX4_settle 17 = .ok (.istore_n 1, 1) := by decide +kernel
theorem dX4_settle_18 : decode cX4_settle 18 = .ok (.iload_n 1, 1) := by decide +kernel
theorem dX4_settle_19 : decode cX4_settle 19 = .ok (.bipush 16, 2) := by decide +kernel
theorem dX4_settle_21 : decode cX4_settle 21 = .ok (.if_icmp .ge 21, 3) := by decide +kernel
theorem dX4_settle_24 : decode cX4_settle 24 = .ok (.aload_n 0, 1) := by decide +kernel
theorem dX4_settle_25 : decode cX4_settle 25 = .ok (.getfield 16, 3) := by decide +kernel
theorem dX4_settle_28 : decode cX4_settle 28 = .ok (.iload_n 1, 1) := by decide +kernel
theorem dX4_settle_29 : decode cX4_settle 29 = .ok (.aload_n 0, 1) := by decide +kernel
theorem dX4_settle_30 : decode cX4_settle 30 = .ok (.getfield 13, 3) := by decide +kernel
theorem dX4_settle_33 : decode cX4_settle 33 = .ok (.iload_n 1, 1) := by decide +kernel
theorem dX4_settle_34 : decode cX4_settle 34 = .ok (.iaload, 1) := by decide +kernel
theorem dX4_settle_35 : decode cX4_settle 35 = .ok (.iastore, 1) := by decide +kernel
theorem dX4_settle_36 : decode cX4_settle 36 = .ok (.iinc 1 1, 3) := by decide +kernel
theorem dX4_settle_39 : decode cX4_settle 39 = .ok (.goto (-21), 3) := by decide +kernel
theorem dX4_settle_42 : decode cX4_settle 42 = .ok (.aload_n 0, 1) := by decide +kernel
theorem dX4_settle_43 : decode cX4_settle 43 = .ok (.iconst 0, 1) := by decide +kernel
theorem dX4_settle_44 : decode cX4_settle 44 = .ok (.putfield 57, 3) := by decide +kernel
theorem dX4_settle_47 : decode cX4_settle 47 = .ok (.return_, 1) := by decide +kernel
abbrev zm_X4_settle : zg_M := (RX4, cX4_settle, 2, none, [])
theorem dX4_isFree_0 : decode cX4_isFree 0 = .ok (.iload_n 1, 1) := by decide +kernel
theorem dX4_isFree_1 : decode cX4_isFree 1 = .ok (.ifCond .le 23, 3) := by decide +kernel
theorem dX4_isFree_4 : decode cX4_isFree 4 = .ok (.iload_n 1, 1) := by decide +kernel
theorem dX4_isFree_5 : decode cX4_isFree 5 = .ok (.aload_n 0, 1) := by decide +kernel
theorem dX4_isFree_6 : decode cX4_isFree 6 = .ok (.getfield 71, 3) := by decide +kernel
theorem dX4_isFree_9 : decode cX4_isFree 9 = .ok (.if_icmp .eq 15, 3) := by decide +kernel
theorem dX4_isFree_12 : decode cX4_isFree 12 = .ok (.iload_n 1, 1) := by decide +kernel
theorem dX4_isFree_13 : decode cX4_isFree 13 = .ok (.aload_n 0, 1) := by decide +kernel
theorem dX4_isFree_14 : decode cX4_isFree 14 = .ok (.getfield 80, 3) := by decide +kernel
theorem dX4_isFree_17 : decode cX4_isFree 17 = .ok (.if_icmp .eq 7, 3) := by decide +kernel
theorem dX4_isFree_20 : decode cX4_isFree 20 = .ok (.iconst 1, 1) := by decide +kernel
theorem dX4_isFree_21 : decode cX4_isFree 21 = .ok (.goto 4, 3) := by decide +kernel
theorem dX4_isFree_24 : decode cX4_isFree 24 = .ok (.iconst 0, 1) := by decide +kernel
theorem dX4_isFree_25 : decode cX4_isFree 25 = .ok (.istore_n 2, 1) := by decide +kernel
theorem dX4_isFree_26 : decode cX4_isFree 26 = .ok (.iconst 0, 1) := by decide +kernel
theorem dX4_isFree_27 : decode cX4_isFree 27 = .ok (.istore_n 3, 1) := by decide +kernel
theorem dX4_isFree_28 : decode cX4_isFree 28 = .ok (.iload_n 3, 1) := by decide +kernel
theorem dX4_isFree_29 : decode cX4_isFree 29 = .ok (.bipush 16, 2) := by decide +kernel
theorem dX4_isFree_31 : decode cX4_isFree 31 = .ok (.if_icmp .ge 48, 3) := by decide +kernel
theorem dX4_isFree_34 : decode cX4_isFree 34 = .ok (.aload_n 0, 1) := by decide +kernel
theorem dX4_isFree_35 : decode cX4_isFree 35 = .ok (.getfield 13, 3) := by decide +kernel
theorem dX4_isFree_38 : decode cX4_isFree 38 = .ok (.iload_n 3, 1) := by decide +kernel
theorem dX4_isFree_39 : decode cX4_isFree 39 = .ok (.iaload, 1) := by decide +kernel
theorem dX4_isFree_40 : decode cX4_isFree 40 = .ok (.iload_n 1, 1) := by decide +kernel
theorem dX4_isFree_41 : decode cX4_isFree 41 = .ok (.if_icmp .eq 30, 3) := by decide +kernel
theorem dX4_isFree_44 : decode cX4_isFree 44 = .ok (.aload_n 0, 1) := by decide +kernel
theorem dX4_isFree_45 : decode cX4_isFree 45 = .ok (.getfield 16, 3) := by decide +kernel
theorem dX4_isFree_48 : decode cX4_isFree 48 = .ok (.iload_n 3, 1) := by decide +kernel
theorem dX4_isFree_49 : decode cX4_isFree 49 = .ok (.iaload, 1) := by decide +kernel
theorem dX4_isFree_50 : decode cX4_isFree 50 = .ok (.iload_n 1, 1) := by decide +kernel
theorem dX4_isFree_51 : decode cX4_isFree 51 = .ok (.if_icmp .eq 20, 3) := by decide +kernel
theorem dX4_isFree_54 : decode cX4_isFree 54 = .ok (.aload_n 0, 1) := by decide +kernel
theorem dX4_isFree_55 : decode cX4_isFree 55 = .ok (.getfield 61, 3) := by decide +kernel
theorem dX4_isFree_58 : decode cX4_isFree 58 = .ok (.ifCond .eq 15, 3) := by decide +kernel
theorem dX4_isFree_61 : decode cX4_isFree 61 = .ok (.aload_n 0, 1) := by decide +kernel
theorem dX4_isFree_62 : decode cX4_isFree 62 = .ok (.getfield 19, 3) := by decide +kernel
theorem dX4_isFree_65 : decode cX4_isFree 65 = .ok (.iload_n 3, 1) := by decide +kernel
theorem dX4_isFree_66 : decode cX4_isFree 66 = .ok (.iaload, 1) := by decide +kernel
theorem dX4_isFree_67 : decode cX4_isFree 67 = .ok (.iload_n 1, 1) := by decide +kernel
theorem dX4_isFree_68 : decode cX4_isFree 68 = .ok (.if_icmp .ne 5, 3) := by decide +kernel
theorem dX4_isFree_71 : decode cX4_isFree 71 = .ok (.iconst 0, 1) := by decide +kernel
theorem dX4_isFree_72 : decode cX4_isFree 72 = .ok (.istore_n 2, 1) := by decide +kernel
theorem dX4_isFree_73 : decode cX4_isFree 73 = .ok (.iinc 3 1, 3) := by decide +kernel
theorem dX4_isFree_76 : decode cX4_isFree 76 = .ok (.goto (-48), 3) := by decide +kernel
theorem dX4_isFree_79 : decode cX4_isFree 79 = .ok (.iload_n 2, 1) := by decide +kernel
theorem dX4_isFree_80 : decode cX4_isFree 80 = .ok (.ireturn, 1) := by decide +kernel
abbrev zm_X4_isFree : zg_M := (RX4, cX4_isFree, 4, (some .boolean), [])
theorem dX4_firstFree_0 : decode cX4_firstFree 0 = .ok (.iconst 1, 1) := by decide +kernel
theorem dX4_firstFree_1 : decode cX4_firstFree 1 = .ok (.istore_n 1, 1) := by decide +kernel
theorem dX4_firstFree_2 : decode cX4_firstFree 2 = .ok (.iload_n 1, 1) := by decide +kernel
theorem dX4_firstFree_3 : decode cX4_firstFree 3 = .ok (.bipush 48, 2) := by decide +kernel
theorem dX4_firstFree_5 : decode cX4_firstFree 5 = .ok (.if_icmp .ge 17, 3) := by decide +kernel
theorem dX4_firstFree_8 : decode cX4_firstFree 8 = .ok (.aload_n 0, 1) := by decide +kernel
theorem dX4_firstFree_9 : decode cX4_firstFree 9 = .ok (.iload_n 1, 1) := by decide +kernel
theorem dX4_firstFree_10 : decode cX4_firstFree 10 = .ok (.invokevirtual 86, 3) := by decide +kernel
theorem dX4_firstFree_13 : decode cX4_firstFree 13 = .ok (.ifCond .ne 9, 3) := by decide +kernel
theorem dX4_firstFree_16 : decode cX4_firstFree 16 = .ok (.iinc 1 1, 3) := by decide +kernel
theorem dX4_firstFree_19 : decode cX4_firstFree 19 = .ok (.goto (-17), 3) := by decide +kernel
theorem dX4_firstFree_22 : decode cX4_firstFree 22 = .ok (.iload_n 1, 1) := by decide +kernel
theorem dX4_firstFree_23 : decode cX4_firstFree 23 = .ok (.bipush 48, 2) := by decide +kernel
theorem dX4_firstFree_25 : decode cX4_firstFree 25 = .ok (.if_icmp .ne 7, 3) := by decide +kernel
theorem dX4_firstFree_28 : decode cX4_firstFree 28 = .ok (.iconst (-1), 1) := by decide +kernel
theorem dX4_firstFree_29 : decode cX4_firstFree 29 = .ok (.goto 4, 3) := by decide +kernel
theorem dX4_firstFree_32 : decode cX4_firstFree 32 = .ok (.iload_n 1, 1) := by decide +kernel
theorem dX4_firstFree_33 : decode cX4_firstFree 33 = .ok (.ireturn, 1) := by decide +kernel
abbrev zm_X4_firstFree : zg_M := (RX4, cX4_firstFree, 2, (some .int), [])
theorem dX4_hold_0 : decode cX4_hold 0 = .ok (.aload_n 0, 1) := by decide +kernel
theorem dX4_hold_1 : decode cX4_hold 1 = .ok (.getfield 29, 3) := by decide +kernel
theorem dX4_hold_4 : decode cX4_hold 4 = .ok (.aload_n 0, 1) := by decide +kernel
theorem dX4_hold_5 : decode cX4_hold 5 = .ok (.getfield 54, 3) := by decide +kernel
theorem dX4_hold_8 : decode cX4_hold 8 = .ok (.iload_n 1, 1) := by decide +kernel
theorem dX4_hold_9 : decode cX4_hold 9 = .ok (.iastore, 1) := by decide +kernel
theorem dX4_hold_10 : decode cX4_hold 10 = .ok (.iconst 0, 1) := by decide +kernel
theorem dX4_hold_11 : decode cX4_hold 11 = .ok (.istore 4, 2) := by decide +kernel
theorem dX4_hold_13 : decode cX4_hold 13 = .ok (.iload 4, 2) := by decide +kernel
theorem dX4_hold_15 : decode cX4_hold 15 = .ok (.bipush 16, 2) := by decide +kernel
theorem dX4_hold_17 : decode cX4_hold 17 = .ok (.if_icmp .ge 30, 3) := by decide +kernel
theorem dX4_hold_20 : decode cX4_hold 20 = .ok (.aload_n 0, 1) := by decide +kernel
theorem dX4_hold_21 : decode cX4_hold 21 = .ok (.getfield 32, 3) := by decide +kernel
theorem dX4_hold_24 : decode cX4_hold 24 = .ok (.bipush 16, 2) := by decide +kernel
theorem dX4_hold_26 : decode cX4_hold 26 = .ok (.aload_n 0, 1) := by decide +kernel
theorem dX4_hold_27 : decode cX4_hold 27 = .ok (.getfield 54, 3) := by decide +kernel
theorem dX4_hold_30 : decode cX4_hold 30 = .ok (.imul, 1) := by decide +kernel
theorem dX4_hold_31 : decode cX4_hold 31 = .ok (.iload 4, 2) := by decide +kernel
theorem dX4_hold_33 : decode cX4_hold 33 = .ok (.iadd, 1) := by decide +kernel
theorem dX4_hold_34 : decode cX4_hold 34 = .ok (.aload_n 2, 1) := by decide +kernel
theorem dX4_hold_35 : decode cX4_hold 35 = .ok (.iload_n 3, 1) := by decide +kernel
theorem dX4_hold_36 : decode cX4_hold 36 = .ok (.iload 4, 2) := by decide +kernel
theorem dX4_hold_38 : decode cX4_hold 38 = .ok (.iadd, 1) := by decide +kernel
theorem dX4_hold_39 : decode cX4_hold 39 = .ok (.iaload, 1) := by decide +kernel
theorem dX4_hold_40 : decode cX4_hold 40 = .ok (.iastore, 1) := by decide +kernel
theorem dX4_hold_41 : decode cX4_hold 41 = .ok (.iinc 4 1, 3) := by decide +kernel
theorem dX4_hold_44 : decode cX4_hold 44 = .ok (.goto (-31), 3) := by decide +kernel
theorem dX4_hold_47 : decode cX4_hold 47 = .ok (.aload_n 0, 1) := by decide +kernel
theorem dX4_hold_48 : decode cX4_hold 48 = .ok (.dup, 1) := by decide +kernel
theorem dX4_hold_49 : decode cX4_hold 49 = .ok (.getfield 54, 3) := by decide +kernel
theorem dX4_hold_52 : decode cX4_hold 52 = .ok (.iconst 1, 1) := by decide +kernel
theorem dX4_hold_53 : decode cX4_hold 53 = .ok (.iadd, 1) := by decide +kernel
theorem dX4_hold_54 : decode cX4_hold 54 = .ok (.putfield 54, 3) := by decide +kernel
theorem dX4_hold_57 : decode cX4_hold 57 = .ok (.return_, 1) := by decide +kernel
abbrev zm_X4_hold : zg_M := (RX4, cX4_hold, 5, none, [])
theorem dX4_writes_0 : decode cX4_writes 0 = .ok (.iconst 0, 1) := by decide +kernel
theorem dX4_writes_1 : decode cX4_writes 1 = .ok (.istore_n 2, 1) := by decide +kernel
theorem dX4_writes_2 : decode cX4_writes 2 = .ok (.iload_n 2, 1) := by decide +kernel
theorem dX4_writes_3 : decode cX4_writes 3 = .ok (.bipush 16, 2) := by decide +kernel
theorem dX4_writes_5 : decode cX4_writes 5 = .ok (.if_icmp .ge 36, 3) := by decide +kernel
theorem dX4_writes_8 : decode cX4_writes 8 = .ok (.aload_n 0, 1) := by decide +kernel
theorem dX4_writes_9 : decode cX4_writes 9 = .ok (.getfield 7, 3) := by decide +kernel
theorem dX4_writes_12 : decode cX4_writes 12 = .ok (.bipush 16, 2) := by decide +kernel
theorem dX4_writes_14 : decode cX4_writes 14 = .ok (.aload_n 0, 1) := by decide +kernel
theorem dX4_writes_15 : decode cX4_writes 15 = .ok (.getfield 29, 3) := by decide +kernel
theorem dX4_writes_18 : decode cX4_writes 18 = .ok (.iload_n 1, 1) := by decide +kernel
theorem dX4_writes_19 : decode cX4_writes 19 = .ok (.iaload, 1) := by decide +kernel
theorem dX4_writes_20 : decode cX4_writes 20 = .ok (.imul, 1) := by decide +kernel
theorem dX4_writes_21 : decode cX4_writes 21 = .ok (.iload_n 2, 1) := by decide +kernel
theorem dX4_writes_22 : decode cX4_writes 22 = .ok (.iadd, 1) := by decide +kernel
theorem dX4_writes_23 : decode cX4_writes 23 = .ok (.aload_n 0, 1) := by decide +kernel
theorem dX4_writes_24 : decode cX4_writes 24 = .ok (.getfield 32, 3) := by decide +kernel
theorem dX4_writes_27 : decode cX4_writes 27 = .ok (.bipush 16, 2) := by decide +kernel
theorem dX4_writes_29 : decode cX4_writes 29 = .ok (.iload_n 1, 1) := by decide +kernel
theorem dX4_writes_30 : decode cX4_writes 30 = .ok (.imul, 1) := by decide +kernel
theorem dX4_writes_31 : decode cX4_writes 31 = .ok (.iload_n 2, 1) := by decide +kernel
theorem dX4_writes_32 : decode cX4_writes 32 = .ok (.iadd, 1) := by decide +kernel
theorem dX4_writes_33 : decode cX4_writes 33 = .ok (.iaload, 1) := by decide +kernel
theorem dX4_writes_34 : decode cX4_writes 34 = .ok (.iastore, 1) := by decide +kernel
theorem dX4_writes_35 : decode cX4_writes 35 = .ok (.iinc 2 1, 3) := by decide +kernel
theorem dX4_writes_38 : decode cX4_writes 38 = .ok (.goto (-36), 3) := by decide +kernel
theorem dX4_writes_41 : decode cX4_writes 41 = .ok (.return_, 1) := by decide +kernel
abbrev zm_X4_writes : zg_M := (RX4, cX4_writes, 3, none, [])
theorem dX4_flushed_0 : decode cX4_flushed 0 = .ok (.aload_n 0, 1) := by decide +kernel
theorem dX4_flushed_1 : decode cX4_flushed 1 = .ok (.getfield 54, 3) := by decide +kernel
theorem dX4_flushed_4 : decode cX4_flushed 4 = .ok (.istore_n 1, 1) := by decide +kernel
theorem dX4_flushed_5 : decode cX4_flushed 5 = .ok (.iconst 0, 1) := by decide +kernel
theorem dX4_flushed_6 : decode cX4_flushed 6 = .ok (.istore_n 2, 1) := by decide +kernel
theorem dX4_flushed_7 : decode cX4_flushed 7 = .ok (.iload_n 2, 1) := by decide +kernel
theorem dX4_flushed_8 : decode cX4_flushed 8 = .ok (.iload_n 1, 1) := by decide +kernel
theorem dX4_flushed_9 : decode cX4_flushed 9 = .ok (.if_icmp .ge 14, 3) := by decide +kernel
theorem dX4_flushed_12 : decode cX4_flushed 12 = .ok (.aload_n 0, 1) := by decide +kernel
theorem dX4_flushed_13 : decode cX4_flushed 13 = .ok (.iload_n 2, 1) := by decide +kernel
theorem dX4_flushed_14 : decode cX4_flushed 14 = .ok (.invokevirtual 90, 3) := by decide +kernel
theorem dX4_flushed_17 : decode cX4_flushed 17 = .ok (.iinc 2 1, 3) := by decide +kernel
theorem dX4_flushed_20 : decode cX4_flushed 20 = .ok (.goto (-13), 3) := by decide +kernel
theorem dX4_flushed_23 : decode cX4_flushed 23 = .ok (.aload_n 0, 1) := by decide +kernel
theorem dX4_flushed_24 : decode cX4_flushed 24 = .ok (.iconst 0, 1) := by decide +kernel
theorem dX4_flushed_25 : decode cX4_flushed 25 = .ok (.putfield 54, 3) := by decide +kernel
theorem dX4_flushed_28 : decode cX4_flushed 28 = .ok (.aload_n 0, 1) := by decide +kernel
theorem dX4_flushed_29 : decode cX4_flushed 29 = .ok (.getfield 57, 3) := by decide +kernel
theorem dX4_flushed_32 : decode cX4_flushed 32 = .ok (.ifCond .eq 7, 3) := by decide +kernel
theorem dX4_flushed_35 : decode cX4_flushed 35 = .ok (.aload_n 0, 1) := by decide +kernel
theorem dX4_flushed_36 : decode cX4_flushed 36 = .ok (.invokevirtual 77, 3) := by decide +kernel
theorem dX4_flushed_39 : decode cX4_flushed 39 = .ok (.iload_n 1, 1) := by decide +kernel
theorem dX4_flushed_40 : decode cX4_flushed 40 = .ok (.ireturn, 1) := by decide +kernel
abbrev zm_X4_flushed : zg_M := (RX4, cX4_flushed, 3, (some .int), [])
theorem dX4_byteAt_0 : decode cX4_byteAt 0 = .ok (.aload_n 0, 1) := by decide +kernel
theorem dX4_byteAt_1 : decode cX4_byteAt 1 = .ok (.getfield 61, 3) := by decide +kernel
theorem dX4_byteAt_4 : decode cX4_byteAt 4 = .ok (.ifCond .eq 28, 3) := by decide +kernel
theorem dX4_byteAt_7 : decode cX4_byteAt 7 = .ok (.iload_n 3, 1) := by decide +kernel
theorem dX4_byteAt_8 : decode cX4_byteAt 8 = .ok (.ifCond .ne 24, 3) := by decide +kernel
theorem dX4_byteAt_11 : decode cX4_byteAt 11 = .ok (.aload_n 0, 1) := by decide +kernel
theorem dX4_byteAt_12 : decode cX4_byteAt 12 = .ok (.getfield 19, 3) := by decide +kernel
theorem dX4_byteAt_15 : decode cX4_byteAt 15 = .ok (.iload_n 1, 1) := by decide +kernel
theorem dX4_byteAt_16 : decode cX4_byteAt 16 = .ok (.iaload, 1) := by decide +kernel
theorem dX4_byteAt_17 : decode cX4_byteAt 17 = .ok (.ifCond .le 15, 3) := by decide +kernel
theorem dX4_byteAt_20 : decode cX4_byteAt 20 = .ok (.aload_n 0, 1) := by decide +kernel
theorem dX4_byteAt_21 : decode cX4_byteAt 21 = .ok (.getfield 26, 3) := by decide +kernel
theorem dX4_byteAt_24 : decode cX4_byteAt 24 = .ok (.bipush 16, 2) := by decide +kernel
theorem dX4_byteAt_26 : decode cX4_byteAt 26 = .ok (.iload_n 1, 1) := by decide +kernel
theorem dX4_byteAt_27 : decode cX4_byteAt 27 = .ok (.imul, 1) := by decide +kernel
theorem dX4_byteAt_28 : decode cX4_byteAt 28 = .ok (.iload_n 2, 1) := by decide +kernel
theorem dX4_byteAt_29 : decode cX4_byteAt 29 = .ok (.iadd, 1) := by decide +kernel
theorem dX4_byteAt_30 : decode cX4_byteAt 30 = .ok (.iaload, 1) := by decide +kernel
theorem dX4_byteAt_31 : decode cX4_byteAt 31 = .ok (.ireturn, 1) := by decide +kernel
theorem dX4_byteAt_32 : decode cX4_byteAt 32 = .ok (.aload_n 0, 1) := by decide +kernel
theorem dX4_byteAt_33 : decode cX4_byteAt 33 = .ok (.getfield 13, 3) := by decide +kernel
theorem dX4_byteAt_36 : decode cX4_byteAt 36 = .ok (.iload_n 1, 1) := by decide +kernel
theorem dX4_byteAt_37 : decode cX4_byteAt 37 = .ok (.iaload, 1) := by decide +kernel
theorem dX4_byteAt_38 : decode cX4_byteAt 38 = .ok (.ifCond .ne 7, 3) := by decide +kernel
theorem dX4_byteAt_41 : decode cX4_byteAt 41 = .ok (.iconst 0, 1) := by decide +kernel
theorem dX4_byteAt_42 : decode cX4_byteAt 42 = .ok (.goto 19, 3) := by decide +kernel
theorem dX4_byteAt_45 : decode cX4_byteAt 45 = .ok (.aload_n 0, 1) := by decide +kernel
theorem dX4_byteAt_46 : decode cX4_byteAt 46 = .ok (.getfield 7, 3) := by decide +kernel
theorem dX4_byteAt_49 : decode cX4_byteAt 49 = .ok (.bipush 16, 2) := by decide +kernel
theorem dX4_byteAt_51 : decode cX4_byteAt 51 = .ok (.aload_n 0, 1) := by decide +kernel
theorem dX4_byteAt_52 : decode cX4_byteAt 52 = .ok (.getfield 13, 3) := by decide +kernel
theorem dX4_byteAt_55 : decode cX4_byteAt 55 = .ok (.iload_n 1, 1) := by decide +kernel
theorem dX4_byteAt_56 : decode cX4_byteAt 56 = .ok (.iaload, 1) := by decide +kernel
theorem dX4_byteAt_57 : decode cX4_byteAt 57 = .ok (.imul, 1) := by decide +kernel
theorem dX4_byteAt_58 : decode cX4_byteAt 58 = .ok (.iload_n 2, 1) := by decide +kernel
theorem dX4_byteAt_59 : decode cX4_byteAt 59 = .ok (.iadd, 1) := by decide +kernel
theorem dX4_byteAt_60 : decode cX4_byteAt 60 = .ok (.iaload, 1) := by decide +kernel
theorem dX4_byteAt_61 : decode cX4_byteAt 61 = .ok (.ireturn, 1) := by decide +kernel
abbrev zm_X4_byteAt : zg_M := (RX4, cX4_byteAt, 4, (some .int), [])
theorem dX4_changes_0 : decode cX4_changes 0 = .ok (.aload_n 0, 1) := by decide +kernel
theorem dX4_changes_1 : decode cX4_changes 1 = .ok (.getfield 61, 3) := by decide +kernel
theorem dX4_changes_4 : decode cX4_changes 4 = .ok (.ifCond .eq 21, 3) := by decide +kernel
theorem dX4_changes_7 : decode cX4_changes 7 = .ok (.aload_n 0, 1) := by decide +kernel
theorem dX4_changes_8 : decode cX4_changes 8 = .ok (.getfield 19, 3) := by decide +kernel
theorem dX4_changes_11 : decode cX4_changes 11 = .ok (.iload_n 1, 1) := by decide +kernel
theorem dX4_changes_12 : decode cX4_changes 12 = .ok (.iaload, 1) := by decide +kernel
theorem dX4_changes_13 : decode cX4_changes 13 = .ok (.ifCond .le 12, 3) := by decide +kernel
theorem dX4_changes_16 : decode cX4_changes 16 = .ok (.aload_n 0, 1) := by decide +kernel
theorem dX4_changes_17 : decode cX4_changes 17 = .ok (.getfield 22, 3) := by decide +kernel
theorem dX4_changes_20 : decode cX4_changes 20 = .ok (.iload_n 1, 1) := by decide +kernel
theorem dX4_changes_21 : decode cX4_changes 21 = .ok (.iconst 0, 1) := by decide +kernel
theorem dX4_changes_22 : decode cX4_changes 22 = .ok (.bastore, 1) := by decide +kernel
theorem dX4_changes_23 : decode cX4_changes 23 = .ok (.iconst 1, 1) := by decide +kernel
theorem dX4_changes_24 : decode cX4_changes 24 = .ok (.ireturn, 1) := by decide +kernel
theorem dX4_changes_25 : decode cX4_changes 25 = .ok (.aload_n 0, 1) := by decide +kernel
theorem dX4_changes_26 : decode cX4_changes 26 = .ok (.invokevirtual 94, 3) := by decide +kernel
theorem dX4_changes_29 : decode cX4_changes 29 = .ok (.istore_n 2, 1) := by decide +kernel
theorem dX4_changes_30 : decode cX4_changes 30 = .ok (.iload_n 2, 1) := by decide +kernel
theorem dX4_changes_31 : decode cX4_changes 31 = .ok (.iconst (-1), 1) := by decide +kernel
theorem dX4_changes_32 : decode cX4_changes 32 = .ok (.if_icmp .ne 5, 3) := by decide +kernel
theorem dX4_changes_35 : decode cX4_changes 35 = .ok (.iconst 0, 1) := by decide +kernel
theorem dX4_changes_36 : decode cX4_changes 36 = .ok (.ireturn, 1) := by decide +kernel
theorem dX4_changes_37 : decode cX4_changes 37 = .ok (.aload_n 0, 1) := by decide +kernel
theorem dX4_changes_38 : decode cX4_changes 38 = .ok (.getfield 61, 3) := by decide +kernel
theorem dX4_changes_41 : decode cX4_changes 41 = .ok (.ifCond .ne 29, 3) := by decide +kernel
theorem dX4_changes_44 : decode cX4_changes 44 = .ok (.iconst 0, 1) := by decide +kernel
theorem dX4_changes_45 : decode cX4_changes 45 = .ok (.istore_n 3, 1) := by decide +kernel
theorem dX4_changes_46 : decode cX4_changes 46 = .ok (.iload_n 3, 1) := by decide +kernel
theorem dX4_changes_47 : decode cX4_changes 47 = .ok (.bipush 16, 2) := by decide +kernel
theorem dX4_changes_49 : decode cX4_changes 49 = .ok (.if_icmp .ge 16, 3) := by decide +kernel
theorem dX4_changes_52 : decode cX4_changes 52 = .ok (.aload_n 0, 1) := by decide +kernel
theorem dX4_changes_53 : decode cX4_changes 53 = .ok (.getfield 19, 3) := by decide +kernel
theorem dX4_changes_56 : decode cX4_changes 56 = .ok (.iload_n 3, 1) := by decide +kernel
theorem dX4_changes_57 : decode cX4_changes 57 = .ok (.iconst 0, 1) := by decide +kernel
theorem dX4_changes_58 : decode cX4_changes 58 = .ok (.iastore, 1) := by decide +kernel
theorem dX4_changes_59 : decode cX4_changes 59 = .ok (.iinc 3 1, 3) := by decide +kernel
theorem dX4_changes_62 : decode cX4_changes 62 = .ok (.goto (-16), 3) := by decide +kernel
theorem dX4_changes_65 : decode cX4_changes 65 = .ok (.aload_n 0, 1) := by decide +kernel
theorem dX4_changes_66 : decode cX4_changes 66 = .ok (.iconst 1, 1) := by decide +kernel
theorem dX4_changes_67 : decode cX4_changes 67 = .ok (.putfield 61, 3) := by decide +kernel
theorem dX4_changes_70 : decode cX4_changes 70 = .ok (.iconst 0, 1) := by decide +kernel
theorem dX4_changes_71 : decode cX4_changes 71 = .ok (.istore_n 3, 1) := by decide +kernel
theorem dX4_changes_72 : decode cX4_changes 72 = .ok (.iload_n 3, 1) := by decide +kernel
theorem dX4_changes_73 : decode cX4_changes 73 = .ok (.bipush 16, 2) := by decide +kernel
theorem dX4_changes_75 : decode cX4_changes 75 = .ok (.if_icmp .ge 27, 3) := by decide +kernel
theorem dX4_changes_78 : decode cX4_changes 78 = .ok (.aload_n 0, 1) := by decide +kernel
theorem dX4_changes_79 : decode cX4_changes 79 = .ok (.getfield 26, 3) := by decide +kernel
theorem dX4_changes_82 : decode cX4_changes 82 = .ok (.bipush 16, 2) := by decide +kernel
theorem dX4_changes_84 : decode cX4_changes 84 = .ok (.iload_n 1, 1) := by decide +kernel
theorem dX4_changes_85 : decode cX4_changes 85 = .ok (.imul, 1) := by decide +kernel
theorem dX4_changes_86 : decode cX4_changes 86 = .ok (.iload_n 3, 1) := by decide +kernel
theorem dX4_changes_87 : decode cX4_changes 87 = .ok (.iadd, 1) := by decide +kernel
theorem dX4_changes_88 : decode cX4_changes 88 = .ok (.aload_n 0, 1) := by decide +kernel
theorem dX4_changes_89 : decode cX4_changes 89 = .ok (.iload_n 1, 1) := by decide +kernel
theorem dX4_changes_90 : decode cX4_changes 90 = .ok (.iload_n 3, 1) := by decide +kernel
theorem dX4_changes_91 : decode cX4_changes 91 = .ok (.iconst 1, 1) := by decide +kernel
theorem dX4_changes_92 : decode cX4_changes 92 = .ok (.invokevirtual 98, 3) := by decide +kernel
theorem dX4_changes_95 : decode cX4_changes 95 = .ok (.iastore, 1) := by decide +kernel
theorem dX4_changes_96 : decode cX4_changes 96 = .ok (.iinc 3 1, 3) := by decide +kernel
theorem dX4_changes_99 : decode cX4_changes 99 = .ok (.goto (-27), 3) := by decide +kernel
theorem dX4_changes_102 : decode cX4_changes 102 = .ok (.aload_n 0, 1) := by decide +kernel
theorem dX4_changes_103 : decode cX4_changes 103 = .ok (.getfield 19, 3) := by decide +kernel
theorem dX4_changes_106 : decode cX4_changes 106 = .ok (.iload_n 1, 1) := by decide +kernel
theorem dX4_changes_107 : decode cX4_changes 107 = .ok (.iload_n 2, 1) := by decide +kernel
theorem dX4_changes_108 : decode cX4_changes 108 = .ok (.iastore, 1) := by decide +kernel
theorem dX4_changes_109 : decode cX4_changes 109 = .ok (.aload_n 0, 1) := by decide +kernel
theorem dX4_changes_110 : decode cX4_changes 110 = .ok (.getfield 22, 3) := by decide +kernel
theorem dX4_changes_113 : decode cX4_changes 113 = .ok (.iload_n 1, 1) := by decide +kernel
theorem dX4_changes_114 : decode cX4_changes 114 = .ok (.iconst 0, 1) := by decide +kernel
theorem dX4_changes_115 : decode cX4_changes 115 = .ok (.bastore, 1) := by decide +kernel
theorem dX4_changes_116 : decode cX4_changes 116 = .ok (.iconst 1, 1) := by decide +kernel
theorem dX4_changes_117 : decode cX4_changes 117 = .ok (.ireturn, 1) := by decide +kernel
abbrev zm_X4_changes : zg_M := (RX4, cX4_changes, 4, (some .boolean), [])
theorem dX4_changed_0 : decode cX4_changed 0 = .ok (.iconst 0, 1) := by decide +kernel
theorem dX4_changed_1 : decode cX4_changed 1 = .ok (.istore_n 1, 1) := by decide +kernel
theorem dX4_changed_2 : decode cX4_changed 2 = .ok (.iconst 0, 1) := by decide +kernel
theorem dX4_changed_3 : decode cX4_changed 3 = .ok (.istore_n 2, 1) := by decide +kernel
theorem dX4_changed_4 : decode cX4_changed 4 = .ok (.iload_n 2, 1) := by decide +kernel
theorem dX4_changed_5 : decode cX4_changed 5 = .ok (.bipush 16, 2) := by decide +kernel
theorem dX4_changed_7 : decode cX4_changed 7 = .ok (.if_icmp .ge 26, 3) := by decide +kernel
theorem dX4_changed_10 : decode cX4_changed 10 = .ok (.iload_n 1, 1) := by decide +kernel
theorem dX4_changed_11 : decode cX4_changed 11 = .ok (.aload_n 0, 1) := by decide +kernel
theorem dX4_changed_12 : decode cX4_changed 12 = .ok (.getfield 19, 3) := by decide +kernel
theorem dX4_changed_15 : decode cX4_changed 15 = .ok (.iload_n 2, 1) := by decide +kernel
theorem dX4_changed_16 : decode cX4_changed 16 = .ok (.iaload, 1) := by decide +kernel
theorem dX4_changed_17 : decode cX4_changed 17 = .ok (.ifCond .le 7, 3) := by decide +kernel
theorem dX4_changed_20 : decode cX4_changed 20 = .ok (.iconst 1, 1) := by decide +kernel
theorem dX4_changed_21 : decode cX4_changed 21 = .ok (.goto 4, 3) := by decide +kernel
theorem dX4_changed_24 : decode cX4_changed 24 = .ok (.iconst 0, 1) := by decide +kernel
theorem dX4_changed_25 : decode cX4_changed 25 = .ok (.iadd, 1) := by decide +kernel
theorem dX4_changed_26 : decode cX4_changed 26 = .ok (.istore_n 1, 1) := by decide +kernel
theorem dX4_changed_27 : decode cX4_changed 27 = .ok (.iinc 2 1, 3) := by decide +kernel
theorem dX4_changed_30 : decode cX4_changed 30 = .ok (.goto (-26), 3) := by decide +kernel
theorem dX4_changed_33 : decode cX4_changed 33 = .ok (.iload_n 1, 1) := by decide +kernel
theorem dX4_changed_34 : decode cX4_changed 34 = .ok (.ireturn, 1) := by decide +kernel
abbrev zm_X4_changed : zg_M := (RX4, cX4_changed, 3, (some .int), [])
theorem dX4_format_0 : decode cX4_format 0 = .ok (.aload_n 0, 1) := by decide +kernel
theorem dX4_format_1 : decode cX4_format 1 = .ok (.iconst 0, 1) := by decide +kernel
theorem dX4_format_2 : decode cX4_format 2 = .ok (.putfield 38, 3) := by decide +kernel
theorem dX4_format_5 : decode cX4_format 5 = .ok (.aload_n 0, 1) := by decide +kernel
theorem dX4_format_6 : decode cX4_format 6 = .ok (.invokevirtual 35, 3) := by decide +kernel
theorem dX4_format_9 : decode cX4_format 9 = .ok (.return_, 1) := by decide +kernel
abbrev zm_X4_format : zg_M := (RX4, cX4_format, 1, none, [])
theorem dX4_write_0 : decode cX4_write 0 = .ok (.aload_n 0, 1) := by decide +kernel
theorem dX4_write_1 : decode cX4_write 1 = .ok (.iload_n 1, 1) := by decide +kernel
theorem dX4_write_2 : decode cX4_write 2 = .ok (.iconst 0, 1) := by decide +kernel
theorem dX4_write_3 : decode cX4_write 3 = .ok (.bipush 15, 2) := by decide +kernel
theorem dX4_write_5 : decode cX4_write 5 = .ok (.invokestatic 67, 3) := by decide +kernel
theorem dX4_write_8 : decode cX4_write 8 = .ok (.ifCond .eq 24, 3) := by decide +kernel
theorem dX4_write_11 : decode cX4_write 11 = .ok (.iload_n 2, 1) := by decide +kernel
theorem dX4_write_12 : decode cX4_write 12 = .ok (.iconst 0, 1) := by decide +kernel
theorem dX4_write_13 : decode cX4_write 13 = .ok (.bipush 15, 2) := by decide +kernel
theorem dX4_write_15 : decode cX4_write 15 = .ok (.invokestatic 67, 3) := by decide +kernel
theorem dX4_write_18 : decode cX4_write 18 = .ok (.ifCond .eq 14, 3) := by decide +kernel
theorem dX4_write_21 : decode cX4_write 21 = .ok (.iload_n 3, 1) := by decide +kernel
theorem dX4_write_22 : decode cX4_write 22 = .ok (.iconst 0, 1) := by decide +kernel
theorem dX4_write_23 : decode cX4_write 23 = .ok (.sipush 255, 3) := by decide +kernel
theorem dX4_write_26 : decode cX4_write 26 = .ok (.invokestatic 67, 3) := by decide +kernel
theorem dX4_write_29 : decode cX4_write 29 = .ok (.ifCond .ne 7, 3) := by decide +kernel
theorem dX4_write_32 : decode cX4_write 32 = .ok (.iconst 1, 1) := by decide +kernel
theorem dX4_write_33 : decode cX4_write 33 = .ok (.goto 4, 3) := by decide +kernel
theorem dX4_write_36 : decode cX4_write 36 = .ok (.iconst 0, 1) := by decide +kernel
theorem dX4_write_37 : decode cX4_write 37 = .ok (.iconst 1, 1) := by decide +kernel
theorem dX4_write_38 : decode cX4_write 38 = .ok (.invokevirtual 102, 3) := by decide +kernel
theorem dX4_write_41 : decode cX4_write 41 = .ok (.ifCond .ne 31, 3) := by decide +kernel
theorem dX4_write_44 : decode cX4_write 44 = .ok (.aload_n 0, 1) := by decide +kernel
theorem dX4_write_45 : decode cX4_write 45 = .ok (.aload_n 0, 1) := by decide +kernel
theorem dX4_write_46 : decode cX4_write 46 = .ok (.getfield 64, 3) := by decide +kernel
theorem dX4_write_49 : decode cX4_write 49 = .ok (.ifCond .ne 11, 3) := by decide +kernel
theorem dX4_write_52 : decode cX4_write 52 = .ok (.aload_n 0, 1) := by decide +kernel
theorem dX4_write_53 : decode cX4_write 53 = .ok (.iload_n 1, 1) := by decide +kernel
theorem dX4_write_54 : decode cX4_write 54 = .ok (.invokevirtual 106, 3) := by decide +kernel
theorem dX4_write_57 : decode cX4_write 57 = .ok (.ifCond .ne 7, 3) := by decide +kernel
theorem dX4_write_60 : decode cX4_write 60 = .ok (.iconst 1, 1) := by decide +kernel
theorem dX4_write_61 : decode cX4_write 61 = .ok (.goto 4, 3) := by decide +kernel
theorem dX4_write_64 : decode cX4_write 64 = .ok (.iconst 0, 1) := by decide +kernel
theorem dX4_write_65 : decode cX4_write 65 = .ok (.iconst 2, 1) := by decide +kernel
theorem dX4_write_66 : decode cX4_write 66 = .ok (.invokevirtual 102, 3) := by decide +kernel
theorem dX4_write_69 : decode cX4_write 69 = .ok (.ifCond .eq 5, 3) := by decide +kernel
theorem dX4_write_72 : decode cX4_write 72 = .ok (.iconst 0, 1) := by decide +kernel
theorem dX4_write_73 : decode cX4_write 73 = .ok (.ireturn, 1) := by decide +kernel
theorem dX4_write_74 : decode cX4_write 74 = .ok (.aload_n 0, 1) := by decide +kernel
theorem dX4_write_75 : decode cX4_write 75 = .ok (.getfield 26, 3) := by decide +kernel
theorem dX4_write_78 : decode cX4_write 78 = .ok (.bipush 16, 2) := by decide +kernel
theorem dX4_write_80 : decode cX4_write 80 = .ok (.iload_n 1, 1) := by decide +kernel
theorem dX4_write_81 : decode cX4_write 81 = .ok (.imul, 1) := by decide +kernel
theorem dX4_write_82 : decode cX4_write 82 = .ok (.iload_n 2, 1) := by decide +kernel
theorem dX4_write_83 : decode cX4_write 83 = .ok (.iadd, 1) := by decide +kernel
theorem dX4_write_84 : decode cX4_write 84 = .ok (.iaload, 1) := by decide +kernel
theorem dX4_write_85 : decode cX4_write 85 = .ok (.istore 4, 2) := by decide +kernel
theorem dX4_write_87 : decode cX4_write 87 = .ok (.aload_n 0, 1) := by decide +kernel
theorem dX4_write_88 : decode cX4_write 88 = .ok (.getfield 26, 3) := by decide +kernel
theorem dX4_write_91 : decode cX4_write 91 = .ok (.bipush 16, 2) := by decide +kernel
theorem dX4_write_93 : decode cX4_write 93 = .ok (.iload_n 1, 1) := by decide +kernel
theorem dX4_write_94 : decode cX4_write 94 = .ok (.imul, 1) := by decide +kernel
theorem dX4_write_95 : decode cX4_write 95 = .ok (.iload_n 2, 1) := by decide +kernel
theorem dX4_write_96 : decode cX4_write 96 = .ok (.iadd, 1) := by decide +kernel
theorem dX4_write_97 : decode cX4_write 97 = .ok (.iload_n 3, 1) := by decide +kernel
theorem dX4_write_98 : decode cX4_write 98 = .ok (.iastore, 1) := by decide +kernel
theorem dX4_write_99 : decode cX4_write 99 = .ok (.iload 4, 2) := by decide +kernel
theorem dX4_write_101 : decode cX4_write 101 = .ok (.ireturn, 1) := by decide +kernel
abbrev zm_X4_write : zg_M := (RX4, cX4_write, 5, (some .int), [])
theorem dX4_fill_0 : decode cX4_fill 0 = .ok (.aload_n 0, 1) := by decide +kernel
theorem dX4_fill_1 : decode cX4_fill 1 = .ok (.iload_n 1, 1) := by decide +kernel
theorem dX4_fill_2 : decode cX4_fill 2 = .ok (.iconst 0, 1) := by decide +kernel
theorem dX4_fill_3 : decode cX4_fill 3 = .ok (.bipush 15, 2) := by decide +kernel
theorem dX4_fill_5 : decode cX4_fill 5 = .ok (.invokestatic 67, 3) := by decide +kernel
theorem dX4_fill_8 : decode cX4_fill 8 = .ok (.ifCond .ne 7, 3) := by decide +kernel
theorem dX4_fill_11 : decode cX4_fill 11 = .ok (.iconst 1, 1) := by decide +kernel
theorem dX4_fill_12 : decode cX4_fill 12 = .ok (.goto 4, 3) := by decide +kernel
theorem dX4_fill_15 : decode cX4_fill 15 = .ok (.iconst 0, 1) := by decide +kernel
theorem dX4_fill_16 : decode cX4_fill 16 = .ok (.iconst 1, 1) := by decide +kernel
theorem dX4_fill_17 : decode cX4_fill 17 = .ok (.invokevirtual 102, 3) := by decide +kernel
theorem dX4_fill_20 : decode cX4_fill 20 = .ok (.ifCond .ne 31, 3) := by decide +kernel
theorem dX4_fill_23 : decode cX4_fill 23 = .ok (.aload_n 0, 1) := by decide +kernel
theorem dX4_fill_24 : decode cX4_fill 24 = .ok (.aload_n 0, 1) := by decide +kernel
theorem dX4_fill_25 : decode cX4_fill 25 = .ok (.getfield 64, 3) := by decide +kernel
theorem dX4_fill_28 : decode cX4_fill 28 = .ok (.ifCond .ne 11, 3) := by decide +kernel
theorem dX4_fill_31 : decode cX4_fill 31 = .ok (.aload_n 0, 1) := by decide +kernel
theorem dX4_fill_32 : decode cX4_fill 32 = .ok (.iload_n 1, 1) := by decide +kernel
theorem dX4_fill_33 : decode cX4_fill 33 = .ok (.invokevirtual 106, 3) := by decide +kernel
theorem dX4_fill_36 : decode cX4_fill 36 = .ok (.ifCond .ne 7, 3) := by decide +kernel
theorem dX4_fill_39 : decode cX4_fill 39 = .ok (.iconst 1, 1) := by decide +kernel
theorem dX4_fill_40 : decode cX4_fill 40 = .ok (.goto 4, 3) := by decide +kernel
theorem dX4_fill_43 : decode cX4_fill 43 = .ok (.iconst 0, 1) := by decide +kernel
theorem dX4_fill_44 : decode cX4_fill 44 = .ok (.iconst 2, 1) := by decide +kernel
theorem dX4_fill_45 : decode cX4_fill 45 = .ok (.invokevirtual 102, 3) := by decide +kernel
theorem dX4_fill_48 : decode cX4_fill 48 = .ok (.ifCond .eq 5, 3) := by decide +kernel
theorem dX4_fill_51 : decode cX4_fill 51 = .ok (.iconst 0, 1) := by decide +kernel
theorem dX4_fill_52 : decode cX4_fill 52 = .ok (.ireturn, 1) := by decide +kernel
theorem dX4_fill_53 : decode cX4_fill 53 = .ok (.iconst 0, 1) := by decide +kernel
theorem dX4_fill_54 : decode cX4_fill 54 = .ok (.istore 6, 2) := by decide +kernel
theorem dX4_fill_56 : decode cX4_fill 56 = .ok (.iload 6, 2) := by decide +kernel
theorem dX4_fill_58 : decode cX4_fill 58 = .ok (.bipush 16, 2) := by decide +kernel
theorem dX4_fill_60 : decode cX4_fill 60 = .ok (.if_icmp .ge 48, 3) := by decide +kernel
theorem dX4_fill_63 : decode cX4_fill 63 = .ok (.aload_n 0, 1) := by decide +kernel
theorem dX4_fill_64 : decode cX4_fill 64 = .ok (.getfield 26, 3) := by decide +kernel
theorem dX4_fill_67 : decode cX4_fill 67 = .ok (.bipush 16, 2) := by decide +kernel
theorem dX4_fill_69 : decode cX4_fill 69 = .ok (.iload_n 1, 1) := by decide +kernel
theorem dX4_fill_70 : decode cX4_fill 70 = .ok (.imul, 1) := by decide +kernel
theorem dX4_fill_71 : decode cX4_fill 71 = .ok (.iload 6, 2) := by decide +kernel
theorem dX4_fill_73 : decode cX4_fill 73 = .ok (.iadd, 1) := by decide +kernel
theorem dX4_fill_74 : decode cX4_fill 74 = .ok (.iload 6, 2) := by decide +kernel
theorem dX4_fill_76 : decode cX4_fill 76 = .ok (.bipush 8, 2) := by decide +kernel
theorem dX4_fill_78 : decode cX4_fill 78 = .ok (.if_icmp .ge 7, 3) := by decide +kernel
theorem dX4_fill_81 : decode cX4_fill 81 = .ok (.lload_n 2, 1) := by decide +kernel
theorem dX4_fill_82 : decode cX4_fill 82 = .ok (.goto 5, 3) := by decide +kernel
theorem dX4_fill_85 : decode cX4_fill 85 = .ok (.lload 4, 2) := by decide +kernel
theorem dX4_fill_87 : decode cX4_fill 87 = .ok (.bipush 8, 2) := by decide +kernel
theorem dX4_fill_89 : decode cX4_fill 89 = .ok (.iload 6, 2) := by decide +kernel
theorem dX4_fill_91 : decode cX4_fill 91 = .ok (.bipush 8, 2) := by decide +kernel
theorem dX4_fill_93 : decode cX4_fill 93 = .ok (.irem, 1) := by decide +kernel
theorem dX4_fill_94 : decode cX4_fill 94 = .ok (.imul, 1) := by decide +kernel
theorem dX4_fill_95 : decode cX4_fill 95 = .ok (.lshr, 1) := by decide +kernel
theorem dX4_fill_96 : decode cX4_fill 96 = .ok (.ldc2_w 109, 3) := by decide +kernel
theorem dX4_fill_99 : decode cX4_fill 99 = .ok (.land, 1) := by decide +kernel
theorem dX4_fill_100 : decode cX4_fill 100 = .ok (.l2i, 1) := by decide +kernel
theorem dX4_fill_101 : decode cX4_fill 101 = .ok (.iastore, 1) := by decide +kernel
theorem dX4_fill_102 : decode cX4_fill 102 = .ok (.iinc 6 1, 3) := by decide +kernel
theorem dX4_fill_105 : decode cX4_fill 105 = .ok (.goto (-49), 3) := by decide +kernel
theorem dX4_fill_108 : decode cX4_fill 108 = .ok (.aload_n 0, 1) := by decide +kernel
theorem dX4_fill_109 : decode cX4_fill 109 = .ok (.invokevirtual 111, 3) := by decide +kernel
theorem dX4_fill_112 : decode cX4_fill 112 = .ok (.ireturn, 1) := by decide +kernel
abbrev zm_X4_fill : zg_M := (RX4, cX4_fill, 7, (some .int), [])
theorem dX4_read_0 : decode cX4_read 0 = .ok (.aload_n 0, 1) := by decide +kernel
theorem dX4_read_1 : decode cX4_read 1 = .ok (.iload_n 1, 1) := by decide +kernel
theorem dX4_read_2 : decode cX4_read 2 = .ok (.iconst 0, 1) := by decide +kernel
theorem dX4_read_3 : decode cX4_read 3 = .ok (.bipush 15, 2) := by decide +kernel
theorem dX4_read_5 : decode cX4_read 5 = .ok (.invokestatic 67, 3) := by decide +kernel
theorem dX4_read_8 : decode cX4_read 8 = .ok (.ifCond .eq 13, 3) := by decide +kernel
theorem dX4_read_11 : decode cX4_read 11 = .ok (.iload_n 2, 1) := by decide +kernel
theorem dX4_read_12 : decode cX4_read 12 = .ok (.iconst 0, 1) := by decide +kernel
theorem dX4_read_13 : decode cX4_read 13 = .ok (.bipush 15, 2) := by decide +kernel
theorem dX4_read_15 : decode cX4_read 15 = .ok (.invokestatic 67, 3) := by decide +kernel
theorem dX4_read_18 : decode cX4_read 18 = .ok (.ifCond .ne 7, 3) := by decide +kernel
theorem dX4_read_21 : decode cX4_read 21 = .ok (.iconst 1, 1) := by decide +kernel
theorem dX4_read_22 : decode cX4_read 22 = .ok (.goto 4, 3) := by decide +kernel
theorem dX4_read_25 : decode cX4_read 25 = .ok (.iconst 0, 1) := by decide +kernel
theorem dX4_read_26 : decode cX4_read 26 = .ok (.iconst 1, 1) := by decide +kernel
theorem dX4_read_27 : decode cX4_read 27 = .ok (.invokevirtual 102, 3) := by decide +kernel
theorem dX4_read_30 : decode cX4_read 30 = .ok (.ifCond .ne 15, 3) := by decide +kernel
theorem dX4_read_33 : decode cX4_read 33 = .ok (.aload_n 0, 1) := by decide +kernel
theorem dX4_read_34 : decode cX4_read 34 = .ok (.aload_n 0, 1) := by decide +kernel
theorem dX4_read_35 : decode cX4_read 35 = .ok (.getfield 64, 3) := by decide +kernel
theorem dX4_read_38 : decode cX4_read 38 = .ok (.iconst 2, 1) := by decide +kernel
theorem dX4_read_39 : decode cX4_read 39 = .ok (.invokevirtual 102, 3) := by decide +kernel
theorem dX4_read_42 : decode cX4_read 42 = .ok (.ifCond .eq 5, 3) := by decide +kernel
theorem dX4_read_45 : decode cX4_read 45 = .ok (.iconst 0, 1) := by decide +kernel
theorem dX4_read_46 : decode cX4_read 46 = .ok (.ireturn, 1) := by decide +kernel
theorem dX4_read_47 : decode cX4_read 47 = .ok (.aload_n 0, 1) := by decide +kernel
theorem dX4_read_48 : decode cX4_read 48 = .ok (.iload_n 1, 1) := by decide +kernel
theorem dX4_read_49 : decode cX4_read 49 = .ok (.iload_n 2, 1) := by decide +kernel
theorem dX4_read_50 : decode cX4_read 50 = .ok (.iload_n 3, 1) := by decide +kernel
theorem dX4_read_51 : decode cX4_read 51 = .ok (.invokevirtual 98, 3) := by decide +kernel
theorem dX4_read_54 : decode cX4_read 54 = .ok (.ireturn, 1) := by decide +kernel
abbrev zm_X4_read : zg_M := (RX4, cX4_read, 4, (some .int), [])
theorem dX4_spill_0 : decode cX4_spill 0 = .ok (.aload_n 0, 1) := by decide +kernel
theorem dX4_spill_1 : decode cX4_spill 1 = .ok (.iload_n 1, 1) := by decide +kernel
theorem dX4_spill_2 : decode cX4_spill 2 = .ok (.iconst 0, 1) := by decide +kernel
theorem dX4_spill_3 : decode cX4_spill 3 = .ok (.bipush 15, 2) := by decide +kernel
theorem dX4_spill_5 : decode cX4_spill 5 = .ok (.invokestatic 67, 3) := by decide +kernel
theorem dX4_spill_8 : decode cX4_spill 8 = .ok (.ifCond .eq 28, 3) := by decide +kernel
theorem dX4_spill_11 : decode cX4_spill 11 = .ok (.aload_n 0, 1) := by decide +kernel
theorem dX4_spill_12 : decode cX4_spill 12 = .ok (.getfield 61, 3) := by decide +kernel
theorem dX4_spill_15 : decode cX4_spill 15 = .ok (.ifCond .eq 21, 3) := by decide +kernel
theorem dX4_spill_18 : decode cX4_spill 18 = .ok (.aload_n 0, 1) := by decide +kernel
theorem dX4_spill_19 : decode cX4_spill 19 = .ok (.getfield 19, 3) := by decide +kernel
theorem dX4_spill_22 : decode cX4_spill 22 = .ok (.iload_n 1, 1) := by decide +kernel
theorem dX4_spill_23 : decode cX4_spill 23 = .ok (.iaload, 1) := by decide +kernel
theorem dX4_spill_24 : decode cX4_spill 24 = .ok (.ifCond .eq 12, 3) := by decide +kernel
theorem dX4_spill_27 : decode cX4_spill 27 = .ok (.aload_n 0, 1) := by decide +kernel
theorem dX4_spill_28 : decode cX4_spill 28 = .ok (.getfield 22, 3) := by decide +kernel
theorem dX4_spill_31 : decode cX4_spill 31 = .ok (.iload_n 1, 1) := by decide +kernel
theorem dX4_spill_32 : decode cX4_spill 32 = .ok (.baload, 1) := by decide +kernel
theorem dX4_spill_33 : decode cX4_spill 33 = .ok (.ifCond .eq 7, 3) := by decide +kernel
theorem dX4_spill_36 : decode cX4_spill 36 = .ok (.iconst 1, 1) := by decide +kernel
theorem dX4_spill_37 : decode cX4_spill 37 = .ok (.goto 4, 3) := by decide +kernel
theorem dX4_spill_40 : decode cX4_spill 40 = .ok (.iconst 0, 1) := by decide +kernel
theorem dX4_spill_41 : decode cX4_spill 41 = .ok (.iconst 1, 1) := by decide +kernel
theorem dX4_spill_42 : decode cX4_spill 42 = .ok (.invokevirtual 102, 3) := by decide +kernel
theorem dX4_spill_45 : decode cX4_spill 45 = .ok (.ifCond .ne 25, 3) := by decide +kernel
theorem dX4_spill_48 : decode cX4_spill 48 = .ok (.aload_n 0, 1) := by decide +kernel
theorem dX4_spill_49 : decode cX4_spill 49 = .ok (.aload_n 0, 1) := by decide +kernel
theorem dX4_spill_50 : decode cX4_spill 50 = .ok (.getfield 54, 3) := by decide +kernel
theorem dX4_spill_53 : decode cX4_spill 53 = .ok (.bipush 60, 2) := by decide +kernel
theorem dX4_spill_55 : decode cX4_spill 55 = .ok (.if_icmp .lt 7, 3) := by decide +kernel
theorem dX4_spill_58 : decode cX4_spill 58 = .ok (.iconst 1, 1) := by decide +kernel
theorem dX4_spill_59 : decode cX4_spill 59 = .ok (.goto 4, 3) := by decide +kernel
theorem dX4_spill_62 : decode cX4_spill 62 = .ok (.iconst 0, 1) := by decide +kernel
theorem dX4_spill_63 : decode cX4_spill 63 = .ok (.iconst 2, 1) := by decide +kernel
theorem dX4_spill_64 : decode cX4_spill 64 = .ok (.invokevirtual 102, 3) := by decide +kernel
theorem dX4_spill_67 : decode cX4_spill 67 = .ok (.ifCond .eq 5, 3) := by decide +kernel
theorem dX4_spill_70 : decode cX4_spill 70 = .ok (.iconst 0, 1) := by decide +kernel
theorem dX4_spill_71 : decode cX4_spill 71 = .ok (.ireturn, 1) := by decide +kernel
theorem dX4_spill_72 : decode cX4_spill 72 = .ok (.aload_n 0, 1) := by decide +kernel
theorem dX4_spill_73 : decode cX4_spill 73 = .ok (.aload_n 0, 1) := by decide +kernel
theorem dX4_spill_74 : decode cX4_spill 74 = .ok (.getfield 19, 3) := by decide +kernel
theorem dX4_spill_77 : decode cX4_spill 77 = .ok (.iload_n 1, 1) := by decide +kernel
theorem dX4_spill_78 : decode cX4_spill 78 = .ok (.iaload, 1) := by decide +kernel
theorem dX4_spill_79 : decode cX4_spill 79 = .ok (.aload_n 0, 1) := by decide +kernel
theorem dX4_spill_80 : decode cX4_spill 80 = .ok (.getfield 26, 3) := by decide +kernel
theorem dX4_spill_83 : decode cX4_spill 83 = .ok (.bipush 16, 2) := by decide +kernel
theorem dX4_spill_85 : decode cX4_spill 85 = .ok (.iload_n 1, 1) := by decide +kernel
theorem dX4_spill_86 : decode cX4_spill 86 = .ok (.imul, 1) := by decide +kernel
theorem dX4_spill_87 : decode cX4_spill 87 = .ok (.invokevirtual 114, 3) := by decide +kernel
theorem dX4_spill_90 : decode cX4_spill 90 = .ok (.aload_n 0, 1) := by decide +kernel
theorem dX4_spill_91 : decode cX4_spill 91 = .ok (.getfield 22, 3) := by decide +kernel
theorem dX4_spill_94 : decode cX4_spill 94 = .ok (.iload_n 1, 1) := by decide +kernel
theorem dX4_spill_95 : decode cX4_spill 95 = .ok (.iconst 1, 1) := by decide +kernel
theorem dX4_spill_96 : decode cX4_spill 96 = .ok (.bastore, 1) := by decide +kernel
theorem dX4_spill_97 : decode cX4_spill 97 = .ok (.aload_n 0, 1) := by decide +kernel
theorem dX4_spill_98 : decode cX4_spill 98 = .ok (.getfield 54, 3) := by decide +kernel
theorem dX4_spill_101 : decode cX4_spill 101 = .ok (.ireturn, 1) := by decide +kernel
abbrev zm_X4_spill : zg_M := (RX4, cX4_spill, 2, (some .int), [])
theorem dX4_commit_0 : decode cX4_commit 0 = .ok (.aload_n 0, 1) := by decide +kernel
theorem dX4_commit_1 : decode cX4_commit 1 = .ok (.aload_n 0, 1) := by decide +kernel
theorem dX4_commit_2 : decode cX4_commit 2 = .ok (.getfield 64, 3) := by decide +kernel
theorem dX4_commit_5 : decode cX4_commit 5 = .ok (.ifCond .ne 10, 3) := by decide +kernel
theorem dX4_commit_8 : decode cX4_commit 8 = .ok (.aload_n 0, 1) := by decide +kernel
theorem dX4_commit_9 : decode cX4_commit 9 = .ok (.getfield 61, 3) := by decide +kernel
theorem dX4_commit_12 : decode cX4_commit 12 = .ok (.ifCond .ne 7, 3) := by decide +kernel
theorem dX4_commit_15 : decode cX4_commit 15 = .ok (.iconst 1, 1) := by decide +kernel
theorem dX4_commit_16 : decode cX4_commit 16 = .ok (.goto 4, 3) := by decide +kernel
theorem dX4_commit_19 : decode cX4_commit 19 = .ok (.iconst 0, 1) := by decide +kernel
theorem dX4_commit_20 : decode cX4_commit 20 = .ok (.iconst 1, 1) := by decide +kernel
theorem dX4_commit_21 : decode cX4_commit 21 = .ok (.invokevirtual 102, 3) := by decide +kernel
theorem dX4_commit_24 : decode cX4_commit 24 = .ok (.ifCond .eq 5, 3) := by decide +kernel
theorem dX4_commit_27 : decode cX4_commit 27 = .ok (.iconst 0, 1) := by decide +kernel
theorem dX4_commit_28 : decode cX4_commit 28 = .ok (.ireturn, 1) := by decide +kernel
theorem dX4_commit_29 : decode cX4_commit 29 = .ok (.aload_n 0, 1) := by decide +kernel
theorem dX4_commit_30 : decode cX4_commit 30 = .ok (.invokevirtual 94, 3) := by decide +kernel
theorem dX4_commit_33 : decode cX4_commit 33 = .ok (.istore_n 2, 1) := by decide +kernel
theorem dX4_commit_34 : decode cX4_commit 34 = .ok (.aload_n 0, 1) := by decide +kernel
theorem dX4_commit_35 : decode cX4_commit 35 = .ok (.iload_n 2, 1) := by decide +kernel
theorem dX4_commit_36 : decode cX4_commit 36 = .ok (.iconst (-1), 1) := by decide +kernel
theorem dX4_commit_37 : decode cX4_commit 37 = .ok (.if_icmp .ne 7, 3) := by decide +kernel
theorem dX4_commit_40 : decode cX4_commit 40 = .ok (.iconst 1, 1) := by decide +kernel
theorem dX4_commit_41 : decode cX4_commit 41 = .ok (.goto 4, 3) := by decide +kernel
theorem dX4_commit_44 : decode cX4_commit 44 = .ok (.iconst 0, 1) := by decide +kernel
theorem dX4_commit_45 : decode cX4_commit 45 = .ok (.iconst 1, 1) := by decide +kernel
theorem dX4_commit_46 : decode cX4_commit 46 = .ok (.invokevirtual 102, 3) := by decide +kernel
theorem dX4_commit_49 : decode cX4_commit 49 = .ok (.ifCond .eq 5, 3) := by decide +kernel
theorem dX4_commit_52 : decode cX4_commit 52 = .ok (.iconst 0, 1) := by decide +kernel
theorem dX4_commit_53 : decode cX4_commit 53 = .ok (.ireturn, 1) := by decide +kernel
theorem dX4_commit_54 : decode cX4_commit 54 = .ok (.iconst 0, 1) := by decide +kernel
theorem dX4_commit_55 : decode cX4_commit 55 = .ok (.istore_n 3, 1) := by decide +kernel
theorem dX4_commit_56 : decode cX4_commit 56 = .ok (.iload_n 3, 1) := by decide +kernel
theorem dX4_commit_57 : decode cX4_commit 57 = .ok (.bipush 16, 2) := by decide +kernel
theorem dX4_commit_59 : decode cX4_commit 59 = .ok (.if_icmp .ge 45, 3) := by decide +kernel
theorem dX4_commit_62 : decode cX4_commit 62 = .ok (.aload_n 0, 1) := by decide +kernel
theorem dX4_commit_63 : decode cX4_commit 63 = .ok (.getfield 19, 3) := by decide +kernel
theorem dX4_commit_66 : decode cX4_commit 66 = .ok (.iload_n 3, 1) := by decide +kernel
theorem dX4_commit_67 : decode cX4_commit 67 = .ok (.iaload, 1) := by decide +kernel
theorem dX4_commit_68 : decode cX4_commit 68 = .ok (.ifCond .le 30, 3) := by decide +kernel
theorem dX4_commit_71 : decode cX4_commit 71 = .ok (.aload_n 0, 1) := by decide +kernel
theorem dX4_commit_72 : decode cX4_commit 72 = .ok (.getfield 22, 3) := by decide +kernel
theorem dX4_commit_75 : decode cX4_commit 75 = .ok (.iload_n 3, 1) := by decide +kernel
theorem dX4_commit_76 : decode cX4_commit 76 = .ok (.baload, 1) := by decide +kernel
theorem dX4_commit_77 : decode cX4_commit 77 = .ok (.ifCond .ne 21, 3) := by decide +kernel
theorem dX4_commit_80 : decode cX4_commit 80 = .ok (.aload_n 0, 1) := by decide +kernel
theorem dX4_commit_81 : decode cX4_commit 81 = .ok (.aload_n 0, 1) := by decide +kernel
theorem dX4_commit_82 : decode cX4_commit 82 = .ok (.getfield 19, 3) := by decide +kernel
theorem dX4_commit_85 : decode cX4_commit 85 = .ok (.iload_n 3, 1) := by decide +kernel
theorem dX4_commit_86 : decode cX4_commit 86 = .ok (.iaload, 1) := by decide +kernel
theorem dX4_commit_87 : decode cX4_commit 87 = .ok (.aload_n 0, 1) := by decide +kernel
theorem dX4_commit_88 : decode cX4_commit 88 = .ok (.getfield 26, 3) := by decide +kernel
theorem dX4_commit_91 : decode cX4_commit 91 = .ok (.bipush 16, 2) := by decide +kernel
theorem dX4_commit_93 : decode cX4_commit 93 = .ok (.iload_n 3, 1) := by decide +kernel
theorem dX4_commit_94 : decode cX4_commit 94 = .ok (.imul, 1) := by decide +kernel
theorem dX4_commit_95 : decode cX4_commit 95 = .ok (.invokevirtual 114, 3) := by decide +kernel
theorem dX4_commit_98 : decode cX4_commit 98 = .ok (.iinc 3 1, 3) := by decide +kernel
theorem dX4_commit_101 : decode cX4_commit 101 = .ok (.goto (-45), 3) := by decide +kernel
theorem dX4_commit_104 : decode cX4_commit 104 = .ok (.iconst 0, 1) := by decide +kernel
theorem dX4_commit_105 : decode cX4_commit 105 = .ok (.istore_n 3, 1) := by decide +kernel
theorem dX4_commit_106 : decode cX4_commit 106 = .ok (.iload_n 3, 1) := by decide +kernel
theorem dX4_commit_107 : decode cX4_commit 107 = .ok (.bipush 16, 2) := by decide +kernel
theorem dX4_commit_109 : decode cX4_commit 109 = .ok (.if_icmp .ge 43, 3) := by decide +kernel
theorem dX4_commit_112 : decode cX4_commit 112 = .ok (.aload_n 0, 1) := by decide +kernel
theorem dX4_commit_113 : decode cX4_commit 113 = .ok (.getfield 32, 3) := by decide +kernel
theorem dX4_commit_116 : decode cX4_commit 116 = .ok (.sipush 1584, 3) := by decide +kernel
theorem dX4_commit_119 : decode cX4_commit 119 = .ok (.iload_n 3, 1) := by decide +kernel
theorem dX4_commit_120 : decode cX4_commit 120 = .ok (.iadd, 1) := by decide +kernel
theorem dX4_commit_121 : decode cX4_commit 121 = .ok (.aload_n 0, 1) := by decide +kernel
theorem dX4_commit_122 : decode cX4_commit 122 = .ok (.getfield 19, 3) := by decide +kernel
theorem dX4_commit_125 : decode cX4_commit 125 = .ok (.iload_n 3, 1) := by decide +kernel
theorem dX4_commit_126 : decode cX4_commit 126 = .ok (.iaload, 1) := by decide +kernel
theorem dX4_commit_127 : decode cX4_commit 127 = .ok (.ifCond .le 12, 3) := by decide +kernel
theorem dX4_commit_130 : decode cX4_commit 130 = .ok (.aload_n 0, 1) := by decide +kernel
theorem dX4_commit_131 : decode cX4_commit 131 = .ok (.getfield 19, 3) := by decide +kernel
theorem dX4_commit_134 : decode cX4_commit 134 = .ok (.iload_n 3, 1) := by decide +kernel
theorem dX4_commit_135 : decode cX4_commit 135 = .ok (.iaload, 1) := by decide +kernel
theorem dX4_commit_136 : decode cX4_commit 136 = .ok (.goto 9, 3) := by decide +kernel
theorem dX4_commit_139 : decode cX4_commit 139 = .ok (.aload_n 0, 1) := by decide +kernel
theorem dX4_commit_140 : decode cX4_commit 140 = .ok (.getfield 13, 3) := by decide +kernel
theorem dX4_commit_143 : decode cX4_commit 143 = .ok (.iload_n 3, 1) := by decide +kernel
theorem dX4_commit_144 : decode cX4_commit 144 = .ok (.iaload, 1) := by decide +kernel
theorem dX4_commit_145 : decode cX4_commit 145 = .ok (.iastore, 1) := by decide +kernel
theorem dX4_commit_146 : decode cX4_commit 146 = .ok (.iinc 3 1, 3) := by decide +kernel
theorem dX4_commit_149 : decode cX4_commit 149 = .ok (.goto (-43), 3) := by decide +kernel
theorem dX4_commit_152 : decode cX4_commit 152 = .ok (.aload_n 0, 1) := by decide +kernel
theorem dX4_commit_153 : decode cX4_commit 153 = .ok (.iload_n 2, 1) := by decide +kernel
theorem dX4_commit_154 : decode cX4_commit 154 = .ok (.aload_n 0, 1) := by decide +kernel
theorem dX4_commit_155 : decode cX4_commit 155 = .ok (.getfield 32, 3) := by decide +kernel
theorem dX4_commit_158 : decode cX4_commit 158 = .ok (.sipush 1584, 3) := by decide +kernel
theorem dX4_commit_161 : decode cX4_commit 161 = .ok (.invokevirtual 114, 3) := by decide +kernel
theorem dX4_commit_164 : decode cX4_commit 164 = .ok (.aload_n 0, 1) := by decide +kernel
theorem dX4_commit_165 : decode cX4_commit 165 = .ok (.invokevirtual 118, 3) := by decide +kernel
theorem dX4_commit_168 : decode cX4_commit 168 = .ok (.pop, 1) := by decide +kernel
theorem dX4_commit_169 : decode cX4_commit 169 = .ok (.iconst 0, 1) := by decide +kernel
theorem dX4_commit_170 : decode cX4_commit 170 = .ok (.istore_n 3, 1) := by decide +kernel
theorem dX4_commit_171 : decode cX4_commit 171 = .ok (.iload_n 3, 1) := by decide +kernel
theorem dX4_commit_172 : decode cX4_commit 172 = .ok (.bipush 16, 2) := by decide +kernel
theorem dX4_commit_174 : decode cX4_commit 174 = .ok (.if_icmp .ge 39, 3) := by decide +kernel
theorem dX4_commit_177 : decode cX4_commit 177 = .ok (.aload_n 0, 1) := by decide +kernel
theorem dX4_commit_178 : decode cX4_commit 178 = .ok (.getfield 13, 3) := by decide +kernel
theorem dX4_commit_181 : decode cX4_commit 181 = .ok (.iload_n 3, 1) := by decide +kernel
theorem dX4_commit_182 : decode cX4_commit 182 = .ok (.aload_n 0, 1) := by decide +kernel
theorem dX4_commit_183 : decode cX4_commit 183 = .ok (.getfield 19, 3) := by decide +kernel
theorem dX4_commit_186 : decode cX4_commit 186 = .ok (.iload_n 3, 1) := by decide +kernel
theorem dX4_commit_187 : decode cX4_commit 187 = .ok (.iaload, 1) := by decide +kernel
theorem dX4_commit_188 : decode cX4_commit 188 = .ok (.ifCond .le 12, 3) := by decide +kernel
theorem dX4_commit_191 : decode cX4_commit 191 = .ok (.aload_n 0, 1) := by decide +kernel
theorem dX4_commit_192 : decode cX4_commit 192 = .ok (.getfield 19, 3) := by decide +kernel
theorem dX4_commit_195 : decode cX4_commit 195 = .ok (.iload_n 3, 1) := by decide +kernel
theorem dX4_commit_196 : decode cX4_commit 196 = .ok (.iaload, 1) := by decide +kernel
theorem dX4_commit_197 : decode cX4_commit 197 = .ok (.goto 9, 3) := by decide +kernel
theorem dX4_commit_200 : decode cX4_commit 200 = .ok (.aload_n 0, 1) := by decide +kernel
theorem dX4_commit_201 : decode cX4_commit 201 = .ok (.getfield 13, 3) := by decide +kernel
theorem dX4_commit_204 : decode cX4_commit 204 = .ok (.iload_n 3, 1) := by decide +kernel
theorem dX4_commit_205 : decode cX4_commit 205 = .ok (.iaload, 1) := by decide +kernel
theorem dX4_commit_206 : decode cX4_commit 206 = .ok (.iastore, 1) := by decide +kernel
theorem dX4_commit_207 : decode cX4_commit 207 = .ok (.iinc 3 1, 3) := by decide +kernel
theorem dX4_commit_210 : decode cX4_commit 210 = .ok (.goto (-39), 3) := by decide +kernel
theorem dX4_commit_213 : decode cX4_commit 213 = .ok (.aload_n 0, 1) := by decide +kernel
theorem dX4_commit_214 : decode cX4_commit 214 = .ok (.iload_n 2, 1) := by decide +kernel
theorem dX4_commit_215 : decode cX4_commit 215 = .ok (.putfield 71, 3) := by decide +kernel
theorem dX4_commit_218 : decode cX4_commit 218 = .ok (.aload_n 0, 1) := by decide +kernel
theorem dX4_commit_219 : decode cX4_commit 219 = .ok (.dup, 1) := by decide +kernel
theorem dX4_commit_220 : decode cX4_commit 220 = .ok (.getfield 74, 3) := by decide +kernel
theorem dX4_commit_223 : decode cX4_commit 223 = .ok (.iconst 1, 1) := by decide +kernel
theorem dX4_commit_224 : decode cX4_commit 224 = .ok (.iadd, 1) := by decide +kernel
theorem dX4_commit_225 : decode cX4_commit 225 = .ok (.putfield 74, 3) := by decide +kernel
theorem dX4_commit_228 : decode cX4_commit 228 = .ok (.aload_n 0, 1) := by decide +kernel
theorem dX4_commit_229 : decode cX4_commit 229 = .ok (.iconst 0, 1) := by decide +kernel
theorem dX4_commit_230 : decode cX4_commit 230 = .ok (.putfield 61, 3) := by decide +kernel
theorem dX4_commit_233 : decode cX4_commit 233 = .ok (.aload_n 0, 1) := by decide +kernel
theorem dX4_commit_234 : decode cX4_commit 234 = .ok (.aload_n 0, 1) := by decide +kernel
theorem dX4_commit_235 : decode cX4_commit 235 = .ok (.getfield 32, 3) := by decide +kernel
theorem dX4_commit_238 : decode cX4_commit 238 = .ok (.sipush 1584, 3) := by decide +kernel
theorem dX4_commit_241 : decode cX4_commit 241 = .ok (.aload_n 0, 1) := by decide +kernel
theorem dX4_commit_242 : decode cX4_commit 242 = .ok (.getfield 74, 3) := by decide +kernel
theorem dX4_commit_245 : decode cX4_commit 245 = .ok (.iload_n 2, 1) := by decide +kernel
theorem dX4_commit_246 : decode cX4_commit 246 = .ok (.invokevirtual 47, 3) := by decide +kernel
theorem dX4_commit_249 : decode cX4_commit 249 = .ok (.aload_n 0, 1) := by decide +kernel
theorem dX4_commit_250 : decode cX4_commit 250 = .ok (.iconst 0, 1) := by decide +kernel
theorem dX4_commit_251 : decode cX4_commit 251 = .ok (.aload_n 0, 1) := by decide +kernel
theorem dX4_commit_252 : decode cX4_commit 252 = .ok (.getfield 32, 3) := by decide +kernel
theorem dX4_commit_255 : decode cX4_commit 255 = .ok (.sipush 1584, 3) := by decide +kernel
theorem dX4_commit_258 : decode cX4_commit 258 = .ok (.invokevirtual 114, 3) := by decide +kernel
theorem dX4_commit_261 : decode cX4_commit 261 = .ok (.aload_n 0, 1) := by decide +kernel
theorem dX4_commit_262 : decode cX4_commit 262 = .ok (.iconst 1, 1) := by decide +kernel
theorem dX4_commit_263 : decode cX4_commit 263 = .ok (.putfield 57, 3) := by decide +kernel
theorem dX4_commit_266 : decode cX4_commit 266 = .ok (.iload_n 1, 1) := by decide +kernel
theorem dX4_commit_267 : decode cX4_commit 267 = .ok (.ifCond .eq 8, 3) := by decide +kernel
theorem dX4_commit_270 : decode cX4_commit 270 = .ok (.aload_n 0, 1) := by decide +kernel
theorem dX4_commit_271 : decode cX4_commit 271 = .ok (.invokevirtual 118, 3) := by decide +kernel
theorem dX4_commit_274 : decode cX4_commit 274 = .ok (.pop, 1) := by decide +kernel
theorem dX4_commit_275 : decode cX4_commit 275 = .ok (.aload_n 0, 1) := by decide +kernel
theorem dX4_commit_276 : decode cX4_commit 276 = .ok (.getfield 74, 3) := by decide +kernel
theorem dX4_commit_279 : decode cX4_commit 279 = .ok (.ireturn, 1) := by decide +kernel
abbrev zm_X4_commit : zg_M := (RX4, cX4_commit, 4, (some .int), [])
theorem dX4_abort_0 : decode cX4_abort 0 = .ok (.aload_n 0, 1) := by decide +kernel
theorem dX4_abort_1 : decode cX4_abort 1 = .ok (.aload_n 0, 1) := by decide +kernel
theorem dX4_abort_2 : decode cX4_abort 2 = .ok (.getfield 64, 3) := by decide +kernel
theorem dX4_abort_5 : decode cX4_abort 5 = .ok (.ifCond .ne 10, 3) := by decide +kernel
theorem dX4_abort_8 : decode cX4_abort 8 = .ok (.aload_n 0, 1) := by decide +kernel
theorem dX4_abort_9 : decode cX4_abort 9 = .ok (.getfield 61, 3) := by decide +kernel
theorem dX4_abort_12 : decode cX4_abort 12 = .ok (.ifCond .ne 7, 3) := by decide +kernel
theorem dX4_abort_15 : decode cX4_abort 15 = .ok (.iconst 1, 1) := by decide +kernel
theorem dX4_abort_16 : decode cX4_abort 16 = .ok (.goto 4, 3) := by decide +kernel
theorem dX4_abort_19 : decode cX4_abort 19 = .ok (.iconst 0, 1) := by decide +kernel
theorem dX4_abort_20 : decode cX4_abort 20 = .ok (.iconst 1, 1) := by decide +kernel
theorem dX4_abort_21 : decode cX4_abort 21 = .ok (.invokevirtual 102, 3) := by decide +kernel
theorem dX4_abort_24 : decode cX4_abort 24 = .ok (.ifCond .eq 5, 3) := by decide +kernel
theorem dX4_abort_27 : decode cX4_abort 27 = .ok (.iconst 0, 1) := by decide +kernel
theorem dX4_abort_28 : decode cX4_abort 28 = .ok (.ireturn, 1) := by decide +kernel
theorem dX4_abort_29 : decode cX4_abort 29 = .ok (.aload_n 0, 1) := by decide +kernel
theorem dX4_abort_30 : decode cX4_abort 30 = .ok (.iconst 0, 1) := by decide +kernel
theorem dX4_abort_31 : decode cX4_abort 31 = .ok (.putfield 61, 3) := by decide +kernel
theorem dX4_abort_34 : decode cX4_abort 34 = .ok (.aload_n 0, 1) := by decide +kernel
theorem dX4_abort_35 : decode cX4_abort 35 = .ok (.invokevirtual 111, 3) := by decide +kernel
theorem dX4_abort_38 : decode cX4_abort 38 = .ok (.ireturn, 1) := by decide +kernel
abbrev zm_X4_abort : zg_M := (RX4, cX4_abort, 1, (some .int), [])
theorem dX4_flush_0 : decode cX4_flush 0 = .ok (.aload_n 0, 1) := by decide +kernel
theorem dX4_flush_1 : decode cX4_flush 1 = .ok (.aload_n 0, 1) := by decide +kernel
theorem dX4_flush_2 : decode cX4_flush 2 = .ok (.getfield 64, 3) := by decide +kernel
theorem dX4_flush_5 : decode cX4_flush 5 = .ok (.iconst 1, 1) := by decide +kernel
theorem dX4_flush_6 : decode cX4_flush 6 = .ok (.invokevirtual 102, 3) := by decide +kernel
theorem dX4_flush_9 : decode cX4_flush 9 = .ok (.ifCond .eq 5, 3) := by decide +kernel
theorem dX4_flush_12 : decode cX4_flush 12 = .ok (.iconst 0, 1) := by decide +kernel
theorem dX4_flush_13 : decode cX4_flush 13 = .ok (.ireturn, 1) := by decide +kernel
theorem dX4_flush_14 : decode cX4_flush 14 = .ok (.aload_n 0, 1) := by decide +kernel
theorem dX4_flush_15 : decode cX4_flush 15 = .ok (.invokevirtual 118, 3) := by decide +kernel
theorem dX4_flush_18 : decode cX4_flush 18 = .ok (.ireturn, 1) := by decide +kernel
abbrev zm_X4_flush : zg_M := (RX4, cX4_flush, 1, (some .int), [])
theorem dX4_fail_0 : decode cX4_fail 0 = .ok (.aload_n 0, 1) := by decide +kernel
theorem dX4_fail_1 : decode cX4_fail 1 = .ok (.iconst 0, 1) := by decide +kernel
theorem dX4_fail_2 : decode cX4_fail 2 = .ok (.putfield 38, 3) := by decide +kernel
theorem dX4_fail_5 : decode cX4_fail 5 = .ok (.iconst 0, 1) := by decide +kernel
theorem dX4_fail_6 : decode cX4_fail 6 = .ok (.istore_n 3, 1) := by decide +kernel
theorem dX4_fail_7 : decode cX4_fail 7 = .ok (.iload_n 3, 1) := by decide +kernel
theorem dX4_fail_8 : decode cX4_fail 8 = .ok (.aload_n 0, 1) := by decide +kernel
theorem dX4_fail_9 : decode cX4_fail 9 = .ok (.getfield 54, 3) := by decide +kernel
theorem dX4_fail_12 : decode cX4_fail 12 = .ok (.if_icmp .ge 30, 3) := by decide +kernel
theorem dX4_fail_15 : decode cX4_fail 15 = .ok (.iload_n 3, 1) := by decide +kernel
theorem dX4_fail_16 : decode cX4_fail 16 = .ok (.bipush 64, 2) := by decide +kernel
theorem dX4_fail_18 : decode cX4_fail 18 = .ok (.if_icmp .ge 18, 3) := by decide +kernel
theorem dX4_fail_21 : decode cX4_fail 21 = .ok (.lload_n 1, 1) := by decide +kernel
theorem dX4_fail_22 : decode cX4_fail 22 = .ok (.iload_n 3, 1) := by decide +kernel
theorem dX4_fail_23 : decode cX4_fail 23 = .ok (.lshr, 1) := by decide +kernel
theorem dX4_fail_24 : decode cX4_fail 24 = .ok (.lconst 1, 1) := by decide +kernel
theorem dX4_fail_25 : decode cX4_fail 25 = .ok (.land, 1) := by decide +kernel
theorem dX4_fail_26 : decode cX4_fail 26 = .ok (.lconst 1, 1) := by decide +kernel
theorem dX4_fail_27 : decode cX4_fail 27 = .ok (.lcmp, 1) := by decide +kernel
theorem dX4_fail_28 : decode cX4_fail 28 = .ok (.ifCond .ne 8, 3) := by decide +kernel
theorem dX4_fail_31 : decode cX4_fail 31 = .ok (.aload_n 0, 1) := by decide +kernel
theorem dX4_fail_32 : decode cX4_fail 32 = .ok (.iload_n 3, 1) := by decide +kernel
theorem dX4_fail_33 : decode cX4_fail 33 = .ok (.invokevirtual 90, 3) := by decide +kernel
theorem dX4_fail_36 : decode cX4_fail 36 = .ok (.iinc 3 1, 3) := by decide +kernel
theorem dX4_fail_39 : decode cX4_fail 39 = .ok (.goto (-32), 3) := by decide +kernel
theorem dX4_fail_42 : decode cX4_fail 42 = .ok (.aload_n 0, 1) := by decide +kernel
theorem dX4_fail_43 : decode cX4_fail 43 = .ok (.invokevirtual 51, 3) := by decide +kernel
theorem dX4_fail_46 : decode cX4_fail 46 = .ok (.aload_n 0, 1) := by decide +kernel
theorem dX4_fail_47 : decode cX4_fail 47 = .ok (.getfield 64, 3) := by decide +kernel
theorem dX4_fail_50 : decode cX4_fail 50 = .ok (.ifCond .ne 7, 3) := by decide +kernel
theorem dX4_fail_53 : decode cX4_fail 53 = .ok (.iconst 1, 1) := by decide +kernel
theorem dX4_fail_54 : decode cX4_fail 54 = .ok (.goto 4, 3) := by decide +kernel
theorem dX4_fail_57 : decode cX4_fail 57 = .ok (.iconst 0, 1) := by decide +kernel
theorem dX4_fail_58 : decode cX4_fail 58 = .ok (.ireturn, 1) := by decide +kernel
abbrev zm_X4_fail : zg_M := (RX4, cX4_fail, 4, (some .boolean), [])
theorem dX4_damage_0 : decode cX4_damage 0 = .ok (.aload_n 0, 1) := by decide +kernel
theorem dX4_damage_1 : decode cX4_damage 1 = .ok (.iload_n 1, 1) := by decide +kernel
theorem dX4_damage_2 : decode cX4_damage 2 = .ok (.iconst 0, 1) := by decide +kernel
theorem dX4_damage_3 : decode cX4_damage 3 = .ok (.bipush 47, 2) := by decide +kernel
theorem dX4_damage_5 : decode cX4_damage 5 = .ok (.invokestatic 67, 3) := by decide +kernel
theorem dX4_damage_8 : decode cX4_damage 8 = .ok (.ifCond .eq 24, 3) := by decide +kernel
theorem dX4_damage_11 : decode cX4_damage 11 = .ok (.iload_n 2, 1) := by decide +kernel
theorem dX4_damage_12 : decode cX4_damage 12 = .ok (.iconst 0, 1) := by decide +kernel
theorem dX4_damage_13 : decode cX4_damage 13 = .ok (.bipush 15, 2) := by decide +kernel
theorem dX4_damage_15 : decode cX4_damage 15 = .ok (.invokestatic 67, 3) := by decide +kernel
theorem dX4_damage_18 : decode cX4_damage 18 = .ok (.ifCond .eq 14, 3) := by decide +kernel
theorem dX4_damage_21 : decode cX4_damage 21 = .ok (.iload_n 3, 1) := by decide +kernel
theorem dX4_damage_22 : decode cX4_damage 22 = .ok (.iconst 0, 1) := by decide +kernel
theorem dX4_damage_23 : decode cX4_damage 23 = .ok (.sipush 255, 3) := by decide +kernel
theorem dX4_damage_26 : decode cX4_damage 26 = .ok (.invokestatic 67, 3) := by decide +kernel
theorem dX4_damage_29 : decode cX4_damage 29 = .ok (.ifCond .ne 7, 3) := by decide +kernel
theorem dX4_damage_32 : decode cX4_damage 32 = .ok (.iconst 1, 1) := by decide +kernel
theorem dX4_damage_33 : decode cX4_damage 33 = .ok (.goto 4, 3) := by decide +kernel
theorem dX4_damage_36 : decode cX4_damage 36 = .ok (.iconst 0, 1) := by decide +kernel
theorem dX4_damage_37 : decode cX4_damage 37 = .ok (.iconst 1, 1) := by decide +kernel
theorem dX4_damage_38 : decode cX4_damage 38 = .ok (.invokevirtual 102, 3) := by decide +kernel
theorem dX4_damage_41 : decode cX4_damage 41 = .ok (.ifCond .eq 5, 3) := by decide +kernel
theorem dX4_damage_44 : decode cX4_damage 44 = .ok (.iconst 0, 1) := by decide +kernel
theorem dX4_damage_45 : decode cX4_damage 45 = .ok (.ireturn, 1) := by decide +kernel
theorem dX4_damage_46 : decode cX4_damage 46 = .ok (.aload_n 0, 1) := by decide +kernel
theorem dX4_damage_47 : decode cX4_damage 47 = .ok (.getfield 7, 3) := by decide +kernel
theorem dX4_damage_50 : decode cX4_damage 50 = .ok (.bipush 16, 2) := by decide +kernel
theorem dX4_damage_52 : decode cX4_damage 52 = .ok (.iload_n 1, 1) := by decide +kernel
theorem dX4_damage_53 : decode cX4_damage 53 = .ok (.imul, 1) := by decide +kernel
theorem dX4_damage_54 : decode cX4_damage 54 = .ok (.iload_n 2, 1) := by decide +kernel
theorem dX4_damage_55 : decode cX4_damage 55 = .ok (.iadd, 1) := by decide +kernel
theorem dX4_damage_56 : decode cX4_damage 56 = .ok (.iaload, 1) := by decide +kernel
theorem dX4_damage_57 : decode cX4_damage 57 = .ok (.istore 4, 2) := by decide +kernel
theorem dX4_damage_59 : decode cX4_damage 59 = .ok (.aload_n 0, 1) := by decide +kernel
theorem dX4_damage_60 : decode cX4_damage 60 = .ok (.getfield 7, 3) := by decide +kernel
theorem dX4_damage_63 : decode cX4_damage 63 = .ok (.bipush 16, 2) := by decide +kernel
theorem dX4_damage_65 : decode cX4_damage 65 = .ok (.iload_n 1, 1) := by decide +kernel
theorem dX4_damage_66 : decode cX4_damage 66 = .ok (.imul, 1) := by decide +kernel
theorem dX4_damage_67 : decode cX4_damage 67 = .ok (.iload_n 2, 1) := by decide +kernel
theorem dX4_damage_68 : decode cX4_damage 68 = .ok (.iadd, 1) := by decide +kernel
theorem dX4_damage_69 : decode cX4_damage 69 = .ok (.iload_n 3, 1) := by decide +kernel
theorem dX4_damage_70 : decode cX4_damage 70 = .ok (.iastore, 1) := by decide +kernel
theorem dX4_damage_71 : decode cX4_damage 71 = .ok (.iload 4, 2) := by decide +kernel
theorem dX4_damage_73 : decode cX4_damage 73 = .ok (.ireturn, 1) := by decide +kernel
abbrev zm_X4_damage : zg_M := (RX4, cX4_damage, 5, (some .int), [])
theorem dX4_disk_0 : decode cX4_disk 0 = .ok (.aload_n 0, 1) := by decide +kernel
theorem dX4_disk_1 : decode cX4_disk 1 = .ok (.iload_n 1, 1) := by decide +kernel
theorem dX4_disk_2 : decode cX4_disk 2 = .ok (.iconst 0, 1) := by decide +kernel
theorem dX4_disk_3 : decode cX4_disk 3 = .ok (.bipush 47, 2) := by decide +kernel
theorem dX4_disk_5 : decode cX4_disk 5 = .ok (.invokestatic 67, 3) := by decide +kernel
theorem dX4_disk_8 : decode cX4_disk 8 = .ok (.ifCond .eq 13, 3) := by decide +kernel
theorem dX4_disk_11 : decode cX4_disk 11 = .ok (.iload_n 2, 1) := by decide +kernel
theorem dX4_disk_12 : decode cX4_disk 12 = .ok (.iconst 0, 1) := by decide +kernel
theorem dX4_disk_13 : decode cX4_disk 13 = .ok (.bipush 15, 2) := by decide +kernel
theorem dX4_disk_15 : decode cX4_disk 15 = .ok (.invokestatic 67, 3) := by decide +kernel
theorem dX4_disk_18 : decode cX4_disk 18 = .ok (.ifCond .ne 7, 3) := by decide +kernel
theorem dX4_disk_21 : decode cX4_disk 21 = .ok (.iconst 1, 1) := by decide +kernel
theorem dX4_disk_22 : decode cX4_disk 22 = .ok (.goto 4, 3) := by decide +kernel
theorem dX4_disk_25 : decode cX4_disk 25 = .ok (.iconst 0, 1) := by decide +kernel
theorem dX4_disk_26 : decode cX4_disk 26 = .ok (.iconst 1, 1) := by decide +kernel
theorem dX4_disk_27 : decode cX4_disk 27 = .ok (.invokevirtual 102, 3) := by decide +kernel
theorem dX4_disk_30 : decode cX4_disk 30 = .ok (.ifCond .eq 7, 3) := by decide +kernel
theorem dX4_disk_33 : decode cX4_disk 33 = .ok (.iconst 0, 1) := by decide +kernel
theorem dX4_disk_34 : decode cX4_disk 34 = .ok (.goto 14, 3) := by decide +kernel
theorem dX4_disk_37 : decode cX4_disk 37 = .ok (.aload_n 0, 1) := by decide +kernel
theorem dX4_disk_38 : decode cX4_disk 38 = .ok (.getfield 7, 3) := by decide +kernel
theorem dX4_disk_41 : decode cX4_disk 41 = .ok (.bipush 16, 2) := by decide +kernel
theorem dX4_disk_43 : decode cX4_disk 43 = .ok (.iload_n 1, 1) := by decide +kernel
theorem dX4_disk_44 : decode cX4_disk 44 = .ok (.imul, 1) := by decide +kernel
theorem dX4_disk_45 : decode cX4_disk 45 = .ok (.iload_n 2, 1) := by decide +kernel
theorem dX4_disk_46 : decode cX4_disk 46 = .ok (.iadd, 1) := by decide +kernel
theorem dX4_disk_47 : decode cX4_disk 47 = .ok (.iaload, 1) := by decide +kernel
theorem dX4_disk_48 : decode cX4_disk 48 = .ok (.ireturn, 1) := by decide +kernel
abbrev zm_X4_disk : zg_M := (RX4, cX4_disk, 3, (some .int), [])
theorem dX4_place_0 : decode cX4_place 0 = .ok (.aload_n 0, 1) := by decide +kernel
theorem dX4_place_1 : decode cX4_place 1 = .ok (.iload_n 1, 1) := by decide +kernel
theorem dX4_place_2 : decode cX4_place 2 = .ok (.iconst 0, 1) := by decide +kernel
theorem dX4_place_3 : decode cX4_place 3 = .ok (.bipush 15, 2) := by decide +kernel
theorem dX4_place_5 : decode cX4_place 5 = .ok (.invokestatic 67, 3) := by decide +kernel
theorem dX4_place_8 : decode cX4_place 8 = .ok (.ifCond .eq 12, 3) := by decide +kernel
theorem dX4_place_11 : decode cX4_place 11 = .ok (.iload_n 2, 1) := by decide +kernel
theorem dX4_place_12 : decode cX4_place 12 = .ok (.iconst 0, 1) := by decide +kernel
theorem dX4_place_13 : decode cX4_place 13 = .ok (.iconst 2, 1) := by decide +kernel
theorem dX4_place_14 : decode cX4_place 14 = .ok (.invokestatic 67, 3) := by decide +kernel
theorem dX4_place_17 : decode cX4_place 17 = .ok (.ifCond .ne 7, 3) := by decide +kernel
theorem dX4_place_20 : decode cX4_place 20 = .ok (.iconst 1, 1) := by decide +kernel
theorem dX4_place_21 : decode cX4_place 21 = .ok (.goto 4, 3) := by decide +kernel
theorem dX4_place_24 : decode cX4_place 24 = .ok (.iconst 0, 1) := by decide +kernel
theorem dX4_place_25 : decode cX4_place 25 = .ok (.iconst 1, 1) := by decide +kernel
theorem dX4_place_26 : decode cX4_place 26 = .ok (.invokevirtual 102, 3) := by decide +kernel
theorem dX4_place_29 : decode cX4_place 29 = .ok (.ifCond .ne 15, 3) := by decide +kernel
theorem dX4_place_32 : decode cX4_place 32 = .ok (.aload_n 0, 1) := by decide +kernel
theorem dX4_place_33 : decode cX4_place 33 = .ok (.aload_n 0, 1) := by decide +kernel
theorem dX4_place_34 : decode cX4_place 34 = .ok (.getfield 64, 3) := by decide +kernel
theorem dX4_place_37 : decode cX4_place 37 = .ok (.iconst 2, 1) := by decide +kernel
theorem dX4_place_38 : decode cX4_place 38 = .ok (.invokevirtual 102, 3) := by decide +kernel
theorem dX4_place_41 : decode cX4_place 41 = .ok (.ifCond .eq 5, 3) := by decide +kernel
theorem dX4_place_44 : decode cX4_place 44 = .ok (.iconst 0, 1) := by decide +kernel
theorem dX4_place_45 : decode cX4_place 45 = .ok (.ireturn, 1) := by decide +kernel
theorem dX4_place_46 : decode cX4_place 46 = .ok (.iload_n 2, 1) := by decide +kernel
theorem dX4_place_47 : decode cX4_place 47 = .ok (.iconst 1, 1) := by decide +kernel
theorem dX4_place_48 : decode cX4_place 48 = .ok (.if_icmp .ne 12, 3) := by decide +kernel
theorem dX4_place_51 : decode cX4_place 51 = .ok (.aload_n 0, 1) := by decide +kernel
theorem dX4_place_52 : decode cX4_place 52 = .ok (.getfield 16, 3) := by decide +kernel
theorem dX4_place_55 : decode cX4_place 55 = .ok (.iload_n 1, 1) := by decide +kernel
theorem dX4_place_56 : decode cX4_place 56 = .ok (.iaload, 1) := by decide +kernel
theorem dX4_place_57 : decode cX4_place 57 = .ok (.goto 39, 3) := by decide +kernel
theorem dX4_place_60 : decode cX4_place 60 = .ok (.iload_n 2, 1) := by decide +kernel
theorem dX4_place_61 : decode cX4_place 61 = .ok (.iconst 2, 1) := by decide +kernel
theorem dX4_place_62 : decode cX4_place 62 = .ok (.if_icmp .ne 28, 3) := by decide +kernel
theorem dX4_place_65 : decode cX4_place 65 = .ok (.aload_n 0, 1) := by decide +kernel
theorem dX4_place_66 : decode cX4_place 66 = .ok (.getfield 61, 3) := by decide +kernel
theorem dX4_place_69 : decode cX4_place 69 = .ok (.ifCond .eq 21, 3) := by decide +kernel
theorem dX4_place_72 : decode cX4_place 72 = .ok (.aload_n 0, 1) := by decide +kernel
theorem dX4_place_73 : decode cX4_place 73 = .ok (.getfield 19, 3) := by decide +kernel
theorem dX4_place_76 : decode cX4_place 76 = .ok (.iload_n 1, 1) := by decide +kernel
theorem dX4_place_77 : decode cX4_place 77 = .ok (.iaload, 1) := by decide +kernel
theorem dX4_place_78 : decode cX4_place 78 = .ok (.ifCond .le 12, 3) := by decide +kernel
theorem dX4_place_81 : decode cX4_place 81 = .ok (.aload_n 0, 1) := by decide +kernel
theorem dX4_place_82 : decode cX4_place 82 = .ok (.getfield 19, 3) := by decide +kernel
theorem dX4_place_85 : decode cX4_place 85 = .ok (.iload_n 1, 1) := by decide +kernel
theorem dX4_place_86 : decode cX4_place 86 = .ok (.iaload, 1) := by decide +kernel
theorem dX4_place_87 : decode cX4_place 87 = .ok (.goto 9, 3) := by decide +kernel
theorem dX4_place_90 : decode cX4_place 90 = .ok (.aload_n 0, 1) := by decide +kernel
theorem dX4_place_91 : decode cX4_place 91 = .ok (.getfield 13, 3) := by decide +kernel
theorem dX4_place_94 : decode cX4_place 94 = .ok (.iload_n 1, 1) := by decide +kernel
theorem dX4_place_95 : decode cX4_place 95 = .ok (.iaload, 1) := by decide +kernel
theorem dX4_place_96 : decode cX4_place 96 = .ok (.ireturn, 1) := by decide +kernel
abbrev zm_X4_place : zg_M := (RX4, cX4_place, 3, (some .int), [])
theorem dX4_free_0 : decode cX4_free 0 = .ok (.aload_n 0, 1) := by decide +kernel
theorem dX4_free_1 : decode cX4_free 1 = .ok (.iload_n 1, 1) := by decide +kernel
theorem dX4_free_2 : decode cX4_free 2 = .ok (.iconst 0, 1) := by decide +kernel
theorem dX4_free_3 : decode cX4_free 3 = .ok (.bipush 47, 2) := by decide +kernel
theorem dX4_free_5 : decode cX4_free 5 = .ok (.invokestatic 67, 3) := by decide +kernel
theorem dX4_free_8 : decode cX4_free 8 = .ok (.ifCond .ne 7, 3) := by decide +kernel
theorem dX4_free_11 : decode cX4_free 11 = .ok (.iconst 1, 1) := by decide +kernel
theorem dX4_free_12 : decode cX4_free 12 = .ok (.goto 4, 3) := by decide +kernel
theorem dX4_free_15 : decode cX4_free 15 = .ok (.iconst 0, 1) := by decide +kernel
theorem dX4_free_16 : decode cX4_free 16 = .ok (.iconst 1, 1) := by decide +kernel
theorem dX4_free_17 : decode cX4_free 17 = .ok (.invokevirtual 102, 3) := by decide +kernel
theorem dX4_free_20 : decode cX4_free 20 = .ok (.ifCond .ne 15, 3) := by decide +kernel
theorem dX4_free_23 : decode cX4_free 23 = .ok (.aload_n 0, 1) := by decide +kernel
theorem dX4_free_24 : decode cX4_free 24 = .ok (.aload_n 0, 1) := by decide +kernel
theorem dX4_free_25 : decode cX4_free 25 = .ok (.getfield 64, 3) := by decide +kernel
theorem dX4_free_28 : decode cX4_free 28 = .ok (.iconst 2, 1) := by decide +kernel
theorem dX4_free_29 : decode cX4_free 29 = .ok (.invokevirtual 102, 3) := by decide +kernel
theorem dX4_free_32 : decode cX4_free 32 = .ok (.ifCond .eq 5, 3) := by decide +kernel
theorem dX4_free_35 : decode cX4_free 35 = .ok (.iconst 0, 1) := by decide +kernel
theorem dX4_free_36 : decode cX4_free 36 = .ok (.ireturn, 1) := by decide +kernel
theorem dX4_free_37 : decode cX4_free 37 = .ok (.aload_n 0, 1) := by decide +kernel
theorem dX4_free_38 : decode cX4_free 38 = .ok (.iload_n 1, 1) := by decide +kernel
theorem dX4_free_39 : decode cX4_free 39 = .ok (.invokevirtual 86, 3) := by decide +kernel
theorem dX4_free_42 : decode cX4_free 42 = .ok (.ireturn, 1) := by decide +kernel
abbrev zm_X4_free : zg_M := (RX4, cX4_free, 2, (some .boolean), [])
theorem dX4_held_0 : decode cX4_held 0 = .ok (.aload_n 0, 1) := by decide +kernel
theorem dX4_held_1 : decode cX4_held 1 = .ok (.iload_n 1, 1) := by decide +kernel
theorem dX4_held_2 : decode cX4_held 2 = .ok (.ifCond .lt 21, 3) := by decide +kernel
theorem dX4_held_5 : decode cX4_held 5 = .ok (.iload_n 1, 1) := by decide +kernel
theorem dX4_held_6 : decode cX4_held 6 = .ok (.aload_n 0, 1) := by decide +kernel
theorem dX4_held_7 : decode cX4_held 7 = .ok (.getfield 54, 3) := by decide +kernel
theorem dX4_held_10 : decode cX4_held 10 = .ok (.if_icmp .ge 13, 3) := by decide +kernel
theorem dX4_held_13 : decode cX4_held 13 = .ok (.iload_n 2, 1) := by decide +kernel
theorem dX4_held_14 : decode cX4_held 14 = .ok (.iconst (-1), 1) := by decide +kernel
theorem dX4_held_15 : decode cX4_held 15 = .ok (.bipush 15, 2) := by decide +kernel
theorem dX4_held_17 : decode cX4_held 17 = .ok (.invokestatic 67, 3) := by decide +kernel
theorem dX4_held_20 : decode cX4_held 20 = .ok (.ifCond .ne 7, 3) := by decide +kernel
theorem dX4_held_23 : decode cX4_held 23 = .ok (.iconst 1, 1) := by decide +kernel
theorem dX4_held_24 : decode cX4_held 24 = .ok (.goto 4, 3) := by decide +kernel
theorem dX4_held_27 : decode cX4_held 27 = .ok (.iconst 0, 1) := by decide +kernel
theorem dX4_held_28 : decode cX4_held 28 = .ok (.iconst 1, 1) := by decide +kernel
theorem dX4_held_29 : decode cX4_held 29 = .ok (.invokevirtual 102, 3) := by decide +kernel
theorem dX4_held_32 : decode cX4_held 32 = .ok (.ifCond .eq 5, 3) := by decide +kernel
theorem dX4_held_35 : decode cX4_held 35 = .ok (.iconst 0, 1) := by decide +kernel
theorem dX4_held_36 : decode cX4_held 36 = .ok (.ireturn, 1) := by decide +kernel
theorem dX4_held_37 : decode cX4_held 37 = .ok (.iload_n 2, 1) := by decide +kernel
theorem dX4_held_38 : decode cX4_held 38 = .ok (.iconst (-1), 1) := by decide +kernel
theorem dX4_held_39 : decode cX4_held 39 = .ok (.if_icmp .ne 12, 3) := by decide +kernel
theorem dX4_held_42 : decode cX4_held 42 = .ok (.aload_n 0, 1) := by decide +kernel
theorem dX4_held_43 : decode cX4_held 43 = .ok (.getfield 29, 3) := by decide +kernel
theorem dX4_held_46 : decode cX4_held 46 = .ok (.iload_n 1, 1) := by decide +kernel
theorem dX4_held_47 : decode cX4_held 47 = .ok (.iaload, 1) := by decide +kernel
theorem dX4_held_48 : decode cX4_held 48 = .ok (.goto 14, 3) := by decide +kernel
theorem dX4_held_51 : decode cX4_held 51 = .ok (.aload_n 0, 1) := by decide +kernel
theorem dX4_held_52 : decode cX4_held 52 = .ok (.getfield 32, 3) := by decide +kernel
theorem dX4_held_55 : decode cX4_held 55 = .ok (.bipush 16, 2) := by decide +kernel
theorem dX4_held_57 : decode cX4_held 57 = .ok (.iload_n 1, 1) := by decide +kernel
theorem dX4_held_58 : decode cX4_held 58 = .ok (.imul, 1) := by decide +kernel
theorem dX4_held_59 : decode cX4_held 59 = .ok (.iload_n 2, 1) := by decide +kernel
theorem dX4_held_60 : decode cX4_held 60 = .ok (.iadd, 1) := by decide +kernel
theorem dX4_held_61 : decode cX4_held 61 = .ok (.iaload, 1) := by decide +kernel
theorem dX4_held_62 : decode cX4_held 62 = .ok (.ireturn, 1) := by decide +kernel
abbrev zm_X4_held : zg_M := (RX4, cX4_held, 3, (some .int), [])
theorem dX4_total_0 : decode cX4_total 0 = .ok (.aload_n 0, 1) := by decide +kernel
theorem dX4_total_1 : decode cX4_total 1 = .ok (.iload_n 1, 1) := by decide +kernel
theorem dX4_total_2 : decode cX4_total 2 = .ok (.iconst 0, 1) := by decide +kernel
theorem dX4_total_3 : decode cX4_total 3 = .ok (.bipush 7, 2) := by decide +kernel
theorem dX4_total_5 : decode cX4_total 5 = .ok (.invokestatic 67, 3) := by decide +kernel
theorem dX4_total_8 : decode cX4_total 8 = .ok (.ifCond .ne 7, 3) := by decide +kernel
theorem dX4_total_11 : decode cX4_total 11 = .ok (.iconst 1, 1) := by decide +kernel
theorem dX4_total_12 : decode cX4_total 12 = .ok (.goto 4, 3) := by decide +kernel
theorem dX4_total_15 : decode cX4_total 15 = .ok (.iconst 0, 1) := by decide +kernel
theorem dX4_total_16 : decode cX4_total 16 = .ok (.iconst 1, 1) := by decide +kernel
theorem dX4_total_17 : decode cX4_total 17 = .ok (.invokevirtual 102, 3) := by decide +kernel
theorem dX4_total_20 : decode cX4_total 20 = .ok (.ifCond .eq 5, 3) := by decide +kernel
theorem dX4_total_23 : decode cX4_total 23 = .ok (.iconst 0, 1) := by decide +kernel
theorem dX4_total_24 : decode cX4_total 24 = .ok (.ireturn, 1) := by decide +kernel
theorem dX4_total_25 : decode cX4_total 25 = .ok (.iload_n 1, 1) := by decide +kernel
theorem dX4_total_26 : decode cX4_total 26 = .ok (.ifCond .ne 8, 3) := by decide +kernel
theorem dX4_total_29 : decode cX4_total 29 = .ok (.aload_n 0, 1) := by decide +kernel
theorem dX4_total_30 : decode cX4_total 30 = .ok (.getfield 54, 3) := by decide +kernel
theorem dX4_total_33 : decode cX4_total 33 = .ok (.ireturn, 1) := by decide +kernel
theorem dX4_total_34 : decode cX4_total 34 = .ok (.iload_n 1, 1) := by decide +kernel
theorem dX4_total_35 : decode cX4_total 35 = .ok (.bipush 7, 2) := by decide +kernel
theorem dX4_total_37 : decode cX4_total 37 = .ok (.if_icmp .ne 16, 3) := by decide +kernel
theorem dX4_total_40 : decode cX4_total 40 = .ok (.aload_n 0, 1) := by decide +kernel
theorem dX4_total_41 : decode cX4_total 41 = .ok (.getfield 64, 3) := by decide +kernel
theorem dX4_total_44 : decode cX4_total 44 = .ok (.ifCond .eq 7, 3) := by decide +kernel
theorem dX4_total_47 : decode cX4_total 47 = .ok (.iconst 1, 1) := by decide +kernel
theorem dX4_total_48 : decode cX4_total 48 = .ok (.goto 4, 3) := by decide +kernel
theorem dX4_total_51 : decode cX4_total 51 = .ok (.iconst 0, 1) := by decide +kernel
theorem dX4_total_52 : decode cX4_total 52 = .ok (.ireturn, 1) := by decide +kernel
theorem dX4_total_53 : decode cX4_total 53 = .ok (.aload_n 0, 1) := by decide +kernel
theorem dX4_total_54 : decode cX4_total 54 = .ok (.getfield 64, 3) := by decide +kernel
theorem dX4_total_57 : decode cX4_total 57 = .ok (.ifCond .eq 5, 3) := by decide +kernel
theorem dX4_total_60 : decode cX4_total 60 = .ok (.iconst (-1), 1) := by decide +kernel
theorem dX4_total_61 : decode cX4_total 61 = .ok (.ireturn, 1) := by decide +kernel
theorem dX4_total_62 : decode cX4_total 62 = .ok (.iconst 0, 1) := by decide +kernel
theorem dX4_total_63 : decode cX4_total 63 = .ok (.istore_n 2, 1) := by decide +kernel
theorem dX4_total_64 : decode cX4_total 64 = .ok (.iload_n 1, 1) := by decide +kernel
theorem dX4_total_65 : decode cX4_total 65 = .ok (.tableswitch 98 1 5 #[35, 51, 83, 88, 93], 35) := by decide +kernel
theorem dX4_total_100 : decode cX4_total 100 = .ok (.aload_n 0, 1) := by decide +kernel
theorem dX4_total_101 : decode cX4_total 101 = .ok (.getfield 61, 3) := by decide +kernel
theorem dX4_total_104 : decode cX4_total 104 = .ok (.ifCond .eq 10, 3) := by decide +kernel
theorem dX4_total_107 : decode cX4_total 107 = .ok (.aload_n 0, 1) := by decide +kernel
theorem dX4_total_108 : decode cX4_total 108 = .ok (.invokevirtual 111, 3) := by decide +kernel
theorem dX4_total_111 : decode cX4_total 111 = .ok (.goto 4, 3) := by decide +kernel
theorem dX4_total_114 : decode cX4_total 114 = .ok (.iconst (-1), 1) := by decide +kernel
theorem dX4_total_115 : decode cX4_total 115 = .ok (.ireturn, 1) := by decide +kernel
theorem dX4_total_116 : decode cX4_total 116 = .ok (.iconst 0, 1) := by decide +kernel
theorem dX4_total_117 : decode cX4_total 117 = .ok (.istore_n 3, 1) := by decide +kernel
theorem dX4_total_118 : decode cX4_total 118 = .ok (.iload_n 3, 1) := by decide +kernel
theorem dX4_total_119 : decode cX4_total 119 = .ok (.bipush 48, 2) := by decide +kernel
theorem dX4_total_121 : decode cX4_total 121 = .ok (.if_icmp .ge 25, 3) := by decide +kernel
theorem dX4_total_124 : decode cX4_total 124 = .ok (.iload_n 2, 1) := by decide +kernel
theorem dX4_total_125 : decode cX4_total 125 = .ok (.aload_n 0, 1) := by decide +kernel
theorem dX4_total_126 : decode cX4_total 126 = .ok (.iload_n 3, 1) := by decide +kernel
theorem dX4_total_127 : decode cX4_total 127 = .ok (.invokevirtual 86, 3) := by decide +kernel
theorem dX4_total_130 : decode cX4_total 130 = .ok (.ifCond .eq 7, 3) := by decide +kernel
theorem dX4_total_133 : decode cX4_total 133 = .ok (.iconst 1, 1) := by decide +kernel
theorem dX4_total_134 : decode cX4_total 134 = .ok (.goto 4, 3) := by decide +kernel
theorem dX4_total_137 : decode cX4_total 137 = .ok (.iconst 0, 1) := by decide +kernel
theorem dX4_total_138 : decode cX4_total 138 = .ok (.iadd, 1) := by decide +kernel
theorem dX4_total_139 : decode cX4_total 139 = .ok (.istore_n 2, 1) := by decide +kernel
theorem dX4_total_140 : decode cX4_total 140 = .ok (.iinc 3 1, 3) := by decide +kernel
theorem dX4_total_143 : decode cX4_total 143 = .ok (.goto (-25), 3) := by decide +kernel
theorem dX4_total_146 : decode cX4_total 146 = .ok (.iload_n 2, 1) := by decide +kernel
theorem dX4_total_147 : decode cX4_total 147 = .ok (.ireturn, 1) := by decide +kernel
theorem dX4_total_148 : decode cX4_total 148 = .ok (.aload_n 0, 1) := by decide +kernel
theorem dX4_total_149 : decode cX4_total 149 = .ok (.getfield 74, 3) := by decide +kernel
theorem dX4_total_152 : decode cX4_total 152 = .ok (.ireturn, 1) := by decide +kernel
theorem dX4_total_153 : decode cX4_total 153 = .ok (.aload_n 0, 1) := by decide +kernel
theorem dX4_total_154 : decode cX4_total 154 = .ok (.getfield 71, 3) := by decide +kernel
theorem dX4_total_157 : decode cX4_total 157 = .ok (.ireturn, 1) := by decide +kernel
theorem dX4_total_158 : decode cX4_total 158 = .ok (.aload_n 0, 1) := by decide +kernel
theorem dX4_total_159 : decode cX4_total 159 = .ok (.getfield 83, 3) := by decide +kernel
theorem dX4_total_162 : decode cX4_total 162 = .ok (.ireturn, 1) := by decide +kernel
theorem dX4_total_163 : decode cX4_total 163 = .ok (.aload_n 0, 1) := by decide +kernel
theorem dX4_total_164 : decode cX4_total 164 = .ok (.getfield 80, 3) := by decide +kernel
theorem dX4_total_167 : decode cX4_total 167 = .ok (.ireturn, 1) := by decide +kernel
abbrev zm_X4_total : zg_M := (RX4, cX4_total, 4, (some .int), [])
end
section
/-! Words of calls, by program. -/
theorem wd_X0_28 : [Cond.methodLink RX0 28 yJ7_fill_53178, Cond.static yJ7_fill_53178, Cond.initialized yJ7_fill_53178.cls, zg_cw zm_J7_fill_53178 yJ7_fill_53178].all (fun x => decide (x ∈ lw_tbl) && goodWord x) = true := by decide +kernel
theorem wd_X3_16 : [Cond.instanceMethod yX1_init, Cond.initialized yX1_init.cls, zg_cw zm_X1_init yX1_init].all (fun x => decide (x ∈ lw_tbl) && goodWord x) = true := by decide +kernel
theorem wd_X3_23 : [Cond.instanceMethod yX2_init, Cond.initialized yX2_init.cls, zg_cw zm_X2_init yX2_init].all (fun x => decide (x ∈ lw_tbl) && goodWord x) = true := by decide +kernel
theorem wd_X3_33 : [Cond.instanceMethod yX0_init, Cond.initialized yX0_init.cls, zg_cw zm_X0_init yX0_init].all (fun x => decide (x ∈ lw_tbl) && goodWord x) = true := by decide +kernel
theorem wd_X3_42 : [Cond.methodLink RX3 42 yX3_formatAndMount, Cond.instanceMethod yX3_formatAndMount, Cond.selects RX3 yX3_formatAndMount yX3_formatAndMount, Cond.initialized yX3_formatAndMount.cls, zg_cw zm_X3_formatAndMount yX3_formatAndMount].all (fun x => decide (x ∈ lw_tbl) && goodWord x) = true := by decide +kernel
theorem wd_X3_45 : [Cond.methodLink RX3 45 yX3_checkPage, Cond.static yX3_checkPage, Cond.initialized yX3_checkPage.cls, zg_cw zm_X3_checkPage yX3_checkPage].all (fun x => decide (x ∈ lw_tbl) && goodWord x) = true := by decide +kernel
theorem wd_X3_49 : [Cond.methodLink RX3 49 yX3_checkIndex, Cond.static yX3_checkIndex, Cond.initialized yX3_checkIndex.cls, zg_cw zm_X3_checkIndex yX3_checkIndex].all (fun x => decide (x ∈ lw_tbl) && goodWord x) = true := by decide +kernel
theorem wd_X3_52 : [Cond.methodLink RX3 52 yX3_checkByte, Cond.static yX3_checkByte, Cond.initialized yX3_checkByte.cls, zg_cw zm_X3_checkByte yX3_checkByte].all (fun x => decide (x ∈ lw_tbl) && goodWord x) = true := by decide +kernel
theorem wd_X3_55 : [Cond.methodLink RX3 55 yX3_checkMounted, Cond.instanceMethod yX3_checkMounted, Cond.selects RX3 yX3_checkMounted yX3_checkMounted, Cond.initialized yX3_checkMounted.cls, zg_cw zm_X3_checkMounted yX3_checkMounted].all (fun x => decide (x ∈ lw_tbl) && goodWord x) = true := by decide +kernel
theorem wd_X3_58 : [Cond.methodLink RX3 58 yX3_changePage, Cond.instanceMethod yX3_changePage, Cond.selects RX3 yX3_changePage yX3_changePage, Cond.initialized yX3_changePage.cls, zg_cw zm_X3_changePage yX3_changePage].all (fun x => decide (x ∈ lw_tbl) && goodWord x) = true := by decide +kernel
theorem wd_X3_68 : [Cond.methodLink RX3 68 yX0_has, Cond.instanceMethod yX0_has, Cond.selects RX0 yX0_has yX0_has, Cond.initialized yX0_has.cls, zg_cw zm_X0_has yX0_has].all (fun x => decide (x ∈ lw_tbl) && goodWord x) = true := by decide +kernel
theorem wd_X3_94 : [Cond.methodLink RX3 94 yX3_holdBackPage, Cond.instanceMethod yX3_holdBackPage, Cond.selects RX3 yX3_holdBackPage yX3_holdBackPage, Cond.initialized yX3_holdBackPage.cls, zg_cw zm_X3_holdBackPage yX3_holdBackPage].all (fun x => decide (x ∈ lw_tbl) && goodWord x) = true := by decide +kernel
theorem wd_X3_97 : [Cond.methodLink RX3 97 yX3_checkOpen, Cond.instanceMethod yX3_checkOpen, Cond.selects RX3 yX3_checkOpen yX3_checkOpen, Cond.initialized yX3_checkOpen.cls, zg_cw zm_X3_checkOpen yX3_checkOpen].all (fun x => decide (x ∈ lw_tbl) && goodWord x) = true := by decide +kernel
theorem wd_X3_100 : [Cond.methodLink RX3 100 yX3_leastFree, Cond.instanceMethod yX3_leastFree, Cond.selects RX3 yX3_leastFree yX3_leastFree, Cond.initialized yX3_leastFree.cls, zg_cw zm_X3_leastFree yX3_leastFree].all (fun x => decide (x ∈ lw_tbl) && goodWord x) = true := by decide +kernel
theorem wd_X3_106 : [Cond.methodLink RX3 106 yX3_holdBackUnspilledPages, Cond.instanceMethod yX3_holdBackUnspilledPages, Cond.selects RX3 yX3_holdBackUnspilledPages yX3_holdBackUnspilledPages, Cond.initialized yX3_holdBackUnspilledPages.cls, zg_cw zm_X3_holdBackUnspilledPages yX3_holdBackUnspilledPages].all (fun x => decide (x ∈ lw_tbl) && goodWord x) = true := by decide +kernel
theorem wd_X3_109 : [Cond.methodLink RX3 109 yX3_holdBackTable, Cond.instanceMethod yX3_holdBackTable, Cond.selects RX3 yX3_holdBackTable yX3_holdBackTable, Cond.initialized yX3_holdBackTable.cls, zg_cw zm_X3_holdBackTable yX3_holdBackTable].all (fun x => decide (x ∈ lw_tbl) && goodWord x) = true := by decide +kernel
theorem wd_X3_112 : [Cond.methodLink RX3 112 yX3_carryOutAll, Cond.instanceMethod yX3_carryOutAll, Cond.selects RX3 yX3_carryOutAll yX3_carryOutAll, Cond.initialized yX3_carryOutAll.cls, zg_cw zm_X3_carryOutAll yX3_carryOutAll].all (fun x => decide (x ∈ lw_tbl) && goodWord x) = true := by decide +kernel
theorem wd_X3_115 : [Cond.methodLink RX3 115 yX3_turnOver, Cond.instanceMethod yX3_turnOver, Cond.selects RX3 yX3_turnOver yX3_turnOver, Cond.initialized yX3_turnOver.cls, zg_cw zm_X3_turnOver yX3_turnOver].all (fun x => decide (x ∈ lw_tbl) && goodWord x) = true := by decide +kernel
theorem wd_X3_121 : [Cond.methodLink RX3 121 yX0_close, Cond.instanceMethod yX0_close, Cond.selects RX0 yX0_close yX0_close, Cond.initialized yX0_close.cls, zg_cw zm_X0_close yX0_close].all (fun x => decide (x ∈ lw_tbl) && goodWord x) = true := by decide +kernel
theorem wd_X3_124 : [Cond.methodLink RX3 124 yX1_carryOut, Cond.instanceMethod yX1_carryOut, Cond.selects RX1 yX1_carryOut yX1_carryOut, Cond.initialized yX1_carryOut.cls, zg_cw zm_X1_carryOut yX1_carryOut].all (fun x => decide (x ∈ lw_tbl) && goodWord x) = true := by decide +kernel
theorem wd_X3_128 : [Cond.methodLink RX3 128 yX3_mount, Cond.instanceMethod yX3_mount, Cond.selects RX3 yX3_mount yX3_mount, Cond.initialized yX3_mount.cls, zg_cw zm_X3_mount yX3_mount].all (fun x => decide (x ∈ lw_tbl) && goodWord x) = true := by decide +kernel
theorem wd_X3_135 : [Cond.methodLink RX3 135 yX3_checkSector, Cond.static yX3_checkSector, Cond.initialized yX3_checkSector.cls, zg_cw zm_X3_checkSector yX3_checkSector].all (fun x => decide (x ∈ lw_tbl) && goodWord x) = true := by decide +kernel
theorem wd_X3_140 : [Cond.methodLink RX3 140 yX3_openPlace, Cond.instanceMethod yX3_openPlace, Cond.selects RX3 yX3_openPlace yX3_openPlace, Cond.initialized yX3_openPlace.cls, zg_cw zm_X3_openPlace yX3_openPlace].all (fun x => decide (x ∈ lw_tbl) && goodWord x) = true := by decide +kernel
theorem wd_X3_144 : [Cond.methodLink RX3 144 yX3_freeSet, Cond.instanceMethod yX3_freeSet, Cond.selects RX3 yX3_freeSet yX3_freeSet, Cond.initialized yX3_freeSet.cls, zg_cw zm_X3_freeSet yX3_freeSet].all (fun x => decide (x ∈ lw_tbl) && goodWord x) = true := by decide +kernel
theorem wd_X3_148 : [Cond.methodLink RX3 148 yX3_holds, Cond.static yX3_holds, Cond.initialized yX3_holds.cls, zg_cw zm_X3_holds yX3_holds].all (fun x => decide (x ∈ lw_tbl) && goodWord x) = true := by decide +kernel
theorem wd_X3_160 : [Cond.methodLink RX3 160 yX3_mountedTotal, Cond.instanceMethod yX3_mountedTotal, Cond.selects RX3 yX3_mountedTotal yX3_mountedTotal, Cond.initialized yX3_mountedTotal.cls, zg_cw zm_X3_mountedTotal yX3_mountedTotal].all (fun x => decide (x ∈ lw_tbl) && goodWord x) = true := by decide +kernel
theorem wd_X3_163 : [Cond.methodLink RX3 163 yX0_isOpen, Cond.instanceMethod yX0_isOpen, Cond.selects RX0 yX0_isOpen yX0_isOpen, Cond.initialized yX0_isOpen.cls, zg_cw zm_X0_isOpen yX0_isOpen].all (fun x => decide (x ∈ lw_tbl) && goodWord x) = true := by decide +kernel
theorem wd_X3_167 : [Cond.methodLink RX3 167 yJ13_bitCount_95d88, Cond.static yJ13_bitCount_95d88, Cond.initialized yJ13_bitCount_95d88.cls, zg_cw zm_J13_bitCount_95d88 yJ13_bitCount_95d88].all (fun x => decide (x ∈ lw_tbl) && goodWord x) = true := by decide +kernel
theorem wd_X3_188 : [Cond.methodLink RX3 188 yJ7_fill_53178, Cond.static yJ7_fill_53178, Cond.initialized yJ7_fill_53178.cls, zg_cw zm_J7_fill_53178 yJ7_fill_53178].all (fun x => decide (x ∈ lw_tbl) && goodWord x) = true := by decide +kernel
theorem wd_X3_194 : [Cond.methodLink RX3 194 yX3_putMaster, Cond.static yX3_putMaster, Cond.initialized yX3_putMaster.cls, zg_cw zm_X3_putMaster yX3_putMaster].all (fun x => decide (x ∈ lw_tbl) && goodWord x) = true := by decide +kernel
theorem wd_X3_198 : [Cond.methodLink RX3 198 yX3_masterIsRight, Cond.instanceMethod yX3_masterIsRight, Cond.selects RX3 yX3_masterIsRight yX3_masterIsRight, Cond.initialized yX3_masterIsRight.cls, zg_cw zm_X3_masterIsRight yX3_masterIsRight].all (fun x => decide (x ∈ lw_tbl) && goodWord x) = true := by decide +kernel
theorem wd_X3_201 : [Cond.methodLink RX3 201 yX3_tableIsRight, Cond.instanceMethod yX3_tableIsRight, Cond.selects RX3 yX3_tableIsRight yX3_tableIsRight, Cond.initialized yX3_tableIsRight.cls, zg_cw zm_X3_tableIsRight yX3_tableIsRight].all (fun x => decide (x ∈ lw_tbl) && goodWord x) = true := by decide +kernel
theorem wd_X3_210 : [Cond.methodLink RX3 210 yX2_become, Cond.instanceMethod yX2_become, Cond.selects RX2 yX2_become yX2_become, Cond.initialized yX2_become.cls, zg_cw zm_X2_become yX2_become].all (fun x => decide (x ∈ lw_tbl) && goodWord x) = true := by decide +kernel
theorem wd_X3_214 : [Cond.methodLink RX3 214 yX3_checkOf, Cond.static yX3_checkOf, Cond.initialized yX3_checkOf.cls, zg_cw zm_X3_checkOf yX3_checkOf].all (fun x => decide (x ∈ lw_tbl) && goodWord x) = true := by decide +kernel
theorem wd_X3_219 : [Cond.methodLink RX3 219 yX2_usedSet, Cond.instanceMethod yX2_usedSet, Cond.selects RX2 yX2_usedSet yX2_usedSet, Cond.initialized yX2_usedSet.cls, zg_cw zm_X2_usedSet yX2_usedSet].all (fun x => decide (x ∈ lw_tbl) && goodWord x) = true := by decide +kernel
theorem wd_X3_231 : [Cond.methodLink RX3 231 yX3_copyLatestPage, Cond.instanceMethod yX3_copyLatestPage, Cond.selects RX3 yX3_copyLatestPage yX3_copyLatestPage, Cond.initialized yX3_copyLatestPage.cls, zg_cw zm_X3_copyLatestPage yX3_copyLatestPage].all (fun x => decide (x ∈ lw_tbl) && goodWord x) = true := by decide +kernel
theorem wd_X3_235 : [Cond.methodLink RX3 235 yX0_add, Cond.instanceMethod yX0_add, Cond.selects RX0 yX0_add yX0_add, Cond.initialized yX0_add.cls, zg_cw zm_X0_add yX0_add].all (fun x => decide (x ∈ lw_tbl) && goodWord x) = true := by decide +kernel
theorem wd_X3_239 : [Cond.methodLink RX3 239 yX1_add, Cond.instanceMethod yX1_add, Cond.selects RX1 yX1_add yX1_add, Cond.initialized yX1_add.cls, zg_cw zm_X1_add yX1_add].all (fun x => decide (x ∈ lw_tbl) && goodWord x) = true := by decide +kernel
theorem wd_X4_35 : [Cond.methodLink RX4 35 yX4_clear, Cond.instanceMethod yX4_clear, Cond.selects RX4 yX4_clear yX4_clear, Cond.initialized yX4_clear.cls, zg_cw zm_X4_clear yX4_clear].all (fun x => decide (x ∈ lw_tbl) && goodWord x) = true := by decide +kernel
theorem wd_X4_43 : [Cond.methodLink RX4 43 yX4_checkOf, Cond.instanceMethod yX4_checkOf, Cond.selects RX4 yX4_checkOf yX4_checkOf, Cond.initialized yX4_checkOf.cls, zg_cw zm_X4_checkOf yX4_checkOf].all (fun x => decide (x ∈ lw_tbl) && goodWord x) = true := by decide +kernel
theorem wd_X4_47 : [Cond.methodLink RX4 47 yX4_master, Cond.instanceMethod yX4_master, Cond.selects RX4 yX4_master yX4_master, Cond.initialized yX4_master.cls, zg_cw zm_X4_master yX4_master].all (fun x => decide (x ∈ lw_tbl) && goodWord x) = true := by decide +kernel
theorem wd_X4_51 : [Cond.methodLink RX4 51 yX4_mount, Cond.instanceMethod yX4_mount, Cond.selects RX4 yX4_mount yX4_mount, Cond.initialized yX4_mount.cls, zg_cw zm_X4_mount yX4_mount].all (fun x => decide (x ∈ lw_tbl) && goodWord x) = true := by decide +kernel
theorem wd_X4_67 : [Cond.methodLink RX4 67 yX4_within, Cond.static yX4_within, Cond.initialized yX4_within.cls, zg_cw zm_X4_within yX4_within].all (fun x => decide (x ∈ lw_tbl) && goodWord x) = true := by decide +kernel
theorem wd_X4_77 : [Cond.methodLink RX4 77 yX4_settle, Cond.instanceMethod yX4_settle, Cond.selects RX4 yX4_settle yX4_settle, Cond.initialized yX4_settle.cls, zg_cw zm_X4_settle yX4_settle].all (fun x => decide (x ∈ lw_tbl) && goodWord x) = true := by decide +kernel
theorem wd_X4_86 : [Cond.methodLink RX4 86 yX4_isFree, Cond.instanceMethod yX4_isFree, Cond.selects RX4 yX4_isFree yX4_isFree, Cond.initialized yX4_isFree.cls, zg_cw zm_X4_isFree yX4_isFree].all (fun x => decide (x ∈ lw_tbl) && goodWord x) = true := by decide +kernel
theorem wd_X4_90 : [Cond.methodLink RX4 90 yX4_writes, Cond.instanceMethod yX4_writes, Cond.selects RX4 yX4_writes yX4_writes, Cond.initialized yX4_writes.cls, zg_cw zm_X4_writes yX4_writes].all (fun x => decide (x ∈ lw_tbl) && goodWord x) = true := by decide +kernel
theorem wd_X4_94 : [Cond.methodLink RX4 94 yX4_firstFree, Cond.instanceMethod yX4_firstFree, Cond.selects RX4 yX4_firstFree yX4_firstFree, Cond.initialized yX4_firstFree.cls, zg_cw zm_X4_firstFree yX4_firstFree].all (fun x => decide (x ∈ lw_tbl) && goodWord x) = true := by decide +kernel
theorem wd_X4_98 : [Cond.methodLink RX4 98 yX4_byteAt, Cond.instanceMethod yX4_byteAt, Cond.selects RX4 yX4_byteAt yX4_byteAt, Cond.initialized yX4_byteAt.cls, zg_cw zm_X4_byteAt yX4_byteAt].all (fun x => decide (x ∈ lw_tbl) && goodWord x) = true := by decide +kernel
theorem wd_X4_102 : [Cond.methodLink RX4 102 yX4_fails, Cond.instanceMethod yX4_fails, Cond.selects RX4 yX4_fails yX4_fails, Cond.initialized yX4_fails.cls, zg_cw zm_X4_fails yX4_fails].all (fun x => decide (x ∈ lw_tbl) && goodWord x) = true := by decide +kernel
theorem wd_X4_106 : [Cond.methodLink RX4 106 yX4_changes, Cond.instanceMethod yX4_changes, Cond.selects RX4 yX4_changes yX4_changes, Cond.initialized yX4_changes.cls, zg_cw zm_X4_changes yX4_changes].all (fun x => decide (x ∈ lw_tbl) && goodWord x) = true := by decide +kernel
theorem wd_X4_111 : [Cond.methodLink RX4 111 yX4_changed, Cond.instanceMethod yX4_changed, Cond.selects RX4 yX4_changed yX4_changed, Cond.initialized yX4_changed.cls, zg_cw zm_X4_changed yX4_changed].all (fun x => decide (x ∈ lw_tbl) && goodWord x) = true := by decide +kernel
theorem wd_X4_114 : [Cond.methodLink RX4 114 yX4_hold, Cond.instanceMethod yX4_hold, Cond.selects RX4 yX4_hold yX4_hold, Cond.initialized yX4_hold.cls, zg_cw zm_X4_hold yX4_hold].all (fun x => decide (x ∈ lw_tbl) && goodWord x) = true := by decide +kernel
theorem wd_X4_118 : [Cond.methodLink RX4 118 yX4_flushed, Cond.instanceMethod yX4_flushed, Cond.selects RX4 yX4_flushed yX4_flushed, Cond.initialized yX4_flushed.cls, zg_cw zm_X4_flushed yX4_flushed].all (fun x => decide (x ∈ lw_tbl) && goodWord x) = true := by decide +kernel
theorem dn_J13_bitCount_95d88 : (parseMethodDescriptor yJ13_bitCount_95d88.desc).map (fun d => d.parameters.length) = some 1 := by decide +kernel
theorem dh_J13_bitCount_95d88 : yJ13_bitCount_95d88.cls ≠ "java/lang/invoke/MethodHandle" ∧ yJ13_bitCount_95d88.cls ≠ "java/lang/invoke/VarHandle" := by decide +kernel
theorem dn_J7_fill_53178 : (parseMethodDescriptor yJ7_fill_53178.desc).map (fun d => d.parameters.length) = some 2 := by decide +kernel
theorem dh_J7_fill_53178 : yJ7_fill_53178.cls ≠ "java/lang/invoke/MethodHandle" ∧ yJ7_fill_53178.cls ≠ "java/lang/invoke/VarHandle" := by decide +kernel
theorem dn_X0_add : (parseMethodDescriptor yX0_add.desc).map (fun d => d.parameters.length) = some 2 := by decide +kernel
theorem dh_X0_add : yX0_add.cls ≠ "java/lang/invoke/MethodHandle" ∧ yX0_add.cls ≠ "java/lang/invoke/VarHandle" := by decide +kernel
theorem dn_X0_close : (parseMethodDescriptor yX0_close.desc).map (fun d => d.parameters.length) = some 0 := by decide +kernel
theorem dh_X0_close : yX0_close.cls ≠ "java/lang/invoke/MethodHandle" ∧ yX0_close.cls ≠ "java/lang/invoke/VarHandle" := by decide +kernel
theorem dn_X0_has : (parseMethodDescriptor yX0_has.desc).map (fun d => d.parameters.length) = some 1 := by decide +kernel
theorem dh_X0_has : yX0_has.cls ≠ "java/lang/invoke/MethodHandle" ∧ yX0_has.cls ≠ "java/lang/invoke/VarHandle" := by decide +kernel
theorem dn_X0_init : (parseMethodDescriptor yX0_init.desc).map (fun d => d.parameters.length) = some 0 := by decide +kernel
theorem dh_X0_init : yX0_init.cls ≠ "java/lang/invoke/MethodHandle" ∧ yX0_init.cls ≠ "java/lang/invoke/VarHandle" := by decide +kernel
theorem dn_X0_isOpen : (parseMethodDescriptor yX0_isOpen.desc).map (fun d => d.parameters.length) = some 0 := by decide +kernel
theorem dh_X0_isOpen : yX0_isOpen.cls ≠ "java/lang/invoke/MethodHandle" ∧ yX0_isOpen.cls ≠ "java/lang/invoke/VarHandle" := by decide +kernel
theorem dn_X1_add : (parseMethodDescriptor yX1_add.desc).map (fun d => d.parameters.length) = some 2 := by decide +kernel
theorem dh_X1_add : yX1_add.cls ≠ "java/lang/invoke/MethodHandle" ∧ yX1_add.cls ≠ "java/lang/invoke/VarHandle" := by decide +kernel
theorem dn_X1_carryOut : (parseMethodDescriptor yX1_carryOut.desc).map (fun d => d.parameters.length) = some 2 := by decide +kernel
theorem dh_X1_carryOut : yX1_carryOut.cls ≠ "java/lang/invoke/MethodHandle" ∧ yX1_carryOut.cls ≠ "java/lang/invoke/VarHandle" := by decide +kernel
theorem dn_X1_init : (parseMethodDescriptor yX1_init.desc).map (fun d => d.parameters.length) = some 0 := by decide +kernel
theorem dh_X1_init : yX1_init.cls ≠ "java/lang/invoke/MethodHandle" ∧ yX1_init.cls ≠ "java/lang/invoke/VarHandle" := by decide +kernel
theorem dn_X2_become : (parseMethodDescriptor yX2_become.desc).map (fun d => d.parameters.length) = some 1 := by decide +kernel
theorem dh_X2_become : yX2_become.cls ≠ "java/lang/invoke/MethodHandle" ∧ yX2_become.cls ≠ "java/lang/invoke/VarHandle" := by decide +kernel
theorem dn_X2_init : (parseMethodDescriptor yX2_init.desc).map (fun d => d.parameters.length) = some 0 := by decide +kernel
theorem dh_X2_init : yX2_init.cls ≠ "java/lang/invoke/MethodHandle" ∧ yX2_init.cls ≠ "java/lang/invoke/VarHandle" := by decide +kernel
theorem dn_X2_usedSet : (parseMethodDescriptor yX2_usedSet.desc).map (fun d => d.parameters.length) = some 0 := by decide +kernel
theorem dh_X2_usedSet : yX2_usedSet.cls ≠ "java/lang/invoke/MethodHandle" ∧ yX2_usedSet.cls ≠ "java/lang/invoke/VarHandle" := by decide +kernel
theorem dn_X3_carryOutAll : (parseMethodDescriptor yX3_carryOutAll.desc).map (fun d => d.parameters.length) = some 0 := by decide +kernel
theorem dh_X3_carryOutAll : yX3_carryOutAll.cls ≠ "java/lang/invoke/MethodHandle" ∧ yX3_carryOutAll.cls ≠ "java/lang/invoke/VarHandle" := by decide +kernel
theorem dn_X3_changePage : (parseMethodDescriptor yX3_changePage.desc).map (fun d => d.parameters.length) = some 1 := by decide +kernel
theorem dh_X3_changePage : yX3_changePage.cls ≠ "java/lang/invoke/MethodHandle" ∧ yX3_changePage.cls ≠ "java/lang/invoke/VarHandle" := by decide +kernel
theorem dn_X3_checkByte : (parseMethodDescriptor yX3_checkByte.desc).map (fun d => d.parameters.length) = some 1 := by decide +kernel
theorem dh_X3_checkByte : yX3_checkByte.cls ≠ "java/lang/invoke/MethodHandle" ∧ yX3_checkByte.cls ≠ "java/lang/invoke/VarHandle" := by decide +kernel
theorem dn_X3_checkIndex : (parseMethodDescriptor yX3_checkIndex.desc).map (fun d => d.parameters.length) = some 1 := by decide +kernel
theorem dh_X3_checkIndex : yX3_checkIndex.cls ≠ "java/lang/invoke/MethodHandle" ∧ yX3_checkIndex.cls ≠ "java/lang/invoke/VarHandle" := by decide +kernel
theorem dn_X3_checkMounted : (parseMethodDescriptor yX3_checkMounted.desc).map (fun d => d.parameters.length) = some 0 := by decide +kernel
theorem dh_X3_checkMounted : yX3_checkMounted.cls ≠ "java/lang/invoke/MethodHandle" ∧ yX3_checkMounted.cls ≠ "java/lang/invoke/VarHandle" := by decide +kernel
theorem dn_X3_checkOf : (parseMethodDescriptor yX3_checkOf.desc).map (fun d => d.parameters.length) = some 1 := by decide +kernel
theorem dh_X3_checkOf : yX3_checkOf.cls ≠ "java/lang/invoke/MethodHandle" ∧ yX3_checkOf.cls ≠ "java/lang/invoke/VarHandle" := by decide +kernel
theorem dn_X3_checkOpen : (parseMethodDescriptor yX3_checkOpen.desc).map (fun d => d.parameters.length) = some 0 := by decide +kernel
theorem dh_X3_checkOpen : yX3_checkOpen.cls ≠ "java/lang/invoke/MethodHandle" ∧ yX3_checkOpen.cls ≠ "java/lang/invoke/VarHandle" := by decide +kernel
theorem dn_X3_checkPage : (parseMethodDescriptor yX3_checkPage.desc).map (fun d => d.parameters.length) = some 1 := by decide +kernel
theorem dh_X3_checkPage : yX3_checkPage.cls ≠ "java/lang/invoke/MethodHandle" ∧ yX3_checkPage.cls ≠ "java/lang/invoke/VarHandle" := by decide +kernel
theorem dn_X3_checkSector : (parseMethodDescriptor yX3_checkSector.desc).map (fun d => d.parameters.length) = some 1 := by decide +kernel
theorem dh_X3_checkSector : yX3_checkSector.cls ≠ "java/lang/invoke/MethodHandle" ∧ yX3_checkSector.cls ≠ "java/lang/invoke/VarHandle" := by decide +kernel
theorem dn_X3_copyLatestPage : (parseMethodDescriptor yX3_copyLatestPage.desc).map (fun d => d.parameters.length) = some 2 := by decide +kernel
theorem dh_X3_copyLatestPage : yX3_copyLatestPage.cls ≠ "java/lang/invoke/MethodHandle" ∧ yX3_copyLatestPage.cls ≠ "java/lang/invoke/VarHandle" := by decide +kernel
theorem dn_X3_formatAndMount : (parseMethodDescriptor yX3_formatAndMount.desc).map (fun d => d.parameters.length) = some 0 := by decide +kernel
theorem dh_X3_formatAndMount : yX3_formatAndMount.cls ≠ "java/lang/invoke/MethodHandle" ∧ yX3_formatAndMount.cls ≠ "java/lang/invoke/VarHandle" := by decide +kernel
theorem dn_X3_freeSet : (parseMethodDescriptor yX3_freeSet.desc).map (fun d => d.parameters.length) = some 0 := by decide +kernel
theorem dh_X3_freeSet : yX3_freeSet.cls ≠ "java/lang/invoke/MethodHandle" ∧ yX3_freeSet.cls ≠ "java/lang/invoke/VarHandle" := by decide +kernel
theorem dn_X3_holdBackPage : (parseMethodDescriptor yX3_holdBackPage.desc).map (fun d => d.parameters.length) = some 1 := by decide +kernel
theorem dh_X3_holdBackPage : yX3_holdBackPage.cls ≠ "java/lang/invoke/MethodHandle" ∧ yX3_holdBackPage.cls ≠ "java/lang/invoke/VarHandle" := by decide +kernel
theorem dn_X3_holdBackTable : (parseMethodDescriptor yX3_holdBackTable.desc).map (fun d => d.parameters.length) = some 1 := by decide +kernel
theorem dh_X3_holdBackTable : yX3_holdBackTable.cls ≠ "java/lang/invoke/MethodHandle" ∧ yX3_holdBackTable.cls ≠ "java/lang/invoke/VarHandle" := by decide +kernel
theorem dn_X3_holdBackUnspilledPages : (parseMethodDescriptor yX3_holdBackUnspilledPages.desc).map (fun d => d.parameters.length) = some 0 := by decide +kernel
theorem dh_X3_holdBackUnspilledPages : yX3_holdBackUnspilledPages.cls ≠ "java/lang/invoke/MethodHandle" ∧ yX3_holdBackUnspilledPages.cls ≠ "java/lang/invoke/VarHandle" := by decide +kernel
theorem dn_X3_holds : (parseMethodDescriptor yX3_holds.desc).map (fun d => d.parameters.length) = some 2 := by decide +kernel
theorem dh_X3_holds : yX3_holds.cls ≠ "java/lang/invoke/MethodHandle" ∧ yX3_holds.cls ≠ "java/lang/invoke/VarHandle" := by decide +kernel
theorem dn_X3_leastFree : (parseMethodDescriptor yX3_leastFree.desc).map (fun d => d.parameters.length) = some 0 := by decide +kernel
theorem dh_X3_leastFree : yX3_leastFree.cls ≠ "java/lang/invoke/MethodHandle" ∧ yX3_leastFree.cls ≠ "java/lang/invoke/VarHandle" := by decide +kernel
theorem dn_X3_masterIsRight : (parseMethodDescriptor yX3_masterIsRight.desc).map (fun d => d.parameters.length) = some 0 := by decide +kernel
theorem dh_X3_masterIsRight : yX3_masterIsRight.cls ≠ "java/lang/invoke/MethodHandle" ∧ yX3_masterIsRight.cls ≠ "java/lang/invoke/VarHandle" := by decide +kernel
theorem dn_X3_mount : (parseMethodDescriptor yX3_mount.desc).map (fun d => d.parameters.length) = some 0 := by decide +kernel
theorem dh_X3_mount : yX3_mount.cls ≠ "java/lang/invoke/MethodHandle" ∧ yX3_mount.cls ≠ "java/lang/invoke/VarHandle" := by decide +kernel
theorem dn_X3_mountedTotal : (parseMethodDescriptor yX3_mountedTotal.desc).map (fun d => d.parameters.length) = some 1 := by decide +kernel
theorem dh_X3_mountedTotal : yX3_mountedTotal.cls ≠ "java/lang/invoke/MethodHandle" ∧ yX3_mountedTotal.cls ≠ "java/lang/invoke/VarHandle" := by decide +kernel
theorem dn_X3_openPlace : (parseMethodDescriptor yX3_openPlace.desc).map (fun d => d.parameters.length) = some 1 := by decide +kernel
theorem dh_X3_openPlace : yX3_openPlace.cls ≠ "java/lang/invoke/MethodHandle" ∧ yX3_openPlace.cls ≠ "java/lang/invoke/VarHandle" := by decide +kernel
theorem dn_X3_putMaster : (parseMethodDescriptor yX3_putMaster.desc).map (fun d => d.parameters.length) = some 3 := by decide +kernel
theorem dh_X3_putMaster : yX3_putMaster.cls ≠ "java/lang/invoke/MethodHandle" ∧ yX3_putMaster.cls ≠ "java/lang/invoke/VarHandle" := by decide +kernel
theorem dn_X3_tableIsRight : (parseMethodDescriptor yX3_tableIsRight.desc).map (fun d => d.parameters.length) = some 0 := by decide +kernel
theorem dh_X3_tableIsRight : yX3_tableIsRight.cls ≠ "java/lang/invoke/MethodHandle" ∧ yX3_tableIsRight.cls ≠ "java/lang/invoke/VarHandle" := by decide +kernel
theorem dn_X3_turnOver : (parseMethodDescriptor yX3_turnOver.desc).map (fun d => d.parameters.length) = some 1 := by decide +kernel
theorem dh_X3_turnOver : yX3_turnOver.cls ≠ "java/lang/invoke/MethodHandle" ∧ yX3_turnOver.cls ≠ "java/lang/invoke/VarHandle" := by decide +kernel
theorem dn_X4_byteAt : (parseMethodDescriptor yX4_byteAt.desc).map (fun d => d.parameters.length) = some 3 := by decide +kernel
theorem dh_X4_byteAt : yX4_byteAt.cls ≠ "java/lang/invoke/MethodHandle" ∧ yX4_byteAt.cls ≠ "java/lang/invoke/VarHandle" := by decide +kernel
theorem dn_X4_changed : (parseMethodDescriptor yX4_changed.desc).map (fun d => d.parameters.length) = some 0 := by decide +kernel
theorem dh_X4_changed : yX4_changed.cls ≠ "java/lang/invoke/MethodHandle" ∧ yX4_changed.cls ≠ "java/lang/invoke/VarHandle" := by decide +kernel
theorem dn_X4_changes : (parseMethodDescriptor yX4_changes.desc).map (fun d => d.parameters.length) = some 1 := by decide +kernel
theorem dh_X4_changes : yX4_changes.cls ≠ "java/lang/invoke/MethodHandle" ∧ yX4_changes.cls ≠ "java/lang/invoke/VarHandle" := by decide +kernel
theorem dn_X4_checkOf : (parseMethodDescriptor yX4_checkOf.desc).map (fun d => d.parameters.length) = some 2 := by decide +kernel
theorem dh_X4_checkOf : yX4_checkOf.cls ≠ "java/lang/invoke/MethodHandle" ∧ yX4_checkOf.cls ≠ "java/lang/invoke/VarHandle" := by decide +kernel
theorem dn_X4_clear : (parseMethodDescriptor yX4_clear.desc).map (fun d => d.parameters.length) = some 0 := by decide +kernel
theorem dh_X4_clear : yX4_clear.cls ≠ "java/lang/invoke/MethodHandle" ∧ yX4_clear.cls ≠ "java/lang/invoke/VarHandle" := by decide +kernel
theorem dn_X4_fails : (parseMethodDescriptor yX4_fails.desc).map (fun d => d.parameters.length) = some 2 := by decide +kernel
theorem dh_X4_fails : yX4_fails.cls ≠ "java/lang/invoke/MethodHandle" ∧ yX4_fails.cls ≠ "java/lang/invoke/VarHandle" := by decide +kernel
theorem dn_X4_firstFree : (parseMethodDescriptor yX4_firstFree.desc).map (fun d => d.parameters.length) = some 0 := by decide +kernel
theorem dh_X4_firstFree : yX4_firstFree.cls ≠ "java/lang/invoke/MethodHandle" ∧ yX4_firstFree.cls ≠ "java/lang/invoke/VarHandle" := by decide +kernel
theorem dn_X4_flushed : (parseMethodDescriptor yX4_flushed.desc).map (fun d => d.parameters.length) = some 0 := by decide +kernel
theorem dh_X4_flushed : yX4_flushed.cls ≠ "java/lang/invoke/MethodHandle" ∧ yX4_flushed.cls ≠ "java/lang/invoke/VarHandle" := by decide +kernel
theorem dn_X4_hold : (parseMethodDescriptor yX4_hold.desc).map (fun d => d.parameters.length) = some 3 := by decide +kernel
theorem dh_X4_hold : yX4_hold.cls ≠ "java/lang/invoke/MethodHandle" ∧ yX4_hold.cls ≠ "java/lang/invoke/VarHandle" := by decide +kernel
theorem dn_X4_isFree : (parseMethodDescriptor yX4_isFree.desc).map (fun d => d.parameters.length) = some 1 := by decide +kernel
theorem dh_X4_isFree : yX4_isFree.cls ≠ "java/lang/invoke/MethodHandle" ∧ yX4_isFree.cls ≠ "java/lang/invoke/VarHandle" := by decide +kernel
theorem dn_X4_master : (parseMethodDescriptor yX4_master.desc).map (fun d => d.parameters.length) = some 4 := by decide +kernel
theorem dh_X4_master : yX4_master.cls ≠ "java/lang/invoke/MethodHandle" ∧ yX4_master.cls ≠ "java/lang/invoke/VarHandle" := by decide +kernel
theorem dn_X4_mount : (parseMethodDescriptor yX4_mount.desc).map (fun d => d.parameters.length) = some 0 := by decide +kernel
theorem dh_X4_mount : yX4_mount.cls ≠ "java/lang/invoke/MethodHandle" ∧ yX4_mount.cls ≠ "java/lang/invoke/VarHandle" := by decide +kernel
theorem dn_X4_settle : (parseMethodDescriptor yX4_settle.desc).map (fun d => d.parameters.length) = some 0 := by decide +kernel
theorem dh_X4_settle : yX4_settle.cls ≠ "java/lang/invoke/MethodHandle" ∧ yX4_settle.cls ≠ "java/lang/invoke/VarHandle" := by decide +kernel
theorem dn_X4_within : (parseMethodDescriptor yX4_within.desc).map (fun d => d.parameters.length) = some 3 := by decide +kernel
theorem dh_X4_within : yX4_within.cls ≠ "java/lang/invoke/MethodHandle" ∧ yX4_within.cls ≠ "java/lang/invoke/VarHandle" := by decide +kernel
theorem dn_X4_writes : (parseMethodDescriptor yX4_writes.desc).map (fun d => d.parameters.length) = some 1 := by decide +kernel
theorem dh_X4_writes : yX4_writes.cls ≠ "java/lang/invoke/MethodHandle" ∧ yX4_writes.cls ≠ "java/lang/invoke/VarHandle" := by decide +kernel
end
section
/-! The class's leaves: pure words first. -/
theorem zg_w {V : zv_V} {M : zg_M} {fr lc n0 u0 pc : Nat} {st : List Value} {lv : List (Nat × Value)} {w w' : zw_W} {Q : zg_O → zw_W → Prop} (h : w' = w) (k : zg_G V M fr lc n0 u0 pc st lv w' Q) : zg_G V M fr lc n0 u0 pc st lv w Q := h ▸ k
theorem zg_s {V : zv_V} {M : zg_M} {fr lc n0 u0 pc : Nat} {st st' : List Value} {lv lv' : List (Nat × Value)} {w w' : zw_W} {Q : zg_O → zw_W → Prop} (h1 : st' = st) (h2 : lv' = lv) (h : w' = w) (k : zg_G V M fr lc n0 u0 pc st' lv' w' Q) : zg_G V M fr lc n0 u0 pc st lv w Q := h1 ▸ h2 ▸ h ▸ k
theorem zg_l {V : zv_V} {M : zg_M} {fr lc n0 u0 pc : Nat} {st : List Value} {lv lv' : List (Nat × Value)} {w : zw_W} {Q : zg_O → zw_W → Prop} (ks : List Nat) (h : lv_pick lv ks = lv') (k : zg_G V M fr lc n0 u0 pc st lv' w Q) : zg_G V M fr lc n0 u0 pc st lv w Q := by
  subst h
  intro p e R s m args below meth c H locs cells slots ls K
  refine k p e R s m args below meth c H locs cells slots ls ⟨K.1, K.2.1, K.2.2.1, K.2.2.2.1, K.2.2.2.2.1, K.2.2.2.2.2.1, K.2.2.2.2.2.2.1, K.2.2.2.2.2.2.2.1, fun q hq => ?_⟩
  obtain ⟨q', hq', rfl⟩ := List.mem_map.mp hq
  obtain ⟨i, -, hi⟩ := List.mem_filterMap.mp hq'
  exact K.2.2.2.2.2.2.2.2 _ (List.mem_map.mpr ⟨q', List.mem_of_getElem? hi, rfl⟩)
theorem zn_no {x : Int32} {n : Nat} (hn : ∀ j, j < n → x ≠ nI j) (h0 : ¬ x < 0) (h1 : x < nI n) (hb : n < 2 ^ 31 := by decide) : False := by
  rcases pk_ix x hb with h | h | ⟨j, hj, e⟩
  · exact h0 h
  · exact absurd h1 (Int32.not_lt.mpr h)
  · exact hn j hj e
theorem zw_ext {w w' : zw_W} (h1 : w.1 = w'.1) (h2 : w.2.1 = w'.2.1) (h3 : zw_t w = zw_t w') (h4 : zw_r w = zw_r w') (h5 : zw_i w = zw_i w') (h6 : zw_l w = zw_l w') : w = w' := by
  obtain ⟨a, b, c, d, e, f⟩ := w
  obtain ⟨a', b', c', d', e', f'⟩ := w'
  cases h1; cases h2; cases h3; cases h4; cases h5; cases h6
  rfl
theorem zw_sa_0 (w : zw_W) (k : Nat) {f : Nat → Int32} (h : f = zw_i w k) : zw_sa w k f = w := by
  subst h
  refine zw_ext rfl rfl rfl rfl (funext fun a => ?_) rfl
  show zw_ro (zw_i w) k (zw_i w k) a = zw_i w a
  by_cases e : a = k
  · subst e
    exact zw_ro_s _ _ _
  · exact zw_ro_n _ _ e
theorem zw_si_sa (w : zw_W) (k j : Nat) (f : Nat → Int32) (x : Int32) : zw_si (zw_sa w k f) k j x = zw_sa w k (zw_ro f j x) := by
  refine zw_ext rfl rfl rfl rfl (funext fun a => funext fun b => ?_) rfl
  show zw_up (zw_ro (zw_i w) k f) k j x a b = zw_ro (zw_i w) k (zw_ro f j x) a b
  by_cases e : a = k
  · subst e
    rw [zw_ro_s]
    by_cases e2 : b = j
    · subst e2
      rw [zw_up_s, zw_ro_s]
    · rw [zw_up_n _ _ (Or.inr e2), zw_ro_s, zw_ro_n _ _ e2]
  · rw [zw_up_n _ _ (Or.inl e), zw_ro_n _ _ e, zw_ro_n _ _ e]
theorem zw_i_sa (w : zw_W) (k : Nat) (f : Nat → Int32) : zw_i (zw_sa w k f) k = f := zw_ro_s _ _ _
theorem zw_i_sn (w : zw_W) {k a : Nat} (f : Nat → Int32) (h : a ≠ k) : zw_i (zw_sa w k f) a = zw_i w a := zw_ro_n _ _ h
/-- an array that is being written from its beginning on -/
def zs_w (g o : Nat → Int32) (i : Nat) : Nat → Int32 := fun j => if j < i then g j else o j
theorem zs_w0 (g o : Nat → Int32) : zs_w g o 0 = o := funext fun j => if_neg (Nat.not_lt_zero j)
theorem zs_ws (g o : Nat → Int32) (i : Nat) : zw_ro (zs_w g o i) i (g i) = zs_w g o (i + 1) := by
  funext j
  unfold zw_ro zs_w
  by_cases e : j = i
  · subst e
    simp
  · by_cases h : j < i
    · simp [e, h, Nat.lt_succ_of_lt h]
    · simp [e, h, show ¬ j < i + 1 by omega]
theorem zs_win (g o : Nat → Int32) {i j : Nat} (h : j < i) : zs_w g o i j = g j := if_pos h
theorem zs_wout (g o : Nat → Int32) {i j : Nat} (h : i ≤ j) : zs_w g o i j = o j := if_neg (by omega)
/-- the master's check over the first n bytes -/
theorem zs_cmp {x : Int64} (h : lg_cmp x 0 = 0) : x = 0 := by
  unfold lg_cmp at h
  split at h
  · exact absurd h (by decide)
  · split at h
    · assumption
    · exact absurd h (by decide)
theorem zs_cmp0 {x : Int64} (h : ¬ lg_cmp x 0 = 0) : ¬ x = 0 := fun e => h (by rw [e]; decide)
def zs_ck (f : Nat → Int32) : Nat → Int32
  | 0 => 1
  | n + 1 => (zs_ck f n * 31 + f n) &&& 65535
/-- a set of sectors, bit by bit -/
def zs_us (f : Nat → Int32) (u : Int64) : Nat → Int64
  | 0 => u
  | n + 1 => zs_us f u n ||| ((1 : Int64) <<< ((f n).toInt64 &&& 63))

set_option maxHeartbeats 4000000 in
set_option maxRecDepth 100000 in
theorem ct_checkPage_ok {V : zv_V} (E : zv_OK V) {w : zw_W} (HX : zl_X w) {n : Nat} (hn : n < 16) : zg_C V zm_X3_checkPage yX3_checkPage 0 0 [.int (nI n)] w (zq_p (.inl none) (· = w)) := by
  refine zg_of (by decide +kernel) rfl (Nat.le_of_ble_eq_true rfl) ?_
  show zg_G V zm_X3_checkPage 0 0 w.1 w.2.1 0 [] [(0, .int (nI n))] w _
  refine zg_iload_n dX3_checkPage_0 rfl ?_
  refine zg_if_lt (tgt := 10) dX3_checkPage_1 (by decide) (fun h1 => ?_) (fun h1 => ?_)
  · exact absurd h1 (nI_pos (by omega))
  · refine zg_iload_n dX3_checkPage_4 rfl ?_
    refine zg_bipush (v := nI 16) dX3_checkPage_5 (by decide) ?_
    refine zg_icmp_lt (tgt := 20) dX3_checkPage_7 (by decide) (fun h7 => ?_) (fun h7 => ?_)
    · exact zg_vret rfl dX3_checkPage_20 ⟨rfl, rfl⟩
    · exact absurd (nI_lt hn (by decide)) h7
set_option maxHeartbeats 4000000 in
set_option maxRecDepth 100000 in
theorem ct_checkPage_no {V : zv_V} (E : zv_OK V) {w : zw_W} (HX : zl_X w) {x : Int32} (hn : ∀ n, n < 16 → x ≠ nI n) : zg_C V zm_X3_checkPage yX3_checkPage 6 82 [.int x] w (zq_p (.inr 20) (· = zw_nw w (20, 6))) := by
  refine zg_of (by decide +kernel) rfl (Nat.le_of_ble_eq_true rfl) ?_
  show zg_G V zm_X3_checkPage 6 82 w.1 w.2.1 0 [] [(0, .int x)] w _
  refine zg_iload_n dX3_checkPage_0 rfl ?_
  refine zg_if_lt (tgt := 10) dX3_checkPage_1 (by decide) (fun h1 => ?_) (fun h1 => ?_)
  · exact zg_throw (M := zm_X3_checkPage) E 20 (text := "no such page") (by decide) rfl rfl dX3_checkPage_10 dX3_checkPage_13 dX3_checkPage_14 dX3_checkPage_16 dX3_checkPage_19 (by decide +kernel) (by decide +kernel) (by decide +kernel) tw_20_83 (zt_cap HX).1 (zt_cap HX).2.1 (zt_cap HX).2.2 (Nat.le_of_ble_eq_true rfl) (Nat.le_of_ble_eq_true rfl) ⟨rfl, rfl⟩
  · refine zg_iload_n dX3_checkPage_4 rfl ?_
    refine zg_bipush (v := nI 16) dX3_checkPage_5 (by decide) ?_
    refine zg_icmp_lt (tgt := 20) dX3_checkPage_7 (by decide) (fun h7 => ?_) (fun h7 => ?_)
    · exact absurd (zn_no hn h1 h7) not_false
    · exact zg_throw (M := zm_X3_checkPage) E 20 (text := "no such page") (by decide) rfl rfl dX3_checkPage_10 dX3_checkPage_13 dX3_checkPage_14 dX3_checkPage_16 dX3_checkPage_19 (by decide +kernel) (by decide +kernel) (by decide +kernel) tw_20_83 (zt_cap HX).1 (zt_cap HX).2.1 (zt_cap HX).2.2 (Nat.le_of_ble_eq_true rfl) (Nat.le_of_ble_eq_true rfl) ⟨rfl, rfl⟩
set_option maxHeartbeats 4000000 in
set_option maxRecDepth 100000 in
theorem ct_checkSector_ok {V : zv_V} (E : zv_OK V) {w : zw_W} (HX : zl_X w) {n : Nat} (hn : n < 48) : zg_C V zm_X3_checkSector yX3_checkSector 0 0 [.int (nI n)] w (zq_p (.inl none) (· = w)) := by
  refine zg_of (by decide +kernel) rfl (Nat.le_of_ble_eq_true rfl) ?_
  show zg_G V zm_X3_checkSector 0 0 w.1 w.2.1 0 [] [(0, .int (nI n))] w _
  refine zg_iload_n dX3_checkSector_0 rfl ?_
  refine zg_if_lt (tgt := 10) dX3_checkSector_1 (by decide) (fun h1 => ?_) (fun h1 => ?_)
  · exact absurd h1 (nI_pos (by omega))
  · refine zg_iload_n dX3_checkSector_4 rfl ?_
    refine zg_bipush (v := nI 48) dX3_checkSector_5 (by decide) ?_
    refine zg_icmp_lt (tgt := 20) dX3_checkSector_7 (by decide) (fun h7 => ?_) (fun h7 => ?_)
    · exact zg_vret rfl dX3_checkSector_20 ⟨rfl, rfl⟩
    · exact absurd (nI_lt hn (by decide)) h7
set_option maxHeartbeats 4000000 in
set_option maxRecDepth 100000 in
theorem ct_checkSector_no {V : zv_V} (E : zv_OK V) {w : zw_W} (HX : zl_X w) {x : Int32} (hn : ∀ n, n < 48 → x ≠ nI n) : zg_C V zm_X3_checkSector yX3_checkSector 6 82 [.int x] w (zq_p (.inr 20) (· = zw_nw w (20, 6))) := by
  refine zg_of (by decide +kernel) rfl (Nat.le_of_ble_eq_true rfl) ?_
  show zg_G V zm_X3_checkSector 6 82 w.1 w.2.1 0 [] [(0, .int x)] w _
  refine zg_iload_n dX3_checkSector_0 rfl ?_
  refine zg_if_lt (tgt := 10) dX3_checkSector_1 (by decide) (fun h1 => ?_) (fun h1 => ?_)
  · exact zg_throw (M := zm_X3_checkSector) E 20 (text := "no such sector") (by decide) rfl rfl dX3_checkSector_10 dX3_checkSector_13 dX3_checkSector_14 dX3_checkSector_16 dX3_checkSector_19 (by decide +kernel) (by decide +kernel) (by decide +kernel) tw_20_83 (zt_cap HX).1 (zt_cap HX).2.1 (zt_cap HX).2.2 (Nat.le_of_ble_eq_true rfl) (Nat.le_of_ble_eq_true rfl) ⟨rfl, rfl⟩
  · refine zg_iload_n dX3_checkSector_4 rfl ?_
    refine zg_bipush (v := nI 48) dX3_checkSector_5 (by decide) ?_
    refine zg_icmp_lt (tgt := 20) dX3_checkSector_7 (by decide) (fun h7 => ?_) (fun h7 => ?_)
    · exact absurd (zn_no hn h1 h7) not_false
    · exact zg_throw (M := zm_X3_checkSector) E 20 (text := "no such sector") (by decide) rfl rfl dX3_checkSector_10 dX3_checkSector_13 dX3_checkSector_14 dX3_checkSector_16 dX3_checkSector_19 (by decide +kernel) (by decide +kernel) (by decide +kernel) tw_20_83 (zt_cap HX).1 (zt_cap HX).2.1 (zt_cap HX).2.2 (Nat.le_of_ble_eq_true rfl) (Nat.le_of_ble_eq_true rfl) ⟨rfl, rfl⟩
set_option maxHeartbeats 4000000 in
set_option maxRecDepth 100000 in
theorem ct_checkIndex_ok {V : zv_V} (E : zv_OK V) {w : zw_W} (HX : zl_X w) {n : Nat} (hn : n < 16) : zg_C V zm_X3_checkIndex yX3_checkIndex 0 0 [.int (nI n)] w (zq_p (.inl none) (· = w)) := by
  refine zg_of (by decide +kernel) rfl (Nat.le_of_ble_eq_true rfl) ?_
  show zg_G V zm_X3_checkIndex 0 0 w.1 w.2.1 0 [] [(0, .int (nI n))] w _
  refine zg_iload_n dX3_checkIndex_0 rfl ?_
  refine zg_if_lt (tgt := 10) dX3_checkIndex_1 (by decide) (fun h1 => ?_) (fun h1 => ?_)
  · exact absurd h1 (nI_pos (by omega))
  · refine zg_iload_n dX3_checkIndex_4 rfl ?_
    refine zg_bipush (v := nI 16) dX3_checkIndex_5 (by decide) ?_
    refine zg_icmp_lt (tgt := 20) dX3_checkIndex_7 (by decide) (fun h7 => ?_) (fun h7 => ?_)
    · exact zg_vret rfl dX3_checkIndex_20 ⟨rfl, rfl⟩
    · exact absurd (nI_lt hn (by decide)) h7
set_option maxHeartbeats 4000000 in
set_option maxRecDepth 100000 in
theorem ct_checkIndex_no {V : zv_V} (E : zv_OK V) {w : zw_W} (HX : zl_X w) {x : Int32} (hn : ∀ n, n < 16 → x ≠ nI n) : zg_C V zm_X3_checkIndex yX3_checkIndex 6 82 [.int x] w (zq_p (.inr 20) (· = zw_nw w (20, 6))) := by
  refine zg_of (by decide +kernel) rfl (Nat.le_of_ble_eq_true rfl) ?_
  show zg_G V zm_X3_checkIndex 6 82 w.1 w.2.1 0 [] [(0, .int x)] w _
  refine zg_iload_n dX3_checkIndex_0 rfl ?_
  refine zg_if_lt (tgt := 10) dX3_checkIndex_1 (by decide) (fun h1 => ?_) (fun h1 => ?_)
  · exact zg_throw (M := zm_X3_checkIndex) E 20 (text := "no such byte") (by decide) rfl rfl dX3_checkIndex_10 dX3_checkIndex_13 dX3_checkIndex_14 dX3_checkIndex_16 dX3_checkIndex_19 (by decide +kernel) (by decide +kernel) (by decide +kernel) tw_20_83 (zt_cap HX).1 (zt_cap HX).2.1 (zt_cap HX).2.2 (Nat.le_of_ble_eq_true rfl) (Nat.le_of_ble_eq_true rfl) ⟨rfl, rfl⟩
  · refine zg_iload_n dX3_checkIndex_4 rfl ?_
    refine zg_bipush (v := nI 16) dX3_checkIndex_5 (by decide) ?_
    refine zg_icmp_lt (tgt := 20) dX3_checkIndex_7 (by decide) (fun h7 => ?_) (fun h7 => ?_)
    · exact absurd (zn_no hn h1 h7) not_false
    · exact zg_throw (M := zm_X3_checkIndex) E 20 (text := "no such byte") (by decide) rfl rfl dX3_checkIndex_10 dX3_checkIndex_13 dX3_checkIndex_14 dX3_checkIndex_16 dX3_checkIndex_19 (by decide +kernel) (by decide +kernel) (by decide +kernel) tw_20_83 (zt_cap HX).1 (zt_cap HX).2.1 (zt_cap HX).2.2 (Nat.le_of_ble_eq_true rfl) (Nat.le_of_ble_eq_true rfl) ⟨rfl, rfl⟩
set_option maxHeartbeats 4000000 in
set_option maxRecDepth 100000 in
theorem ct_checkByte_ok {V : zv_V} (E : zv_OK V) {w : zw_W} (HX : zl_X w) {n : Nat} (hn : n < 256) : zg_C V zm_X3_checkByte yX3_checkByte 0 0 [.int (nI n)] w (zq_p (.inl none) (· = w)) := by
  refine zg_of (by decide +kernel) rfl (Nat.le_of_ble_eq_true rfl) ?_
  show zg_G V zm_X3_checkByte 0 0 w.1 w.2.1 0 [] [(0, .int (nI n))] w _
  refine zg_iload_n dX3_checkByte_0 rfl ?_
  refine zg_if_lt (tgt := 11) dX3_checkByte_1 (by decide) (fun h1 => ?_) (fun h1 => ?_)
  · exact absurd h1 (nI_pos (by omega))
  · refine zg_iload_n dX3_checkByte_4 rfl ?_
    refine zg_sipush (v := nI 255) dX3_checkByte_5 (by decide) ?_
    refine zg_icmp_le (tgt := 21) dX3_checkByte_8 (by decide) (fun h8 => ?_) (fun h8 => ?_)
    · exact zg_vret rfl dX3_checkByte_21 ⟨rfl, rfl⟩
    · exact absurd (nI_le (by omega) (by decide) : nI n ≤ nI 255) h8
set_option maxHeartbeats 4000000 in
set_option maxRecDepth 100000 in
theorem ct_checkByte_no {V : zv_V} (E : zv_OK V) {w : zw_W} (HX : zl_X w) {x : Int32} (hn : ∀ n, n < 256 → x ≠ nI n) : zg_C V zm_X3_checkByte yX3_checkByte 6 82 [.int x] w (zq_p (.inr 20) (· = zw_nw w (20, 6))) := by
  refine zg_of (by decide +kernel) rfl (Nat.le_of_ble_eq_true rfl) ?_
  show zg_G V zm_X3_checkByte 6 82 w.1 w.2.1 0 [] [(0, .int x)] w _
  refine zg_iload_n dX3_checkByte_0 rfl ?_
  refine zg_if_lt (tgt := 11) dX3_checkByte_1 (by decide) (fun h1 => ?_) (fun h1 => ?_)
  · exact zg_throw (M := zm_X3_checkByte) E 20 (text := "not the number of a byte") (by decide) rfl rfl dX3_checkByte_11 dX3_checkByte_14 dX3_checkByte_15 dX3_checkByte_17 dX3_checkByte_20 (by decide +kernel) (by decide +kernel) (by decide +kernel) tw_20_83 (zt_cap HX).1 (zt_cap HX).2.1 (zt_cap HX).2.2 (Nat.le_of_ble_eq_true rfl) (Nat.le_of_ble_eq_true rfl) ⟨rfl, rfl⟩
  · refine zg_iload_n dX3_checkByte_4 rfl ?_
    refine zg_sipush (v := nI 255) dX3_checkByte_5 (by decide) ?_
    refine zg_icmp_le (tgt := 21) dX3_checkByte_8 (by decide) (fun h8 => ?_) (fun h8 => ?_)
    · exact absurd (zn_no (n := 256) hn h1 (Int32.lt_of_le_of_lt h8 (by decide))) not_false
    · exact zg_throw (M := zm_X3_checkByte) E 20 (text := "not the number of a byte") (by decide) rfl rfl dX3_checkByte_11 dX3_checkByte_14 dX3_checkByte_15 dX3_checkByte_17 dX3_checkByte_20 (by decide +kernel) (by decide +kernel) (by decide +kernel) tw_20_83 (zt_cap HX).1 (zt_cap HX).2.1 (zt_cap HX).2.2 (Nat.le_of_ble_eq_true rfl) (Nat.le_of_ble_eq_true rfl) ⟨rfl, rfl⟩
set_option maxHeartbeats 4000000 in
set_option maxRecDepth 100000 in
theorem lp_fill {V : zv_V} (E : zv_OK V) {w : zw_W} {n0 u0 : Nat} {Q : zg_O → zw_W → Prop} {k m : Nat} {x : Int32} (ht : zw_t w k = (10, m)) (hk : 1 ≤ k) (hkn : k < w.1) (hm : m < 2 ^ 31) (hq : Q (.inl none) (zw_sa w k (zs_w (fun _ => x) (zw_i w k) m))) : ∀ (n i : Nat) , i ≤ m → m + 1 ≤ i + n → zg_G V zm_J7_fill_53178 0 0 n0 u0 5 [] [(3, .int (nI m)), (2, .int (nI i)), (0, .ref k), (1, .int x)] (zw_sa w k (zs_w (fun _ => x) (zw_i w k) i)) Q := by
  intro n
  induction n with
  | zero =>
    intro i hi hn
    exact absurd hn (by omega)
  | succ n ih =>
    intro i hi hn 
    refine zg_iload_n dJ7_fill_53178_5 rfl ?_
    refine zg_iload_n dJ7_fill_53178_6 rfl ?_
    refine zg_icmp_ge (tgt := 20) dJ7_fill_53178_7 (by decide) (fun h7 => ?_) (fun h7 => ?_)
    · obtain rfl : i = m := by have := zn_ge h7 (by omega) (by omega); omega
      exact zg_vret rfl dJ7_fill_53178_20 hq
    · have hlt : i < m := zn_lt h7 (by omega) (by omega)
      refine zg_aload_n dJ7_fill_53178_10 rfl ?_
      refine zg_iload_n dJ7_fill_53178_11 rfl ?_
      refine zg_iload_n dJ7_fill_53178_12 rfl ?_
      refine zg_iast E (j := i) dJ7_fill_53178_13 ht hk hkn rfl hlt (by omega) ?_
      refine zg_iinc (v := nI (i + 1)) (lv' := [(2, .int (nI (i + 1))), (3, .int (nI m)), (0, .ref k), (1, .int x)]) dJ7_fill_53178_14 rfl (nI_1 i) (by decide) rfl ?_
      refine zg_goto (tgt := 5) dJ7_fill_53178_17 (by decide) ?_
      refine zg_w ((zw_si_sa w k i _ x).trans (congrArg (zw_sa w k) (zs_ws (fun _ => x) (zw_i w k) i))).symm ?_
      refine zg_l [1, 0, 2, 3] rfl ?_
      exact zg_s rfl rfl rfl (ih (i + 1) (by omega) (by omega))
set_option maxHeartbeats 4000000 in
set_option maxRecDepth 100000 in
theorem ct_fill {V : zv_V} (E : zv_OK V) {w : zw_W} {k m : Nat} {x : Int32} (ht : zw_t w k = (10, m)) (hk : 1 ≤ k) (hkn : k < w.1) (hm : m < 2 ^ 31) : zg_C V zm_J7_fill_53178 yJ7_fill_53178 0 0 [.ref k, .int x] w (zq_p (.inl none) (· = zw_sa w k (zs_w (fun _ => x) (zw_i w k) m))) := by
  refine zg_of (by decide +kernel) rfl (Nat.le_of_ble_eq_true rfl) ?_
  show zg_G V zm_J7_fill_53178 0 0 w.1 w.2.1 0 [] [(0, .ref k), (1, .int x)] w _
  refine zg_iconst (v := nI 0) dJ7_fill_53178_0 (by decide) ?_
  refine zg_istore_n (lv' := [(2, .int (nI 0)), (0, .ref k), (1, .int x)]) dJ7_fill_53178_1 (by decide) rfl ?_
  refine zg_aload_n dJ7_fill_53178_2 rfl ?_
  refine zg_alenI E dJ7_fill_53178_3 ht hk hkn ?_
  refine zg_istore_n (lv' := [(3, .int (nI m)), (2, .int (nI 0)), (0, .ref k), (1, .int x)]) dJ7_fill_53178_4 (by decide) rfl ?_
  refine zg_w (zw_sa_0 w k (zs_w0 (fun _ => x) (zw_i w k))) ?_
  exact zg_s rfl rfl rfl (lp_fill E ht hk hkn hm ⟨rfl, rfl⟩ (m + 1) 0 (by omega) (by omega))
set_option maxHeartbeats 4000000 in
set_option maxRecDepth 100000 in
theorem ct_holds {V : zv_V} (E : zv_OK V) {w : zw_W} (b : Int64) (s : Int32) : zg_C V zm_X3_holds yX3_holds 0 0 [.long b, .int s] w (zq_p (.inl (some (.int (if (b.toUInt64 >>> (s.toInt64.toUInt64 &&& Int64.toUInt64 63)).toInt64 &&& 1 = 0 then nI 0 else nI 1)))) (· = w)) := by
  refine zg_of (by decide +kernel) rfl (Nat.le_of_ble_eq_true rfl) ?_
  show zg_G V zm_X3_holds 0 0 w.1 w.2.1 0 [] [(0, .long b), (2, .int s)] w _
  refine zg_lload_n dX3_holds_0 rfl ?_
  refine zg_iload_n dX3_holds_1 rfl ?_
  refine zg_lushr dX3_holds_2 ?_
  refine zg_lconst (v := 1) dX3_holds_3 (by decide) ?_
  refine zg_land dX3_holds_4 ?_
  refine zg_lconst (v := 0) dX3_holds_5 (by decide) ?_
  refine zg_lcmp dX3_holds_6 ?_
  refine zg_if_eq (tgt := 14) dX3_holds_7 (by decide) (fun h7 => ?_) (fun h7 => ?_)
  · refine zg_iconst (v := nI 0) dX3_holds_14 (by decide) ?_
    exact zg_zret rfl rfl dX3_holds_15 ⟨by rw [if_pos (zs_cmp h7)], rfl⟩
  · refine zg_iconst (v := nI 1) dX3_holds_10 (by decide) ?_
    refine zg_goto (tgt := 15) dX3_holds_11 (by decide) ?_
    exact zg_zret rfl rfl dX3_holds_15 ⟨by rw [if_neg (zs_cmp0 h7)], rfl⟩
set_option maxHeartbeats 4000000 in
set_option maxRecDepth 100000 in
theorem lp_checkOf {V : zv_V} (E : zv_OK V) {w : zw_W} {n0 u0 : Nat} {Q : zg_O → zw_W → Prop} {k : Nat} (ht : zw_t w k = (10, 16)) (hk : 1 ≤ k) (hkn : k < w.1) (hq : Q (.inl (some (.int (zs_ck (zw_i w k) 14)))) w) : ∀ (n i : Nat) , i ≤ 14 → 14 + 1 ≤ i + n → zg_G V zm_X3_checkOf 0 0 n0 u0 4 [] [(2, .int (nI i)), (1, .int (zs_ck (zw_i w k) i)), (0, .ref k)] w Q := by
  intro n
  induction n with
  | zero =>
    intro i hi hn
    exact absurd hn (by omega)
  | succ n ih =>
    intro i hi hn 
    refine zg_iload_n dX3_checkOf_4 rfl ?_
    refine zg_bipush (v := nI 14) dX3_checkOf_5 (by decide) ?_
    refine zg_icmp_ge (tgt := 28) dX3_checkOf_7 (by decide) (fun h7 => ?_) (fun h7 => ?_)
    · obtain rfl : i = 14 := by have := zn_ge h7 (by omega) (by omega); omega
      refine zg_iload_n dX3_checkOf_28 rfl ?_
      exact zg_iret rfl dX3_checkOf_29 hq
    · have hlt : i < 14 := zn_lt h7 (by omega) (by omega)
      refine zg_iload_n dX3_checkOf_10 rfl ?_
      refine zg_bipush (v := nI 31) dX3_checkOf_11 (by decide) ?_
      refine zg_imul dX3_checkOf_13 ?_
      refine zg_aload_n dX3_checkOf_14 rfl ?_
      refine zg_iload_n dX3_checkOf_15 rfl ?_
      refine zg_iald E (j := i) dX3_checkOf_16 ht hk hkn rfl (by omega) (by decide) ?_
      refine zg_iadd dX3_checkOf_17 ?_
      refine zg_ldc E (v := 65535) dX3_checkOf_18 (by decide +kernel) ?_
      refine zg_iand dX3_checkOf_20 ?_
      refine zg_istore_n (lv' := [(1, .int ((((zs_ck (zw_i w k) i) * (nI 31)) + (zw_i w k i)) &&& 65535)), (2, .int (nI i)), (0, .ref k)]) dX3_checkOf_21 (by decide) rfl ?_
      refine zg_iinc (v := nI (i + 1)) (lv' := [(2, .int (nI (i + 1))), (1, .int ((((zs_ck (zw_i w k) i) * (nI 31)) + (zw_i w k i)) &&& 65535)), (0, .ref k)]) dX3_checkOf_22 rfl (nI_1 i) (by decide) rfl ?_
      refine zg_goto (tgt := 4) dX3_checkOf_25 (by decide) ?_
      refine zg_l [0, 1, 2] rfl ?_
      exact zg_s rfl rfl rfl (ih (i + 1) (by omega) (by omega))
set_option maxHeartbeats 4000000 in
set_option maxRecDepth 100000 in
theorem ct_checkOf {V : zv_V} (E : zv_OK V) {w : zw_W} {k : Nat} (ht : zw_t w k = (10, 16)) (hk : 1 ≤ k) (hkn : k < w.1) : zg_C V zm_X3_checkOf yX3_checkOf 0 0 [.ref k] w (zq_p (.inl (some (.int (zs_ck (zw_i w k) 14)))) (· = w)) := by
  refine zg_of (by decide +kernel) rfl (Nat.le_of_ble_eq_true rfl) ?_
  show zg_G V zm_X3_checkOf 0 0 w.1 w.2.1 0 [] [(0, .ref k)] w _
  refine zg_iconst (v := nI 1) dX3_checkOf_0 (by decide) ?_
  refine zg_istore_n (lv' := [(1, .int (nI 1)), (0, .ref k)]) dX3_checkOf_1 (by decide) rfl ?_
  refine zg_iconst (v := nI 0) dX3_checkOf_2 (by decide) ?_
  refine zg_istore_n (lv' := [(2, .int (nI 0)), (1, .int (nI 1)), (0, .ref k)]) dX3_checkOf_3 (by decide) rfl ?_
  exact zg_s rfl rfl rfl (lp_checkOf E ht hk hkn ⟨rfl, rfl⟩ 15 0 (by omega) (by omega))
set_option maxHeartbeats 4000000 in
set_option maxRecDepth 100000 in
theorem lp_usedSetL {V : zv_V} (E : zv_OK V) {w : zw_W} {n0 u0 : Nat} {Q : zg_O → zw_W → Prop} (HX : zl_X w) (hq : Q (.inl (some (.long (zs_us (zw_i w 132) ((1 : Int64) <<< ((zw_i w 131 1).toInt64 &&& 63)) 16)))) w) : ∀ (n i : Nat) , i ≤ 16 → 16 + 1 ≤ i + n → zg_G V zm_X2_usedSet 0 0 n0 u0 9 [] [(3, .int (nI i)), (1, .long (zs_us (zw_i w 132) ((1 : Int64) <<< ((zw_i w 131 1).toInt64 &&& 63)) i)), (0, .ref 131)] w Q := by
  intro n
  induction n with
  | zero =>
    intro i hi hn
    exact absurd hn (by omega)
  | succ n ih =>
    intro i hi hn 
    refine zg_iload_n dX2_usedSet_9 rfl ?_
    refine zg_bipush (v := nI 16) dX2_usedSet_10 (by decide) ?_
    refine zg_icmp_ge (tgt := 32) dX2_usedSet_12 (by decide) (fun h12 => ?_) (fun h12 => ?_)
    · obtain rfl : i = 16 := by have := zn_ge h12 (by omega) (by omega); omega
      refine zg_lload_n dX2_usedSet_32 rfl ?_
      exact zg_lret rfl dX2_usedSet_33 hq
    · have hlt : i < 16 := zn_lt h12 (by omega) (by omega)
      refine zg_lload_n dX2_usedSet_15 rfl ?_
      refine zg_lconst (v := 1) dX2_usedSet_16 (by decide) ?_
      refine zg_aload_n dX2_usedSet_17 rfl ?_
      refine zg_getR E (ci := 2) (j := 0) (r := 132) dX2_usedSet_18 rfl (congrArg Prod.fst (zl_at HX (k := 131) (t := (2, 3)) rfl (by decide) (by decide))) (by decide) (zl_lt HX (by decide)) (by decide) fl_X2_9 rfl (zl_rf HX rfl (by decide) (by decide)) ?_
      refine zg_iload_n dX2_usedSet_21 rfl ?_
      refine zg_iald E (j := i) dX2_usedSet_22 (zl_at HX (k := 132) (t := (10, 16)) rfl (by decide) (by decide)) (by decide) (zl_lt HX (by decide)) rfl (by omega) (by decide) ?_
      refine zg_lshl dX2_usedSet_23 ?_
      refine zg_lor dX2_usedSet_24 ?_
      refine zg_lstore_n (lv' := [(1, .long ((zs_us (zw_i w 132) ((1 : Int64) <<< ((zw_i w 131 1).toInt64 &&& 63)) i) ||| (((1)) <<< ((zw_i w 132 i).toInt64 &&& 63)))), (3, .int (nI i)), (0, .ref 131)]) dX2_usedSet_25 (by decide) rfl ?_
      refine zg_iinc (v := nI (i + 1)) (lv' := [(3, .int (nI (i + 1))), (1, .long ((zs_us (zw_i w 132) ((1 : Int64) <<< ((zw_i w 131 1).toInt64 &&& 63)) i) ||| (((1)) <<< ((zw_i w 132 i).toInt64 &&& 63)))), (0, .ref 131)]) dX2_usedSet_26 rfl (nI_1 i) (by decide) rfl ?_
      refine zg_goto (tgt := 9) dX2_usedSet_29 (by decide) ?_
      refine zg_l [0, 1, 2] rfl ?_
      exact zg_s rfl rfl rfl (ih (i + 1) (by omega) (by omega))
set_option maxHeartbeats 4000000 in
set_option maxRecDepth 100000 in
theorem ct_usedSetL {V : zv_V} (E : zv_OK V) {w : zw_W} (HX : zl_X w)  : zg_C V zm_X2_usedSet yX2_usedSet 0 0 [.ref 131] w (zq_p (.inl (some (.long (zs_us (zw_i w 132) ((1 : Int64) <<< ((zw_i w 131 1).toInt64 &&& 63)) 16)))) (· = w)) := by
  refine zg_of (by decide +kernel) rfl (Nat.le_of_ble_eq_true rfl) ?_
  show zg_G V zm_X2_usedSet 0 0 w.1 w.2.1 0 [] [(0, .ref 131)] w _
  refine zg_lconst (v := 1) dX2_usedSet_0 (by decide) ?_
  refine zg_aload_n dX2_usedSet_1 rfl ?_
  refine zg_getI E (ci := 2) (j := 1) dX2_usedSet_2 rfl (congrArg Prod.fst (zl_at HX (k := 131) (t := (2, 3)) rfl (by decide) (by decide))) (by decide) (zl_lt HX (by decide)) (by decide) fl_X2_21 rfl ?_
  refine zg_lshl dX2_usedSet_5 ?_
  refine zg_lstore_n (lv' := [(1, .long (((1)) <<< ((zw_i w 131 1).toInt64 &&& 63))), (0, .ref 131)]) dX2_usedSet_6 (by decide) rfl ?_
  refine zg_iconst (v := nI 0) dX2_usedSet_7 (by decide) ?_
  refine zg_istore_n (lv' := [(3, .int (nI 0)), (1, .long (((1)) <<< ((zw_i w 131 1).toInt64 &&& 63))), (0, .ref 131)]) dX2_usedSet_8 (by decide) rfl ?_
  exact zg_s rfl rfl rfl (lp_usedSetL E HX ⟨rfl, rfl⟩ 17 0 (by omega) (by omega))
set_option maxHeartbeats 4000000 in
set_option maxRecDepth 100000 in
theorem lp_usedSetS {V : zv_V} (E : zv_OK V) {w : zw_W} {n0 u0 : Nat} {Q : zg_O → zw_W → Prop} (HX : zl_X w) (hq : Q (.inl (some (.long (zs_us (zw_i w 134) ((1 : Int64) <<< ((zw_i w 133 1).toInt64 &&& 63)) 16)))) w) : ∀ (n i : Nat) , i ≤ 16 → 16 + 1 ≤ i + n → zg_G V zm_X2_usedSet 0 0 n0 u0 9 [] [(3, .int (nI i)), (1, .long (zs_us (zw_i w 134) ((1 : Int64) <<< ((zw_i w 133 1).toInt64 &&& 63)) i)), (0, .ref 133)] w Q := by
  intro n
  induction n with
  | zero =>
    intro i hi hn
    exact absurd hn (by omega)
  | succ n ih =>
    intro i hi hn 
    refine zg_iload_n dX2_usedSet_9 rfl ?_
    refine zg_bipush (v := nI 16) dX2_usedSet_10 (by decide) ?_
    refine zg_icmp_ge (tgt := 32) dX2_usedSet_12 (by decide) (fun h12 => ?_) (fun h12 => ?_)
    · obtain rfl : i = 16 := by have := zn_ge h12 (by omega) (by omega); omega
      refine zg_lload_n dX2_usedSet_32 rfl ?_
      exact zg_lret rfl dX2_usedSet_33 hq
    · have hlt : i < 16 := zn_lt h12 (by omega) (by omega)
      refine zg_lload_n dX2_usedSet_15 rfl ?_
      refine zg_lconst (v := 1) dX2_usedSet_16 (by decide) ?_
      refine zg_aload_n dX2_usedSet_17 rfl ?_
      refine zg_getR E (ci := 2) (j := 0) (r := 134) dX2_usedSet_18 rfl (congrArg Prod.fst (zl_at HX (k := 133) (t := (2, 3)) rfl (by decide) (by decide))) (by decide) (zl_lt HX (by decide)) (by decide) fl_X2_9 rfl (zl_rf HX rfl (by decide) (by decide)) ?_
      refine zg_iload_n dX2_usedSet_21 rfl ?_
      refine zg_iald E (j := i) dX2_usedSet_22 (zl_at HX (k := 134) (t := (10, 16)) rfl (by decide) (by decide)) (by decide) (zl_lt HX (by decide)) rfl (by omega) (by decide) ?_
      refine zg_lshl dX2_usedSet_23 ?_
      refine zg_lor dX2_usedSet_24 ?_
      refine zg_lstore_n (lv' := [(1, .long ((zs_us (zw_i w 134) ((1 : Int64) <<< ((zw_i w 133 1).toInt64 &&& 63)) i) ||| (((1)) <<< ((zw_i w 134 i).toInt64 &&& 63)))), (3, .int (nI i)), (0, .ref 133)]) dX2_usedSet_25 (by decide) rfl ?_
      refine zg_iinc (v := nI (i + 1)) (lv' := [(3, .int (nI (i + 1))), (1, .long ((zs_us (zw_i w 134) ((1 : Int64) <<< ((zw_i w 133 1).toInt64 &&& 63)) i) ||| (((1)) <<< ((zw_i w 134 i).toInt64 &&& 63)))), (0, .ref 133)]) dX2_usedSet_26 rfl (nI_1 i) (by decide) rfl ?_
      refine zg_goto (tgt := 9) dX2_usedSet_29 (by decide) ?_
      refine zg_l [0, 1, 2] rfl ?_
      exact zg_s rfl rfl rfl (ih (i + 1) (by omega) (by omega))
set_option maxHeartbeats 4000000 in
set_option maxRecDepth 100000 in
theorem ct_usedSetS {V : zv_V} (E : zv_OK V) {w : zw_W} (HX : zl_X w)  : zg_C V zm_X2_usedSet yX2_usedSet 0 0 [.ref 133] w (zq_p (.inl (some (.long (zs_us (zw_i w 134) ((1 : Int64) <<< ((zw_i w 133 1).toInt64 &&& 63)) 16)))) (· = w)) := by
  refine zg_of (by decide +kernel) rfl (Nat.le_of_ble_eq_true rfl) ?_
  show zg_G V zm_X2_usedSet 0 0 w.1 w.2.1 0 [] [(0, .ref 133)] w _
  refine zg_lconst (v := 1) dX2_usedSet_0 (by decide) ?_
  refine zg_aload_n dX2_usedSet_1 rfl ?_
  refine zg_getI E (ci := 2) (j := 1) dX2_usedSet_2 rfl (congrArg Prod.fst (zl_at HX (k := 133) (t := (2, 3)) rfl (by decide) (by decide))) (by decide) (zl_lt HX (by decide)) (by decide) fl_X2_21 rfl ?_
  refine zg_lshl dX2_usedSet_5 ?_
  refine zg_lstore_n (lv' := [(1, .long (((1)) <<< ((zw_i w 133 1).toInt64 &&& 63))), (0, .ref 133)]) dX2_usedSet_6 (by decide) rfl ?_
  refine zg_iconst (v := nI 0) dX2_usedSet_7 (by decide) ?_
  refine zg_istore_n (lv' := [(3, .int (nI 0)), (1, .long (((1)) <<< ((zw_i w 133 1).toInt64 &&& 63))), (0, .ref 133)]) dX2_usedSet_8 (by decide) rfl ?_
  exact zg_s rfl rfl rfl (lp_usedSetS E HX ⟨rfl, rfl⟩ 17 0 (by omega) (by omega))
end
section
/-! The class's small methods. -/
set_option maxHeartbeats 4000000 in
set_option maxRecDepth 100000 in
theorem ct_isOpen_y {V : zv_V} (E : zv_OK V) {w : zw_W} (HX : zl_X w) (h : 0 < zw_i w 135 3) : zg_C V zm_X0_isOpen yX0_isOpen 0 0 [.ref 135] w (zq_p (.inl (some (.int (nI 1)))) (· = w)) := by
  refine zg_of (by decide +kernel) rfl (Nat.le_of_ble_eq_true rfl) ?_
  show zg_G V zm_X0_isOpen 0 0 w.1 w.2.1 0 [] [(0, .ref 135)] w _
  refine zg_aload_n dX0_isOpen_0 rfl ?_
  refine zg_getI E (ci := 0) (j := 3) dX0_isOpen_1 rfl (congrArg Prod.fst (zl_at HX (k := 135) (t := (0, 4)) rfl (by decide) (by decide))) (by decide) (zl_lt HX (by decide)) (by decide) fl_X0_24 rfl ?_
  refine zg_if_le (tgt := 11) dX0_isOpen_4 (by decide) (fun h4 => ?_) (fun h4 => ?_)
  · exact absurd h4 (Int32.not_le.mpr h)
  · refine zg_iconst (v := nI 1) dX0_isOpen_7 (by decide) ?_
    refine zg_goto (tgt := 12) dX0_isOpen_8 (by decide) ?_
    exact zg_zret rfl rfl dX0_isOpen_12 ⟨rfl, rfl⟩
set_option maxHeartbeats 4000000 in
set_option maxRecDepth 100000 in
theorem ct_isOpen_n {V : zv_V} (E : zv_OK V) {w : zw_W} (HX : zl_X w) (h : ¬ 0 < zw_i w 135 3) : zg_C V zm_X0_isOpen yX0_isOpen 0 0 [.ref 135] w (zq_p (.inl (some (.int (nI 0)))) (· = w)) := by
  refine zg_of (by decide +kernel) rfl (Nat.le_of_ble_eq_true rfl) ?_
  show zg_G V zm_X0_isOpen 0 0 w.1 w.2.1 0 [] [(0, .ref 135)] w _
  refine zg_aload_n dX0_isOpen_0 rfl ?_
  refine zg_getI E (ci := 0) (j := 3) dX0_isOpen_1 rfl (congrArg Prod.fst (zl_at HX (k := 135) (t := (0, 4)) rfl (by decide) (by decide))) (by decide) (zl_lt HX (by decide)) (by decide) fl_X0_24 rfl ?_
  refine zg_if_le (tgt := 11) dX0_isOpen_4 (by decide) (fun h4 => ?_) (fun h4 => ?_)
  · refine zg_iconst (v := nI 0) dX0_isOpen_11 (by decide) ?_
    exact zg_zret rfl rfl dX0_isOpen_12 ⟨rfl, rfl⟩
  · exact absurd (Int32.not_lt.mp h) h4
set_option maxHeartbeats 4000000 in
set_option maxRecDepth 100000 in
theorem ct_has_y {V : zv_V} (E : zv_OK V) {w : zw_W} (HX : zl_X w) {p : Nat} (hp : p < 16) (h : zw_i w 136 p ≠ nI 0) : zg_C V zm_X0_has yX0_has 0 0 [.ref 135, .int (nI p)] w (zq_p (.inl (some (.int (nI 1)))) (· = w)) := by
  refine zg_of (by decide +kernel) rfl (Nat.le_of_ble_eq_true rfl) ?_
  show zg_G V zm_X0_has 0 0 w.1 w.2.1 0 [] [(0, .ref 135), (1, .int (nI p))] w _
  refine zg_aload_n dX0_has_0 rfl ?_
  refine zg_getR E (ci := 0) (j := 0) (r := 136) dX0_has_1 rfl (congrArg Prod.fst (zl_at HX (k := 135) (t := (0, 4)) rfl (by decide) (by decide))) (by decide) (zl_lt HX (by decide)) (by decide) fl_X0_9 rfl (zl_rf HX rfl (by decide) (by decide)) ?_
  refine zg_iload_n dX0_has_4 rfl ?_
  refine zg_iald E (j := p) dX0_has_5 (zl_at HX (k := 136) (t := (10, 16)) rfl (by decide) (by decide)) (by decide) (zl_lt HX (by decide)) rfl (by omega) (by decide) ?_
  refine zg_if_eq (tgt := 13) dX0_has_6 (by decide) (fun h6 => ?_) (fun h6 => ?_)
  · exact absurd h6 h
  · refine zg_iconst (v := nI 1) dX0_has_9 (by decide) ?_
    refine zg_goto (tgt := 14) dX0_has_10 (by decide) ?_
    exact zg_zret rfl rfl dX0_has_14 ⟨rfl, rfl⟩
set_option maxHeartbeats 4000000 in
set_option maxRecDepth 100000 in
theorem ct_has_n {V : zv_V} (E : zv_OK V) {w : zw_W} (HX : zl_X w) {p : Nat} (hp : p < 16) (h : zw_i w 136 p = nI 0) : zg_C V zm_X0_has yX0_has 0 0 [.ref 135, .int (nI p)] w (zq_p (.inl (some (.int (nI 0)))) (· = w)) := by
  refine zg_of (by decide +kernel) rfl (Nat.le_of_ble_eq_true rfl) ?_
  show zg_G V zm_X0_has 0 0 w.1 w.2.1 0 [] [(0, .ref 135), (1, .int (nI p))] w _
  refine zg_aload_n dX0_has_0 rfl ?_
  refine zg_getR E (ci := 0) (j := 0) (r := 136) dX0_has_1 rfl (congrArg Prod.fst (zl_at HX (k := 135) (t := (0, 4)) rfl (by decide) (by decide))) (by decide) (zl_lt HX (by decide)) (by decide) fl_X0_9 rfl (zl_rf HX rfl (by decide) (by decide)) ?_
  refine zg_iload_n dX0_has_4 rfl ?_
  refine zg_iald E (j := p) dX0_has_5 (zl_at HX (k := 136) (t := (10, 16)) rfl (by decide) (by decide)) (by decide) (zl_lt HX (by decide)) rfl (by omega) (by decide) ?_
  refine zg_if_eq (tgt := 13) dX0_has_6 (by decide) (fun h6 => ?_) (fun h6 => ?_)
  · refine zg_iconst (v := nI 0) dX0_has_13 (by decide) ?_
    exact zg_zret rfl rfl dX0_has_14 ⟨rfl, rfl⟩
  · exact absurd h h6
set_option maxHeartbeats 4000000 in
set_option maxRecDepth 100000 in
theorem ct_add {V : zv_V} (E : zv_OK V) {w : zw_W} (HX : zl_X w) {p : Nat} (hp : p < 16) {x : Int32} : zg_C V zm_X0_add yX0_add 0 0 [.ref 135, .int (nI p), .int x] w (zq_p (.inl none) (· = zw_si (zw_si w 136 p x) 135 3 (zw_i w 135 3 + nI 1))) := by
  refine zg_of (by decide +kernel) rfl (Nat.le_of_ble_eq_true rfl) ?_
  show zg_G V zm_X0_add 0 0 w.1 w.2.1 0 [] [(0, .ref 135), (1, .int (nI p)), (2, .int x)] w _
  refine zg_aload_n dX0_add_0 rfl ?_
  refine zg_getR E (ci := 0) (j := 0) (r := 136) dX0_add_1 rfl (congrArg Prod.fst (zl_at HX (k := 135) (t := (0, 4)) rfl (by decide) (by decide))) (by decide) (zl_lt HX (by decide)) (by decide) fl_X0_9 rfl (zl_rf HX rfl (by decide) (by decide)) ?_
  refine zg_iload_n dX0_add_4 rfl ?_
  refine zg_iload_n dX0_add_5 rfl ?_
  refine zg_iast E (j := p) dX0_add_6 (zl_at HX (k := 136) (t := (10, 16)) rfl (by decide) (by decide)) (by decide) (zl_lt HX (by decide)) rfl (by omega) (by decide) ?_
  refine zg_aload_n dX0_add_7 rfl ?_
  refine zg_dup dX0_add_8 rfl ?_
  refine zg_getI E (ci := 0) (j := 3) dX0_add_9 rfl (congrArg Prod.fst (zl_at HX (k := 135) (t := (0, 4)) rfl (by decide) (by decide))) (by decide) (zl_lt HX (by decide)) (by decide) fl_X0_24 rfl ?_
  refine zg_iconst (v := nI 1) dX0_add_12 (by decide) ?_
  refine zg_iadd dX0_add_13 ?_
  refine zg_putI E (ci := 0) (j := 3) dX0_add_14 rfl (congrArg Prod.fst (zl_at HX (k := 135) (t := (0, 4)) rfl (by decide) (by decide))) (by decide) (zl_lt HX (by decide)) (by decide) fl_X0_24 rfl rfl rfl rfl ?_
  exact zg_vret rfl dX0_add_17 ⟨rfl, rfl⟩
set_option maxHeartbeats 4000000 in
set_option maxRecDepth 100000 in
theorem ct_close {V : zv_V} (E : zv_OK V) {w : zw_W} (HX : zl_X w)  : zg_C V zm_X0_close yX0_close 1 23 [.ref 135] w (zq_p (.inl none) (· = zw_si (zw_sa w 136 (zs_w (fun _ => nI 0) (zw_i w 136) 16)) 135 3 (nI 0))) := by
  refine zg_of (by decide +kernel) rfl (Nat.le_of_ble_eq_true rfl) ?_
  show zg_G V zm_X0_close 1 23 w.1 w.2.1 0 [] [(0, .ref 135)] w _
  refine zg_aload_n dX0_close_0 rfl ?_
  refine zg_getR E (ci := 0) (j := 0) (r := 136) dX0_close_1 rfl (congrArg Prod.fst (zl_at HX (k := 135) (t := (0, 4)) rfl (by decide) (by decide))) (by decide) (zl_lt HX (by decide)) (by decide) fl_X0_9 rfl (zl_rf HX rfl (by decide) (by decide)) ?_
  refine zg_iconst (v := nI 0) dX0_close_4 (by decide) ?_
  refine zg_sret (M := zm_X0_close) E dX0_close_5 (ct_fill E (zl_at HX (k := 136) (t := (10, 16)) rfl (by decide) (by decide)) (by decide) (zl_lt HX (by decide)) (by decide)) wd_X0_28 dh_J7_fill_53178 dn_J7_fill_53178 (Nat.le_of_ble_eq_true rfl) (Nat.le_of_ble_eq_true rfl) (Nat.le_of_ble_eq_true rfl) (zl_cap HX) rfl (fun w5 g5 => ?_)
  subst g5
  refine zg_aload_n dX0_close_8 rfl ?_
  refine zg_iconst (v := nI 0) dX0_close_9 (by decide) ?_
  refine zg_putI E (ci := 0) (j := 3) dX0_close_10 rfl (congrArg Prod.fst (zl_at HX (k := 135) (t := (0, 4)) rfl (by decide) (by decide))) (by decide) (zl_lt HX (by decide)) (by decide) fl_X0_24 rfl rfl rfl rfl ?_
  exact zg_vret rfl dX0_close_13 ⟨rfl, rfl⟩
set_option maxHeartbeats 4000000 in
set_option maxRecDepth 100000 in
theorem ct_become {V : zv_V} (E : zv_OK V) {w : zw_W} (HX : zl_X w)  : zg_C V zm_X2_become yX2_become 1 100 [.ref 133, .ref 131] w (zq_p (.inl none) (· = zw_si (zw_si (zw_sa w 134 (zs_w (zw_i w 132) (zw_i w 134) 16)) 133 1 (zw_i w 131 1)) 133 2 (zw_i w 131 2))) := by
  refine zg_of (by decide +kernel) rfl (Nat.le_of_ble_eq_true rfl) ?_
  show zg_G V zm_X2_become 1 100 w.1 w.2.1 0 [] [(0, .ref 133), (1, .ref 131)] w _
  refine zg_aload_n dX2_become_0 rfl ?_
  refine zg_getR E (ci := 2) (j := 0) (r := 132) dX2_become_1 rfl (congrArg Prod.fst (zl_at HX (k := 131) (t := (2, 3)) rfl (by decide) (by decide))) (by decide) (zl_lt HX (by decide)) (by decide) fl_X2_9 rfl (zl_rf HX rfl (by decide) (by decide)) ?_
  refine zg_iconst (v := nI 0) dX2_become_4 (by decide) ?_
  refine zg_aload_n dX2_become_5 rfl ?_
  refine zg_getR E (ci := 2) (j := 0) (r := 134) dX2_become_6 rfl (congrArg Prod.fst (zl_at HX (k := 133) (t := (2, 3)) rfl (by decide) (by decide))) (by decide) (zl_lt HX (by decide)) (by decide) fl_X2_9 rfl (zl_rf HX rfl (by decide) (by decide)) ?_
  refine zg_iconst (v := nI 0) dX2_become_9 (by decide) ?_
  refine zg_bipush (v := nI 16) dX2_become_10 (by decide) ?_
  refine zg_copy E (n := 16) dX2_become_12 (by decide +kernel) (zl_at HX (k := 132) (t := (10, 16)) rfl (by decide) (by decide)) (zl_at HX (k := 134) (t := (10, 16)) rfl (by decide) (by decide)) (by decide) (zl_lt HX (by decide)) (by decide) (zl_lt HX (by decide)) rfl rfl rfl (by decide) (by decide) (by decide) (by decide) (Nat.le_of_ble_eq_true rfl) (Nat.le_of_ble_eq_true rfl) ?_
  refine zg_aload_n dX2_become_15 rfl ?_
  refine zg_aload_n dX2_become_16 rfl ?_
  refine zg_getI E (ci := 2) (j := 1) dX2_become_17 rfl (congrArg Prod.fst (zl_at HX (k := 131) (t := (2, 3)) rfl (by decide) (by decide))) (by decide) (zl_lt HX (by decide)) (by decide) fl_X2_21 rfl ?_
  refine zg_putI E (ci := 2) (j := 1) dX2_become_20 rfl (congrArg Prod.fst (zl_at HX (k := 133) (t := (2, 3)) rfl (by decide) (by decide))) (by decide) (zl_lt HX (by decide)) (by decide) fl_X2_21 rfl rfl rfl rfl ?_
  refine zg_aload_n dX2_become_23 rfl ?_
  refine zg_aload_n dX2_become_24 rfl ?_
  refine zg_getI E (ci := 2) (j := 2) dX2_become_25 rfl (congrArg Prod.fst (zl_at HX (k := 131) (t := (2, 3)) rfl (by decide) (by decide))) (by decide) (zl_lt HX (by decide)) (by decide) fl_X2_25 rfl ?_
  refine zg_putI E (ci := 2) (j := 2) dX2_become_28 rfl (congrArg Prod.fst (zl_at HX (k := 133) (t := (2, 3)) rfl (by decide) (by decide))) (by decide) (zl_lt HX (by decide)) (by decide) fl_X2_25 rfl rfl rfl rfl ?_
  exact zg_vret rfl dX2_become_31 ⟨rfl, rfl⟩
set_option maxHeartbeats 4000000 in
set_option maxRecDepth 100000 in
theorem ct_rowadd {V : zv_V} (E : zv_OK V) {w : zw_W} (HX : zl_X w) {h k : Nat} {x : Int32} (hh : h < 77) (hz : zw_i w 51 2 = nI h) (ht : zw_t w k = (10, 16)) (hk : 1 ≤ k) (hkn : k < w.1) : zg_C V zm_X1_add yX1_add 1 100 [.ref 51, .int x, .ref k] w (zq_p (.inl none) (· = zw_si (zw_sa (zw_si w 52 h x) (54 + h) (zs_w (zw_i (zw_si w 52 h x) k) (zw_i (zw_si w 52 h x) (54 + h)) 16)) 51 2 (zw_i (zw_sa (zw_si w 52 h x) (54 + h) (zs_w (zw_i (zw_si w 52 h x) k) (zw_i (zw_si w 52 h x) (54 + h)) 16)) 51 2 + nI 1))) := by
  refine zg_of (by decide +kernel) rfl (Nat.le_of_ble_eq_true rfl) ?_
  show zg_G V zm_X1_add 1 100 w.1 w.2.1 0 [] [(0, .ref 51), (1, .int x), (2, .ref k)] w _
  refine zg_aload_n dX1_add_0 rfl ?_
  refine zg_getR E (ci := 1) (j := 0) (r := 52) dX1_add_1 rfl (congrArg Prod.fst (zl_at HX (k := 51) (t := (1, 3)) rfl (by decide) (by decide))) (by decide) (zl_lt HX (by decide)) (by decide) fl_X1_9 rfl (zl_rf HX rfl (by decide) (by decide)) ?_
  refine zg_aload_n dX1_add_4 rfl ?_
  refine zg_getI E (ci := 1) (j := 2) dX1_add_5 rfl (congrArg Prod.fst (zl_at HX (k := 51) (t := (1, 3)) rfl (by decide) (by decide))) (by decide) (zl_lt HX (by decide)) (by decide) fl_X1_20 rfl ?_
  refine zg_iload_n dX1_add_8 rfl ?_
  refine zg_iast E (j := h) dX1_add_9 (zl_at HX (k := 52) (t := (10, 77)) rfl (by decide) (by decide)) (by decide) (zl_lt HX (by decide)) hz hh (by decide) ?_
  refine zg_aload_n dX1_add_10 rfl ?_
  refine zg_iconst (v := nI 0) dX1_add_11 (by decide) ?_
  refine zg_aload_n dX1_add_12 rfl ?_
  refine zg_getR E (ci := 1) (j := 1) (r := 53) dX1_add_13 rfl (congrArg Prod.fst (zl_at HX (k := 51) (t := (1, 3)) rfl (by decide) (by decide))) (by decide) (zl_lt HX (by decide)) (by decide) fl_X1_17 rfl (zl_rf HX rfl (by decide) (by decide)) ?_
  refine zg_aload_n dX1_add_16 rfl ?_
  refine zg_getI E (ci := 1) (j := 2) dX1_add_17 rfl (congrArg Prod.fst (zl_at HX (k := 51) (t := (1, 3)) rfl (by decide) (by decide))) (by decide) (zl_lt HX (by decide)) (by decide) fl_X1_20 rfl ?_
  refine zg_aald E (j := h) (r := 54 + h) dX1_add_20 (zl_at HX (k := 53) (t := (13, 77)) rfl (by decide) (by decide)) (by decide) (zl_lt HX (by decide)) hz hh (by decide) (zl_rf HX (zl_row hh).2 (by decide) (by decide)) ?_
  refine zg_iconst (v := nI 0) dX1_add_21 (by decide) ?_
  refine zg_bipush (v := nI 16) dX1_add_22 (by decide) ?_
  refine zg_copy E (n := 16) dX1_add_24 (by decide +kernel) ht (zl_at HX (zl_row (by omega)).1 (by omega) (by omega)) hk hkn (by omega) (zl_lt HX (by omega)) rfl rfl rfl (by decide) (by decide) (by decide) (by decide) (Nat.le_of_ble_eq_true rfl) (Nat.le_of_ble_eq_true rfl) ?_
  refine zg_aload_n dX1_add_27 rfl ?_
  refine zg_dup dX1_add_28 rfl ?_
  refine zg_getI E (ci := 1) (j := 2) dX1_add_29 rfl (congrArg Prod.fst (zl_at HX (k := 51) (t := (1, 3)) rfl (by decide) (by decide))) (by decide) (zl_lt HX (by decide)) (by decide) fl_X1_20 rfl ?_
  refine zg_iconst (v := nI 1) dX1_add_32 (by decide) ?_
  refine zg_iadd dX1_add_33 ?_
  refine zg_putI E (ci := 1) (j := 2) dX1_add_34 rfl (congrArg Prod.fst (zl_at HX (k := 51) (t := (1, 3)) rfl (by decide) (by decide))) (by decide) (zl_lt HX (by decide)) (by decide) fl_X1_20 rfl rfl rfl rfl ?_
  exact zg_vret rfl dX1_add_37 ⟨rfl, rfl⟩
set_option maxHeartbeats 4000000 in
set_option maxRecDepth 100000 in
theorem ct_carry {V : zv_V} (E : zv_OK V) {w : zw_W} (HX : zl_X w) {k t : Nat} (hk : k < 77) (ht : t < 48) (hz : zw_i w 52 k = nI t) : zg_C V zm_X1_carryOut yX1_carryOut 1 100 [.ref 51, .int (nI k), .ref 2] w (zq_p (.inl none) (· = zw_sa w (3 + t) (zs_w (zw_i w (54 + k)) (zw_i w (3 + t)) 16))) := by
  refine zg_of (by decide +kernel) rfl (Nat.le_of_ble_eq_true rfl) ?_
  show zg_G V zm_X1_carryOut 1 100 w.1 w.2.1 0 [] [(0, .ref 51), (1, .int (nI k)), (2, .ref 2)] w _
  refine zg_aload_n dX1_carryOut_0 rfl ?_
  refine zg_getR E (ci := 1) (j := 1) (r := 53) dX1_carryOut_1 rfl (congrArg Prod.fst (zl_at HX (k := 51) (t := (1, 3)) rfl (by decide) (by decide))) (by decide) (zl_lt HX (by decide)) (by decide) fl_X1_17 rfl (zl_rf HX rfl (by decide) (by decide)) ?_
  refine zg_iload_n dX1_carryOut_4 rfl ?_
  refine zg_aald E (j := k) (r := 54 + k) dX1_carryOut_5 (zl_at HX (k := 53) (t := (13, 77)) rfl (by decide) (by decide)) (by decide) (zl_lt HX (by decide)) rfl (by omega) (by decide) (zl_rf HX (zl_row (by omega)).2 (by decide) (by decide)) ?_
  refine zg_iconst (v := nI 0) dX1_carryOut_6 (by decide) ?_
  refine zg_aload_n dX1_carryOut_7 rfl ?_
  refine zg_aload_n dX1_carryOut_8 rfl ?_
  refine zg_getR E (ci := 1) (j := 0) (r := 52) dX1_carryOut_9 rfl (congrArg Prod.fst (zl_at HX (k := 51) (t := (1, 3)) rfl (by decide) (by decide))) (by decide) (zl_lt HX (by decide)) (by decide) fl_X1_9 rfl (zl_rf HX rfl (by decide) (by decide)) ?_
  refine zg_iload_n dX1_carryOut_12 rfl ?_
  refine zg_iald E (j := k) dX1_carryOut_13 (zl_at HX (k := 52) (t := (10, 77)) rfl (by decide) (by decide)) (by decide) (zl_lt HX (by decide)) rfl (by omega) (by decide) ?_
  refine zg_aald E (j := t) (r := 3 + t) dX1_carryOut_14 (zl_at HX (k := 2) (t := (13, 48)) rfl (by decide) (by decide)) (by decide) (zl_lt HX (by decide)) hz ht (by decide) (zl_rf HX (zl_sec ht).2 (by decide) (by decide)) ?_
  refine zg_iconst (v := nI 0) dX1_carryOut_15 (by decide) ?_
  refine zg_bipush (v := nI 16) dX1_carryOut_16 (by decide) ?_
  refine zg_copy E (n := 16) dX1_carryOut_18 (by decide +kernel) (zl_at HX (zl_row (by omega)).1 (by omega) (by omega)) (zl_at HX (zl_sec (by omega)).1 (by omega) (by omega)) (by omega) (zl_lt HX (by omega)) (by omega) (zl_lt HX (by omega)) rfl rfl rfl (by decide) (by decide) (by decide) (by decide) (Nat.le_of_ble_eq_true rfl) (Nat.le_of_ble_eq_true rfl) ?_
  exact zg_vret rfl dX1_carryOut_21 ⟨rfl, rfl⟩
set_option maxHeartbeats 4000000 in
set_option maxRecDepth 100000 in
theorem ct_mounted_ok {V : zv_V} (E : zv_OK V) {w : zw_W} (HX : zl_X w) (h : zw_i w 1 6 = nI 0) : zg_C V zm_X3_checkMounted yX3_checkMounted 0 0 [.ref 1] w (zq_p (.inl none) (· = w)) := by
  refine zg_of (by decide +kernel) rfl (Nat.le_of_ble_eq_true rfl) ?_
  show zg_G V zm_X3_checkMounted 0 0 w.1 w.2.1 0 [] [(0, .ref 1)] w _
  refine zg_aload_n dX3_checkMounted_0 rfl ?_
  refine zg_getI E (ci := 3) (j := 6) dX3_checkMounted_1 rfl (congrArg Prod.fst (zl_at HX (k := 1) (t := (3, 7)) rfl (by decide) (by decide))) (by decide) (zl_lt HX (by decide)) (by decide) fl_X3_131 rfl ?_
  refine zg_if_eq (tgt := 17) dX3_checkMounted_4 (by decide) (fun h4 => ?_) (fun h4 => ?_)
  · exact zg_vret rfl dX3_checkMounted_17 ⟨rfl, rfl⟩
  · exact absurd h h4
set_option maxHeartbeats 4000000 in
set_option maxRecDepth 100000 in
theorem ct_mounted_no {V : zv_V} (E : zv_OK V) {w : zw_W} (HX : zl_X w) (h : zw_i w 1 6 ≠ nI 0) : zg_C V zm_X3_checkMounted yX3_checkMounted 6 82 [.ref 1] w (zq_p (.inr 21) (· = zw_nw w (21, 6))) := by
  refine zg_of (by decide +kernel) rfl (Nat.le_of_ble_eq_true rfl) ?_
  show zg_G V zm_X3_checkMounted 6 82 w.1 w.2.1 0 [] [(0, .ref 1)] w _
  refine zg_aload_n dX3_checkMounted_0 rfl ?_
  refine zg_getI E (ci := 3) (j := 6) dX3_checkMounted_1 rfl (congrArg Prod.fst (zl_at HX (k := 1) (t := (3, 7)) rfl (by decide) (by decide))) (by decide) (zl_lt HX (by decide)) (by decide) fl_X3_131 rfl ?_
  refine zg_if_eq (tgt := 17) dX3_checkMounted_4 (by decide) (fun h4 => ?_) (fun h4 => ?_)
  · exact absurd h4 h
  · exact zg_throw (M := zm_X3_checkMounted) E 21 (text := "the store is broken") (by decide) rfl rfl dX3_checkMounted_7 dX3_checkMounted_10 dX3_checkMounted_11 dX3_checkMounted_13 dX3_checkMounted_16 (by decide +kernel) (by decide +kernel) (by decide +kernel) tw_21_93 (zt_cap HX).1 (zt_cap HX).2.1 (zt_cap HX).2.2 (Nat.le_of_ble_eq_true rfl) (Nat.le_of_ble_eq_true rfl) ⟨rfl, rfl⟩
set_option maxHeartbeats 4000000 in
set_option maxRecDepth 100000 in
theorem ct_open_ok {V : zv_V} (E : zv_OK V) {w : zw_W} (HX : zl_X w) (h : 0 < zw_i w 135 3) : zg_C V zm_X3_checkOpen yX3_checkOpen 1 20 [.ref 1] w (zq_p (.inl none) (· = w)) := by
  refine zg_of (by decide +kernel) rfl (Nat.le_of_ble_eq_true rfl) ?_
  show zg_G V zm_X3_checkOpen 1 20 w.1 w.2.1 0 [] [(0, .ref 1)] w _
  refine zg_aload_n dX3_checkOpen_0 rfl ?_
  refine zg_getR E (ci := 3) (j := 4) (r := 135) dX3_checkOpen_1 rfl (congrArg Prod.fst (zl_at HX (k := 1) (t := (3, 7)) rfl (by decide) (by decide))) (by decide) (zl_lt HX (by decide)) (by decide) fl_X3_34 rfl (zl_rf HX rfl (by decide) (by decide)) ?_
  refine zg_vrt (M := zm_X3_checkOpen) E (ci := 0) dX3_checkOpen_4 (ct_isOpen_y E HX h) wd_X3_163 rfl (congrArg Prod.fst (zl_at HX (k := 135) (t := (0, 4)) rfl (by decide) (by decide))) (by decide) (zl_lt HX (by decide)) rfl dh_X0_isOpen dn_X0_isOpen (Nat.le_of_ble_eq_true rfl) (Nat.le_of_ble_eq_true rfl) (Nat.le_of_ble_eq_true rfl) (zl_cap HX) rfl (fun w4 g4 => ?_)
  subst g4
  refine zg_if_ne (tgt := 20) dX3_checkOpen_7 (by decide) (fun h7 => ?_) (fun h7 => ?_)
  · exact zg_vret rfl dX3_checkOpen_20 ⟨rfl, rfl⟩
  · exact absurd h7 (by decide)
set_option maxHeartbeats 4000000 in
set_option maxRecDepth 100000 in
theorem ct_open_no {V : zv_V} (E : zv_OK V) {w : zw_W} (HX : zl_X w) (h : ¬ 0 < zw_i w 135 3) : zg_C V zm_X3_checkOpen yX3_checkOpen 6 82 [.ref 1] w (zq_p (.inr 21) (· = zw_nw w (21, 6))) := by
  refine zg_of (by decide +kernel) rfl (Nat.le_of_ble_eq_true rfl) ?_
  show zg_G V zm_X3_checkOpen 6 82 w.1 w.2.1 0 [] [(0, .ref 1)] w _
  refine zg_aload_n dX3_checkOpen_0 rfl ?_
  refine zg_getR E (ci := 3) (j := 4) (r := 135) dX3_checkOpen_1 rfl (congrArg Prod.fst (zl_at HX (k := 1) (t := (3, 7)) rfl (by decide) (by decide))) (by decide) (zl_lt HX (by decide)) (by decide) fl_X3_34 rfl (zl_rf HX rfl (by decide) (by decide)) ?_
  refine zg_vrt (M := zm_X3_checkOpen) E (ci := 0) dX3_checkOpen_4 (ct_isOpen_n E HX h) wd_X3_163 rfl (congrArg Prod.fst (zl_at HX (k := 135) (t := (0, 4)) rfl (by decide) (by decide))) (by decide) (zl_lt HX (by decide)) rfl dh_X0_isOpen dn_X0_isOpen (Nat.le_of_ble_eq_true rfl) (Nat.le_of_ble_eq_true rfl) (Nat.le_of_ble_eq_true rfl) (zl_cap HX) rfl (fun w4 g4 => ?_)
  subst g4
  refine zg_if_ne (tgt := 20) dX3_checkOpen_7 (by decide) (fun h7 => ?_) (fun h7 => ?_)
  · exact absurd rfl h7
  · exact zg_throw (M := zm_X3_checkOpen) E 21 (text := "no change is open") (by decide) rfl rfl dX3_checkOpen_10 dX3_checkOpen_13 dX3_checkOpen_14 dX3_checkOpen_16 dX3_checkOpen_19 (by decide +kernel) (by decide +kernel) (by decide +kernel) tw_21_93 (zt_cap HX).1 (zt_cap HX).2.1 (zt_cap HX).2.2 (Nat.le_of_ble_eq_true rfl) (Nat.le_of_ble_eq_true rfl) ⟨rfl, rfl⟩
set_option maxHeartbeats 4000000 in
set_option maxRecDepth 100000 in
theorem ct_openPlace_y {V : zv_V} (E : zv_OK V) {w : zw_W} (HX : zl_X w) {p : Nat} (hp : p < 16) (h : zw_i w 136 p ≠ nI 0) : zg_C V zm_X3_openPlace yX3_openPlace 1 21 [.ref 1, .int (nI p)] w (zq_p (.inl (some (.int (zw_i w 136 p)))) (· = w)) := by
  refine zg_of (by decide +kernel) rfl (Nat.le_of_ble_eq_true rfl) ?_
  show zg_G V zm_X3_openPlace 1 21 w.1 w.2.1 0 [] [(0, .ref 1), (1, .int (nI p))] w _
  refine zg_aload_n dX3_openPlace_0 rfl ?_
  refine zg_getR E (ci := 3) (j := 4) (r := 135) dX3_openPlace_1 rfl (congrArg Prod.fst (zl_at HX (k := 1) (t := (3, 7)) rfl (by decide) (by decide))) (by decide) (zl_lt HX (by decide)) (by decide) fl_X3_34 rfl (zl_rf HX rfl (by decide) (by decide)) ?_
  refine zg_iload_n dX3_openPlace_4 rfl ?_
  refine zg_vrt (M := zm_X3_openPlace) E (ci := 0) dX3_openPlace_5 (ct_has_y E HX hp h) wd_X3_68 rfl (congrArg Prod.fst (zl_at HX (k := 135) (t := (0, 4)) rfl (by decide) (by decide))) (by decide) (zl_lt HX (by decide)) rfl dh_X0_has dn_X0_has (Nat.le_of_ble_eq_true rfl) (Nat.le_of_ble_eq_true rfl) (Nat.le_of_ble_eq_true rfl) (zl_cap HX) rfl (fun w5 g5 => ?_)
  subst g5
  refine zg_if_eq (tgt := 23) dX3_openPlace_8 (by decide) (fun h8 => ?_) (fun h8 => ?_)
  · exact absurd h8 (by decide)
  · refine zg_aload_n dX3_openPlace_11 rfl ?_
    refine zg_getR E (ci := 3) (j := 4) (r := 135) dX3_openPlace_12 rfl (congrArg Prod.fst (zl_at HX (k := 1) (t := (3, 7)) rfl (by decide) (by decide))) (by decide) (zl_lt HX (by decide)) (by decide) fl_X3_34 rfl (zl_rf HX rfl (by decide) (by decide)) ?_
    refine zg_getR E (ci := 0) (j := 0) (r := 136) dX3_openPlace_15 rfl (congrArg Prod.fst (zl_at HX (k := 135) (t := (0, 4)) rfl (by decide) (by decide))) (by decide) (zl_lt HX (by decide)) (by decide) fl_X3_222 rfl (zl_rf HX rfl (by decide) (by decide)) ?_
    refine zg_iload_n dX3_openPlace_18 rfl ?_
    refine zg_iald E (j := p) dX3_openPlace_19 (zl_at HX (k := 136) (t := (10, 16)) rfl (by decide) (by decide)) (by decide) (zl_lt HX (by decide)) rfl (by omega) (by decide) ?_
    refine zg_goto (tgt := 32) dX3_openPlace_20 (by decide) ?_
    exact zg_iret rfl dX3_openPlace_32 ⟨rfl, rfl⟩
set_option maxHeartbeats 4000000 in
set_option maxRecDepth 100000 in
theorem ct_openPlace_n {V : zv_V} (E : zv_OK V) {w : zw_W} (HX : zl_X w) {p : Nat} (hp : p < 16) (h : zw_i w 136 p = nI 0) : zg_C V zm_X3_openPlace yX3_openPlace 1 21 [.ref 1, .int (nI p)] w (zq_p (.inl (some (.int (zw_i w 132 p)))) (· = w)) := by
  refine zg_of (by decide +kernel) rfl (Nat.le_of_ble_eq_true rfl) ?_
  show zg_G V zm_X3_openPlace 1 21 w.1 w.2.1 0 [] [(0, .ref 1), (1, .int (nI p))] w _
  refine zg_aload_n dX3_openPlace_0 rfl ?_
  refine zg_getR E (ci := 3) (j := 4) (r := 135) dX3_openPlace_1 rfl (congrArg Prod.fst (zl_at HX (k := 1) (t := (3, 7)) rfl (by decide) (by decide))) (by decide) (zl_lt HX (by decide)) (by decide) fl_X3_34 rfl (zl_rf HX rfl (by decide) (by decide)) ?_
  refine zg_iload_n dX3_openPlace_4 rfl ?_
  refine zg_vrt (M := zm_X3_openPlace) E (ci := 0) dX3_openPlace_5 (ct_has_n E HX hp h) wd_X3_68 rfl (congrArg Prod.fst (zl_at HX (k := 135) (t := (0, 4)) rfl (by decide) (by decide))) (by decide) (zl_lt HX (by decide)) rfl dh_X0_has dn_X0_has (Nat.le_of_ble_eq_true rfl) (Nat.le_of_ble_eq_true rfl) (Nat.le_of_ble_eq_true rfl) (zl_cap HX) rfl (fun w5 g5 => ?_)
  subst g5
  refine zg_if_eq (tgt := 23) dX3_openPlace_8 (by decide) (fun h8 => ?_) (fun h8 => ?_)
  · refine zg_aload_n dX3_openPlace_23 rfl ?_
    refine zg_getR E (ci := 3) (j := 2) (r := 131) dX3_openPlace_24 rfl (congrArg Prod.fst (zl_at HX (k := 1) (t := (3, 7)) rfl (by decide) (by decide))) (by decide) (zl_lt HX (by decide)) (by decide) fl_X3_24 rfl (zl_rf HX rfl (by decide) (by decide)) ?_
    refine zg_getR E (ci := 2) (j := 0) (r := 132) dX3_openPlace_27 rfl (congrArg Prod.fst (zl_at HX (k := 131) (t := (2, 3)) rfl (by decide) (by decide))) (by decide) (zl_lt HX (by decide)) (by decide) fl_X3_72 rfl (zl_rf HX rfl (by decide) (by decide)) ?_
    refine zg_iload_n dX3_openPlace_30 rfl ?_
    refine zg_iald E (j := p) dX3_openPlace_31 (zl_at HX (k := 132) (t := (10, 16)) rfl (by decide) (by decide)) (by decide) (zl_lt HX (by decide)) rfl (by omega) (by decide) ?_
    exact zg_iret rfl dX3_openPlace_32 ⟨rfl, rfl⟩
  · exact absurd rfl h8
end
section
/-! What class and reference both stand for: a state of numbers, and what the operations do to it. -/
abbrev zw_I (w : zw_W) (f : Nat → Nat → Int32) : zw_W := (w.1, w.2.1, zw_t w, zw_r w, f, zw_l w)
theorem zg_v {V : zv_V} {M : zg_M} {fr lc n0 u0 pc : Nat} {st : List Value} {lv : List (Nat × Value)} {w : zw_W} {Q : zg_O → zw_W → Prop} {x x' : Int32} (h : x = x') (k : zg_G V M fr lc n0 u0 pc (.int x' :: st) lv w Q) : zg_G V M fr lc n0 u0 pc (.int x :: st) lv w Q := by subst h; exact k
theorem zg_vl {V : zv_V} {M : zg_M} {fr lc n0 u0 pc : Nat} {st : List Value} {lv : List (Nat × Value)} {w : zw_W} {Q : zg_O → zw_W → Prop} {x x' : Int64} (h : x = x') (k : zg_G V M fr lc n0 u0 pc (.long x' :: st) lv w Q) : zg_G V M fr lc n0 u0 pc (.long x :: st) lv w Q := by subst h; exact k
/-- a table: where the pages lie, its own sector, its number -/
abbrev za_T : Type := (Nat → Nat) × Nat × Int32
/-- the held writes: how many, whither, what -/
abbrev za_H : Type := Nat × (Nat → Nat) × (Nat → Nat → Nat)
/-- the change: the pages' own sectors (0: none), their bytes, which are spilled -/
abbrev za_C : Type := (Nat → Nat) × (Nat → Nat → Nat) × (Nat → Bool)
def za_bit (b : Bool) : Int32 := if b then nI 1 else nI 0
theorem za_bit0 {b : Bool} (h : za_bit b = nI 0) : b = false := by
  cases b
  · rfl
  · exact absurd h (by decide)
theorem za_bit1 {b : Bool} (h : ¬ za_bit b = nI 0) : b = true := by
  cases b
  · exact absurd rfl h
  · rfl
/-- how many pages are changed -/
def za_n (O : Nat → Nat) : Nat → Nat
  | 0 => 0
  | n + 1 => za_n O n + (if O n = 0 then 0 else 1)
theorem za_n_le (O : Nat → Nat) (n : Nat) : za_n O n ≤ n := by
  induction n with
  | zero => exact Nat.le_refl 0
  | succ n ih =>
    show za_n O n + (if O n = 0 then 0 else 1) ≤ n + 1
    split <;> omega
theorem za_n_0 {O : Nat → Nat} {n : Nat} (h : ∀ p, p < n → O p = 0) : za_n O n = 0 := by
  induction n with
  | zero => rfl
  | succ n ih =>
    show za_n O n + (if O n = 0 then 0 else 1) = 0
    rw [ih (fun p hp => h p (by omega)), if_pos (h n (by omega))]
theorem za_n_p {O : Nat → Nat} {n p : Nat} (hp : p < n) (h : O p ≠ 0) : 0 < za_n O n := by
  induction n with
  | zero => omega
  | succ n ih =>
    show 0 < za_n O n + (if O n = 0 then 0 else 1)
    rcases Nat.lt_or_ge p n with g | g
    · have := ih g
      omega
    · obtain rfl : p = n := by omega
      rw [if_neg h]
      omega
theorem za_n_e {O O' : Nat → Nat} {n : Nat} (h : ∀ p, p < n → O p = O' p) : za_n O n = za_n O' n := by
  induction n with
  | zero => rfl
  | succ n ih =>
    show za_n O n + (if O n = 0 then 0 else 1) = za_n O' n + (if O' n = 0 then 0 else 1)
    rw [ih (fun p hp => h p (by omega)), h n (by omega)]
theorem za_n_s {O : Nat → Nat} {n p s : Nat} (hp : p < n) (h : O p = 0) (hs : s ≠ 0) : za_n (zw_ro O p s) n = za_n O n + 1 := by
  induction n with
  | zero => omega
  | succ n ih =>
    show za_n (zw_ro O p s) n + (if zw_ro O p s n = 0 then 0 else 1) = za_n O n + (if O n = 0 then 0 else 1) + 1
    rcases Nat.lt_or_ge p n with g | g
    · rw [ih g, zw_ro_n _ _ (by omega)]
      omega
    · obtain rfl : p = n := by omega
      rw [za_n_e (O' := O) (fun q hq => zw_ro_n _ _ (by omega)), zw_ro_s, if_neg hs, if_pos h]
/-- the class's cells hold this state -/
def zr_D (I : Nat → Nat → Int32) (D : Nat → Nat → Nat) : Prop := ∀ s, s < 48 → ∀ i, i < 16 → I (3 + s) i = nI (D s i)
def zr_H (I : Nat → Nat → Int32) (H : za_H) : Prop := I 51 2 = nI H.1 ∧ (∀ k, k < H.1 → I 52 k = nI (H.2.1 k)) ∧ ∀ k, k < H.1 → ∀ i, i < 16 → I (54 + k) i = nI (H.2.2 k i)
def zr_T (o a : Nat) (I : Nat → Nat → Int32) (L : za_T) : Prop := (∀ p, p < 16 → I a p = nI (L.1 p)) ∧ I o 1 = nI L.2.1 ∧ I o 2 = L.2.2
def zr_C (I : Nat → Nat → Int32) (C : za_C) : Prop := (∀ p, p < 16 → I 136 p = nI (C.1 p)) ∧ I 135 3 = nI (za_n C.1 16) ∧ ∀ p, p < 16 → C.1 p ≠ 0 → (∀ i, i < 16 → I (138 + p) i = nI (C.2.1 p i)) ∧ I 154 p = za_bit (C.2.2 p)
def zr_X (I : Nat → Nat → Int32) (D : Nat → Nat → Nat) (H : za_H) (b : Bool) (L S : za_T) (C : za_C) : Prop := zr_D I D ∧ zr_H I H ∧ I 1 6 = za_bit b ∧ zr_T 131 132 I L ∧ zr_T 133 134 I S ∧ zr_C I C
/-- the numbers are in their bounds -/
def za_WD (D : Nat → Nat → Nat) : Prop := ∀ s, s < 48 → ∀ i, i < 16 → D s i < 256
def za_WH (H : za_H) : Prop := H.1 ≤ 77 ∧ (∀ k, k < H.1 → H.2.1 k < 48) ∧ ∀ k, k < H.1 → ∀ i, i < 16 → H.2.2 k i < 256
def za_WT (L : za_T) : Prop := (∀ p, p < 16 → L.1 p < 48) ∧ L.2.1 < 48
def za_WC (C : za_C) : Prop := (∀ p, p < 16 → C.1 p < 48) ∧ ∀ p, p < 16 → C.1 p ≠ 0 → ∀ i, i < 16 → C.2.1 p i < 256
def za_W (D : Nat → Nat → Nat) (H : za_H) (L S : za_T) (C : za_C) : Prop := za_WD D ∧ za_WH H ∧ za_WT L ∧ za_WT S ∧ za_WC C
/-- the same cells, the same state -/
theorem zr_De {I J : Nat → Nat → Int32} {D : Nat → Nat → Nat} (h : zr_D I D) (e : ∀ a, 3 ≤ a → a < 51 → ∀ i, i < 16 → J a i = I a i) : zr_D J D := fun s hs i hi => (e _ (by omega) (by omega) i hi).trans (h s hs i hi)
theorem zr_He {I J : Nat → Nat → Int32} {H : za_H} (h : zr_H I H) (w : H.1 ≤ 77) (e : ∀ a, 51 ≤ a → a < 131 → ∀ i, J a i = I a i) : zr_H J H := ⟨(e 51 (by omega) (by omega) 2).trans h.1, fun k hk => (e 52 (by omega) (by omega) k).trans (h.2.1 k hk), fun k hk i hi => (e _ (by omega) (by omega) i).trans (h.2.2 k hk i hi)⟩
theorem zr_Te {o a : Nat} {I J : Nat → Nat → Int32} {L : za_T} (h : zr_T o a I L) (e1 : ∀ i, J o i = I o i) (e2 : ∀ i, J a i = I a i) : zr_T o a J L := ⟨fun p hp => (e2 p).trans (h.1 p hp), (e1 1).trans h.2.1, (e1 2).trans h.2.2⟩
theorem zr_Ce {I J : Nat → Nat → Int32} {C : za_C} (h : zr_C I C) (e : ∀ a, 135 ≤ a → a < 155 → ∀ i, J a i = I a i) : zr_C J C := ⟨fun p hp => (e 136 (by omega) (by omega) p).trans (h.1 p hp), (e 135 (by omega) (by omega) 3).trans h.2.1, fun p hp g => ⟨fun i hi => (e _ (by omega) (by omega) i).trans ((h.2.2 p hp g).1 i hi), (e 154 (by omega) (by omega) p).trans (h.2.2 p hp g).2⟩⟩
theorem zr_Xe {I J : Nat → Nat → Int32} {D : Nat → Nat → Nat} {H : za_H} {b : Bool} {L S : za_T} {C : za_C} (h : zr_X I D H b L S C) (w : H.1 ≤ 77) (e : ∀ a, 1 ≤ a → a < 155 → ∀ i, J a i = I a i) : zr_X J D H b L S C :=
  ⟨zr_De h.1 (fun a _ _ i _ => e a (by omega) (by omega) i), zr_He h.2.1 w (fun a _ _ i => e a (by omega) (by omega) i), (e 1 (by omega) (by omega) 6).trans h.2.2.1, zr_Te h.2.2.2.1 (e 131 (by omega) (by omega)) (e 132 (by omega) (by omega)), zr_Te h.2.2.2.2.1 (e 133 (by omega) (by omega)) (e 134 (by omega) (by omega)), zr_Ce h.2.2.2.2.2 (fun a _ _ i => e a (by omega) (by omega) i)⟩
/-- what the operations do -/
def za_hold (H : za_H) (t : Nat) (b : Nat → Nat) : za_H := (H.1 + 1, zw_ro H.2.1 H.1 t, zw_ro H.2.2 H.1 b)
def za_car (D : Nat → Nat → Nat) (H : za_H) (f : Nat → Bool) : Nat → Nat → Nat → Nat
  | 0 => D
  | n + 1 => if f n then zw_ro (za_car D H f n) (H.2.1 n) (H.2.2 n) else za_car D H f n
theorem za_car_W {D : Nat → Nat → Nat} {H : za_H} (f : Nat → Bool) (hD : za_WD D) (hH : za_WH H) (n : Nat) (hn : n ≤ H.1) : za_WD (za_car D H f n) := by
  induction n with
  | zero => exact hD
  | succ n ih =>
    intro s hs i hi
    unfold za_car
    split
    · by_cases e : s = H.2.1 n
      · subst e
        rw [zw_ro_s]
        exact hH.2.2 n (by omega) i hi
      · rw [zw_ro_n _ _ e]
        exact ih (by omega) s hs i hi
    · exact ih (by omega) s hs i hi
theorem za_hold_W {H : za_H} {t : Nat} {b : Nat → Nat} (hH : za_WH H) (h : H.1 < 77) (ht : t < 48) (hb : ∀ i, i < 16 → b i < 256) : za_WH (za_hold H t b) := by
  refine ⟨h, fun k hk => ?_, fun k hk i hi => ?_⟩
  · show zw_ro H.2.1 H.1 t k < 48
    by_cases e : k = H.1
    · rw [e, zw_ro_s]
      exact ht
    · rw [zw_ro_n _ _ e]
      exact hH.2.1 k (Nat.lt_of_le_of_ne (Nat.le_of_lt_succ hk) e)
  · show zw_ro H.2.2 H.1 b k i < 256
    by_cases e : k = H.1
    · rw [e, zw_ro_s]
      exact hb i hi
    · rw [zw_ro_n _ _ e]
      exact hH.2.2 k (Nat.lt_of_le_of_ne (Nat.le_of_lt_succ hk) e) i hi
/-- where a page lies for the open change -/
def za_op (L : za_T) (C : za_C) (p : Nat) : Nat := if C.1 p = 0 then L.1 p else C.1 p
/-- the pages that are not yet spilled, held back -/
def za_un (C : za_C) (H : za_H) : Nat → za_H
  | 0 => H
  | n + 1 => if C.1 n ≠ 0 ∧ C.2.2 n = false then za_hold (za_un C H n) (C.1 n) (C.2.1 n) else za_un C H n
theorem za_un_le (C : za_C) (H : za_H) (n : Nat) : (za_un C H n).1 ≤ H.1 + n := by
  induction n with
  | zero => exact Nat.le_refl _
  | succ n ih =>
    unfold za_un
    split
    · show (za_un C H n).1 + 1 ≤ H.1 + (n + 1)
      omega
    · omega
theorem za_un_W {C : za_C} {H : za_H} (hH : za_WH H) (h : H.1 ≤ 60) (hC : za_WC C) (n : Nat) (hn : n ≤ 16) : za_WH (za_un C H n) := by
  induction n with
  | zero => exact hH
  | succ n ih =>
    have := za_un_le C H n
    unfold za_un
    split
    · next g => exact za_hold_W (ih (by omega)) (by omega) (hC.1 n (by omega)) (hC.2 n (by omega) g.1)
    · exact ih (by omega)
/-- a master: the number's bytes, the table's sector, the check -/
def za_ck (f : Nat → Nat) : Nat → Nat
  | 0 => 1
  | n + 1 => (za_ck f n * 31 + f n) % 65536
theorem za_ck_lt (f : Nat → Nat) (n : Nat) : za_ck f n < 65536 := by
  cases n with
  | zero => exact Nat.le_of_ble_eq_true rfl
  | succ n => exact Nat.mod_lt _ (Nat.zero_lt_succ _)
theorem za_ck_e {f g : Nat → Nat} {n : Nat} (h : ∀ i, i < n → f i = g i) : za_ck f n = za_ck g n := by
  induction n with
  | zero => rfl
  | succ n ih =>
    unfold za_ck
    rw [ih (fun i hi => h i (by omega)), h n (by omega)]
def za_m0 (g : Int32) (a : Nat) (i : Nat) : Nat := if i < 4 then g.toBitVec.toNat / 2 ^ (24 - 8 * i) % 256 else if i = 4 then a else 0
def za_ms (g : Int32) (a : Nat) (i : Nat) : Nat := if i < 14 then za_m0 g a i else if i = 14 then za_ck (za_m0 g a) 14 / 256 else za_ck (za_m0 g a) 14 % 256
theorem za_m0_lt (g : Int32) {a : Nat} (ha : a < 48) (i : Nat) : za_m0 g a i < 256 := by
  unfold za_m0
  split
  · exact Nat.mod_lt _ (by omega)
  · split <;> omega
theorem za_ms_lt (g : Int32) {a : Nat} (ha : a < 48) (i : Nat) : za_ms g a i < 256 := by
  unfold za_ms
  have := za_ck_lt (za_m0 g a) 14
  split
  · exact za_m0_lt g ha i
  · split <;> omega
/-- which disks can be mounted, and what the mount reads -/
def za_mr (D : Nat → Nat → Nat) : Prop := (∀ i, 5 ≤ i → i < 14 → D 0 i = 0) ∧ D 0 14 * 256 + D 0 15 = za_ck (D 0) 14
def za_tr (D : Nat → Nat → Nat) : Prop := 1 ≤ D 0 4 ∧ D 0 4 < 48 ∧ ∀ p, p < 16 → D (D 0 4) p < 48 ∧ D (D 0 4) p ≠ D 0 4 ∧ (D (D 0 4) p ≠ 0 → ∀ q, q < p → D (D 0 4) q ≠ D (D 0 4) p)
def za_gen (D : Nat → Nat → Nat) : Int32 := (nI (D 0 0) <<< (nI 24 &&& 31) ||| nI (D 0 1) <<< (nI 16 &&& 31) ||| nI (D 0 2) <<< (nI 8 &&& 31)) ||| nI (D 0 3)
def za_mt (D : Nat → Nat → Nat) : za_T := (D (D 0 4), D 0 4, za_gen D)
def za_C0 : za_C := (fun _ => 0, fun _ _ => 0, fun _ => false)
theorem za_C0_W : za_WC za_C0 := ⟨fun _ _ => Nat.zero_lt_succ _, fun _ _ h => absurd rfl h⟩
/-- which sectors are in use -/
def za_us (L S : za_T) (O : Nat → Nat) (s : Nat) : Prop := s = 0 ∨ L.2.1 = s ∨ S.2.1 = s ∨ ∃ p, p < 16 ∧ (L.1 p = s ∨ S.1 p = s ∨ O p = s)
end
section
/-! Words of numbers and bits. -/
theorem zn_ck {f : Nat → Int32} {g : Nat → Nat} {n : Nat} (h : ∀ i, i < n → f i = nI (g i)) (hg : ∀ i, i < n → g i < 256) : zs_ck f n = nI (za_ck g n) := by
  induction n with
  | zero => rfl
  | succ n ih =>
    unfold zs_ck za_ck
    have hc := za_ck_lt g n
    have hgn := hg n (by omega)
    rw [ih (fun i hi => h i (by omega)) (fun i hi => hg i (by omega)), h n (by omega), show (31 : Int32) = nI 31 from rfl, pk_mul, nI_add, pk_andN (by omega) 16 (by decide)]
theorem zn_or {a b : Nat} (ha : a < 2 ^ 32) (hb : b < 2 ^ 32) : nI a ||| nI b = nI (a ||| b) := by
  refine Int32.toBitVec_inj.mp (BitVec.eq_of_toNat_eq ?_)
  rw [Int32.toBitVec_or, BitVec.toNat_or, pk_tn ha, pk_tn hb, pk_tn (Nat.or_lt_two_pow ha hb)]
theorem zn_16 {a b : Nat} (ha : a < 256) (hb : b < 256) : nI a <<< (nI 8 &&& 31) ||| nI b = nI (a * 256 + b) := by
  rw [pk_shlN (nI 8 &&& 31) 8 (by decide) (by omega), zn_or (by omega) (by omega)]
  refine congrArg nI ?_
  have := Nat.shiftLeft_add_eq_or_of_lt (i := 8) (b := b) hb a
  rw [Nat.shiftLeft_eq] at this
  exact this.symm
theorem zn_gb (g : Int32) {i : Nat} (hi : i < 4) : (g.toUInt32 >>> ((nI (24 - 8 * i)).toUInt32 &&& Int32.toUInt32 31)).toInt32 &&& nI 255 = nI (g.toBitVec.toNat / 2 ^ (24 - 8 * i) % 256) := by
  rw [pk_and _ 8 (by decide)]
  refine congrArg nI (congrArg (· % 2 ^ 8) (pk_ushr g (nI (24 - 8 * i)) (24 - 8 * i) ?_))
  rcases i with _ | _ | _ | _ | i
  · decide
  · decide
  · decide
  · decide
  · omega
/-- a bit of a set -/
def zb (u : Int64) (s : Nat) : Bool := u.toBitVec.getLsbD s
theorem zb_or (u v : Int64) (s : Nat) : zb (u ||| v) s = (zb u s || zb v s) := by
  unfold zb
  rw [Int64.toBitVec_or, BitVec.getLsbD_or]
theorem zb_and (u v : Int64) (s : Nat) : zb (u &&& v) s = (zb u s && zb v s) := by
  unfold zb
  rw [Int64.toBitVec_and, BitVec.getLsbD_and]
theorem zb_xor (u v : Int64) (s : Nat) : zb (u ^^^ v) s = (zb u s ^^ zb v s) := by
  unfold zb
  rw [Int64.toBitVec_xor, BitVec.getLsbD_xor]
theorem zb_one : ∀ t, t < 48 → ∀ s, s < 64 → zb ((1 : Int64) <<< ((nI t).toInt64 &&& 63)) s = decide (s = t) := by decide +kernel
theorem zb_amt : ∀ s, s < 64 → (((nI s).toInt64.toUInt64 &&& Int64.toUInt64 63).toBitVec % 64#64).toNat = s := by decide +kernel
theorem zb_hol (u : Int64) {s : Nat} (hs : s < 64) : (u.toUInt64 >>> ((nI s).toInt64.toUInt64 &&& Int64.toUInt64 63)).toInt64 &&& 1 = 0 ↔ zb u s = false := by
  have e : ((u.toUInt64 >>> ((nI s).toInt64.toUInt64 &&& Int64.toUInt64 63)).toInt64).toBitVec = u.toBitVec >>> s := by
    show u.toBitVec >>> (((nI s).toInt64.toUInt64 &&& Int64.toUInt64 63).toBitVec % 64#64) = _
    rw [BitVec.ushiftRight_eq', zb_amt s hs]
  rw [← Int64.toBitVec_inj, Int64.toBitVec_and, e]
  unfold zb
  constructor
  · intro h
    have := congrArg (fun x => BitVec.getLsbD x 0) h
    simp only [BitVec.getLsbD_and, BitVec.getLsbD_ushiftRight] at this
    simpa using this
  · intro h
    refine BitVec.eq_of_getLsbD_eq fun i hi => ?_
    rw [BitVec.getLsbD_and, BitVec.getLsbD_ushiftRight]
    rcases i with _ | i
    · rw [Nat.add_zero, h]
      rfl
    · rw [show (Int64.toBitVec 1).getLsbD (i + 1) = false by
        show (1#64).getLsbD (i + 1) = false
        rw [BitVec.getLsbD_one]
        simp, Bool.and_false]
      show false = (0#64).getLsbD (i + 1)
      simp
theorem zb_us {f : Nat → Int32} {g : Nat → Nat} {u : Int64} {n : Nat} (h : ∀ i, i < n → f i = nI (g i)) (hg : ∀ i, i < n → g i < 48) {s : Nat} (hs : s < 64) : zb (zs_us f u n) s = true ↔ zb u s = true ∨ ∃ p, p < n ∧ g p = s := by
  induction n with
  | zero => exact ⟨Or.inl, fun h => h.elim id (fun ⟨p, hp, _⟩ => absurd hp (Nat.not_lt_zero p))⟩
  | succ n ih =>
    unfold zs_us
    rw [zb_or, h n (by omega), zb_one _ (hg n (by omega)) s hs, Bool.or_eq_true, ih (fun i hi => h i (by omega)) (fun i hi => hg i (by omega)), decide_eq_true_eq]
    constructor
    · rintro ((a | ⟨p, hp, e⟩) | a)
      · exact Or.inl a
      · exact Or.inr ⟨p, by omega, e⟩
      · exact Or.inr ⟨n, by omega, a.symm⟩
    · rintro (a | ⟨p, hp, e⟩)
      · exact Or.inl (Or.inl a)
      · rcases Nat.lt_or_ge p n with q | q
        · exact Or.inl (Or.inr ⟨p, q, e⟩)
        · obtain rfl : p = n := by omega
          exact Or.inr e.symm
theorem zb_m1 : ∀ s, s < 64 → zb (-1) s = true := by decide +kernel
theorem zb_all : ∀ s, s < 64 → zb 281474976710655 s = decide (s < 48) := by decide +kernel
theorem zb_1 : ∀ s, s < 64 → zb 1 s = decide (s = 0) := by decide +kernel
end
section
/-! The class's master, table, mount. -/
theorem zp_end {w : zw_W} {k a : Nat} {g : Int32} {f : Nat → Int32} (h : ∀ j, j < 14 → f j = nI (za_m0 g a j)) : ∃ f', zw_si (zw_si (zw_sa w k f) k 14 (nI (za_ck (za_m0 g a) 14 / 256))) k 15 (nI (za_ck (za_m0 g a) 14 % 256)) = zw_sa w k f' ∧ ∀ i, i < 16 → f' i = nI (za_ms g a i) := by
  refine ⟨zw_ro (zw_ro f 14 (nI (za_ck (za_m0 g a) 14 / 256))) 15 (nI (za_ck (za_m0 g a) 14 % 256)), ?_, fun i hi => ?_⟩
  · rw [zw_si_sa, zw_si_sa]
  · unfold za_ms
    by_cases e1 : i = 15
    · subst e1
      rw [zw_ro_s]
      rfl
    · rw [zw_ro_n _ _ e1]
      by_cases e2 : i = 14
      · subst e2
        rw [zw_ro_s]
        rfl
      · rw [zw_ro_n _ _ e2, if_pos (by omega)]
        exact h i (by omega)
theorem zp_st {f : Nat → Int32} {g : Int32} {a i : Nat} (hi : i < 4) (h : ∀ j, j < 16 → f j = nI (if j < i then za_m0 g a j else 0)) : ∀ j, j < 16 → zw_ro f i (nI (g.toBitVec.toNat / 2 ^ (24 - 8 * i) % 256)) j = nI (if j < i + 1 then za_m0 g a j else 0) := by
  intro j hj
  by_cases e : j = i
  · subst e
    rw [zw_ro_s, if_pos (by omega)]
    unfold za_m0
    rw [if_pos hi]
  · rw [zw_ro_n _ _ e, h j hj]
    by_cases q : j < i
    · rw [if_pos q, if_pos (by omega)]
    · rw [if_neg q, if_neg (by omega)]
theorem zp_4 {f : Nat → Int32} {g : Int32} {a : Nat} (h : ∀ j, j < 16 → f j = nI (if j < 4 then za_m0 g a j else 0)) : ∀ j, j < 14 → zw_ro f 4 (nI a) j = nI (za_m0 g a j) := by
  intro j hj
  by_cases e : j = 4
  · subst e
    rw [zw_ro_s]
    rfl
  · rw [zw_ro_n _ _ e, h j (by omega)]
    unfold za_m0
    by_cases q : j < 4
    · rw [if_pos q, if_pos q]
    · rw [if_neg q, if_neg q, if_neg e]
set_option maxHeartbeats 4000000 in
set_option maxRecDepth 100000 in
theorem lp_putMaster {V : zv_V} (E : zv_OK V) {w : zw_W} {n0 u0 : Nat} {Q : zg_O → zw_W → Prop} {k a : Nat} {g : Int32} (ht : zw_t w k = (10, 16)) (hk : 1 ≤ k) (hkn : k < w.1) (ha : a < 48) (hcp : w.1 ≤ zc_cn ∧ w.2.1 ≤ zc_cs) (hq : ∀ f, (∀ i, i < 16 → f i = nI (za_ms g a i)) → Q (.inl none) (zw_sa w k f)) : ∀ (n i : Nat) (f : Nat → Int32), i ≤ 4 → 4 + 1 ≤ i + n → (∀ j, j < 16 → f j = nI (if j < i then za_m0 g a j else 0)) → zg_G V zm_X3_putMaster 1 23 n0 u0 7 [] [(3, .int (nI i)), (0, .ref k), (1, .int g), (2, .int (nI a))] (zw_sa w k f) Q := by
  intro n
  induction n with
  | zero =>
    intro i f hi hn
    exact absurd hn (by omega)
  | succ n ih =>
    intro i f hi hn k0
    refine zg_iload_n dX3_putMaster_7 rfl ?_
    refine zg_iconst (v := nI 4) dX3_putMaster_8 (by decide) ?_
    refine zg_icmp_ge (tgt := 34) dX3_putMaster_9 (by decide) (fun h9 => ?_) (fun h9 => ?_)
    · obtain rfl : i = 4 := by have := zn_ge h9 (by omega) (by omega); omega
      refine zg_aload_n dX3_putMaster_34 rfl ?_
      refine zg_iconst (v := nI 4) dX3_putMaster_35 (by decide) ?_
      refine zg_iload_n dX3_putMaster_36 rfl ?_
      refine zg_iast E (j := 4) dX3_putMaster_37 ht hk hkn rfl (by omega) (by decide) ?_
      refine zg_w (zw_si_sa w k 4 f (nI a)).symm ?_
      have hf := zp_4 k0
      generalize zw_ro f 4 (nI a) = f1 at hf ⊢
      refine zg_aload_n dX3_putMaster_38 rfl ?_
      refine zg_sret (M := zm_X3_putMaster) E dX3_putMaster_39 (ct_checkOf (w := zw_sa w k f1) E ht hk hkn) wd_X3_214 dh_X3_checkOf dn_X3_checkOf (Nat.le_of_ble_eq_true rfl) (Nat.le_of_ble_eq_true rfl) (Nat.le_of_ble_eq_true rfl) hcp rfl (fun w39 g39 => ?_)
      subst g39
      refine zg_v (x' := nI (za_ck (za_m0 g a) 14)) ((congrArg (zs_ck · 14) (zw_i_sa w k f1)).trans (zn_ck hf (fun i _ => za_m0_lt g ha i))) ?_
      refine zg_istore_n (lv' := [(3, .int (nI (za_ck (za_m0 g a) 14))), (0, .ref k), (1, .int g), (2, .int (nI a))]) dX3_putMaster_42 (by decide) rfl ?_
      refine zg_aload_n dX3_putMaster_43 rfl ?_
      refine zg_bipush (v := nI 14) dX3_putMaster_44 (by decide) ?_
      refine zg_iload_n dX3_putMaster_46 rfl ?_
      refine zg_bipush (v := nI 8) dX3_putMaster_47 (by decide) ?_
      refine zg_iushr dX3_putMaster_49 ?_
      refine zg_v (x' := nI (za_ck (za_m0 g a) 14 / 256)) (pk_ushrN (by have := za_ck_lt (za_m0 g a) 14; omega) (nI 8) 8 (by decide)) ?_
      refine zg_iast E (j := 14) dX3_putMaster_50 ht hk hkn rfl (by omega) (by decide) ?_
      refine zg_aload_n dX3_putMaster_51 rfl ?_
      refine zg_bipush (v := nI 15) dX3_putMaster_52 (by decide) ?_
      refine zg_iload_n dX3_putMaster_54 rfl ?_
      refine zg_sipush (v := nI 255) dX3_putMaster_55 (by decide) ?_
      refine zg_iand dX3_putMaster_58 ?_
      refine zg_v (x' := nI (za_ck (za_m0 g a) 14 % 256)) (pk_andN (by have := za_ck_lt (za_m0 g a) 14; omega) 8 (by decide)) ?_
      refine zg_iast E (j := 15) dX3_putMaster_59 ht hk hkn rfl (by omega) (by decide) ?_
      exact zg_vret rfl dX3_putMaster_60 (by obtain ⟨f2, e, h2⟩ := zp_end (w := w) (k := k) hf; rw [e]; exact hq f2 h2)
    · have hlt : i < 4 := zn_lt h9 (by omega) (by omega)
      refine zg_aload_n dX3_putMaster_12 rfl ?_
      refine zg_iload_n dX3_putMaster_13 rfl ?_
      refine zg_iload_n dX3_putMaster_14 rfl ?_
      refine zg_bipush (v := nI 24) dX3_putMaster_15 (by decide) ?_
      refine zg_bipush (v := nI 8) dX3_putMaster_17 (by decide) ?_
      refine zg_iload_n dX3_putMaster_19 rfl ?_
      refine zg_imul dX3_putMaster_20 ?_
      refine zg_v (x' := nI (8 * i)) (pk_mul _ _) ?_
      refine zg_isub dX3_putMaster_21 ?_
      refine zg_v (x' := nI (24 - 8 * i)) (pk_sub (by omega)) ?_
      refine zg_iushr dX3_putMaster_22 ?_
      refine zg_sipush (v := nI 255) dX3_putMaster_23 (by decide) ?_
      refine zg_iand dX3_putMaster_26 ?_
      refine zg_v (x' := nI (g.toBitVec.toNat / 2 ^ (24 - 8 * i) % 256)) (zn_gb g hlt) ?_
      refine zg_iast E (j := i) dX3_putMaster_27 ht hk hkn rfl (by omega) (by decide) ?_
      refine zg_iinc (v := nI (i + 1)) (lv' := [(3, .int (nI (i + 1))), (0, .ref k), (1, .int g), (2, .int (nI a))]) dX3_putMaster_28 rfl (nI_1 i) (by decide) rfl ?_
      refine zg_goto (tgt := 7) dX3_putMaster_31 (by decide) ?_
      refine zg_w (zw_si_sa w k i f _).symm ?_
      refine zg_l [0, 1, 2, 3] rfl ?_
      exact zg_s rfl rfl rfl (ih (i + 1) _ (by omega) (by omega) (zp_st hlt k0))
set_option maxHeartbeats 4000000 in
set_option maxRecDepth 100000 in
theorem ct_putMaster {V : zv_V} (E : zv_OK V) {w : zw_W} {k a : Nat} {g : Int32} (ht : zw_t w k = (10, 16)) (hk : 1 ≤ k) (hkn : k < w.1) (ha : a < 48) (hcp : w.1 ≤ zc_cn ∧ w.2.1 ≤ zc_cs)  : zg_C V zm_X3_putMaster yX3_putMaster 1 23 [.ref k, .int g, .int (nI a)] w (zq_p (.inl none) (fun w' => ∃ f, (∀ i, i < 16 → f i = nI (za_ms g a i)) ∧ w' = zw_sa w k f)) := by
  refine zg_of (by decide +kernel) rfl (Nat.le_of_ble_eq_true rfl) ?_
  show zg_G V zm_X3_putMaster 1 23 w.1 w.2.1 0 [] [(0, .ref k), (1, .int g), (2, .int (nI a))] w _
  refine zg_aload_n dX3_putMaster_0 rfl ?_
  refine zg_iconst (v := nI 0) dX3_putMaster_1 (by decide) ?_
  refine zg_sret (M := zm_X3_putMaster) E dX3_putMaster_2 (ct_fill E ht hk hkn (by decide)) wd_X3_188 dh_J7_fill_53178 dn_J7_fill_53178 (Nat.le_of_ble_eq_true rfl) (Nat.le_of_ble_eq_true rfl) (Nat.le_of_ble_eq_true rfl) hcp rfl (fun w2 g2 => ?_)
  subst g2
  refine zg_iconst (v := nI 0) dX3_putMaster_5 (by decide) ?_
  refine zg_istore_n (lv' := [(3, .int (nI 0)), (0, .ref k), (1, .int g), (2, .int (nI a))]) dX3_putMaster_6 (by decide) rfl ?_
  exact zg_s rfl rfl rfl (lp_putMaster E ht hk hkn ha hcp (fun f hf => ⟨rfl, f, hf, rfl⟩) 5 0 _ (by omega) (by omega) (fun j hj => (zs_win _ _ hj).trans rfl))
theorem zp_mi {w : zw_W} {D : Nat → Nat → Nat} (hD : zr_D (zw_i w) D) (hW : za_WD D) : zw_i w (3 + 0) 14 <<< (nI 8 &&& 31) ||| zw_i w (3 + 0) 15 = nI (D 0 14 * 256 + D 0 15) := by
  rw [hD 0 (by omega) 14 (by omega), hD 0 (by omega) 15 (by omega)]
  exact zn_16 (hW 0 (by omega) 14 (by omega)) (hW 0 (by omega) 15 (by omega))
theorem zp_mn {D : Nat → Nat → Nat} (hW : za_WD D) : D 0 14 * 256 + D 0 15 < 65536 := by
  have h1 := hW 0 (by omega) 14 (by omega)
  have h2 := hW 0 (by omega) 15 (by omega)
  omega
set_option maxHeartbeats 4000000 in
set_option maxRecDepth 100000 in
theorem lp_masterIsRight {V : zv_V} (E : zv_OK V) {w : zw_W} {n0 u0 : Nat} {Q : zg_O → zw_W → Prop} (HX : zl_X w) {D : Nat → Nat → Nat} (hD : zr_D (zw_i w) D) (hW : za_WD D) (hq1 : za_mr D → Q (.inl (some (.int (nI 1)))) w) (hq0 : ¬ za_mr D → Q (.inl (some (.int (nI 0)))) w) : ∀ (n i : Nat) , i ≤ 14 → 14 + 1 ≤ i + n → 5 ≤ i → (∀ j, 5 ≤ j → j < i → D 0 j = 0) → zg_G V zm_X3_masterIsRight 1 22 n0 u0 9 [] [(2, .int (nI i)), (1, .ref (3 + 0)), (0, .ref 1)] w Q := by
  intro n
  induction n with
  | zero =>
    intro i hi hn
    exact absurd hn (by omega)
  | succ n ih =>
    intro i hi hn k0 k1
    refine zg_iload_n dX3_masterIsRight_9 rfl ?_
    refine zg_bipush (v := nI 14) dX3_masterIsRight_10 (by decide) ?_
    refine zg_icmp_ge (tgt := 29) dX3_masterIsRight_12 (by decide) (fun h12 => ?_) (fun h12 => ?_)
    · obtain rfl : i = 14 := by have := zn_ge h12 (by omega) (by omega); omega
      refine zg_aload_n dX3_masterIsRight_29 rfl ?_
      refine zg_bipush (v := nI 14) dX3_masterIsRight_30 (by decide) ?_
      refine zg_iald E (j := 14) dX3_masterIsRight_32 (zl_at HX (zl_sec (by omega)).1 (by omega) (by omega)) (by omega) (zl_lt HX (by omega)) rfl (by omega) (by decide) ?_
      refine zg_bipush (v := nI 8) dX3_masterIsRight_33 (by decide) ?_
      refine zg_ishl dX3_masterIsRight_35 ?_
      refine zg_aload_n dX3_masterIsRight_36 rfl ?_
      refine zg_bipush (v := nI 15) dX3_masterIsRight_37 (by decide) ?_
      refine zg_iald E (j := 15) dX3_masterIsRight_39 (zl_at HX (zl_sec (by omega)).1 (by omega) (by omega)) (by omega) (zl_lt HX (by omega)) rfl (by omega) (by decide) ?_
      refine zg_ior dX3_masterIsRight_40 ?_
      refine zg_v (x' := nI (D 0 14 * 256 + D 0 15)) (zp_mi hD hW) ?_
      refine zg_aload_n dX3_masterIsRight_41 rfl ?_
      refine zg_sret (M := zm_X3_masterIsRight) E dX3_masterIsRight_42 (ct_checkOf E (zl_at HX (zl_sec (s := 0) (by omega)).1 (by omega) (by omega)) (by omega) (zl_lt HX (by omega))) wd_X3_214 dh_X3_checkOf dn_X3_checkOf (Nat.le_of_ble_eq_true rfl) (Nat.le_of_ble_eq_true rfl) (Nat.le_of_ble_eq_true rfl) (zl_cap HX) rfl (fun w42 g42 => ?_)
      subst g42
      refine zg_v (x' := nI (za_ck (D 0) 14)) (zn_ck (fun i hi => hD 0 (by omega) i (by omega)) (fun i hi => hW 0 (by omega) i (by omega))) ?_
      refine zg_icmp_ne (tgt := 52) dX3_masterIsRight_45 (by decide) (fun h45 => ?_) (fun h45 => ?_)
      · have hn : ¬ za_mr D := fun z => h45 (congrArg nI z.2)
        refine zg_iconst (v := nI 0) dX3_masterIsRight_52 (by decide) ?_
        exact zg_zret rfl rfl dX3_masterIsRight_53 (hq0 hn)
      · have hy : za_mr D := ⟨fun j h1 h2 => k1 j h1 h2, (nI_eq (by have := zp_mn hW; omega) (by have := za_ck_lt (D 0) 14; omega)).mp h45⟩
        refine zg_iconst (v := nI 1) dX3_masterIsRight_48 (by decide) ?_
        refine zg_goto (tgt := 53) dX3_masterIsRight_49 (by decide) ?_
        exact zg_zret rfl rfl dX3_masterIsRight_53 (hq1 hy)
    · have hlt : i < 14 := zn_lt h12 (by omega) (by omega)
      have hb := hW 0 (by omega) i (by omega)
      refine zg_aload_n dX3_masterIsRight_15 rfl ?_
      refine zg_iload_n dX3_masterIsRight_16 rfl ?_
      refine zg_iald E (j := i) dX3_masterIsRight_17 (zl_at HX (zl_sec (by omega)).1 (by omega) (by omega)) (by omega) (zl_lt HX (by omega)) rfl (by omega) (by decide) ?_
      refine zg_v (x' := nI (D 0 i)) (hD 0 (by omega) i (by omega)) ?_
      refine zg_if_eq (tgt := 23) dX3_masterIsRight_18 (by decide) (fun h18 => ?_) (fun h18 => ?_)
      · have hz : D 0 i = 0 := (nI_eq (by omega) (by decide)).mp h18
        refine zg_iinc (v := nI (i + 1)) (lv' := [(2, .int (nI (i + 1))), (1, .ref (3 + 0)), (0, .ref 1)]) dX3_masterIsRight_23 rfl (nI_1 i) (by decide) rfl ?_
        refine zg_goto (tgt := 9) dX3_masterIsRight_26 (by decide) ?_
        refine zg_l [0, 1, 2] rfl ?_
        exact zg_s rfl rfl rfl (ih (i + 1) (by omega) (by omega) (by omega) (fun j h1 h2 => (Nat.lt_or_ge j i).elim (k1 j h1) (fun z => (show j = i by omega) ▸ hz)))
      · have hz : D 0 i ≠ 0 := fun z => h18 (congrArg nI z)
        refine zg_iconst (v := nI 0) dX3_masterIsRight_21 (by decide) ?_
        exact zg_zret rfl rfl dX3_masterIsRight_22 (hq0 (fun z => hz (z.1 i k0 hlt)))
set_option maxHeartbeats 4000000 in
set_option maxRecDepth 100000 in
theorem ct_masterIsRight {V : zv_V} (E : zv_OK V) {w : zw_W} (HX : zl_X w) {D : Nat → Nat → Nat} (hD : zr_D (zw_i w) D) (hW : za_WD D) {b : Bool} (hb : b = true ↔ za_mr D) : zg_C V zm_X3_masterIsRight yX3_masterIsRight 1 22 [.ref 1] w (zq_p (.inl (some (.int (za_bit b)))) (· = w)) := by
  refine zg_of (by decide +kernel) rfl (Nat.le_of_ble_eq_true rfl) ?_
  show zg_G V zm_X3_masterIsRight 1 22 w.1 w.2.1 0 [] [(0, .ref 1)] w _
  refine zg_aload_n dX3_masterIsRight_0 rfl ?_
  refine zg_getR E (ci := 3) (j := 0) (r := 2) dX3_masterIsRight_1 rfl (congrArg Prod.fst (zl_at HX (k := 1) (t := (3, 7)) rfl (by decide) (by decide))) (by decide) (zl_lt HX (by decide)) (by decide) fl_X3_11 rfl (zl_rf HX rfl (by decide) (by decide)) ?_
  refine zg_iconst (v := nI 0) dX3_masterIsRight_4 (by decide) ?_
  refine zg_aald E (j := 0) (r := 3 + 0) dX3_masterIsRight_5 (zl_at HX (k := 2) (t := (13, 48)) rfl (by decide) (by decide)) (by decide) (zl_lt HX (by decide)) rfl (by omega) (by decide) (zl_rf HX (zl_sec (by omega)).2 (by decide) (by decide)) ?_
  refine zg_astore_n (lv' := [(1, .ref (3 + 0)), (0, .ref 1)]) dX3_masterIsRight_6 (by decide) rfl ?_
  refine zg_iconst (v := nI 5) dX3_masterIsRight_7 (by decide) ?_
  refine zg_istore_n (lv' := [(2, .int (nI 5)), (1, .ref (3 + 0)), (0, .ref 1)]) dX3_masterIsRight_8 (by decide) rfl ?_
  exact zg_s rfl rfl rfl (lp_masterIsRight E HX hD hW (fun z => ⟨by rw [hb.mpr z]; rfl, rfl⟩) (fun z => ⟨by rw [show b = false by cases b with | false => rfl | true => exact absurd (hb.mp rfl) z]; rfl, rfl⟩) 10 5 (by omega) (by omega) (by omega) (fun j h1 h2 => absurd h1 (by omega)))
/-- what the loop over the table's pages knows -/
def zp_ti (D : Nat → Nat → Nat) (u : Int64) (i : Nat) : Prop := (∀ s, s < 48 → (zb u s = true ↔ s = D 0 4 ∨ ∃ q, q < i ∧ D (D 0 4) q = s)) ∧ ∀ p, p < i → D (D 0 4) p < 48 ∧ D (D 0 4) p ≠ D 0 4 ∧ (D (D 0 4) p ≠ 0 → ∀ q, q < p → D (D 0 4) q ≠ D (D 0 4) p)
theorem zp_t0 {D : Nat → Nat → Nat} (ha : D 0 4 < 48) : zp_ti D ((1 : Int64) <<< ((nI (D 0 4)).toInt64 &&& 63)) 0 := by
  refine ⟨fun s hs => ?_, fun p hp => absurd hp (Nat.not_lt_zero p)⟩
  rw [zb_one _ ha s (by omega), decide_eq_true_eq]
  exact ⟨Or.inl, fun h => h.elim id (fun ⟨q, hq, _⟩ => absurd hq (Nat.not_lt_zero q))⟩
theorem zp_t1 {D : Nat → Nat → Nat} {u : Int64} {i : Nat} (h1 : 1 ≤ D 0 4) (h : zp_ti D u i) (hs : D (D 0 4) i < 48) (hz : D (D 0 4) i = 0 ∨ zb u (D (D 0 4) i) = false) : zp_ti D (u ||| (1 : Int64) <<< ((nI (D (D 0 4) i)).toInt64 &&& 63)) (i + 1) := by
  have key : D (D 0 4) i ≠ D 0 4 ∧ (D (D 0 4) i ≠ 0 → ∀ q, q < i → D (D 0 4) q ≠ D (D 0 4) i) := by
    rcases hz with z | z
    · exact ⟨by omega, fun g => absurd z g⟩
    · refine ⟨fun e => ?_, fun _ q hq e => ?_⟩
      · have := (h.1 _ hs).mpr (Or.inl e)
        rw [z] at this
        exact absurd this (by decide)
      · have := (h.1 _ hs).mpr (Or.inr ⟨q, hq, e⟩)
        rw [z] at this
        exact absurd this (by decide)
  refine ⟨fun s hs' => ?_, fun p hp => ?_⟩
  · rw [zb_or, zb_one _ hs s (by omega), Bool.or_eq_true, h.1 s hs', decide_eq_true_eq]
    constructor
    · rintro ((a | ⟨q, hq, e⟩) | a)
      · exact Or.inl a
      · exact Or.inr ⟨q, by omega, e⟩
      · exact Or.inr ⟨i, by omega, a.symm⟩
    · rintro (a | ⟨q, hq, e⟩)
      · exact Or.inl (Or.inl a)
      · rcases Nat.lt_or_ge q i with g | g
        · exact Or.inl (Or.inr ⟨q, g, e⟩)
        · obtain rfl : q = i := by omega
          exact Or.inr e.symm
  · rcases Nat.lt_or_ge p i with g | g
    · exact h.2 p g
    · obtain rfl : p = i := by omega
      exact ⟨hs, key⟩
theorem zp_tn {D : Nat → Nat → Nat} {u : Int64} {i : Nat} (hi : i < 16) (h : zp_ti D u i) (hz : 48 ≤ D (D 0 4) i ∨ D (D 0 4) i ≠ 0 ∧ zb u (D (D 0 4) i) = true) : ¬ za_tr D := by
  intro t
  obtain ⟨h1, h2, h3⟩ := t.2.2 i hi
  rcases hz with z | ⟨z, y⟩
  · omega
  · rcases (h.1 _ h1).mp y with e | ⟨q, hq, e⟩
    · exact h2 e
    · exact h3 z q hq e
theorem zp_hol (u : Int64) {s : Nat} (hs : s < 64) : (if (u.toUInt64 >>> ((nI s).toInt64.toUInt64 &&& Int64.toUInt64 63)).toInt64 &&& 1 = 0 then nI 0 else nI 1) = za_bit (zb u s) := by
  by_cases h : zb u s = false
  · rw [if_pos ((zb_hol u hs).mpr h), h]
    rfl
  · rw [if_neg (fun z => h ((zb_hol u hs).mp z)), show zb u s = true by simpa using h]
    rfl
set_option maxHeartbeats 4000000 in
set_option maxRecDepth 100000 in
theorem lp_tableIsRight {V : zv_V} (E : zv_OK V) {w : zw_W} {n0 u0 : Nat} {Q : zg_O → zw_W → Prop} (HX : zl_X w) {D : Nat → Nat → Nat} (hD : zr_D (zw_i w) D) (hW : za_WD D) (h1 : 1 ≤ D 0 4) (h2 : D 0 4 < 48) (hq1 : za_tr D → Q (.inl (some (.int (nI 1)))) w) (hq0 : ¬ za_tr D → Q (.inl (some (.int (nI 0)))) w) : ∀ (n i : Nat) (u : Int64), i ≤ 16 → 16 + 1 ≤ i + n → zp_ti D u i → zg_G V zm_X3_tableIsRight 1 24 n0 u0 29 [] [(4, .int (nI i)), (2, .long u), (1, .int (nI (D 0 4))), (0, .ref 1)] w Q := by
  intro n
  induction n with
  | zero =>
    intro i u hi hn
    exact absurd hn (by omega)
  | succ n ih =>
    intro i u hi hn k0
    refine zg_iload dX3_tableIsRight_29 rfl ?_
    refine zg_bipush (v := nI 16) dX3_tableIsRight_31 (by decide) ?_
    refine zg_icmp_ge (tgt := 83) dX3_tableIsRight_33 (by decide) (fun h33 => ?_) (fun h33 => ?_)
    · obtain rfl : i = 16 := by have := zn_ge h33 (by omega) (by omega); omega
      refine zg_iconst (v := nI 1) dX3_tableIsRight_83 (by decide) ?_
      exact zg_zret rfl rfl dX3_tableIsRight_84 (hq1 ⟨h1, h2, k0.2⟩)
    · have hlt : i < 16 := zn_lt h33 (by omega) (by omega)
      have hb := hW (D 0 4) h2 i hlt
      refine zg_aload_n dX3_tableIsRight_36 rfl ?_
      refine zg_getR E (ci := 3) (j := 0) (r := 2) dX3_tableIsRight_37 rfl (congrArg Prod.fst (zl_at HX (k := 1) (t := (3, 7)) rfl (by decide) (by decide))) (by decide) (zl_lt HX (by decide)) (by decide) fl_X3_11 rfl (zl_rf HX rfl (by decide) (by decide)) ?_
      refine zg_iload_n dX3_tableIsRight_40 rfl ?_
      refine zg_aald E (j := D 0 4) (r := 3 + (D 0 4)) dX3_tableIsRight_41 (zl_at HX (k := 2) (t := (13, 48)) rfl (by decide) (by decide)) (by decide) (zl_lt HX (by decide)) rfl h2 (by decide) (zl_rf HX (zl_sec h2).2 (by decide) (by decide)) ?_
      refine zg_iload dX3_tableIsRight_42 rfl ?_
      refine zg_iald E (j := i) dX3_tableIsRight_44 (zl_at HX (zl_sec (by omega)).1 (by omega) (by omega)) (by omega) (zl_lt HX (by omega)) rfl (by omega) (by decide) ?_
      refine zg_v (x' := nI (D (D 0 4) i)) (hD (D 0 4) h2 i hlt) ?_
      refine zg_istore (lv' := [(5, .int (nI (D (D 0 4) i))), (4, .int (nI i)), (2, .long u), (1, .int (nI (D 0 4))), (0, .ref 1)]) dX3_tableIsRight_45 (by decide) rfl ?_
      refine zg_iload dX3_tableIsRight_47 rfl ?_
      refine zg_bipush (v := nI 48) dX3_tableIsRight_49 (by decide) ?_
      refine zg_icmp_ge (tgt := 68) dX3_tableIsRight_51 (by decide) (fun h51 => ?_) (fun h51 => ?_)
      · have hx : 48 ≤ D (D 0 4) i := zn_ge h51 (by omega) (by omega)
        have hn := zp_tn hlt k0 (Or.inl hx)
        refine zg_iconst (v := nI 0) dX3_tableIsRight_68 (by decide) ?_
        exact zg_zret rfl rfl dX3_tableIsRight_69 (hq0 hn)
      · have hs : D (D 0 4) i < 48 := zn_lt h51 (by omega) (by omega)
        refine zg_iload dX3_tableIsRight_54 rfl ?_
        refine zg_if_eq (tgt := 70) dX3_tableIsRight_56 (by decide) (fun h56 => ?_) (fun h56 => ?_)
        · have hz : D (D 0 4) i = 0 ∨ zb u (D (D 0 4) i) = false := Or.inl ((nI_eq (by omega) (by decide)).mp h56)
          refine zg_lload_n dX3_tableIsRight_70 rfl ?_
          refine zg_lconst (v := 1) dX3_tableIsRight_71 (by decide) ?_
          refine zg_iload dX3_tableIsRight_72 rfl ?_
          refine zg_lshl dX3_tableIsRight_74 ?_
          refine zg_lor dX3_tableIsRight_75 ?_
          refine zg_lstore_n (lv' := [(2, .long (u ||| (((1)) <<< ((nI (D (D 0 4) i)).toInt64 &&& 63)))), (5, .int (nI (D (D 0 4) i))), (4, .int (nI i)), (1, .int (nI (D 0 4))), (0, .ref 1)]) dX3_tableIsRight_76 (by decide) rfl ?_
          refine zg_iinc (v := nI (i + 1)) (lv' := [(4, .int (nI (i + 1))), (2, .long (u ||| (((1)) <<< ((nI (D (D 0 4) i)).toInt64 &&& 63)))), (5, .int (nI (D (D 0 4) i))), (1, .int (nI (D 0 4))), (0, .ref 1)]) dX3_tableIsRight_77 rfl (nI_1 i) (by decide) rfl ?_
          refine zg_goto (tgt := 29) dX3_tableIsRight_80 (by decide) ?_
          refine zg_l [0, 1, 3, 4] rfl ?_
          exact zg_s rfl rfl rfl (ih (i + 1) _ (by omega) (by omega) (zp_t1 h1 k0 hs hz))
        · have h0 : D (D 0 4) i ≠ 0 := fun z => h56 (congrArg nI z)
          refine zg_lload_n dX3_tableIsRight_59 rfl ?_
          refine zg_iload dX3_tableIsRight_60 rfl ?_
          refine zg_sret (M := zm_X3_tableIsRight) E dX3_tableIsRight_62 (ct_holds E u (nI (D (D 0 4) i))) wd_X3_148 dh_X3_holds dn_X3_holds (Nat.le_of_ble_eq_true rfl) (Nat.le_of_ble_eq_true rfl) (Nat.le_of_ble_eq_true rfl) (zl_cap HX) rfl (fun w62 g62 => ?_)
          subst g62
          refine zg_v (x' := za_bit (zb u (D (D 0 4) i))) (zp_hol u (by omega)) ?_
          refine zg_if_eq (tgt := 70) dX3_tableIsRight_65 (by decide) (fun h65 => ?_) (fun h65 => ?_)
          · have hz : D (D 0 4) i = 0 ∨ zb u (D (D 0 4) i) = false := Or.inr (za_bit0 h65)
            refine zg_lload_n dX3_tableIsRight_70 rfl ?_
            refine zg_lconst (v := 1) dX3_tableIsRight_71 (by decide) ?_
            refine zg_iload dX3_tableIsRight_72 rfl ?_
            refine zg_lshl dX3_tableIsRight_74 ?_
            refine zg_lor dX3_tableIsRight_75 ?_
            refine zg_lstore_n (lv' := [(2, .long (u ||| (((1)) <<< ((nI (D (D 0 4) i)).toInt64 &&& 63)))), (5, .int (nI (D (D 0 4) i))), (4, .int (nI i)), (1, .int (nI (D 0 4))), (0, .ref 1)]) dX3_tableIsRight_76 (by decide) rfl ?_
            refine zg_iinc (v := nI (i + 1)) (lv' := [(4, .int (nI (i + 1))), (2, .long (u ||| (((1)) <<< ((nI (D (D 0 4) i)).toInt64 &&& 63)))), (5, .int (nI (D (D 0 4) i))), (1, .int (nI (D 0 4))), (0, .ref 1)]) dX3_tableIsRight_77 rfl (nI_1 i) (by decide) rfl ?_
            refine zg_goto (tgt := 29) dX3_tableIsRight_80 (by decide) ?_
            refine zg_l [0, 1, 3, 4] rfl ?_
            exact zg_s rfl rfl rfl (ih (i + 1) _ (by omega) (by omega) (zp_t1 h1 k0 hs hz))
          · have hn := zp_tn hlt k0 (Or.inr ⟨h0, za_bit1 h65⟩)
            refine zg_iconst (v := nI 0) dX3_tableIsRight_68 (by decide) ?_
            exact zg_zret rfl rfl dX3_tableIsRight_69 (hq0 hn)
set_option maxHeartbeats 4000000 in
set_option maxRecDepth 100000 in
theorem ct_tableIsRight {V : zv_V} (E : zv_OK V) {w : zw_W} (HX : zl_X w) {D : Nat → Nat → Nat} (hD : zr_D (zw_i w) D) (hW : za_WD D) {b : Bool} (hb : b = true ↔ za_tr D) : zg_C V zm_X3_tableIsRight yX3_tableIsRight 1 24 [.ref 1] w (zq_p (.inl (some (.int (za_bit b)))) (· = w)) := by
  refine zg_of (by decide +kernel) rfl (Nat.le_of_ble_eq_true rfl) ?_
  show zg_G V zm_X3_tableIsRight 1 24 w.1 w.2.1 0 [] [(0, .ref 1)] w _
  refine zg_aload_n dX3_tableIsRight_0 rfl ?_
  refine zg_getR E (ci := 3) (j := 0) (r := 2) dX3_tableIsRight_1 rfl (congrArg Prod.fst (zl_at HX (k := 1) (t := (3, 7)) rfl (by decide) (by decide))) (by decide) (zl_lt HX (by decide)) (by decide) fl_X3_11 rfl (zl_rf HX rfl (by decide) (by decide)) ?_
  refine zg_iconst (v := nI 0) dX3_tableIsRight_4 (by decide) ?_
  refine zg_aald E (j := 0) (r := 3 + 0) dX3_tableIsRight_5 (zl_at HX (k := 2) (t := (13, 48)) rfl (by decide) (by decide)) (by decide) (zl_lt HX (by decide)) rfl (by omega) (by decide) (zl_rf HX (zl_sec (by omega)).2 (by decide) (by decide)) ?_
  refine zg_iconst (v := nI 4) dX3_tableIsRight_6 (by decide) ?_
  refine zg_iald E (j := 4) dX3_tableIsRight_7 (zl_at HX (zl_sec (by omega)).1 (by omega) (by omega)) (by omega) (zl_lt HX (by omega)) rfl (by omega) (by decide) ?_
  refine zg_v (x' := nI (D 0 4)) (hD 0 (by omega) 4 (by omega)) ?_
  refine zg_istore_n (lv' := [(1, .int (nI (D 0 4))), (0, .ref 1)]) dX3_tableIsRight_8 (by decide) rfl ?_
  refine zg_iload_n dX3_tableIsRight_9 rfl ?_
  refine zg_iconst (v := nI 1) dX3_tableIsRight_10 (by decide) ?_
  refine zg_icmp_lt (tgt := 20) dX3_tableIsRight_11 (by decide) (fun h11 => ?_) (fun h11 => ?_)
  · have z : ¬ za_tr D := fun t => nI_nlt t.1 (by have := hW 0 (by omega) 4 (by omega); omega) h11
    refine zg_iconst (v := nI 0) dX3_tableIsRight_20 (by decide) ?_
    exact zg_zret rfl rfl dX3_tableIsRight_21 ⟨congrArg (fun x => Sum.inl (some (Value.int x))) (show nI 0 = za_bit b from (by rw [show b = false by cases b with | false => rfl | true => exact absurd (hb.mp rfl) z]; rfl)), rfl⟩
  · have g1 : 1 ≤ D 0 4 := (Nat.lt_or_ge (D 0 4) 1).elim (fun g => absurd (nI_lt g (by decide)) h11) id
    have hl4 := hW 0 (by omega) 4 (by omega)
    refine zg_iload_n dX3_tableIsRight_14 rfl ?_
    refine zg_bipush (v := nI 48) dX3_tableIsRight_15 (by decide) ?_
    refine zg_icmp_lt (tgt := 22) dX3_tableIsRight_17 (by decide) (fun h17 => ?_) (fun h17 => ?_)
    · have g2 : D 0 4 < 48 := (nI_ltI (by omega) (by decide)).mp h17
      refine zg_lconst (v := 1) dX3_tableIsRight_22 (by decide) ?_
      refine zg_iload_n dX3_tableIsRight_23 rfl ?_
      refine zg_lshl dX3_tableIsRight_24 ?_
      refine zg_lstore_n (lv' := [(2, .long (((1)) <<< ((nI (D 0 4)).toInt64 &&& 63))), (1, .int (nI (D 0 4))), (0, .ref 1)]) dX3_tableIsRight_25 (by decide) rfl ?_
      refine zg_iconst (v := nI 0) dX3_tableIsRight_26 (by decide) ?_
      refine zg_istore (lv' := [(4, .int (nI 0)), (2, .long (((1)) <<< ((nI (D 0 4)).toInt64 &&& 63))), (1, .int (nI (D 0 4))), (0, .ref 1)]) dX3_tableIsRight_27 (by decide) rfl ?_
      exact zg_s rfl rfl rfl (lp_tableIsRight E HX hD hW g1 g2 (fun z => ⟨by rw [hb.mpr z]; rfl, rfl⟩) (fun z => ⟨by rw [show b = false by cases b with | false => rfl | true => exact absurd (hb.mp rfl) z]; rfl, rfl⟩) 17 0 _ (by omega) (by omega) (zp_t0 g2))
    · have z : ¬ za_tr D := fun t => h17 (nI_lt t.2.1 (by decide))
      refine zg_iconst (v := nI 0) dX3_tableIsRight_20 (by decide) ?_
      exact zg_zret rfl rfl dX3_tableIsRight_21 ⟨congrArg (fun x => Sum.inl (some (Value.int x))) (show nI 0 = za_bit b from (by rw [show b = false by cases b with | false => rfl | true => exact absurd (hb.mp rfl) z]; rfl)), rfl⟩
end
section
/-! The class's leaves as steps of the state. -/
theorem zg_Cm {V : zv_V} {M : zg_M} {y : MethodName} {fr lc : Nat} {args : List Value} {w : zw_W} {o : zg_O} {P P' : zw_W → Prop} (h : zg_C V M y fr lc args w (zq_p o P)) (k : ∀ w', P w' → P' w') : zg_C V M y fr lc args w (zq_p o P') := by
  intro rm r1 r2 r3 r4
  refine (h rm r1 r2 r3 r4).mono (fun _ _ z => z) (fun _ _ _ _ _ z => z) ?_
  rintro a s o t - ⟨o', w', L, g1, g2, g3, g4⟩
  exact ⟨o', w', L, g1, g2, ⟨g3.1, k _ g3.2⟩, g4⟩
/-- the ints of the cells lo .. hi - 1 alone have changed, and P holds of them -/
def zr_to (w : zw_W) (lo hi : Nat) (P : (Nat → Nat → Int32) → Prop) (w' : zw_W) : Prop := ∃ J, w' = zw_I w J ∧ P J ∧ ∀ a, a < lo ∨ hi ≤ a → J a = zw_i w a
section ZXU
variable {I J : Nat → Nat → Int32} {D D' : Nat → Nat → Nat} {H H' : za_H} {b b' : Bool} {L L' S S' : za_T} {C C' : za_C}
theorem zr_Xd (h : zr_X I D H b L S C) (w : H.1 ≤ 77) (g : zr_D J D') (e : ∀ a, a < 3 ∨ 51 ≤ a → J a = I a) : zr_X J D' H b L S C :=
  ⟨g, zr_He h.2.1 w (fun a _ _ i => congrFun (e a (by omega)) i), (congrFun (e 1 (by omega)) 6).trans h.2.2.1, zr_Te h.2.2.2.1 (fun i => congrFun (e 131 (by omega)) i) (fun i => congrFun (e 132 (by omega)) i), zr_Te h.2.2.2.2.1 (fun i => congrFun (e 133 (by omega)) i) (fun i => congrFun (e 134 (by omega)) i), zr_Ce h.2.2.2.2.2 (fun a _ _ i => congrFun (e a (by omega)) i)⟩
theorem zr_Xh (h : zr_X I D H b L S C) (g : zr_H J H') (e : ∀ a, a < 51 ∨ 131 ≤ a → J a = I a) : zr_X J D H' b L S C :=
  ⟨zr_De h.1 (fun a _ _ i _ => congrFun (e a (by omega)) i), g, (congrFun (e 1 (by omega)) 6).trans h.2.2.1, zr_Te h.2.2.2.1 (fun i => congrFun (e 131 (by omega)) i) (fun i => congrFun (e 132 (by omega)) i), zr_Te h.2.2.2.2.1 (fun i => congrFun (e 133 (by omega)) i) (fun i => congrFun (e 134 (by omega)) i), zr_Ce h.2.2.2.2.2 (fun a _ _ i => congrFun (e a (by omega)) i)⟩
theorem zr_Xb (h : zr_X I D H b L S C) (w : H.1 ≤ 77) (g : J 1 6 = za_bit b') (e : ∀ a, a < 1 ∨ 2 ≤ a → J a = I a) : zr_X J D H b' L S C :=
  ⟨zr_De h.1 (fun a _ _ i _ => congrFun (e a (by omega)) i), zr_He h.2.1 w (fun a _ _ i => congrFun (e a (by omega)) i), g, zr_Te h.2.2.2.1 (fun i => congrFun (e 131 (by omega)) i) (fun i => congrFun (e 132 (by omega)) i), zr_Te h.2.2.2.2.1 (fun i => congrFun (e 133 (by omega)) i) (fun i => congrFun (e 134 (by omega)) i), zr_Ce h.2.2.2.2.2 (fun a _ _ i => congrFun (e a (by omega)) i)⟩
theorem zr_Xl (h : zr_X I D H b L S C) (w : H.1 ≤ 77) (g : zr_T 131 132 J L') (e : ∀ a, a < 131 ∨ 133 ≤ a → J a = I a) : zr_X J D H b L' S C :=
  ⟨zr_De h.1 (fun a _ _ i _ => congrFun (e a (by omega)) i), zr_He h.2.1 w (fun a _ _ i => congrFun (e a (by omega)) i), (congrFun (e 1 (by omega)) 6).trans h.2.2.1, g, zr_Te h.2.2.2.2.1 (fun i => congrFun (e 133 (by omega)) i) (fun i => congrFun (e 134 (by omega)) i), zr_Ce h.2.2.2.2.2 (fun a _ _ i => congrFun (e a (by omega)) i)⟩
theorem zr_Xs (h : zr_X I D H b L S C) (w : H.1 ≤ 77) (g : zr_T 133 134 J S') (e : ∀ a, a < 133 ∨ 135 ≤ a → J a = I a) : zr_X J D H b L S' C :=
  ⟨zr_De h.1 (fun a _ _ i _ => congrFun (e a (by omega)) i), zr_He h.2.1 w (fun a _ _ i => congrFun (e a (by omega)) i), (congrFun (e 1 (by omega)) 6).trans h.2.2.1, zr_Te h.2.2.2.1 (fun i => congrFun (e 131 (by omega)) i) (fun i => congrFun (e 132 (by omega)) i), g, zr_Ce h.2.2.2.2.2 (fun a _ _ i => congrFun (e a (by omega)) i)⟩
theorem zr_Xc (h : zr_X I D H b L S C) (w : H.1 ≤ 77) (g : zr_C J C') (e : ∀ a, a < 135 ∨ 155 ≤ a → J a = I a) : zr_X J D H b L S C' :=
  ⟨zr_De h.1 (fun a _ _ i _ => congrFun (e a (by omega)) i), zr_He h.2.1 w (fun a _ _ i => congrFun (e a (by omega)) i), (congrFun (e 1 (by omega)) 6).trans h.2.2.1, zr_Te h.2.2.2.1 (fun i => congrFun (e 131 (by omega)) i) (fun i => congrFun (e 132 (by omega)) i), zr_Te h.2.2.2.2.1 (fun i => congrFun (e 133 (by omega)) i) (fun i => congrFun (e 134 (by omega)) i), g⟩
theorem zr_Xf (h : zr_X I D H b L S C) (w : H.1 ≤ 77) (e : ∀ a, a < 155 ∨ 156 ≤ a → J a = I a) : zr_X J D H b L S C := zr_Xe h w (fun a _ _ i => congrFun (e a (by omega)) i)
end ZXU
theorem kt_close {V : zv_V} (E : zv_OK V) {w : zw_W} (HX : zl_X w) : zg_C V zm_X0_close yX0_close 1 23 [.ref 135] w (zq_p (.inl none) (zr_to w 135 155 (zr_C · za_C0))) := by
  refine zg_Cm (ct_close E HX) ?_
  rintro _ rfl
  dsimp only [zw_i, zw_si, zw_sa]
  refine ⟨_, rfl, ⟨fun p hp => ?_, ?_, fun p hp h => absurd rfl h⟩, fun a ha => ?_⟩
  · rw [zw_up_row _ _ _ (by decide), zw_ro_s, zs_win _ _ hp]
    rfl
  · rw [zw_up_s, za_n_0 (O := za_C0.1) (fun p _ => rfl)]
  · rw [zw_up_row _ _ _ (by omega), zw_ro_n _ _ (by omega)]
theorem kt_become {V : zv_V} (E : zv_OK V) {w : zw_W} (HX : zl_X w) {L : za_T} (hL : zr_T 131 132 (zw_i w) L) : zg_C V zm_X2_become yX2_become 1 100 [.ref 133, .ref 131] w (zq_p (.inl none) (zr_to w 133 135 (zr_T 133 134 · L))) := by
  refine zg_Cm (ct_become E HX) ?_
  rintro _ rfl
  dsimp only [zw_i, zw_si, zw_sa]
  refine ⟨_, rfl, ⟨fun p hp => ?_, ?_, ?_⟩, fun a ha => ?_⟩
  · rw [zw_up_row _ _ _ (by decide), zw_up_row _ _ _ (by decide), zw_ro_s, zs_win _ _ hp]
    exact hL.1 p hp
  · rw [zw_up_n _ _ (by decide), zw_up_s]
    exact hL.2.1
  · rw [zw_up_s]
    exact hL.2.2
  · rw [zw_up_row _ _ _ (by omega), zw_up_row _ _ _ (by omega), zw_ro_n _ _ (by omega)]
theorem kt_rowadd {V : zv_V} (E : zv_OK V) {w : zw_W} (HX : zl_X w) {H : za_H} {k t : Nat} {b : Nat → Nat} (hH : zr_H (zw_i w) H) (h77 : H.1 < 77) (ht : zw_t w k = (10, 16)) (hk : 1 ≤ k) (hkn : k < w.1) (hk2 : k < 51 ∨ 131 ≤ k) (hb : ∀ i, i < 16 → zw_i w k i = nI (b i)) :
    zg_C V zm_X1_add yX1_add 1 100 [.ref 51, .int (nI t), .ref k] w (zq_p (.inl none) (zr_to w 51 131 (zr_H · (za_hold H t b)))) := by
  refine zg_Cm (ct_rowadd E HX h77 hH.1 ht hk hkn) ?_
  rintro _ rfl
  dsimp only [zw_i, zw_si, zw_sa]
  refine ⟨_, rfl, ⟨?_, fun q hq => ?_, fun q hq i hi => ?_⟩, fun a ha => ?_⟩
  · rw [zw_up_s, zw_ro_n _ _ (by omega), zw_up_n _ _ (Or.inl (by decide))]
    exact (congrArg (· + nI 1) hH.1).trans (nI_1 H.1)
  · rw [zw_up_n _ _ (Or.inl (by decide)), zw_ro_n _ _ (by omega)]
    show zw_up w.2.2.2.2.1 52 H.1 (nI t) 52 q = nI (zw_ro H.2.1 H.1 t q)
    by_cases e : q = H.1
    · rw [e, zw_up_s, zw_ro_s]
    · rw [zw_up_n _ _ (Or.inr e), zw_ro_n _ _ e]
      exact hH.2.1 q (Nat.lt_of_le_of_ne (Nat.le_of_lt_succ hq) e)
  · rw [zw_up_n _ _ (Or.inl (by omega))]
    show zw_ro (zw_up w.2.2.2.2.1 52 H.1 (nI t)) (54 + H.1) _ (54 + q) i = nI (zw_ro H.2.2 H.1 b q i)
    by_cases e : q = H.1
    · rw [e, zw_ro_s, zw_ro_s, zs_win _ _ hi]
      show zw_up w.2.2.2.2.1 52 H.1 (nI t) k i = _
      rw [zw_up_n _ _ (Or.inl (by omega))]
      exact hb i hi
    · rw [zw_ro_n _ _ (by omega), zw_ro_n _ _ e, zw_up_n _ _ (Or.inl (by omega))]
      exact hH.2.2 q (Nat.lt_of_le_of_ne (Nat.le_of_lt_succ hq) e) i hi
  · rw [zw_up_row _ _ _ (by omega), zw_ro_n _ _ (by omega), zw_up_row _ _ _ (by omega)]
theorem kt_carry {V : zv_V} (E : zv_OK V) {w : zw_W} (HX : zl_X w) {D : Nat → Nat → Nat} {H : za_H} {k : Nat} (hD : zr_D (zw_i w) D) (hH : zr_H (zw_i w) H) (hW : za_WH H) (hk : k < H.1) :
    zg_C V zm_X1_carryOut yX1_carryOut 1 100 [.ref 51, .int (nI k), .ref 2] w (zq_p (.inl none) (zr_to w 3 51 (zr_D · (zw_ro D (H.2.1 k) (H.2.2 k))))) := by
  have h77 := hW.1
  have ht := hW.2.1 k hk
  refine zg_Cm (ct_carry E HX (by omega) ht (hH.2.1 k hk)) ?_
  rintro _ rfl
  dsimp only [zw_i, zw_si, zw_sa]
  refine ⟨_, rfl, fun s hs i hi => ?_, fun a ha => ?_⟩
  · by_cases e : s = H.2.1 k
    · rw [e, zw_ro_s, zw_ro_s, zs_win _ _ hi]
      exact hH.2.2 k hk i hi
    · rw [zw_ro_n _ _ (by omega), zw_ro_n _ _ e]
      exact hD s hs i hi
  · rw [zw_ro_n _ _ (by omega)]
/-- whether a held write is the master's -/
def za_z (H : za_H) : Nat → Bool
  | 0 => false
  | n + 1 => za_z H n || decide (H.2.1 n = 0)
def za_all (_ : Nat) : Bool := true
set_option maxHeartbeats 4000000 in
set_option maxRecDepth 100000 in
theorem lp_carryOutAll {V : zv_V} (E : zv_OK V) {w : zw_W} {n0 u0 : Nat} {Q : zg_O → zw_W → Prop} (HX : zl_X w) {D : Nat → Nat → Nat} {H : za_H} {b : Bool} {L S : za_T} {C : za_C} (hW : za_WH H) (hq : ∀ J, zr_X J (za_car D H za_all H.1) (0, H.2) b L (if za_z H H.1 then L else S) C → (∀ a, 156 ≤ a → J a = zw_i w a) → Q (.inl (some (.int (nI H.1)))) (zw_I w J)) : ∀ (n i : Nat) (J : Nat → Nat → Int32), i ≤ H.1 → H.1 + 1 ≤ i + n → zr_X J (za_car D H za_all i) H b L (if za_z H i then L else S) C → (∀ a, 156 ≤ a → J a = zw_i w a) → zg_G V zm_X3_carryOutAll 2 130 n0 u0 10 [] [(2, .int (nI i)), (1, .int (nI H.1)), (0, .ref 1)] (zw_I w J) Q := by
  intro n
  induction n with
  | zero =>
    intro i J hi hn
    exact absurd hn (by omega)
  | succ n ih =>
    intro i J hi hn k0 k1
    have h77 := hW.1
    refine zg_iload_n dX3_carryOutAll_10 rfl ?_
    refine zg_iload_n dX3_carryOutAll_11 rfl ?_
    refine zg_icmp_ge (tgt := 56) dX3_carryOutAll_12 (by decide) (fun h12 => ?_) (fun h12 => ?_)
    · obtain rfl : i = H.1 := by have := zn_ge h12 (by omega) (by omega); omega
      refine zg_aload_n dX3_carryOutAll_56 rfl ?_
      refine zg_getR E (ci := 3) (j := 1) (r := 51) dX3_carryOutAll_57 rfl (congrArg Prod.fst (zl_at HX (k := 1) (t := (3, 7)) rfl (by decide) (by decide))) (by decide) (zl_lt HX (by decide)) (by decide) fl_X3_17 rfl (zl_rf HX rfl (by decide) (by decide)) ?_
      refine zg_iconst (v := nI 0) dX3_carryOutAll_60 (by decide) ?_
      refine zg_putI E (ci := 1) (j := 2) dX3_carryOutAll_61 rfl (congrArg Prod.fst (zl_at HX (k := 51) (t := (1, 3)) rfl (by decide) (by decide))) (by decide) (zl_lt HX (by decide)) (by decide) fl_X3_86 rfl rfl rfl rfl ?_
      refine zg_iload_n dX3_carryOutAll_64 rfl ?_
      exact zg_iret rfl dX3_carryOutAll_65 (hq _ (zr_Xh k0 ⟨zw_up_s _ _ _ _, fun k hk => absurd hk (Nat.not_lt_zero k), fun k hk => absurd hk (Nat.not_lt_zero k)⟩ (fun a ha => zw_up_row _ _ _ (by omega))) (fun a ha => (zw_up_row _ _ _ (by omega)).trans (k1 a ha)))
    · have hlt : i < H.1 := zn_lt h12 (by omega) (by omega)
      refine zg_aload_n dX3_carryOutAll_15 rfl ?_
      refine zg_getR E (ci := 3) (j := 1) (r := 51) dX3_carryOutAll_16 rfl (congrArg Prod.fst (zl_at HX (k := 1) (t := (3, 7)) rfl (by decide) (by decide))) (by decide) (zl_lt HX (by decide)) (by decide) fl_X3_17 rfl (zl_rf HX rfl (by decide) (by decide)) ?_
      refine zg_iload_n dX3_carryOutAll_19 rfl ?_
      refine zg_aload_n dX3_carryOutAll_20 rfl ?_
      refine zg_getR E (ci := 3) (j := 0) (r := 2) dX3_carryOutAll_21 rfl (congrArg Prod.fst (zl_at HX (k := 1) (t := (3, 7)) rfl (by decide) (by decide))) (by decide) (zl_lt HX (by decide)) (by decide) fl_X3_11 rfl (zl_rf HX rfl (by decide) (by decide)) ?_
      refine zg_vrt (M := zm_X3_carryOutAll) E (ci := 1) dX3_carryOutAll_24 (kt_carry (w := zw_I w J) E HX k0.1 k0.2.1 hW hlt) wd_X3_124 rfl (congrArg Prod.fst (zl_at HX (k := 51) (t := (1, 3)) rfl (by decide) (by decide))) (by decide) (zl_lt HX (by decide)) rfl dh_X1_carryOut dn_X1_carryOut (Nat.le_of_ble_eq_true rfl) (Nat.le_of_ble_eq_true rfl) (Nat.le_of_ble_eq_true rfl) (zl_cap HX) rfl (fun w24 g24 => ?_)
      obtain ⟨J1, rfl, r1, f1⟩ := g24
      have hx1 := zr_Xd k0 hW.1 r1 f1
      have hF1 : ∀ a, 156 ≤ a → J1 a = zw_i w a := fun a ha => (f1 a (by omega)).trans (k1 a ha)
      refine zg_w (w' := zw_I w J1) rfl ?_
      refine zg_aload_n dX3_carryOutAll_27 rfl ?_
      refine zg_getR E (ci := 3) (j := 1) (r := 51) dX3_carryOutAll_28 rfl (congrArg Prod.fst (zl_at HX (k := 1) (t := (3, 7)) rfl (by decide) (by decide))) (by decide) (zl_lt HX (by decide)) (by decide) fl_X3_17 rfl (zl_rf HX rfl (by decide) (by decide)) ?_
      refine zg_getR E (ci := 1) (j := 0) (r := 52) dX3_carryOutAll_31 rfl (congrArg Prod.fst (zl_at HX (k := 51) (t := (1, 3)) rfl (by decide) (by decide))) (by decide) (zl_lt HX (by decide)) (by decide) fl_X3_154 rfl (zl_rf HX rfl (by decide) (by decide)) ?_
      refine zg_iload_n dX3_carryOutAll_34 rfl ?_
      refine zg_iald E (j := i) dX3_carryOutAll_35 (zl_at HX (k := 52) (t := (10, 77)) rfl (by decide) (by decide)) (by decide) (zl_lt HX (by decide)) rfl (by omega) (by decide) ?_
      refine zg_v (x' := nI (H.2.1 i)) (hx1.2.1.2.1 i hlt) ?_
      refine zg_if_ne (tgt := 50) dX3_carryOutAll_36 (by decide) (fun h36 => ?_) (fun h36 => ?_)
      · have hX1 : zr_X J1 (za_car D H za_all (i + 1)) H b L (if za_z H (i + 1) then L else S) C := by
          have e : H.2.1 i ≠ 0 := fun z => h36 (congrArg nI z)
          unfold za_z za_car
          simp only [e, decide_false, Bool.or_false]
          exact hx1
        refine zg_iinc (v := nI (i + 1)) (lv' := [(2, .int (nI (i + 1))), (1, .int (nI H.1)), (0, .ref 1)]) dX3_carryOutAll_50 rfl (nI_1 i) (by decide) rfl ?_
        refine zg_goto (tgt := 10) dX3_carryOutAll_53 (by decide) ?_
        refine zg_l [0, 1, 2] rfl ?_
        exact zg_s rfl rfl rfl (ih (i + 1) _ (by omega) (by omega) hX1 hF1)
      · have e : H.2.1 i = 0 := (nI_eq (by have := hW.2.1 i hlt; omega) (by decide)).mp h36
        refine zg_aload_n dX3_carryOutAll_39 rfl ?_
        refine zg_getR E (ci := 3) (j := 3) (r := 133) dX3_carryOutAll_40 rfl (congrArg Prod.fst (zl_at HX (k := 1) (t := (3, 7)) rfl (by decide) (by decide))) (by decide) (zl_lt HX (by decide)) (by decide) fl_X3_28 rfl (zl_rf HX rfl (by decide) (by decide)) ?_
        refine zg_aload_n dX3_carryOutAll_43 rfl ?_
        refine zg_getR E (ci := 3) (j := 2) (r := 131) dX3_carryOutAll_44 rfl (congrArg Prod.fst (zl_at HX (k := 1) (t := (3, 7)) rfl (by decide) (by decide))) (by decide) (zl_lt HX (by decide)) (by decide) fl_X3_24 rfl (zl_rf HX rfl (by decide) (by decide)) ?_
        refine zg_vrt (M := zm_X3_carryOutAll) E (ci := 2) dX3_carryOutAll_47 (kt_become (w := zw_I w J1) E HX hx1.2.2.2.1) wd_X3_210 rfl (congrArg Prod.fst (zl_at HX (k := 133) (t := (2, 3)) rfl (by decide) (by decide))) (by decide) (zl_lt HX (by decide)) rfl dh_X2_become dn_X2_become (Nat.le_of_ble_eq_true rfl) (Nat.le_of_ble_eq_true rfl) (Nat.le_of_ble_eq_true rfl) (zl_cap HX) rfl (fun w47 g47 => ?_)
        obtain ⟨J2, rfl, r2, f2⟩ := g47
        have hX2 : zr_X J2 (za_car D H za_all (i + 1)) H b L (if za_z H (i + 1) then L else S) C := by
          unfold za_z za_car
          rw [show (za_z H i || decide (H.2.1 i = 0)) = true by rw [e]; simp, if_pos rfl]
          exact zr_Xs hx1 hW.1 r2 f2
        have hF2 : ∀ a, 156 ≤ a → J2 a = zw_i w a := fun a ha => (f2 a (by omega)).trans (hF1 a ha)
        refine zg_w (w' := zw_I w J2) rfl ?_
        refine zg_iinc (v := nI (i + 1)) (lv' := [(2, .int (nI (i + 1))), (1, .int (nI H.1)), (0, .ref 1)]) dX3_carryOutAll_50 rfl (nI_1 i) (by decide) rfl ?_
        refine zg_goto (tgt := 10) dX3_carryOutAll_53 (by decide) ?_
        refine zg_l [0, 1, 2] rfl ?_
        exact zg_s rfl rfl rfl (ih (i + 1) _ (by omega) (by omega) hX2 hF2)
set_option maxHeartbeats 4000000 in
set_option maxRecDepth 100000 in
theorem kt_carryOutAll {V : zv_V} (E : zv_OK V) {w : zw_W} (HX : zl_X w) {D : Nat → Nat → Nat} {H : za_H} {b : Bool} {L S : za_T} {C : za_C} (hX : zr_X (zw_i w) D H b L S C) (hW : za_WH H) : zg_C V zm_X3_carryOutAll yX3_carryOutAll 2 130 [.ref 1] w (zq_p (.inl (some (.int (nI H.1)))) (zr_to w 0 156 (zr_X · (za_car D H za_all H.1) (0, H.2) b L (if za_z H H.1 then L else S) C))) := by
  refine zg_of (by decide +kernel) rfl (Nat.le_of_ble_eq_true rfl) ?_
  show zg_G V zm_X3_carryOutAll 2 130 w.1 w.2.1 0 [] [(0, .ref 1)] w _
  refine zg_aload_n dX3_carryOutAll_0 rfl ?_
  refine zg_getR E (ci := 3) (j := 1) (r := 51) dX3_carryOutAll_1 rfl (congrArg Prod.fst (zl_at HX (k := 1) (t := (3, 7)) rfl (by decide) (by decide))) (by decide) (zl_lt HX (by decide)) (by decide) fl_X3_17 rfl (zl_rf HX rfl (by decide) (by decide)) ?_
  refine zg_getI E (ci := 1) (j := 2) dX3_carryOutAll_4 rfl (congrArg Prod.fst (zl_at HX (k := 51) (t := (1, 3)) rfl (by decide) (by decide))) (by decide) (zl_lt HX (by decide)) (by decide) fl_X3_86 rfl ?_
  refine zg_v (x' := nI H.1) hX.2.1.1 ?_
  refine zg_istore_n (lv' := [(1, .int (nI H.1)), (0, .ref 1)]) dX3_carryOutAll_7 (by decide) rfl ?_
  refine zg_iconst (v := nI 0) dX3_carryOutAll_8 (by decide) ?_
  refine zg_istore_n (lv' := [(2, .int (nI 0)), (1, .int (nI H.1)), (0, .ref 1)]) dX3_carryOutAll_9 (by decide) rfl ?_
  refine zg_l [0, 1, 2] rfl ?_
  exact zg_s rfl rfl rfl (lp_carryOutAll E HX hW (fun J h1 h2 => ⟨rfl, J, rfl, h1, fun a ha => (ha.elim (fun z => absurd z (Nat.not_lt_zero _)) (h2 a) : J a = zw_i w a)⟩) (H.1 + 1) 0 (zw_i w) (by omega) (by omega) hX (fun a _ => rfl))
end
section
/-! The class's mount, its free sectors, its changes. -/
theorem zb_ex (P : Prop) : ∃ b : Bool, b = true ↔ P := by
  by_cases h : P
  · exact ⟨true, fun _ => h, fun _ => rfl⟩
  · exact ⟨false, fun z => absurd z (by decide), fun z => absurd z h⟩
theorem zb_ff {b : Bool} {P : Prop} (h : b = true ↔ P) (n : ¬ P) : b = false := by
  cases b
  · rfl
  · exact absurd (h.mp rfl) n
set_option maxHeartbeats 4000000 in
set_option maxRecDepth 100000 in
theorem kt_mount {V : zv_V} (E : zv_OK V) {w : zw_W} (HX : zl_X w) {D : Nat → Nat → Nat} {H : za_H} {b : Bool} {L S : za_T} {C : za_C} (hX : zr_X (zw_i w) D H b L S C) (hD : za_WD D) (hH : za_WH H) {ok : Bool} (hok : ok = true ↔ za_mr D ∧ za_tr D)  : zg_C V zm_X3_mount yX3_mount 2 130 [.ref 1] w (zq_p (.inl none) (zr_to w 0 156 (zr_X · D (0, H.2) (!ok) (if ok then za_mt D else L) (if ok then za_mt D else S) za_C0))) := by
  refine zg_of (by decide +kernel) rfl (Nat.le_of_ble_eq_true rfl) ?_
  show zg_G V zm_X3_mount 2 130 w.1 w.2.1 0 [] [(0, .ref 1)] w _
  obtain ⟨bm, hm⟩ := zb_ex (za_mr D)
  obtain ⟨bt, ht⟩ := zb_ex (za_tr D)
  refine zg_aload_n dX3_mount_0 rfl ?_
  refine zg_getR E (ci := 3) (j := 1) (r := 51) dX3_mount_1 rfl (congrArg Prod.fst (zl_at HX (k := 1) (t := (3, 7)) rfl (by decide) (by decide))) (by decide) (zl_lt HX (by decide)) (by decide) fl_X3_17 rfl (zl_rf HX rfl (by decide) (by decide)) ?_
  refine zg_iconst (v := nI 0) dX3_mount_4 (by decide) ?_
  refine zg_putI E (ci := 1) (j := 2) dX3_mount_5 rfl (congrArg Prod.fst (zl_at HX (k := 51) (t := (1, 3)) rfl (by decide) (by decide))) (by decide) (zl_lt HX (by decide)) (by decide) fl_X3_86 rfl rfl rfl rfl ?_
  obtain ⟨J0, e0, hx0, hf0⟩ : ∃ J, zw_si w 51 2 (nI 0) = zw_I w J ∧ (zr_X J D (0, H.2) b L S C) ∧ ∀ a, 156 ≤ a → J a = zw_i w a := ⟨_, rfl, zr_Xh hX ⟨zw_up_s _ _ _ _, fun k hk => absurd hk (Nat.not_lt_zero k), fun k hk => absurd hk (Nat.not_lt_zero k)⟩ (fun a ha => zw_up_row _ _ _ (by omega)), fun a ha => zw_up_row _ _ _ (by omega)⟩
  refine zg_w e0.symm ?_
  refine zg_aload_n dX3_mount_8 rfl ?_
  refine zg_getR E (ci := 3) (j := 4) (r := 135) dX3_mount_9 rfl (congrArg Prod.fst (zl_at HX (k := 1) (t := (3, 7)) rfl (by decide) (by decide))) (by decide) (zl_lt HX (by decide)) (by decide) fl_X3_34 rfl (zl_rf HX rfl (by decide) (by decide)) ?_
  refine zg_vrt (M := zm_X3_mount) E (ci := 0) dX3_mount_12 (kt_close (w := zw_I w J0) E HX) wd_X3_121 rfl (congrArg Prod.fst (zl_at HX (k := 135) (t := (0, 4)) rfl (by decide) (by decide))) (by decide) (zl_lt HX (by decide)) rfl dh_X0_close dn_X0_close (Nat.le_of_ble_eq_true rfl) (Nat.le_of_ble_eq_true rfl) (Nat.le_of_ble_eq_true rfl) (zl_cap HX) rfl (fun w12 g12 => ?_)
  obtain ⟨J1, rfl, r1, f1⟩ := g12
  have hx1 := zr_Xc hx0 (Nat.zero_le _) r1 f1
  have hf1 : ∀ a, 156 ≤ a → J1 a = zw_i w a := fun a ha => (f1 a (by omega)).trans (hf0 a ha)
  refine zg_w (w' := zw_I w J1) rfl ?_
  refine zg_aload_n dX3_mount_15 rfl ?_
  refine zg_aload_n dX3_mount_16 rfl ?_
  refine zg_vrt (M := zm_X3_mount) E (ci := 3) dX3_mount_17 (ct_masterIsRight (w := zw_I w J1) E HX hx1.1 hD hm) wd_X3_198 rfl (congrArg Prod.fst (zl_at HX (k := 1) (t := (3, 7)) rfl (by decide) (by decide))) (by decide) (zl_lt HX (by decide)) rfl dh_X3_masterIsRight dn_X3_masterIsRight (Nat.le_of_ble_eq_true rfl) (Nat.le_of_ble_eq_true rfl) (Nat.le_of_ble_eq_true rfl) (zl_cap HX) rfl (fun w17 g17 => ?_)
  subst w17
  refine zg_if_eq (tgt := 30) dX3_mount_20 (by decide) (fun h20 => ?_) (fun h20 => ?_)
  · have hz : ok = false := zb_ff hok (fun z => absurd (hm.mpr z.1) (by rw [za_bit0 h20]; decide))
    refine zg_iconst (v := nI 1) dX3_mount_30 (by decide) ?_
    refine zg_goto (tgt := 35) dX3_mount_31 (by decide) ?_
    refine zg_putI E (ci := 3) (j := 6) dX3_mount_35 rfl (congrArg Prod.fst (zl_at HX (k := 1) (t := (3, 7)) rfl (by decide) (by decide))) (by decide) (zl_lt HX (by decide)) (by decide) fl_X3_131 rfl rfl rfl rfl ?_
    obtain ⟨J2, e2, hx2, hf2⟩ : ∃ J, zw_si (zw_I w J1) 1 6 (nI 1) = zw_I w J ∧ (zr_X J D (0, H.2) true L S za_C0) ∧ ∀ a, 156 ≤ a → J a = zw_i w a := ⟨_, rfl, zr_Xb hx1 (Nat.zero_le _) (zw_up_s _ _ _ _) (fun a ha => zw_up_row _ _ _ (by omega)), fun a ha => (zw_up_row _ _ _ (by omega)).trans (hf1 a ha)⟩
    refine zg_w e2.symm ?_
    refine zg_aload_n dX3_mount_38 rfl ?_
    refine zg_getI E (ci := 3) (j := 6) dX3_mount_39 rfl (congrArg Prod.fst (zl_at HX (k := 1) (t := (3, 7)) rfl (by decide) (by decide))) (by decide) (zl_lt HX (by decide)) (by decide) fl_X3_131 rfl ?_
    refine zg_v (x' := za_bit true) hx2.2.2.1 ?_
    refine zg_if_ne (tgt := 126) dX3_mount_42 (by decide) (fun h42 => ?_) (fun h42 => ?_)
    · exact zg_vret rfl dX3_mount_126 ⟨rfl, J2, rfl, by rw [hz]; exact hx2, fun a ha => ha.elim (fun z => absurd z (Nat.not_lt_zero _)) (hf2 a)⟩
    · exact absurd h42 (by decide)
  · have hm1 := za_bit1 h20
    refine zg_aload_n dX3_mount_23 rfl ?_
    refine zg_vrt (M := zm_X3_mount) E (ci := 3) dX3_mount_24 (ct_tableIsRight (w := zw_I w J1) E HX hx1.1 hD ht) wd_X3_201 rfl (congrArg Prod.fst (zl_at HX (k := 1) (t := (3, 7)) rfl (by decide) (by decide))) (by decide) (zl_lt HX (by decide)) rfl dh_X3_tableIsRight dn_X3_tableIsRight (Nat.le_of_ble_eq_true rfl) (Nat.le_of_ble_eq_true rfl) (Nat.le_of_ble_eq_true rfl) (zl_cap HX) rfl (fun w24 g24 => ?_)
    subst w24
    refine zg_if_ne (tgt := 34) dX3_mount_27 (by decide) (fun h27 => ?_) (fun h27 => ?_)
    · have hz : ok = true := hok.mpr ⟨hm.mp hm1, ht.mp (za_bit1 h27)⟩
      have htr := ht.mp (za_bit1 h27)
      have hl1 := htr.1
      have hl4 := htr.2.1
      refine zg_iconst (v := nI 0) dX3_mount_34 (by decide) ?_
      refine zg_putI E (ci := 3) (j := 6) dX3_mount_35 rfl (congrArg Prod.fst (zl_at HX (k := 1) (t := (3, 7)) rfl (by decide) (by decide))) (by decide) (zl_lt HX (by decide)) (by decide) fl_X3_131 rfl rfl rfl rfl ?_
      obtain ⟨J2, e2, hx2, hf2⟩ : ∃ J, zw_si (zw_I w J1) 1 6 (nI 0) = zw_I w J ∧ (zr_X J D (0, H.2) false L S za_C0) ∧ ∀ a, 156 ≤ a → J a = zw_i w a := ⟨_, rfl, zr_Xb hx1 (Nat.zero_le _) (zw_up_s _ _ _ _) (fun a ha => zw_up_row _ _ _ (by omega)), fun a ha => (zw_up_row _ _ _ (by omega)).trans (hf1 a ha)⟩
      refine zg_w e2.symm ?_
      refine zg_aload_n dX3_mount_38 rfl ?_
      refine zg_getI E (ci := 3) (j := 6) dX3_mount_39 rfl (congrArg Prod.fst (zl_at HX (k := 1) (t := (3, 7)) rfl (by decide) (by decide))) (by decide) (zl_lt HX (by decide)) (by decide) fl_X3_131 rfl ?_
      refine zg_v (x' := za_bit false) hx2.2.2.1 ?_
      refine zg_if_ne (tgt := 126) dX3_mount_42 (by decide) (fun h42 => ?_) (fun h42 => ?_)
      · exact absurd rfl h42
      · refine zg_aload_n dX3_mount_45 rfl ?_
        refine zg_getR E (ci := 3) (j := 0) (r := 2) dX3_mount_46 rfl (congrArg Prod.fst (zl_at HX (k := 1) (t := (3, 7)) rfl (by decide) (by decide))) (by decide) (zl_lt HX (by decide)) (by decide) fl_X3_11 rfl (zl_rf HX rfl (by decide) (by decide)) ?_
        refine zg_iconst (v := nI 0) dX3_mount_49 (by decide) ?_
        refine zg_aald E (j := 0) (r := 3 + 0) dX3_mount_50 (zl_at HX (k := 2) (t := (13, 48)) rfl (by decide) (by decide)) (by decide) (zl_lt HX (by decide)) rfl (by omega) (by decide) (zl_rf HX (zl_sec (by omega)).2 (by decide) (by decide)) ?_
        refine zg_astore_n (lv' := [(1, .ref (3 + 0)), (0, .ref 1)]) dX3_mount_51 (by decide) rfl ?_
        refine zg_aload_n dX3_mount_52 rfl ?_
        refine zg_iconst (v := nI 4) dX3_mount_53 (by decide) ?_
        refine zg_iald E (j := 4) dX3_mount_54 (zl_at HX (zl_sec (by omega)).1 (by omega) (by omega)) (by omega) (zl_lt HX (by omega)) rfl (by omega) (by decide) ?_
        refine zg_v (x' := nI (D 0 4)) (hx2.1 0 (by omega) 4 (by omega)) ?_
        refine zg_istore_n (lv' := [(2, .int (nI (D 0 4))), (1, .ref (3 + 0)), (0, .ref 1)]) dX3_mount_55 (by decide) rfl ?_
        refine zg_aload_n dX3_mount_56 rfl ?_
        refine zg_getR E (ci := 3) (j := 0) (r := 2) dX3_mount_57 rfl (congrArg Prod.fst (zl_at HX (k := 1) (t := (3, 7)) rfl (by decide) (by decide))) (by decide) (zl_lt HX (by decide)) (by decide) fl_X3_11 rfl (zl_rf HX rfl (by decide) (by decide)) ?_
        refine zg_iload_n dX3_mount_60 rfl ?_
        refine zg_aald E (j := D 0 4) (r := 3 + (D 0 4)) dX3_mount_61 (zl_at HX (k := 2) (t := (13, 48)) rfl (by decide) (by decide)) (by decide) (zl_lt HX (by decide)) rfl hl4 (by decide) (zl_rf HX (zl_sec hl4).2 (by decide) (by decide)) ?_
        refine zg_iconst (v := nI 0) dX3_mount_62 (by decide) ?_
        refine zg_aload_n dX3_mount_63 rfl ?_
        refine zg_getR E (ci := 3) (j := 2) (r := 131) dX3_mount_64 rfl (congrArg Prod.fst (zl_at HX (k := 1) (t := (3, 7)) rfl (by decide) (by decide))) (by decide) (zl_lt HX (by decide)) (by decide) fl_X3_24 rfl (zl_rf HX rfl (by decide) (by decide)) ?_
        refine zg_getR E (ci := 2) (j := 0) (r := 132) dX3_mount_67 rfl (congrArg Prod.fst (zl_at HX (k := 131) (t := (2, 3)) rfl (by decide) (by decide))) (by decide) (zl_lt HX (by decide)) (by decide) fl_X3_72 rfl (zl_rf HX rfl (by decide) (by decide)) ?_
        refine zg_iconst (v := nI 0) dX3_mount_70 (by decide) ?_
        refine zg_bipush (v := nI 16) dX3_mount_71 (by decide) ?_
        refine zg_copy E (n := 16) dX3_mount_73 (by decide +kernel) (zl_at HX (zl_sec (by omega)).1 (by omega) (by omega)) (zl_at HX (k := 132) (t := (10, 16)) rfl (by decide) (by decide)) (by omega) (zl_lt HX (by omega)) (by decide) (zl_lt HX (by decide)) rfl rfl rfl (by decide) (by decide) (by decide) (by decide) (Nat.le_of_ble_eq_true rfl) (Nat.le_of_ble_eq_true rfl) ?_
        refine zg_aload_n dX3_mount_76 rfl ?_
        refine zg_getR E (ci := 3) (j := 2) (r := 131) dX3_mount_77 rfl (congrArg Prod.fst (zl_at HX (k := 1) (t := (3, 7)) rfl (by decide) (by decide))) (by decide) (zl_lt HX (by decide)) (by decide) fl_X3_24 rfl (zl_rf HX rfl (by decide) (by decide)) ?_
        refine zg_iload_n dX3_mount_80 rfl ?_
        refine zg_putI E (ci := 2) (j := 1) dX3_mount_81 rfl (congrArg Prod.fst (zl_at HX (k := 131) (t := (2, 3)) rfl (by decide) (by decide))) (by decide) (zl_lt HX (by decide)) (by decide) fl_X3_173 rfl rfl rfl rfl ?_
        obtain ⟨J3, e3, hx3, hf3⟩ : ∃ J, zw_si (zw_sa (zw_I w  J2) 132 (fun j => if j < 16 then zw_i (zw_I w  J2) (3 + (D 0 4)) j else zw_i (zw_I w  J2) 132 j)) 131 1 (nI (D 0 4)) = zw_I w J ∧ ((∀ s, s < 48 → ∀ i, i < 16 → J (3 + s) i = nI (D s i)) ∧ (∀ p, p < 16 → J 132 p = nI (D (D 0 4) p)) ∧ J 131 1 = nI (D 0 4) ∧ ∀ a, a < 131 ∨ 133 ≤ a → J a = J2 a) ∧ ∀ a, 156 ≤ a → J a = zw_i w a := ⟨_, rfl, ⟨fun s hs i hi => (congrFun ((zw_up_row _ _ _ (by omega)).trans (zw_ro_n _ _ (by omega))) i).trans (hx2.1 s hs i hi), fun p hp => (congrFun ((zw_up_row _ _ _ (by omega)).trans (zw_ro_s _ _ _)) p).trans ((if_pos hp).trans (hx2.1 _ hl4 p hp)), zw_up_s _ _ _ _, fun a ha => (zw_up_row _ _ _ (by omega)).trans (zw_ro_n _ _ (by omega))⟩, fun a ha => ((zw_up_row _ _ _ (by omega)).trans (zw_ro_n _ _ (by omega))).trans (hf2 a ha)⟩
        refine zg_w e3.symm ?_
        refine zg_aload_n dX3_mount_84 rfl ?_
        refine zg_getR E (ci := 3) (j := 2) (r := 131) dX3_mount_85 rfl (congrArg Prod.fst (zl_at HX (k := 1) (t := (3, 7)) rfl (by decide) (by decide))) (by decide) (zl_lt HX (by decide)) (by decide) fl_X3_24 rfl (zl_rf HX rfl (by decide) (by decide)) ?_
        refine zg_aload_n dX3_mount_88 rfl ?_
        refine zg_iconst (v := nI 0) dX3_mount_89 (by decide) ?_
        refine zg_iald E (j := 0) dX3_mount_90 (zl_at HX (zl_sec (by omega)).1 (by omega) (by omega)) (by omega) (zl_lt HX (by omega)) rfl (by omega) (by decide) ?_
        refine zg_v (x' := nI (D 0 0)) (hx3.1 0 (by omega) 0 (by omega)) ?_
        refine zg_bipush (v := nI 24) dX3_mount_91 (by decide) ?_
        refine zg_ishl dX3_mount_93 ?_
        refine zg_aload_n dX3_mount_94 rfl ?_
        refine zg_iconst (v := nI 1) dX3_mount_95 (by decide) ?_
        refine zg_iald E (j := 1) dX3_mount_96 (zl_at HX (zl_sec (by omega)).1 (by omega) (by omega)) (by omega) (zl_lt HX (by omega)) rfl (by omega) (by decide) ?_
        refine zg_v (x' := nI (D 0 1)) (hx3.1 0 (by omega) 1 (by omega)) ?_
        refine zg_bipush (v := nI 16) dX3_mount_97 (by decide) ?_
        refine zg_ishl dX3_mount_99 ?_
        refine zg_ior dX3_mount_100 ?_
        refine zg_aload_n dX3_mount_101 rfl ?_
        refine zg_iconst (v := nI 2) dX3_mount_102 (by decide) ?_
        refine zg_iald E (j := 2) dX3_mount_103 (zl_at HX (zl_sec (by omega)).1 (by omega) (by omega)) (by omega) (zl_lt HX (by omega)) rfl (by omega) (by decide) ?_
        refine zg_v (x' := nI (D 0 2)) (hx3.1 0 (by omega) 2 (by omega)) ?_
        refine zg_bipush (v := nI 8) dX3_mount_104 (by decide) ?_
        refine zg_ishl dX3_mount_106 ?_
        refine zg_ior dX3_mount_107 ?_
        refine zg_aload_n dX3_mount_108 rfl ?_
        refine zg_iconst (v := nI 3) dX3_mount_109 (by decide) ?_
        refine zg_iald E (j := 3) dX3_mount_110 (zl_at HX (zl_sec (by omega)).1 (by omega) (by omega)) (by omega) (zl_lt HX (by omega)) rfl (by omega) (by decide) ?_
        refine zg_v (x' := nI (D 0 3)) (hx3.1 0 (by omega) 3 (by omega)) ?_
        refine zg_ior dX3_mount_111 ?_
        refine zg_putI E (ci := 2) (j := 2) dX3_mount_112 rfl (congrArg Prod.fst (zl_at HX (k := 131) (t := (2, 3)) rfl (by decide) (by decide))) (by decide) (zl_lt HX (by decide)) (by decide) fl_X3_118 rfl rfl rfl rfl ?_
        obtain ⟨J4, e4, hx4, hf4⟩ : ∃ J, zw_si (zw_I w J3) 131 2 (((((nI (D 0 0)) <<< ((nI 24) &&& 31)) ||| ((nI (D 0 1)) <<< ((nI 16) &&& 31))) ||| ((nI (D 0 2)) <<< ((nI 8) &&& 31))) ||| (nI (D 0 3))) = zw_I w J ∧ (zr_X J D (0, H.2) false (za_mt D) S za_C0) ∧ ∀ a, 156 ≤ a → J a = zw_i w a := ⟨_, rfl, zr_Xl hx2 (Nat.zero_le _) ⟨fun p hp => by rw [zw_up_row _ _ _ (by omega)]; exact hx3.2.1 p hp, by rw [zw_up_n _ _ (by decide)]; exact hx3.2.2.1, zw_up_s _ _ _ _⟩ (fun a ha => (zw_up_row _ _ _ (by omega)).trans (hx3.2.2.2 a ha)), fun a ha => (zw_up_row _ _ _ (by omega)).trans (hf3 a ha)⟩
        refine zg_w e4.symm ?_
        refine zg_aload_n dX3_mount_115 rfl ?_
        refine zg_getR E (ci := 3) (j := 3) (r := 133) dX3_mount_116 rfl (congrArg Prod.fst (zl_at HX (k := 1) (t := (3, 7)) rfl (by decide) (by decide))) (by decide) (zl_lt HX (by decide)) (by decide) fl_X3_28 rfl (zl_rf HX rfl (by decide) (by decide)) ?_
        refine zg_aload_n dX3_mount_119 rfl ?_
        refine zg_getR E (ci := 3) (j := 2) (r := 131) dX3_mount_120 rfl (congrArg Prod.fst (zl_at HX (k := 1) (t := (3, 7)) rfl (by decide) (by decide))) (by decide) (zl_lt HX (by decide)) (by decide) fl_X3_24 rfl (zl_rf HX rfl (by decide) (by decide)) ?_
        refine zg_vrt (M := zm_X3_mount) E (ci := 2) dX3_mount_123 (kt_become (w := zw_I w J4) E HX hx4.2.2.2.1) wd_X3_210 rfl (congrArg Prod.fst (zl_at HX (k := 133) (t := (2, 3)) rfl (by decide) (by decide))) (by decide) (zl_lt HX (by decide)) rfl dh_X2_become dn_X2_become (Nat.le_of_ble_eq_true rfl) (Nat.le_of_ble_eq_true rfl) (Nat.le_of_ble_eq_true rfl) (zl_cap HX) rfl (fun w123 g123 => ?_)
        obtain ⟨J5, rfl, r5, f5⟩ := g123
        have hx5 := zr_Xs hx4 (Nat.zero_le _) r5 f5
        have hf5 : ∀ a, 156 ≤ a → J5 a = zw_i w a := fun a ha => (f5 a (by omega)).trans (hf4 a ha)
        refine zg_w (w' := zw_I w J5) rfl ?_
        exact zg_vret rfl dX3_mount_126 ⟨rfl, J5, rfl, by rw [hz]; exact hx5, fun a ha => ha.elim (fun z => absurd z (Nat.not_lt_zero _)) (hf5 a)⟩
    · have hz : ok = false := zb_ff hok (fun z => absurd (ht.mpr z.2) (by rw [za_bit0 h27]; decide))
      refine zg_iconst (v := nI 1) dX3_mount_30 (by decide) ?_
      refine zg_goto (tgt := 35) dX3_mount_31 (by decide) ?_
      refine zg_putI E (ci := 3) (j := 6) dX3_mount_35 rfl (congrArg Prod.fst (zl_at HX (k := 1) (t := (3, 7)) rfl (by decide) (by decide))) (by decide) (zl_lt HX (by decide)) (by decide) fl_X3_131 rfl rfl rfl rfl ?_
      obtain ⟨J2, e2, hx2, hf2⟩ : ∃ J, zw_si (zw_I w J1) 1 6 (nI 1) = zw_I w J ∧ (zr_X J D (0, H.2) true L S za_C0) ∧ ∀ a, 156 ≤ a → J a = zw_i w a := ⟨_, rfl, zr_Xb hx1 (Nat.zero_le _) (zw_up_s _ _ _ _) (fun a ha => zw_up_row _ _ _ (by omega)), fun a ha => (zw_up_row _ _ _ (by omega)).trans (hf1 a ha)⟩
      refine zg_w e2.symm ?_
      refine zg_aload_n dX3_mount_38 rfl ?_
      refine zg_getI E (ci := 3) (j := 6) dX3_mount_39 rfl (congrArg Prod.fst (zl_at HX (k := 1) (t := (3, 7)) rfl (by decide) (by decide))) (by decide) (zl_lt HX (by decide)) (by decide) fl_X3_131 rfl ?_
      refine zg_v (x' := za_bit true) hx2.2.2.1 ?_
      refine zg_if_ne (tgt := 126) dX3_mount_42 (by decide) (fun h42 => ?_) (fun h42 => ?_)
      · exact zg_vret rfl dX3_mount_126 ⟨rfl, J2, rfl, by rw [hz]; exact hx2, fun a ha => ha.elim (fun z => absurd z (Nat.not_lt_zero _)) (hf2 a)⟩
      · exact absurd h42 (by decide)
def za_D0 (s i : Nat) : Nat := if s = 0 then za_ms 0 1 i else 0
theorem za_D0_W : za_WD za_D0 := by
  intro s _ i _
  unfold za_D0
  split
  · exact za_ms_lt 0 (by decide) i
  · decide
theorem za_D0_a : ∀ i, i < 14 → 5 ≤ i → za_D0 0 i = 0 := by decide +kernel
theorem za_D0_m : za_mr za_D0 := ⟨fun i h1 h2 => za_D0_a i h2 h1, by decide +kernel⟩
theorem za_D0_b : za_D0 0 4 = 1 := by decide +kernel
theorem za_D0_t : za_tr za_D0 := by
  refine ⟨by rw [za_D0_b]; decide, by rw [za_D0_b]; decide, fun p hp => ?_⟩
  rw [za_D0_b]
  exact ⟨by show (0 : Nat) < 48; decide, by show (0 : Nat) ≠ 1; decide, fun h => absurd rfl h⟩
set_option maxHeartbeats 4000000 in
set_option maxRecDepth 100000 in
theorem lp_format {V : zv_V} (E : zv_OK V) {w : zw_W} {n0 u0 : Nat} {Q : zg_O → zw_W → Prop} (HX : zl_X w) {D : Nat → Nat → Nat} {H : za_H} {b : Bool} {L S : za_T} {C : za_C} (hX : zr_X (zw_i w) D H b L S C) (hH : za_WH H) (hq : ∀ J, zr_X J za_D0 (0, H.2) false (za_mt za_D0) (za_mt za_D0) za_C0 → (∀ a, 156 ≤ a → J a = zw_i w a) → Q (.inl none) (zw_I w J)) : ∀ (n i : Nat) (J : Nat → Nat → Int32), i ≤ 48 → 48 + 1 ≤ i + n → (∀ s, s < i → ∀ j, j < 16 → J (3 + s) j = nI 0) → (∀ a, a < 3 ∨ 51 ≤ a → J a = zw_i w a) → zg_G V zm_X3_formatAndMount 3 160 n0 u0 2 [] [(1, .int (nI i)), (0, .ref 1)] (zw_I w J) Q := by
  intro n
  induction n with
  | zero =>
    intro i J hi hn
    exact absurd hn (by omega)
  | succ n ih =>
    intro i J hi hn k0 k1
    refine zg_iload_n dX3_formatAndMount_2 rfl ?_
    refine zg_bipush (v := nI 48) dX3_formatAndMount_3 (by decide) ?_
    refine zg_icmp_ge (tgt := 24) dX3_formatAndMount_5 (by decide) (fun h5 => ?_) (fun h5 => ?_)
    · obtain rfl : i = 48 := by have := zn_ge h5 (by omega) (by omega); omega
      refine zg_aload_n dX3_formatAndMount_24 rfl ?_
      refine zg_getR E (ci := 3) (j := 0) (r := 2) dX3_formatAndMount_25 rfl (congrArg Prod.fst (zl_at HX (k := 1) (t := (3, 7)) rfl (by decide) (by decide))) (by decide) (zl_lt HX (by decide)) (by decide) fl_X3_11 rfl (zl_rf HX rfl (by decide) (by decide)) ?_
      refine zg_iconst (v := nI 0) dX3_formatAndMount_28 (by decide) ?_
      refine zg_aald E (j := 0) (r := 3 + 0) dX3_formatAndMount_29 (zl_at HX (k := 2) (t := (13, 48)) rfl (by decide) (by decide)) (by decide) (zl_lt HX (by decide)) rfl (by omega) (by decide) (zl_rf HX (zl_sec (by omega)).2 (by decide) (by decide)) ?_
      refine zg_iconst (v := nI 0) dX3_formatAndMount_30 (by decide) ?_
      refine zg_iconst (v := nI 1) dX3_formatAndMount_31 (by decide) ?_
      refine zg_sret (M := zm_X3_formatAndMount) E dX3_formatAndMount_32 (ct_putMaster (w := zw_I w J) (k := 3 + 0) (a := 1) E (zl_at HX (zl_sec (s := 0) (by omega)).1 (by omega) (by omega)) (by omega) (zl_lt HX (by omega)) (by decide) (zl_cap HX)) wd_X3_194 dh_X3_putMaster dn_X3_putMaster (Nat.le_of_ble_eq_true rfl) (Nat.le_of_ble_eq_true rfl) (Nat.le_of_ble_eq_true rfl) (zl_cap HX) rfl (fun w32 g32 => ?_)
      obtain ⟨f, hf, rfl⟩ := g32
      have hx : zr_X (zw_ro J (3 + 0) f) za_D0 H b L S C := zr_Xd hX hH.1 (fun s hs i hi => by
        unfold za_D0
        by_cases e : s = 0
        · subst e
          rw [zw_ro_s, if_pos rfl]
          exact hf i hi
        · rw [zw_ro_n _ _ (by omega), if_neg e]
          exact k0 s hs i hi) (fun a ha => (zw_ro_n _ _ (by omega)).trans (k1 a ha))
      have hF : ∀ a, 156 ≤ a → zw_ro J (3 + 0) f a = zw_i w a := fun a ha => (zw_ro_n _ _ (by omega)).trans (k1 a (by omega))
      refine zg_w (w' := zw_I w (zw_ro J (3 + 0) f)) rfl ?_
      refine zg_aload_n dX3_formatAndMount_35 rfl ?_
      refine zg_vrt (M := zm_X3_formatAndMount) E (ci := 3) dX3_formatAndMount_36 (kt_mount (w := zw_I w (zw_ro J (3 + 0) f)) E HX hx za_D0_W hH (ok := true) ⟨fun _ => ⟨za_D0_m, za_D0_t⟩, fun _ => rfl⟩) wd_X3_128 rfl (congrArg Prod.fst (zl_at HX (k := 1) (t := (3, 7)) rfl (by decide) (by decide))) (by decide) (zl_lt HX (by decide)) rfl dh_X3_mount dn_X3_mount (Nat.le_of_ble_eq_true rfl) (Nat.le_of_ble_eq_true rfl) (Nat.le_of_ble_eq_true rfl) (zl_cap HX) rfl (fun w36 g36 => ?_)
      obtain ⟨J1, rfl, r1, f1⟩ := g36
      refine zg_w (w' := zw_I w J1) rfl ?_
      exact zg_vret rfl dX3_formatAndMount_39 (hq J1 r1 (fun a ha => (f1 a (Or.inr ha)).trans (hF a ha)))
    · have hlt : i < 48 := zn_lt h5 (by omega) (by omega)
      refine zg_aload_n dX3_formatAndMount_8 rfl ?_
      refine zg_getR E (ci := 3) (j := 0) (r := 2) dX3_formatAndMount_9 rfl (congrArg Prod.fst (zl_at HX (k := 1) (t := (3, 7)) rfl (by decide) (by decide))) (by decide) (zl_lt HX (by decide)) (by decide) fl_X3_11 rfl (zl_rf HX rfl (by decide) (by decide)) ?_
      refine zg_iload_n dX3_formatAndMount_12 rfl ?_
      refine zg_aald E (j := i) (r := 3 + i) dX3_formatAndMount_13 (zl_at HX (k := 2) (t := (13, 48)) rfl (by decide) (by decide)) (by decide) (zl_lt HX (by decide)) rfl (by omega) (by decide) (zl_rf HX (zl_sec (by omega)).2 (by decide) (by decide)) ?_
      refine zg_iconst (v := nI 0) dX3_formatAndMount_14 (by decide) ?_
      refine zg_sret (M := zm_X3_formatAndMount) E dX3_formatAndMount_15 (ct_fill (w := zw_I w J) E (zl_at HX (zl_sec hlt).1 (by omega) (by omega)) (by omega) (zl_lt HX (by omega)) (by decide)) wd_X3_188 dh_J7_fill_53178 dn_J7_fill_53178 (Nat.le_of_ble_eq_true rfl) (Nat.le_of_ble_eq_true rfl) (Nat.le_of_ble_eq_true rfl) (zl_cap HX) rfl (fun w15 g15 => ?_)
      subst w15
      refine zg_iinc (v := nI (i + 1)) (lv' := [(1, .int (nI (i + 1))), (0, .ref 1)]) dX3_formatAndMount_18 rfl (nI_1 i) (by decide) rfl ?_
      refine zg_goto (tgt := 2) dX3_formatAndMount_21 (by decide) ?_
      refine zg_l [0, 1] rfl ?_
      exact zg_s rfl rfl rfl (ih (i + 1) _ (by omega) (by omega) (fun s hs j hj => (Nat.lt_or_ge s i).elim (fun z => (congrFun (zw_ro_n _ _ (by omega)) j).trans (k0 s z j hj)) (fun z => by have e : s = i := (by omega); subst e; exact (congrFun (zw_ro_s _ _ _) j).trans (zs_win _ _ hj))) (fun a ha => (zw_ro_n _ _ (by omega)).trans (k1 a ha)))
set_option maxHeartbeats 4000000 in
set_option maxRecDepth 100000 in
theorem kt_format {V : zv_V} (E : zv_OK V) {w : zw_W} (HX : zl_X w) {D : Nat → Nat → Nat} {H : za_H} {b : Bool} {L S : za_T} {C : za_C} (hX : zr_X (zw_i w) D H b L S C) (hH : za_WH H) : zg_C V zm_X3_formatAndMount yX3_formatAndMount 3 160 [.ref 1] w (zq_p (.inl none) (zr_to w 0 156 (zr_X · za_D0 (0, H.2) false (za_mt za_D0) (za_mt za_D0) za_C0))) := by
  refine zg_of (by decide +kernel) rfl (Nat.le_of_ble_eq_true rfl) ?_
  show zg_G V zm_X3_formatAndMount 3 160 w.1 w.2.1 0 [] [(0, .ref 1)] w _
  refine zg_iconst (v := nI 0) dX3_formatAndMount_0 (by decide) ?_
  refine zg_istore_n (lv' := [(1, .int (nI 0)), (0, .ref 1)]) dX3_formatAndMount_1 (by decide) rfl ?_
  exact zg_s rfl rfl rfl (lp_format E HX hX hH (fun J h1 h2 => ⟨rfl, J, rfl, h1, fun a ha => (ha.elim (fun z => absurd z (Nat.not_lt_zero _)) (h2 a) : J a = zw_i w a)⟩) 49 0 (zw_i w) (by omega) (by omega) (fun s hs => absurd hs (Nat.not_lt_zero s)) (fun a _ => rfl))
end
section
/-! The class's free sectors, its changes. -/
/-- the free sectors as the class reckons them -/
def zk_u0 (I : Nat → Nat → Int32) : Int64 := (1 ||| zs_us (I 132) ((1 : Int64) <<< ((I 131 1).toInt64 &&& 63)) 16) ||| zs_us (I 134) ((1 : Int64) <<< ((I 133 1).toInt64 &&& 63)) 16
def zk_fs (I : Nat → Nat → Int32) : Int64 := (zs_us (I 136) (zk_u0 I) 16 ^^^ (-1)) &&& (281474976710655)
theorem zk_fs_b {I : Nat → Nat → Int32} {L S : za_T} {C : za_C} (hL : zr_T 131 132 I L) (hS : zr_T 133 134 I S) (hC : zr_C I C) (wL : za_WT L) (wS : za_WT S) (wC : za_WC C) {s : Nat} (hs : s < 48) : zb (zk_fs I) s = true ↔ ¬ za_us L S C.1 s := by
  have e : zb (zs_us (I 136) (zk_u0 I) 16) s = true ↔ za_us L S C.1 s := by
    rw [zb_us hC.1 wC.1 (by omega : s < 64)]
    unfold zk_u0
    rw [zb_or, zb_or, Bool.or_eq_true, Bool.or_eq_true, zb_us hL.1 wL.1 (by omega : s < 64), zb_us hS.1 wS.1 (by omega : s < 64), hL.2.1, hS.2.1, zb_one _ wL.2 s (by omega), zb_one _ wS.2 s (by omega), zb_1 s (by omega), decide_eq_true_eq, decide_eq_true_eq, decide_eq_true_eq]
    unfold za_us
    constructor
    · rintro (((a | a | ⟨p, hp, e⟩) | a | ⟨p, hp, e⟩) | ⟨p, hp, e⟩)
      · exact Or.inl a
      · exact Or.inr (Or.inl a.symm)
      · exact Or.inr (Or.inr (Or.inr ⟨p, hp, Or.inl e⟩))
      · exact Or.inr (Or.inr (Or.inl a.symm))
      · exact Or.inr (Or.inr (Or.inr ⟨p, hp, Or.inr (Or.inl e)⟩))
      · exact Or.inr (Or.inr (Or.inr ⟨p, hp, Or.inr (Or.inr e)⟩))
    · rintro (a | a | a | ⟨p, hp, e | e | e⟩)
      · exact Or.inl (Or.inl (Or.inl a))
      · exact Or.inl (Or.inl (Or.inr (Or.inl a.symm)))
      · exact Or.inl (Or.inr (Or.inl a.symm))
      · exact Or.inl (Or.inl (Or.inr (Or.inr ⟨p, hp, e⟩)))
      · exact Or.inl (Or.inr (Or.inr ⟨p, hp, e⟩))
      · exact Or.inr ⟨p, hp, e⟩
  unfold zk_fs
  rw [zb_and, zb_xor, zb_m1 s (by omega), zb_all s (by omega), Bool.and_eq_true, decide_eq_true_eq]
  constructor
  · rintro ⟨h, -⟩ u
    rw [e.mpr u] at h
    exact absurd h (by decide)
  · intro u
    refine ⟨?_, hs⟩
    cases g : zb (zs_us (I 136) (zk_u0 I) 16) s
    · rfl
    · exact absurd (e.mp g) u
/-- the least free sector, or -1 -/
def za_ff (L S : za_T) (O : Nat → Nat) (r : Int32) : Prop := (∃ s, s < 48 ∧ r = nI s ∧ ¬ za_us L S O s ∧ ∀ t, t < s → za_us L S O t) ∨ (r = (-1) ∧ ∀ s, s < 48 → za_us L S O s)
theorem za_ff_ex (L S : za_T) (O : Nat → Nat) : ∃ r, za_ff L S O r := by
  by_cases h : ∃ s, s < 48 ∧ ¬ za_us L S O s
  · obtain ⟨s, ⟨h1, h2⟩, h3⟩ := pk_least (fun s => s < 48 ∧ ¬ za_us L S O s) h
    exact ⟨nI s, Or.inl ⟨s, h1, rfl, h2, fun t ht => Classical.byContradiction fun z => h3 t ht ⟨by omega, z⟩⟩⟩
  · exact ⟨-1, Or.inr ⟨rfl, fun s hs => Classical.byContradiction fun z => h ⟨s, hs, z⟩⟩⟩
theorem za_ff_y {L S : za_T} {O : Nat → Nat} {r : Int32} {s : Nat} (h : za_ff L S O r) (hs : s < 48) (h1 : ¬ za_us L S O s) (h2 : ∀ t, t < s → za_us L S O t) : nI s = r := by
  rcases h with ⟨q, hq, rfl, g1, g2⟩ | ⟨-, g⟩
  · refine congrArg nI ?_
    rcases Nat.lt_trichotomy s q with z | z | z
    · exact absurd (g2 s z) h1
    · exact z
    · exact absurd (h2 q z) g1
  · exact absurd (g s hs) h1
theorem za_ff_n {L S : za_T} {O : Nat → Nat} {r : Int32} (h : za_ff L S O r) (h2 : ∀ t, t < 48 → za_us L S O t) : (-1) = r := by
  rcases h with ⟨q, hq, rfl, g1, g2⟩ | ⟨g, -⟩
  · exact absurd (h2 q hq) g1
  · exact g.symm
set_option maxHeartbeats 4000000 in
set_option maxRecDepth 100000 in
theorem lp_freeSet {V : zv_V} (E : zv_OK V) {w : zw_W} {n0 u0 : Nat} {Q : zg_O → zw_W → Prop} (HX : zl_X w) (hq : Q (.inl (some (.long (zk_fs (zw_i w))))) w) : ∀ (n i : Nat) , i ≤ 16 → 16 + 1 ≤ i + n → zg_G V zm_X3_freeSet 1 25 n0 u0 20 [] [(3, .int (nI i)), (1, .long (zs_us (zw_i w 136) (zk_u0 (zw_i w)) i)), (0, .ref 1)] w Q := by
  intro n
  induction n with
  | zero =>
    intro i hi hn
    exact absurd hn (by omega)
  | succ n ih =>
    intro i hi hn 
    refine zg_iload_n dX3_freeSet_20 rfl ?_
    refine zg_bipush (v := nI 16) dX3_freeSet_21 (by decide) ?_
    refine zg_icmp_ge (tgt := 46) dX3_freeSet_23 (by decide) (fun h23 => ?_) (fun h23 => ?_)
    · obtain rfl : i = 16 := by have := zn_ge h23 (by omega) (by omega); omega
      refine zg_lload_n dX3_freeSet_46 rfl ?_
      refine zg_ldc2 E (v := -1) dX3_freeSet_47 (by decide +kernel) ?_
      refine zg_lxor dX3_freeSet_50 ?_
      refine zg_ldc2 E (v := 281474976710655) dX3_freeSet_51 (by decide +kernel) ?_
      refine zg_land dX3_freeSet_54 ?_
      exact zg_lret rfl dX3_freeSet_55 hq
    · have hlt : i < 16 := zn_lt h23 (by omega) (by omega)
      refine zg_lload_n dX3_freeSet_26 rfl ?_
      refine zg_lconst (v := 1) dX3_freeSet_27 (by decide) ?_
      refine zg_aload_n dX3_freeSet_28 rfl ?_
      refine zg_getR E (ci := 3) (j := 4) (r := 135) dX3_freeSet_29 rfl (congrArg Prod.fst (zl_at HX (k := 1) (t := (3, 7)) rfl (by decide) (by decide))) (by decide) (zl_lt HX (by decide)) (by decide) fl_X3_34 rfl (zl_rf HX rfl (by decide) (by decide)) ?_
      refine zg_getR E (ci := 0) (j := 0) (r := 136) dX3_freeSet_32 rfl (congrArg Prod.fst (zl_at HX (k := 135) (t := (0, 4)) rfl (by decide) (by decide))) (by decide) (zl_lt HX (by decide)) (by decide) fl_X3_222 rfl (zl_rf HX rfl (by decide) (by decide)) ?_
      refine zg_iload_n dX3_freeSet_35 rfl ?_
      refine zg_iald E (j := i) dX3_freeSet_36 (zl_at HX (k := 136) (t := (10, 16)) rfl (by decide) (by decide)) (by decide) (zl_lt HX (by decide)) rfl (by omega) (by decide) ?_
      refine zg_lshl dX3_freeSet_37 ?_
      refine zg_lor dX3_freeSet_38 ?_
      refine zg_lstore_n (lv' := [(1, .long ((zs_us (zw_i w 136) (zk_u0 (zw_i w)) i) ||| (((1)) <<< ((zw_i w 136 i).toInt64 &&& 63)))), (3, .int (nI i)), (0, .ref 1)]) dX3_freeSet_39 (by decide) rfl ?_
      refine zg_iinc (v := nI (i + 1)) (lv' := [(3, .int (nI (i + 1))), (1, .long ((zs_us (zw_i w 136) (zk_u0 (zw_i w)) i) ||| (((1)) <<< ((zw_i w 136 i).toInt64 &&& 63)))), (0, .ref 1)]) dX3_freeSet_40 rfl (nI_1 i) (by decide) rfl ?_
      refine zg_goto (tgt := 20) dX3_freeSet_43 (by decide) ?_
      refine zg_l [0, 1, 2] rfl ?_
      exact zg_s rfl rfl rfl (ih (i + 1) (by omega) (by omega))
set_option maxHeartbeats 4000000 in
set_option maxRecDepth 100000 in
theorem ct_freeSet {V : zv_V} (E : zv_OK V) {w : zw_W} (HX : zl_X w)  : zg_C V zm_X3_freeSet yX3_freeSet 1 25 [.ref 1] w (zq_p (.inl (some (.long (zk_fs (zw_i w))))) (· = w)) := by
  refine zg_of (by decide +kernel) rfl (Nat.le_of_ble_eq_true rfl) ?_
  show zg_G V zm_X3_freeSet 1 25 w.1 w.2.1 0 [] [(0, .ref 1)] w _
  refine zg_lconst (v := 1) dX3_freeSet_0 (by decide) ?_
  refine zg_aload_n dX3_freeSet_1 rfl ?_
  refine zg_getR E (ci := 3) (j := 2) (r := 131) dX3_freeSet_2 rfl (congrArg Prod.fst (zl_at HX (k := 1) (t := (3, 7)) rfl (by decide) (by decide))) (by decide) (zl_lt HX (by decide)) (by decide) fl_X3_24 rfl (zl_rf HX rfl (by decide) (by decide)) ?_
  refine zg_vrt (M := zm_X3_freeSet) E (ci := 2) dX3_freeSet_5 (ct_usedSetL E HX) wd_X3_219 rfl (congrArg Prod.fst (zl_at HX (k := 131) (t := (2, 3)) rfl (by decide) (by decide))) (by decide) (zl_lt HX (by decide)) rfl dh_X2_usedSet dn_X2_usedSet (Nat.le_of_ble_eq_true rfl) (Nat.le_of_ble_eq_true rfl) (Nat.le_of_ble_eq_true rfl) (zl_cap HX) rfl (fun w5 g5 => ?_)
  subst w5
  refine zg_lor dX3_freeSet_8 ?_
  refine zg_aload_n dX3_freeSet_9 rfl ?_
  refine zg_getR E (ci := 3) (j := 3) (r := 133) dX3_freeSet_10 rfl (congrArg Prod.fst (zl_at HX (k := 1) (t := (3, 7)) rfl (by decide) (by decide))) (by decide) (zl_lt HX (by decide)) (by decide) fl_X3_28 rfl (zl_rf HX rfl (by decide) (by decide)) ?_
  refine zg_vrt (M := zm_X3_freeSet) E (ci := 2) dX3_freeSet_13 (ct_usedSetS E HX) wd_X3_219 rfl (congrArg Prod.fst (zl_at HX (k := 133) (t := (2, 3)) rfl (by decide) (by decide))) (by decide) (zl_lt HX (by decide)) rfl dh_X2_usedSet dn_X2_usedSet (Nat.le_of_ble_eq_true rfl) (Nat.le_of_ble_eq_true rfl) (Nat.le_of_ble_eq_true rfl) (zl_cap HX) rfl (fun w13 g13 => ?_)
  subst w13
  refine zg_lor dX3_freeSet_16 ?_
  refine zg_lstore_n (lv' := [(1, .long ((((1)) ||| (zs_us (zw_i w 132) ((1 : Int64) <<< ((zw_i w 131 1).toInt64 &&& 63)) 16)) ||| (zs_us (zw_i w 134) ((1 : Int64) <<< ((zw_i w 133 1).toInt64 &&& 63)) 16))), (0, .ref 1)]) dX3_freeSet_17 (by decide) rfl ?_
  refine zg_iconst (v := nI 0) dX3_freeSet_18 (by decide) ?_
  refine zg_istore_n (lv' := [(3, .int (nI 0)), (1, .long ((((1)) ||| (zs_us (zw_i w 132) ((1 : Int64) <<< ((zw_i w 131 1).toInt64 &&& 63)) 16)) ||| (zs_us (zw_i w 134) ((1 : Int64) <<< ((zw_i w 133 1).toInt64 &&& 63)) 16))), (0, .ref 1)]) dX3_freeSet_19 (by decide) rfl ?_
  exact zg_s rfl rfl rfl (lp_freeSet E HX ⟨rfl, rfl⟩ 17 0 (by omega) (by omega))
set_option maxHeartbeats 4000000 in
set_option maxRecDepth 100000 in
theorem lp_leastFree {V : zv_V} (E : zv_OK V) {w : zw_W} {n0 u0 : Nat} {Q : zg_O → zw_W → Prop} (HX : zl_X w) {D : Nat → Nat → Nat} {H : za_H} {b : Bool} {L S : za_T} {C : za_C} (hX : zr_X (zw_i w) D H b L S C) (wL : za_WT L) (wS : za_WT S) (wC : za_WC C) {r : Int32} (hr : za_ff L S C.1 r) (hq : Q (.inl (some (.int r))) w) : ∀ (n i : Nat) , i ≤ 48 → 48 + 1 ≤ i + n → (∀ t, t < i → za_us L S C.1 t) → zg_G V zm_X3_leastFree 2 60 n0 u0 7 [] [(3, .int (nI i)), (1, .long (zk_fs (zw_i w))), (0, .ref 1)] w Q := by
  intro n
  induction n with
  | zero =>
    intro i hi hn
    exact absurd hn (by omega)
  | succ n ih =>
    intro i hi hn k0
    refine zg_iload_n dX3_leastFree_7 rfl ?_
    refine zg_bipush (v := nI 48) dX3_leastFree_8 (by decide) ?_
    refine zg_icmp_ge (tgt := 29) dX3_leastFree_10 (by decide) (fun h10 => ?_) (fun h10 => ?_)
    · obtain rfl : i = 48 := by have := zn_ge h10 (by omega) (by omega); omega
      refine zg_iconst (v := (-1)) dX3_leastFree_29 (by decide) ?_
      exact zg_iret rfl dX3_leastFree_30 ((za_ff_n hr k0 : (-1 : Int32) = r) ▸ hq)
    · have hlt : i < 48 := zn_lt h10 (by omega) (by omega)
      have hfs := zk_fs_b hX.2.2.2.1 hX.2.2.2.2.1 hX.2.2.2.2.2 wL wS wC hlt
      refine zg_lload_n dX3_leastFree_13 rfl ?_
      refine zg_iload_n dX3_leastFree_14 rfl ?_
      refine zg_sret (M := zm_X3_leastFree) E dX3_leastFree_15 (ct_holds E (zk_fs (zw_i w)) (nI i)) wd_X3_148 dh_X3_holds dn_X3_holds (Nat.le_of_ble_eq_true rfl) (Nat.le_of_ble_eq_true rfl) (Nat.le_of_ble_eq_true rfl) (zl_cap HX) rfl (fun w15 g15 => ?_)
      subst w15
      refine zg_v (x' := za_bit (zb (zk_fs (zw_i w)) i)) (zp_hol _ (by omega)) ?_
      refine zg_if_eq (tgt := 23) dX3_leastFree_18 (by decide) (fun h18 => ?_) (fun h18 => ?_)
      · have hu : za_us L S C.1 i := Classical.byContradiction fun z => absurd (hfs.mpr z) (by rw [za_bit0 h18]; decide)
        refine zg_iinc (v := nI (i + 1)) (lv' := [(3, .int (nI (i + 1))), (1, .long (zk_fs (zw_i w))), (0, .ref 1)]) dX3_leastFree_23 rfl (nI_1 i) (by decide) rfl ?_
        refine zg_goto (tgt := 7) dX3_leastFree_26 (by decide) ?_
        refine zg_l [0, 1, 2] rfl ?_
        exact zg_s rfl rfl rfl (ih (i + 1) (by omega) (by omega) (fun t ht => (Nat.lt_or_ge t i).elim (k0 t) (fun z => (show t = i by omega) ▸ hu)))
      · have hu : ¬ za_us L S C.1 i := hfs.mp (za_bit1 h18)
        refine zg_iload_n dX3_leastFree_21 rfl ?_
        exact zg_iret rfl dX3_leastFree_22 (za_ff_y hr hlt hu k0 ▸ hq)
set_option maxHeartbeats 4000000 in
set_option maxRecDepth 100000 in
theorem kt_leastFree {V : zv_V} (E : zv_OK V) {w : zw_W} (HX : zl_X w) {D : Nat → Nat → Nat} {H : za_H} {b : Bool} {L S : za_T} {C : za_C} (hX : zr_X (zw_i w) D H b L S C) (wL : za_WT L) (wS : za_WT S) (wC : za_WC C) {r : Int32} (hr : za_ff L S C.1 r)  : zg_C V zm_X3_leastFree yX3_leastFree 2 60 [.ref 1] w (zq_p (.inl (some (.int r))) (· = w)) := by
  refine zg_of (by decide +kernel) rfl (Nat.le_of_ble_eq_true rfl) ?_
  show zg_G V zm_X3_leastFree 2 60 w.1 w.2.1 0 [] [(0, .ref 1)] w _
  refine zg_aload_n dX3_leastFree_0 rfl ?_
  refine zg_vrt (M := zm_X3_leastFree) E (ci := 3) dX3_leastFree_1 (ct_freeSet E HX) wd_X3_144 rfl (congrArg Prod.fst (zl_at HX (k := 1) (t := (3, 7)) rfl (by decide) (by decide))) (by decide) (zl_lt HX (by decide)) rfl dh_X3_freeSet dn_X3_freeSet (Nat.le_of_ble_eq_true rfl) (Nat.le_of_ble_eq_true rfl) (Nat.le_of_ble_eq_true rfl) (zl_cap HX) rfl (fun w1 g1 => ?_)
  subst w1
  refine zg_lstore_n (lv' := [(1, .long (zk_fs (zw_i w))), (0, .ref 1)]) dX3_leastFree_4 (by decide) rfl ?_
  refine zg_iconst (v := nI 0) dX3_leastFree_5 (by decide) ?_
  refine zg_istore_n (lv' := [(3, .int (nI 0)), (1, .long (zk_fs (zw_i w))), (0, .ref 1)]) dX3_leastFree_6 (by decide) rfl ?_
  exact zg_s rfl rfl rfl (lp_leastFree E HX hX wL wS wC hr ⟨rfl, rfl⟩ 49 0 (by omega) (by omega) (fun t ht => absurd ht (Nat.not_lt_zero t)))
/-- a page as the latest table has it -/
def za_lt (D : Nat → Nat → Nat) (L : za_T) (p i : Nat) : Nat := if L.1 p = 0 then 0 else D (L.1 p) i
theorem za_lt_W {D : Nat → Nat → Nat} {L : za_T} (hD : za_WD D) (hL : za_WT L) {p : Nat} (hp : p < 16) : ∀ i, i < 16 → za_lt D L p i < 256 := by
  intro i hi
  unfold za_lt
  split
  · decide
  · exact hD _ (hL.1 p hp) i hi
set_option maxHeartbeats 4000000 in
set_option maxRecDepth 100000 in
theorem kt_copyLatest {V : zv_V} (E : zv_OK V) {w : zw_W} (HX : zl_X w) {D : Nat → Nat → Nat} {H : za_H} {b : Bool} {L S : za_T} {C : za_C} {p : Nat} (hp : p < 16) (hX : zr_X (zw_i w) D H b L S C) (wL : za_WT L) : zg_C V zm_X3_copyLatestPage yX3_copyLatestPage 1 100 [.ref 1, .int (nI p), .ref (138 + p)] w (zq_p (.inl none) (fun w' => ∃ f, w' = zw_sa w (138 + p) f ∧ ∀ i, i < 16 → f i = nI (za_lt D L p i))) := by
  refine zg_of (by decide +kernel) rfl (Nat.le_of_ble_eq_true rfl) ?_
  show zg_G V zm_X3_copyLatestPage 1 100 w.1 w.2.1 0 [] [(0, .ref 1), (1, .int (nI p)), (2, .ref (138 + p))] w _
  refine zg_aload_n dX3_copyLatestPage_0 rfl ?_
  refine zg_getR E (ci := 3) (j := 2) (r := 131) dX3_copyLatestPage_1 rfl (congrArg Prod.fst (zl_at HX (k := 1) (t := (3, 7)) rfl (by decide) (by decide))) (by decide) (zl_lt HX (by decide)) (by decide) fl_X3_24 rfl (zl_rf HX rfl (by decide) (by decide)) ?_
  refine zg_getR E (ci := 2) (j := 0) (r := 132) dX3_copyLatestPage_4 rfl (congrArg Prod.fst (zl_at HX (k := 131) (t := (2, 3)) rfl (by decide) (by decide))) (by decide) (zl_lt HX (by decide)) (by decide) fl_X3_72 rfl (zl_rf HX rfl (by decide) (by decide)) ?_
  refine zg_iload_n dX3_copyLatestPage_7 rfl ?_
  refine zg_iald E (j := p) dX3_copyLatestPage_8 (zl_at HX (k := 132) (t := (10, 16)) rfl (by decide) (by decide)) (by decide) (zl_lt HX (by decide)) rfl (by omega) (by decide) ?_
  refine zg_v (x' := nI (L.1 p)) (hX.2.2.2.1.1 p hp) ?_
  refine zg_istore_n (lv' := [(3, .int (nI (L.1 p))), (0, .ref 1), (1, .int (nI p)), (2, .ref (138 + p))]) dX3_copyLatestPage_9 (by decide) rfl ?_
  refine zg_iload_n dX3_copyLatestPage_10 rfl ?_
  refine zg_if_ne (tgt := 22) dX3_copyLatestPage_11 (by decide) (fun h11 => ?_) (fun h11 => ?_)
  · have hz : L.1 p ≠ 0 := fun z => h11 (congrArg nI z)
    have h48 := wL.1 p hp
    refine zg_aload_n dX3_copyLatestPage_22 rfl ?_
    refine zg_getR E (ci := 3) (j := 0) (r := 2) dX3_copyLatestPage_23 rfl (congrArg Prod.fst (zl_at HX (k := 1) (t := (3, 7)) rfl (by decide) (by decide))) (by decide) (zl_lt HX (by decide)) (by decide) fl_X3_11 rfl (zl_rf HX rfl (by decide) (by decide)) ?_
    refine zg_iload_n dX3_copyLatestPage_26 rfl ?_
    refine zg_aald E (j := L.1 p) (r := 3 + (L.1 p)) dX3_copyLatestPage_27 (zl_at HX (k := 2) (t := (13, 48)) rfl (by decide) (by decide)) (by decide) (zl_lt HX (by decide)) rfl h48 (by decide) (zl_rf HX (zl_sec h48).2 (by decide) (by decide)) ?_
    refine zg_iconst (v := nI 0) dX3_copyLatestPage_28 (by decide) ?_
    refine zg_aload_n dX3_copyLatestPage_29 rfl ?_
    refine zg_iconst (v := nI 0) dX3_copyLatestPage_30 (by decide) ?_
    refine zg_bipush (v := nI 16) dX3_copyLatestPage_31 (by decide) ?_
    refine zg_copy E (n := 16) dX3_copyLatestPage_33 (by decide +kernel) (zl_at HX (zl_sec (by omega)).1 (by omega) (by omega)) (zl_at HX (zl_pag (by omega)).1 (by omega) (by omega)) (by omega) (zl_lt HX (by omega)) (by omega) (zl_lt HX (by omega)) rfl rfl rfl (by decide) (by decide) (by decide) (by decide) (Nat.le_of_ble_eq_true rfl) (Nat.le_of_ble_eq_true rfl) ?_
    exact zg_vret rfl dX3_copyLatestPage_36 ⟨rfl, _, rfl, fun i hi => (if_pos hi).trans ((hX.1 _ h48 i hi).trans (congrArg nI (if_neg hz).symm))⟩
  · have hz : L.1 p = 0 := (nI_eq (by have := wL.1 p hp; omega) (by decide)).mp h11
    refine zg_aload_n dX3_copyLatestPage_14 rfl ?_
    refine zg_iconst (v := nI 0) dX3_copyLatestPage_15 (by decide) ?_
    refine zg_sret (M := zm_X3_copyLatestPage) E dX3_copyLatestPage_16 (ct_fill E (zl_at HX (zl_pag hp).1 (by omega) (by omega)) (by omega) (zl_lt HX (by omega)) (by decide)) wd_X3_188 dh_J7_fill_53178 dn_J7_fill_53178 (Nat.le_of_ble_eq_true rfl) (Nat.le_of_ble_eq_true rfl) (Nat.le_of_ble_eq_true rfl) (zl_cap HX) rfl (fun w16 g16 => ?_)
    subst w16
    refine zg_goto (tgt := 36) dX3_copyLatestPage_19 (by decide) ?_
    exact zg_vret rfl dX3_copyLatestPage_36 ⟨rfl, _, rfl, fun i hi => (zs_win _ _ hi).trans (congrArg nI (if_pos hz).symm)⟩
/-- a page is changed: a first time, again -/
def za_add (C : za_C) (p s : Nat) (f : Nat → Nat) : za_C := (zw_ro C.1 p s, zw_ro C.2.1 p f, zw_ro C.2.2 p false)
def za_spl (C : za_C) (p : Nat) (z : Bool) : za_C := (C.1, C.2.1, zw_ro C.2.2 p z)
def za_put (C : za_C) (p i x : Nat) : za_C := (C.1, zw_ro C.2.1 p (zw_ro (C.2.1 p) i x), C.2.2)
theorem zk_spl {I J : Nat → Nat → Int32} {C : za_C} {p : Nat} {z : Bool} (h : zr_C I C) (g : J = zw_up I 154 p (za_bit z)) : zr_C J (za_spl C p z) := by
  subst g
  refine ⟨fun q hq => (congrFun (zw_up_row _ _ _ (by decide)) q).trans (h.1 q hq), (congrFun (zw_up_row _ _ _ (by decide)) 3).trans h.2.1, fun q hq e => ⟨fun i hi => (congrFun (zw_up_row _ _ _ (by omega)) i).trans ((h.2.2 q hq e).1 i hi), ?_⟩⟩
  show zw_up I 154 p (za_bit z) 154 q = za_bit (zw_ro C.2.2 p z q)
  by_cases k : q = p
  · rw [k, zw_up_s, zw_ro_s]
  · rw [zw_up_n _ _ (Or.inr k), zw_ro_n _ _ k]
    exact (h.2.2 q hq e).2
theorem zk_add {I J : Nat → Nat → Int32} {C : za_C} {p s : Nat} {f : Nat → Nat} {g : Nat → Int32} (h : zr_C I C) (hp : p < 16) (h0 : C.1 p = 0) (hs : s ≠ 0) (hg : ∀ i, i < 16 → g i = nI (f i)) (e : J = zw_up (zw_up (zw_up (zw_ro I (138 + p) g) 136 p (nI s)) 135 3 (I 135 3 + nI 1)) 154 p (nI 0)) : zr_C J (za_add C p s f) := by
  subst e
  refine ⟨fun q hq => ?_, ?_, fun q hq e => ⟨fun i hi => ?_, ?_⟩⟩
  · rw [zw_up_row _ _ _ (by decide), zw_up_row _ _ _ (by decide)]
    show zw_up (zw_ro I (138 + p) g) 136 p (nI s) 136 q = nI (zw_ro C.1 p s q)
    by_cases k : q = p
    · rw [k, zw_up_s, zw_ro_s]
    · rw [zw_up_n _ _ (Or.inr k), zw_ro_n _ _ k, zw_ro_n _ _ (by omega)]
      exact h.1 q hq
  · rw [zw_up_row _ _ _ (by decide), zw_up_s, h.2.1]
    show nI (za_n C.1 16) + nI 1 = nI (za_n (zw_ro C.1 p s) 16)
    rw [za_n_s hp h0 hs, nI_add]
  · rw [zw_up_row _ _ _ (by omega), zw_up_row _ _ _ (by omega), zw_up_row _ _ _ (by omega)]
    show zw_ro I (138 + p) g (138 + q) i = nI (zw_ro C.2.1 p f q i)
    by_cases k : q = p
    · rw [k, zw_ro_s, zw_ro_s]
      exact hg i hi
    · rw [zw_ro_n _ _ (by omega), zw_ro_n _ _ k]
      exact (h.2.2 q hq (fun z => e ((zw_ro_n _ _ k).trans z))).1 i hi
  · show _ = za_bit (zw_ro C.2.2 p false q)
    by_cases k : q = p
    · rw [k, zw_up_s, zw_ro_s]
      rfl
    · rw [zw_up_n _ _ (Or.inr k), zw_ro_n _ _ k, zw_up_row _ _ _ (by decide), zw_up_row _ _ _ (by decide), zw_ro_n _ _ (by omega)]
      exact (h.2.2 q hq (fun z => e ((zw_ro_n _ _ k).trans z))).2
set_option maxHeartbeats 4000000 in
set_option maxRecDepth 100000 in
theorem kt_change_h {V : zv_V} (E : zv_OK V) {w : zw_W} (HX : zl_X w) {D : Nat → Nat → Nat} {H : za_H} {b : Bool} {L S : za_T} {C : za_C} {p : Nat} (hp : p < 16) (hX : zr_X (zw_i w) D H b L S C) (hH : za_WH H) (h : C.1 p ≠ 0) (wC : za_WC C) : zg_C V zm_X3_changePage yX3_changePage 3 130 [.ref 1, .int (nI p)] w (zq_p (.inl none) (zr_to w 135 155 (zr_X · D H b L S (za_spl C p false)))) := by
  refine zg_of (by decide +kernel) rfl (Nat.le_of_ble_eq_true rfl) ?_
  show zg_G V zm_X3_changePage 3 130 w.1 w.2.1 0 [] [(0, .ref 1), (1, .int (nI p))] w _
  have hn : zw_i w 136 p ≠ nI 0 := fun z => h ((nI_eq (by have := wC.1 p hp; omega) (by decide)).mp ((hX.2.2.2.2.2.1 p hp).symm.trans z))
  refine zg_aload_n dX3_changePage_0 rfl ?_
  refine zg_getR E (ci := 3) (j := 4) (r := 135) dX3_changePage_1 rfl (congrArg Prod.fst (zl_at HX (k := 1) (t := (3, 7)) rfl (by decide) (by decide))) (by decide) (zl_lt HX (by decide)) (by decide) fl_X3_34 rfl (zl_rf HX rfl (by decide) (by decide)) ?_
  refine zg_iload_n dX3_changePage_4 rfl ?_
  refine zg_vrt (M := zm_X3_changePage) E (ci := 0) dX3_changePage_5 (ct_has_y E HX hp hn) wd_X3_68 rfl (congrArg Prod.fst (zl_at HX (k := 135) (t := (0, 4)) rfl (by decide) (by decide))) (by decide) (zl_lt HX (by decide)) rfl dh_X0_has dn_X0_has (Nat.le_of_ble_eq_true rfl) (Nat.le_of_ble_eq_true rfl) (Nat.le_of_ble_eq_true rfl) (zl_cap HX) rfl (fun w5 g5 => ?_)
  subst w5
  refine zg_if_ne (tgt := 54) dX3_changePage_8 (by decide) (fun h8 => ?_) (fun h8 => ?_)
  · refine zg_aload_n dX3_changePage_54 rfl ?_
    refine zg_getR E (ci := 3) (j := 4) (r := 135) dX3_changePage_55 rfl (congrArg Prod.fst (zl_at HX (k := 1) (t := (3, 7)) rfl (by decide) (by decide))) (by decide) (zl_lt HX (by decide)) (by decide) fl_X3_34 rfl (zl_rf HX rfl (by decide) (by decide)) ?_
    refine zg_getR E (ci := 0) (j := 2) (r := 154) dX3_changePage_58 rfl (congrArg Prod.fst (zl_at HX (k := 135) (t := (0, 4)) rfl (by decide) (by decide))) (by decide) (zl_lt HX (by decide)) (by decide) fl_X3_75 rfl (zl_rf HX rfl (by decide) (by decide)) ?_
    refine zg_iload_n dX3_changePage_61 rfl ?_
    refine zg_iconst (v := nI 0) dX3_changePage_62 (by decide) ?_
    refine zg_zast E (j := p) (y := nI 0) dX3_changePage_63 (zl_at HX (k := 154) (t := (11, 16)) rfl (by decide) (by decide)) (by decide) (zl_lt HX (by decide)) rfl (by omega) (by decide) rfl ?_
    exact zg_vret rfl dX3_changePage_64 ⟨rfl, _, rfl, zr_Xc hX hH.1 (zk_spl (z := false) hX.2.2.2.2.2 rfl) (fun a ha => zw_up_row _ _ _ (by omega)), fun a ha => zw_up_row _ _ _ (by omega)⟩
  · exact absurd h8 (by decide)
set_option maxHeartbeats 4000000 in
set_option maxRecDepth 100000 in
theorem kt_change_y {V : zv_V} (E : zv_OK V) {w : zw_W} (HX : zl_X w) {D : Nat → Nat → Nat} {H : za_H} {b : Bool} {L S : za_T} {C : za_C} {p : Nat} (hp : p < 16) (hX : zr_X (zw_i w) D H b L S C) (hH : za_WH H) (h : C.1 p = 0) (wL : za_WT L) (wS : za_WT S) (wC : za_WC C) {s : Nat} (hs : s < 48) (hr : za_ff L S C.1 (nI s)) : zg_C V zm_X3_changePage yX3_changePage 3 130 [.ref 1, .int (nI p)] w (zq_p (.inl none) (zr_to w 135 155 (zr_X · D H b L S (za_add C p s (za_lt D L p))))) := by
  refine zg_of (by decide +kernel) rfl (Nat.le_of_ble_eq_true rfl) ?_
  show zg_G V zm_X3_changePage 3 130 w.1 w.2.1 0 [] [(0, .ref 1), (1, .int (nI p))] w _
  have hn : zw_i w 136 p = nI 0 := (hX.2.2.2.2.2.1 p hp).trans (congrArg nI h)
  have hs0 : s ≠ 0 := by
    rintro rfl
    rcases hr with ⟨q, hq, e, g1, -⟩ | ⟨e, -⟩
    · obtain rfl : 0 = q := (nI_eq (by omega) (by omega)).mp e
      exact g1 (Or.inl rfl)
    · exact absurd e (by decide)
  have hfr : ∀ {g : Nat → Int32} {x y : Int32} (a : Nat), a < 135 ∨ 155 ≤ a → zw_up (zw_up (zw_up (zw_ro (zw_i w) (138 + p) g) 136 p x) 135 3 y) 154 p (nI 0) a = zw_i w a := fun a ha => (zw_up_row _ _ _ (by omega)).trans ((zw_up_row _ _ _ (by omega)).trans ((zw_up_row _ _ _ (by omega)).trans (zw_ro_n _ _ (by omega))))
  refine zg_aload_n dX3_changePage_0 rfl ?_
  refine zg_getR E (ci := 3) (j := 4) (r := 135) dX3_changePage_1 rfl (congrArg Prod.fst (zl_at HX (k := 1) (t := (3, 7)) rfl (by decide) (by decide))) (by decide) (zl_lt HX (by decide)) (by decide) fl_X3_34 rfl (zl_rf HX rfl (by decide) (by decide)) ?_
  refine zg_iload_n dX3_changePage_4 rfl ?_
  refine zg_vrt (M := zm_X3_changePage) E (ci := 0) dX3_changePage_5 (ct_has_n E HX hp hn) wd_X3_68 rfl (congrArg Prod.fst (zl_at HX (k := 135) (t := (0, 4)) rfl (by decide) (by decide))) (by decide) (zl_lt HX (by decide)) rfl dh_X0_has dn_X0_has (Nat.le_of_ble_eq_true rfl) (Nat.le_of_ble_eq_true rfl) (Nat.le_of_ble_eq_true rfl) (zl_cap HX) rfl (fun w5 g5 => ?_)
  subst w5
  refine zg_if_ne (tgt := 54) dX3_changePage_8 (by decide) (fun h8 => ?_) (fun h8 => ?_)
  · exact absurd rfl h8
  · refine zg_aload_n dX3_changePage_11 rfl ?_
    refine zg_vrt (M := zm_X3_changePage) E (ci := 3) dX3_changePage_12 (kt_leastFree E HX hX wL wS wC hr) wd_X3_100 rfl (congrArg Prod.fst (zl_at HX (k := 1) (t := (3, 7)) rfl (by decide) (by decide))) (by decide) (zl_lt HX (by decide)) rfl dh_X3_leastFree dn_X3_leastFree (Nat.le_of_ble_eq_true rfl) (Nat.le_of_ble_eq_true rfl) (Nat.le_of_ble_eq_true rfl) (zl_cap HX) rfl (fun w12 g12 => ?_)
    subst w12
    refine zg_istore_n (lv' := [(2, .int (nI s)), (0, .ref 1), (1, .int (nI p))]) dX3_changePage_15 (by decide) rfl ?_
    refine zg_iload_n dX3_changePage_16 rfl ?_
    refine zg_iconst (v := (-1)) dX3_changePage_17 (by decide) ?_
    refine zg_icmp_ne (tgt := 31) dX3_changePage_18 (by decide) (fun h18 => ?_) (fun h18 => ?_)
    · refine zg_aload_n dX3_changePage_31 rfl ?_
      refine zg_iload_n dX3_changePage_32 rfl ?_
      refine zg_aload_n dX3_changePage_33 rfl ?_
      refine zg_getR E (ci := 3) (j := 4) (r := 135) dX3_changePage_34 rfl (congrArg Prod.fst (zl_at HX (k := 1) (t := (3, 7)) rfl (by decide) (by decide))) (by decide) (zl_lt HX (by decide)) (by decide) fl_X3_34 rfl (zl_rf HX rfl (by decide) (by decide)) ?_
      refine zg_getR E (ci := 0) (j := 1) (r := 137) dX3_changePage_37 rfl (congrArg Prod.fst (zl_at HX (k := 135) (t := (0, 4)) rfl (by decide) (by decide))) (by decide) (zl_lt HX (by decide)) (by decide) fl_X3_61 rfl (zl_rf HX rfl (by decide) (by decide)) ?_
      refine zg_iload_n dX3_changePage_40 rfl ?_
      refine zg_aald E (j := p) (r := 138 + p) dX3_changePage_41 (zl_at HX (k := 137) (t := (13, 16)) rfl (by decide) (by decide)) (by decide) (zl_lt HX (by decide)) rfl (by omega) (by decide) (zl_rf HX (zl_pag (by omega)).2 (by decide) (by decide)) ?_
      refine zg_vrt (M := zm_X3_changePage) E (ci := 3) dX3_changePage_42 (kt_copyLatest E HX hp hX wL) wd_X3_231 rfl (congrArg Prod.fst (zl_at HX (k := 1) (t := (3, 7)) rfl (by decide) (by decide))) (by decide) (zl_lt HX (by decide)) rfl dh_X3_copyLatestPage dn_X3_copyLatestPage (Nat.le_of_ble_eq_true rfl) (Nat.le_of_ble_eq_true rfl) (Nat.le_of_ble_eq_true rfl) (zl_cap HX) rfl (fun w42 g42 => ?_)
      obtain ⟨g, rfl, hg⟩ := g42
      refine zg_aload_n dX3_changePage_45 rfl ?_
      refine zg_getR E (ci := 3) (j := 4) (r := 135) dX3_changePage_46 rfl (congrArg Prod.fst (zl_at HX (k := 1) (t := (3, 7)) rfl (by decide) (by decide))) (by decide) (zl_lt HX (by decide)) (by decide) fl_X3_34 rfl (zl_rf HX rfl (by decide) (by decide)) ?_
      refine zg_iload_n dX3_changePage_49 rfl ?_
      refine zg_iload_n dX3_changePage_50 rfl ?_
      refine zg_vrt (M := zm_X3_changePage) E (ci := 0) dX3_changePage_51 (ct_add (w := zw_sa w (138 + p) g) E HX hp) wd_X3_235 rfl (congrArg Prod.fst (zl_at HX (k := 135) (t := (0, 4)) rfl (by decide) (by decide))) (by decide) (zl_lt HX (by decide)) rfl dh_X0_add dn_X0_add (Nat.le_of_ble_eq_true rfl) (Nat.le_of_ble_eq_true rfl) (Nat.le_of_ble_eq_true rfl) (zl_cap HX) rfl (fun w51 g51 => ?_)
      subst w51
      refine zg_aload_n dX3_changePage_54 rfl ?_
      refine zg_getR E (ci := 3) (j := 4) (r := 135) dX3_changePage_55 rfl (congrArg Prod.fst (zl_at HX (k := 1) (t := (3, 7)) rfl (by decide) (by decide))) (by decide) (zl_lt HX (by decide)) (by decide) fl_X3_34 rfl (zl_rf HX rfl (by decide) (by decide)) ?_
      refine zg_getR E (ci := 0) (j := 2) (r := 154) dX3_changePage_58 rfl (congrArg Prod.fst (zl_at HX (k := 135) (t := (0, 4)) rfl (by decide) (by decide))) (by decide) (zl_lt HX (by decide)) (by decide) fl_X3_75 rfl (zl_rf HX rfl (by decide) (by decide)) ?_
      refine zg_iload_n dX3_changePage_61 rfl ?_
      refine zg_iconst (v := nI 0) dX3_changePage_62 (by decide) ?_
      refine zg_zast E (j := p) (y := nI 0) dX3_changePage_63 (zl_at HX (k := 154) (t := (11, 16)) rfl (by decide) (by decide)) (by decide) (zl_lt HX (by decide)) rfl (by omega) (by decide) rfl ?_
      exact zg_vret rfl dX3_changePage_64 ⟨rfl, _, rfl, zr_Xc hX hH.1 (zk_add hX.2.2.2.2.2 hp h hs0 hg (congrArg (fun x => zw_up (zw_up _ 135 3 (x + nI 1)) 154 p (nI 0)) (congrFun (zw_ro_n _ _ (by omega)) 3))) hfr, hfr⟩
    · exact absurd h18 (fun z => absurd (z ▸ nI_pos (by omega : s < 2 ^ 31)) (by decide))
set_option maxHeartbeats 4000000 in
set_option maxRecDepth 100000 in
theorem kt_change_n {V : zv_V} (E : zv_OK V) {w : zw_W} (HX : zl_X w) {D : Nat → Nat → Nat} {H : za_H} {b : Bool} {L S : za_T} {C : za_C} {p : Nat} (hp : p < 16) (hX : zr_X (zw_i w) D H b L S C) (hH : za_WH H) (h : C.1 p = 0) (wL : za_WT L) (wS : za_WT S) (wC : za_WC C) (hr : za_ff L S C.1 (-1)) : zg_C V zm_X3_changePage yX3_changePage 6 130 [.ref 1, .int (nI p)] w (zq_p (.inr 21) (· = zw_nw w (21, 6))) := by
  refine zg_of (by decide +kernel) rfl (Nat.le_of_ble_eq_true rfl) ?_
  show zg_G V zm_X3_changePage 6 130 w.1 w.2.1 0 [] [(0, .ref 1), (1, .int (nI p))] w _
  have hn : zw_i w 136 p = nI 0 := (hX.2.2.2.2.2.1 p hp).trans (congrArg nI h)
  refine zg_aload_n dX3_changePage_0 rfl ?_
  refine zg_getR E (ci := 3) (j := 4) (r := 135) dX3_changePage_1 rfl (congrArg Prod.fst (zl_at HX (k := 1) (t := (3, 7)) rfl (by decide) (by decide))) (by decide) (zl_lt HX (by decide)) (by decide) fl_X3_34 rfl (zl_rf HX rfl (by decide) (by decide)) ?_
  refine zg_iload_n dX3_changePage_4 rfl ?_
  refine zg_vrt (M := zm_X3_changePage) E (ci := 0) dX3_changePage_5 (ct_has_n E HX hp hn) wd_X3_68 rfl (congrArg Prod.fst (zl_at HX (k := 135) (t := (0, 4)) rfl (by decide) (by decide))) (by decide) (zl_lt HX (by decide)) rfl dh_X0_has dn_X0_has (Nat.le_of_ble_eq_true rfl) (Nat.le_of_ble_eq_true rfl) (Nat.le_of_ble_eq_true rfl) (zl_cap HX) rfl (fun w5 g5 => ?_)
  subst w5
  refine zg_if_ne (tgt := 54) dX3_changePage_8 (by decide) (fun h8 => ?_) (fun h8 => ?_)
  · exact absurd rfl h8
  · refine zg_aload_n dX3_changePage_11 rfl ?_
    refine zg_vrt (M := zm_X3_changePage) E (ci := 3) dX3_changePage_12 (kt_leastFree E HX hX wL wS wC hr) wd_X3_100 rfl (congrArg Prod.fst (zl_at HX (k := 1) (t := (3, 7)) rfl (by decide) (by decide))) (by decide) (zl_lt HX (by decide)) rfl dh_X3_leastFree dn_X3_leastFree (Nat.le_of_ble_eq_true rfl) (Nat.le_of_ble_eq_true rfl) (Nat.le_of_ble_eq_true rfl) (zl_cap HX) rfl (fun w12 g12 => ?_)
    subst w12
    refine zg_istore_n (lv' := [(2, .int ((-1))), (0, .ref 1), (1, .int (nI p))]) dX3_changePage_15 (by decide) rfl ?_
    refine zg_iload_n dX3_changePage_16 rfl ?_
    refine zg_iconst (v := (-1)) dX3_changePage_17 (by decide) ?_
    refine zg_icmp_ne (tgt := 31) dX3_changePage_18 (by decide) (fun h18 => ?_) (fun h18 => ?_)
    · exact absurd rfl h18
    · exact zg_throw (M := zm_X3_changePage) E 21 (text := "no sector is free for the page") (by decide) rfl rfl dX3_changePage_21 dX3_changePage_24 dX3_changePage_25 dX3_changePage_27 dX3_changePage_30 (by decide +kernel) (by decide +kernel) (by decide +kernel) tw_21_93 (zt_cap HX).1 (zt_cap HX).2.1 (zt_cap HX).2.2 (Nat.le_of_ble_eq_true rfl) (Nat.le_of_ble_eq_true rfl) ⟨rfl, rfl⟩
end
section
/-! The class's commit: pages and table held back, turned over. -/
set_option maxHeartbeats 4000000 in
set_option maxRecDepth 100000 in
theorem kt_holdBack {V : zv_V} (E : zv_OK V) {w : zw_W} (HX : zl_X w) {D : Nat → Nat → Nat} {H : za_H} {b : Bool} {L S : za_T} {C : za_C} {p : Nat} (hp : p < 16) (hX : zr_X (zw_i w) D H b L S C) (hH : za_WH H) (h : C.1 p ≠ 0) (h77 : H.1 < 77) : zg_C V zm_X3_holdBackPage yX3_holdBackPage 2 130 [.ref 1, .int (nI p)] w (zq_p (.inl none) (zr_to w 0 156 (zr_X · D (za_hold H (C.1 p) (C.2.1 p)) b L S (za_spl C p true)))) := by
  refine zg_of (by decide +kernel) rfl (Nat.le_of_ble_eq_true rfl) ?_
  show zg_G V zm_X3_holdBackPage 2 130 w.1 w.2.1 0 [] [(0, .ref 1), (1, .int (nI p))] w _
  refine zg_aload_n dX3_holdBackPage_0 rfl ?_
  refine zg_getR E (ci := 3) (j := 1) (r := 51) dX3_holdBackPage_1 rfl (congrArg Prod.fst (zl_at HX (k := 1) (t := (3, 7)) rfl (by decide) (by decide))) (by decide) (zl_lt HX (by decide)) (by decide) fl_X3_17 rfl (zl_rf HX rfl (by decide) (by decide)) ?_
  refine zg_aload_n dX3_holdBackPage_4 rfl ?_
  refine zg_getR E (ci := 3) (j := 4) (r := 135) dX3_holdBackPage_5 rfl (congrArg Prod.fst (zl_at HX (k := 1) (t := (3, 7)) rfl (by decide) (by decide))) (by decide) (zl_lt HX (by decide)) (by decide) fl_X3_34 rfl (zl_rf HX rfl (by decide) (by decide)) ?_
  refine zg_getR E (ci := 0) (j := 0) (r := 136) dX3_holdBackPage_8 rfl (congrArg Prod.fst (zl_at HX (k := 135) (t := (0, 4)) rfl (by decide) (by decide))) (by decide) (zl_lt HX (by decide)) (by decide) fl_X3_222 rfl (zl_rf HX rfl (by decide) (by decide)) ?_
  refine zg_iload_n dX3_holdBackPage_11 rfl ?_
  refine zg_iald E (j := p) dX3_holdBackPage_12 (zl_at HX (k := 136) (t := (10, 16)) rfl (by decide) (by decide)) (by decide) (zl_lt HX (by decide)) rfl (by omega) (by decide) ?_
  refine zg_v (x' := nI (C.1 p)) (hX.2.2.2.2.2.1 p hp) ?_
  refine zg_aload_n dX3_holdBackPage_13 rfl ?_
  refine zg_getR E (ci := 3) (j := 4) (r := 135) dX3_holdBackPage_14 rfl (congrArg Prod.fst (zl_at HX (k := 1) (t := (3, 7)) rfl (by decide) (by decide))) (by decide) (zl_lt HX (by decide)) (by decide) fl_X3_34 rfl (zl_rf HX rfl (by decide) (by decide)) ?_
  refine zg_getR E (ci := 0) (j := 1) (r := 137) dX3_holdBackPage_17 rfl (congrArg Prod.fst (zl_at HX (k := 135) (t := (0, 4)) rfl (by decide) (by decide))) (by decide) (zl_lt HX (by decide)) (by decide) fl_X3_61 rfl (zl_rf HX rfl (by decide) (by decide)) ?_
  refine zg_iload_n dX3_holdBackPage_20 rfl ?_
  refine zg_aald E (j := p) (r := 138 + p) dX3_holdBackPage_21 (zl_at HX (k := 137) (t := (13, 16)) rfl (by decide) (by decide)) (by decide) (zl_lt HX (by decide)) rfl (by omega) (by decide) (zl_rf HX (zl_pag (by omega)).2 (by decide) (by decide)) ?_
  refine zg_vrt (M := zm_X3_holdBackPage) E (ci := 1) dX3_holdBackPage_22 (kt_rowadd E HX hX.2.1 h77 (zl_at HX (zl_pag hp).1 (by omega) (by omega)) (by omega) (zl_lt HX (by omega)) (by omega) (hX.2.2.2.2.2.2.2 p hp h).1) wd_X3_239 rfl (congrArg Prod.fst (zl_at HX (k := 51) (t := (1, 3)) rfl (by decide) (by decide))) (by decide) (zl_lt HX (by decide)) rfl dh_X1_add dn_X1_add (Nat.le_of_ble_eq_true rfl) (Nat.le_of_ble_eq_true rfl) (Nat.le_of_ble_eq_true rfl) (zl_cap HX) rfl (fun w22 g22 => ?_)
  obtain ⟨J1, rfl, r1, f1⟩ := g22
  have hx1 := zr_Xh hX r1 f1
  refine zg_w (w' := zw_I w J1) rfl ?_
  refine zg_aload_n dX3_holdBackPage_25 rfl ?_
  refine zg_getR E (ci := 3) (j := 4) (r := 135) dX3_holdBackPage_26 rfl (congrArg Prod.fst (zl_at HX (k := 1) (t := (3, 7)) rfl (by decide) (by decide))) (by decide) (zl_lt HX (by decide)) (by decide) fl_X3_34 rfl (zl_rf HX rfl (by decide) (by decide)) ?_
  refine zg_getR E (ci := 0) (j := 2) (r := 154) dX3_holdBackPage_29 rfl (congrArg Prod.fst (zl_at HX (k := 135) (t := (0, 4)) rfl (by decide) (by decide))) (by decide) (zl_lt HX (by decide)) (by decide) fl_X3_75 rfl (zl_rf HX rfl (by decide) (by decide)) ?_
  refine zg_iload_n dX3_holdBackPage_32 rfl ?_
  refine zg_iconst (v := nI 1) dX3_holdBackPage_33 (by decide) ?_
  refine zg_zast E (j := p) (y := nI 1) dX3_holdBackPage_34 (zl_at HX (k := 154) (t := (11, 16)) rfl (by decide) (by decide)) (by decide) (zl_lt HX (by decide)) rfl (by omega) (by decide) rfl ?_
  exact zg_vret rfl dX3_holdBackPage_35 ⟨rfl, _, rfl, zr_Xc hx1 h77 (zk_spl (z := true) hx1.2.2.2.2.2 rfl) (fun a ha => zw_up_row _ _ _ (by omega)), fun a ha => (zw_up_row _ _ _ (by omega)).trans (f1 a (by omega))⟩
theorem kt_has {V : zv_V} (E : zv_OK V) {w : zw_W} (HX : zl_X w) {C : za_C} {p : Nat} (hp : p < 16) (hC : zr_C (zw_i w) C) (wC : za_WC C) {bz : Bool} (hb : bz = true ↔ C.1 p ≠ 0) : zg_C V zm_X0_has yX0_has 0 0 [.ref 135, .int (nI p)] w (zq_p (.inl (some (.int (za_bit bz)))) (· = w)) := by
  cases bz
  · have h : C.1 p = 0 := Classical.byContradiction fun z => absurd (hb.mpr z) (by decide)
    exact ct_has_n E HX hp ((hC.1 p hp).trans (congrArg nI h))
  · exact ct_has_y E HX hp (fun z => hb.mp rfl ((nI_eq (by have := wC.1 p hp; omega) (by decide)).mp ((hC.1 p hp).symm.trans z)))
theorem kt_openPlace {V : zv_V} (E : zv_OK V) {w : zw_W} (HX : zl_X w) {L : za_T} {C : za_C} {p : Nat} (hp : p < 16) (hL : zw_i w 132 p = nI (L.1 p)) (hC : zr_C (zw_i w) C) (wC : za_WC C) : zg_C V zm_X3_openPlace yX3_openPlace 1 21 [.ref 1, .int (nI p)] w (zq_p (.inl (some (.int (nI (za_op L C p))))) (· = w)) := by
  unfold za_op
  by_cases h : C.1 p = 0
  · rw [if_pos h, ← hL]
    exact ct_openPlace_n E HX hp ((hC.1 p hp).trans (congrArg nI h))
  · rw [if_neg h, ← hC.1 p hp]
    exact ct_openPlace_y E HX hp (fun z => h ((nI_eq (by have := wC.1 p hp; omega) (by decide)).mp ((hC.1 p hp).symm.trans z)))
set_option maxHeartbeats 4000000 in
set_option maxRecDepth 100000 in
theorem lp_unsp {V : zv_V} (E : zv_OK V) {w : zw_W} {n0 u0 : Nat} {Q : zg_O → zw_W → Prop} (HX : zl_X w) {D : Nat → Nat → Nat} {H : za_H} {b : Bool} {L S : za_T} {C : za_C} (hH : za_WH H) (h60 : H.1 ≤ 60) (wC : za_WC C) (hq : ∀ J Z, zr_X J D (za_un C H 16) b L S (C.1, C.2.1, Z) → (∀ a, 156 ≤ a → J a = zw_i w a) → Q (.inl none) (zw_I w J)) : ∀ (n i : Nat) (J : Nat → Nat → Int32) (Z : Nat → Bool), i ≤ 16 → 16 + 1 ≤ i + n → zr_X J D (za_un C H i) b L S (C.1, C.2.1, Z) → (∀ q, i ≤ q → Z q = C.2.2 q) → (∀ a, 156 ≤ a → J a = zw_i w a) → zg_G V zm_X3_holdBackUnspilledPages 3 160 n0 u0 2 [] [(1, .int (nI i)), (0, .ref 1)] (zw_I w J) Q := by
  intro n
  induction n with
  | zero =>
    intro i J Z hi hn
    exact absurd hn (by omega)
  | succ n ih =>
    intro i J Z hi hn k0 k1 k2
    refine zg_iload_n dX3_holdBackUnspilledPages_2 rfl ?_
    refine zg_bipush (v := nI 16) dX3_holdBackUnspilledPages_3 (by decide) ?_
    refine zg_icmp_ge (tgt := 42) dX3_holdBackUnspilledPages_5 (by decide) (fun h5 => ?_) (fun h5 => ?_)
    · obtain rfl : i = 16 := by have := zn_ge h5 (by omega) (by omega); omega
      exact zg_vret rfl dX3_holdBackUnspilledPages_42 (hq J Z k0 k2)
    · have hlt : i < 16 := zn_lt h5 (by omega) (by omega)
      have hle := za_un_le C H i
      have hWi := za_un_W hH h60 wC i (by omega)
      have hbz : ∃ bz : Bool, bz = true ↔ C.1 i ≠ 0 := zb_ex _
      obtain ⟨bz, hbz⟩ := hbz
      refine zg_aload_n dX3_holdBackUnspilledPages_8 rfl ?_
      refine zg_getR E (ci := 3) (j := 4) (r := 135) dX3_holdBackUnspilledPages_9 rfl (congrArg Prod.fst (zl_at HX (k := 1) (t := (3, 7)) rfl (by decide) (by decide))) (by decide) (zl_lt HX (by decide)) (by decide) fl_X3_34 rfl (zl_rf HX rfl (by decide) (by decide)) ?_
      refine zg_iload_n dX3_holdBackUnspilledPages_12 rfl ?_
      refine zg_vrt (M := zm_X3_holdBackUnspilledPages) E (ci := 0) dX3_holdBackUnspilledPages_13 (kt_has (w := zw_I w J) E HX hlt k0.2.2.2.2.2 wC hbz) wd_X3_68 rfl (congrArg Prod.fst (zl_at HX (k := 135) (t := (0, 4)) rfl (by decide) (by decide))) (by decide) (zl_lt HX (by decide)) rfl dh_X0_has dn_X0_has (Nat.le_of_ble_eq_true rfl) (Nat.le_of_ble_eq_true rfl) (Nat.le_of_ble_eq_true rfl) (zl_cap HX) rfl (fun w13 g13 => ?_)
      subst w13
      refine zg_if_eq (tgt := 36) dX3_holdBackUnspilledPages_16 (by decide) (fun h16 => ?_) (fun h16 => ?_)
      · have hun : za_un C H (i + 1) = za_un C H i := if_neg (fun z => absurd (hbz.mpr z.1) (by rw [za_bit0 h16]; decide))
        refine zg_iinc (v := nI (i + 1)) (lv' := [(1, .int (nI (i + 1))), (0, .ref 1)]) dX3_holdBackUnspilledPages_36 rfl (nI_1 i) (by decide) rfl ?_
        refine zg_goto (tgt := 2) dX3_holdBackUnspilledPages_39 (by decide) ?_
        refine zg_l [0, 1] rfl ?_
        exact zg_s rfl rfl rfl (ih (i + 1) J Z (by omega) (by omega) (by rw [hun]; exact k0) (fun q hq => k1 q (by omega)) k2)
      · have h0 := hbz.mp (za_bit1 h16)
        refine zg_aload_n dX3_holdBackUnspilledPages_19 rfl ?_
        refine zg_getR E (ci := 3) (j := 4) (r := 135) dX3_holdBackUnspilledPages_20 rfl (congrArg Prod.fst (zl_at HX (k := 1) (t := (3, 7)) rfl (by decide) (by decide))) (by decide) (zl_lt HX (by decide)) (by decide) fl_X3_34 rfl (zl_rf HX rfl (by decide) (by decide)) ?_
        refine zg_getR E (ci := 0) (j := 2) (r := 154) dX3_holdBackUnspilledPages_23 rfl (congrArg Prod.fst (zl_at HX (k := 135) (t := (0, 4)) rfl (by decide) (by decide))) (by decide) (zl_lt HX (by decide)) (by decide) fl_X3_75 rfl (zl_rf HX rfl (by decide) (by decide)) ?_
        refine zg_iload_n dX3_holdBackUnspilledPages_26 rfl ?_
        refine zg_zald E (j := i) dX3_holdBackUnspilledPages_27 (zl_at HX (k := 154) (t := (11, 16)) rfl (by decide) (by decide)) (by decide) (zl_lt HX (by decide)) rfl (by omega) (by decide) ?_
        refine zg_v (x' := za_bit (Z i)) (k0.2.2.2.2.2.2.2 i hlt h0).2 ?_
        refine zg_if_ne (tgt := 36) dX3_holdBackUnspilledPages_28 (by decide) (fun h28 => ?_) (fun h28 => ?_)
        · have hun : za_un C H (i + 1) = za_un C H i := if_neg (fun z => absurd (k1 i (Nat.le_refl i)) (by rw [za_bit1 h28, z.2]; decide))
          refine zg_iinc (v := nI (i + 1)) (lv' := [(1, .int (nI (i + 1))), (0, .ref 1)]) dX3_holdBackUnspilledPages_36 rfl (nI_1 i) (by decide) rfl ?_
          refine zg_goto (tgt := 2) dX3_holdBackUnspilledPages_39 (by decide) ?_
          refine zg_l [0, 1] rfl ?_
          exact zg_s rfl rfl rfl (ih (i + 1) J Z (by omega) (by omega) (by rw [hun]; exact k0) (fun q hq => k1 q (by omega)) k2)
        · have hun : za_un C H (i + 1) = za_hold (za_un C H i) (C.1 i) (C.2.1 i) := if_pos ⟨h0, (k1 i (Nat.le_refl i)).symm.trans (za_bit0 h28)⟩
          refine zg_aload_n dX3_holdBackUnspilledPages_31 rfl ?_
          refine zg_iload_n dX3_holdBackUnspilledPages_32 rfl ?_
          refine zg_vrt (M := zm_X3_holdBackUnspilledPages) E (ci := 3) dX3_holdBackUnspilledPages_33 (kt_holdBack (w := zw_I w J) E HX hlt k0 hWi h0 (by omega)) wd_X3_94 rfl (congrArg Prod.fst (zl_at HX (k := 1) (t := (3, 7)) rfl (by decide) (by decide))) (by decide) (zl_lt HX (by decide)) rfl dh_X3_holdBackPage dn_X3_holdBackPage (Nat.le_of_ble_eq_true rfl) (Nat.le_of_ble_eq_true rfl) (Nat.le_of_ble_eq_true rfl) (zl_cap HX) rfl (fun w33 g33 => ?_)
          obtain ⟨J1, rfl, r1, f1⟩ := g33
          refine zg_w (w' := zw_I w J1) rfl ?_
          refine zg_iinc (v := nI (i + 1)) (lv' := [(1, .int (nI (i + 1))), (0, .ref 1)]) dX3_holdBackUnspilledPages_36 rfl (nI_1 i) (by decide) rfl ?_
          refine zg_goto (tgt := 2) dX3_holdBackUnspilledPages_39 (by decide) ?_
          refine zg_l [0, 1] rfl ?_
          exact zg_s rfl rfl rfl (ih (i + 1) J1 (zw_ro Z i true) (by omega) (by omega) (by rw [hun]; exact r1) (fun q hq => (zw_ro_n _ _ (by omega)).trans (k1 q (by omega))) (fun a ha => (f1 a (Or.inr ha)).trans (k2 a ha)))
set_option maxHeartbeats 4000000 in
set_option maxRecDepth 100000 in
theorem kt_unsp {V : zv_V} (E : zv_OK V) {w : zw_W} (HX : zl_X w) {D : Nat → Nat → Nat} {H : za_H} {b : Bool} {L S : za_T} {C : za_C} (hX : zr_X (zw_i w) D H b L S C) (hH : za_WH H) (h60 : H.1 ≤ 60) (wC : za_WC C) : zg_C V zm_X3_holdBackUnspilledPages yX3_holdBackUnspilledPages 3 160 [.ref 1] w (zq_p (.inl none) (zr_to w 0 156 (fun J => ∃ Z, zr_X J D (za_un C H 16) b L S (C.1, C.2.1, Z)))) := by
  refine zg_of (by decide +kernel) rfl (Nat.le_of_ble_eq_true rfl) ?_
  show zg_G V zm_X3_holdBackUnspilledPages 3 160 w.1 w.2.1 0 [] [(0, .ref 1)] w _
  refine zg_iconst (v := nI 0) dX3_holdBackUnspilledPages_0 (by decide) ?_
  refine zg_istore_n (lv' := [(1, .int (nI 0)), (0, .ref 1)]) dX3_holdBackUnspilledPages_1 (by decide) rfl ?_
  exact zg_s rfl rfl rfl (lp_unsp E HX hH h60 wC (fun J Z h1 h2 => ⟨rfl, J, rfl, ⟨Z, h1⟩, fun a ha => (ha.elim (fun z => absurd z (Nat.not_lt_zero _)) (h2 a) : J a = zw_i w a)⟩) 17 0 (zw_i w) C.2.2 (by omega) (by omega) hX (fun q _ => rfl) (fun a _ => rfl))
set_option maxHeartbeats 4000000 in
set_option maxRecDepth 100000 in
theorem lp_table {V : zv_V} (E : zv_OK V) {w : zw_W} {n0 u0 : Nat} {Q : zg_O → zw_W → Prop} (HX : zl_X w) {D : Nat → Nat → Nat} {H : za_H} {b : Bool} {L S : za_T} {C : za_C} (hX : zr_X (zw_i w) D H b L S C) (hH : za_WH H) (h77 : H.1 < 77) (wC : za_WC C) {t : Nat} (hq : ∀ J, zr_X J D (za_hold H t (za_op L C)) b L S C → (∀ a, 156 ≤ a → J a = zw_i w a) → Q (.inl none) (zw_I w J)) : ∀ (n i : Nat) (J : Nat → Nat → Int32), i ≤ 16 → 16 + 1 ≤ i + n → (∀ q, q < i → J 155 q = nI (za_op L C q)) → (∀ a, a < 155 ∨ 156 ≤ a → J a = zw_i w a) → zg_G V zm_X3_holdBackTable 2 130 n0 u0 2 [] [(2, .int (nI i)), (0, .ref 1), (1, .int (nI t))] (zw_I w J) Q := by
  intro n
  induction n with
  | zero =>
    intro i J hi hn
    exact absurd hn (by omega)
  | succ n ih =>
    intro i J hi hn k0 k1
    have hx : zr_X J D H b L S C := zr_Xf hX hH.1 k1
    refine zg_iload_n dX3_holdBackTable_2 rfl ?_
    refine zg_bipush (v := nI 16) dX3_holdBackTable_3 (by decide) ?_
    refine zg_icmp_ge (tgt := 25) dX3_holdBackTable_5 (by decide) (fun h5 => ?_) (fun h5 => ?_)
    · obtain rfl : i = 16 := by have := zn_ge h5 (by omega) (by omega); omega
      refine zg_aload_n dX3_holdBackTable_25 rfl ?_
      refine zg_getR E (ci := 3) (j := 1) (r := 51) dX3_holdBackTable_26 rfl (congrArg Prod.fst (zl_at HX (k := 1) (t := (3, 7)) rfl (by decide) (by decide))) (by decide) (zl_lt HX (by decide)) (by decide) fl_X3_17 rfl (zl_rf HX rfl (by decide) (by decide)) ?_
      refine zg_iload_n dX3_holdBackTable_29 rfl ?_
      refine zg_aload_n dX3_holdBackTable_30 rfl ?_
      refine zg_getR E (ci := 3) (j := 5) (r := 155) dX3_holdBackTable_31 rfl (congrArg Prod.fst (zl_at HX (k := 1) (t := (3, 7)) rfl (by decide) (by decide))) (by decide) (zl_lt HX (by decide)) (by decide) fl_X3_38 rfl (zl_rf HX rfl (by decide) (by decide)) ?_
      refine zg_vrt (M := zm_X3_holdBackTable) E (ci := 1) dX3_holdBackTable_34 (kt_rowadd (w := zw_I w J) E HX hx.2.1 h77 (zl_at HX (k := 155) (t := (10, 16)) rfl (by decide) (by decide)) (by decide) (zl_lt HX (by decide)) (by decide) k0) wd_X3_239 rfl (congrArg Prod.fst (zl_at HX (k := 51) (t := (1, 3)) rfl (by decide) (by decide))) (by decide) (zl_lt HX (by decide)) rfl dh_X1_add dn_X1_add (Nat.le_of_ble_eq_true rfl) (Nat.le_of_ble_eq_true rfl) (Nat.le_of_ble_eq_true rfl) (zl_cap HX) rfl (fun w34 g34 => ?_)
      obtain ⟨J1, rfl, r1, f1⟩ := g34
      refine zg_w (w' := zw_I w J1) rfl ?_
      exact zg_vret rfl dX3_holdBackTable_37 (hq J1 (zr_Xh hx r1 f1) (fun a ha => (f1 a (by omega)).trans (k1 a (by omega))))
    · have hlt : i < 16 := zn_lt h5 (by omega) (by omega)
      refine zg_aload_n dX3_holdBackTable_8 rfl ?_
      refine zg_getR E (ci := 3) (j := 5) (r := 155) dX3_holdBackTable_9 rfl (congrArg Prod.fst (zl_at HX (k := 1) (t := (3, 7)) rfl (by decide) (by decide))) (by decide) (zl_lt HX (by decide)) (by decide) fl_X3_38 rfl (zl_rf HX rfl (by decide) (by decide)) ?_
      refine zg_iload_n dX3_holdBackTable_12 rfl ?_
      refine zg_aload_n dX3_holdBackTable_13 rfl ?_
      refine zg_iload_n dX3_holdBackTable_14 rfl ?_
      refine zg_vrt (M := zm_X3_holdBackTable) E (ci := 3) dX3_holdBackTable_15 (kt_openPlace (w := zw_I w J) (L := L) E HX hlt (hx.2.2.2.1.1 i hlt) hx.2.2.2.2.2 wC) wd_X3_140 rfl (congrArg Prod.fst (zl_at HX (k := 1) (t := (3, 7)) rfl (by decide) (by decide))) (by decide) (zl_lt HX (by decide)) rfl dh_X3_openPlace dn_X3_openPlace (Nat.le_of_ble_eq_true rfl) (Nat.le_of_ble_eq_true rfl) (Nat.le_of_ble_eq_true rfl) (zl_cap HX) rfl (fun w15 g15 => ?_)
      subst w15
      refine zg_iast E (j := i) dX3_holdBackTable_18 (zl_at HX (k := 155) (t := (10, 16)) rfl (by decide) (by decide)) (by decide) (zl_lt HX (by decide)) rfl (by omega) (by decide) ?_
      refine zg_iinc (v := nI (i + 1)) (lv' := [(2, .int (nI (i + 1))), (0, .ref 1), (1, .int (nI t))]) dX3_holdBackTable_19 rfl (nI_1 i) (by decide) rfl ?_
      refine zg_goto (tgt := 2) dX3_holdBackTable_22 (by decide) ?_
      refine zg_l [0, 1, 2] rfl ?_
      exact zg_s rfl rfl rfl (ih (i + 1) _ (by omega) (by omega) (fun q hq => (Nat.lt_or_ge q i).elim (fun z => (zw_up_n _ _ (Or.inr (by omega))).trans (k0 q z)) (fun z => by have e : q = i := (by omega); subst e; exact zw_up_s _ _ _ _)) (fun a ha => (zw_up_row _ _ _ (by omega)).trans (k1 a ha)))
set_option maxHeartbeats 4000000 in
set_option maxRecDepth 100000 in
theorem kt_table {V : zv_V} (E : zv_OK V) {w : zw_W} (HX : zl_X w) {D : Nat → Nat → Nat} {H : za_H} {b : Bool} {L S : za_T} {C : za_C} (hX : zr_X (zw_i w) D H b L S C) (hH : za_WH H) (h77 : H.1 < 77) (wC : za_WC C) {t : Nat} : zg_C V zm_X3_holdBackTable yX3_holdBackTable 2 130 [.ref 1, .int (nI t)] w (zq_p (.inl none) (zr_to w 0 156 (zr_X · D (za_hold H t (za_op L C)) b L S C))) := by
  refine zg_of (by decide +kernel) rfl (Nat.le_of_ble_eq_true rfl) ?_
  show zg_G V zm_X3_holdBackTable 2 130 w.1 w.2.1 0 [] [(0, .ref 1), (1, .int (nI t))] w _
  refine zg_iconst (v := nI 0) dX3_holdBackTable_0 (by decide) ?_
  refine zg_istore_n (lv' := [(2, .int (nI 0)), (0, .ref 1), (1, .int (nI t))]) dX3_holdBackTable_1 (by decide) rfl ?_
  exact zg_s rfl rfl rfl (lp_table E HX hX hH h77 wC (fun J h1 h2 => ⟨rfl, J, rfl, h1, fun a ha => (ha.elim (fun z => absurd z (Nat.not_lt_zero _)) (h2 a) : J a = zw_i w a)⟩) 17 0 (zw_i w) (by omega) (by omega) (fun q hq => absurd hq (Nat.not_lt_zero q)) (fun a _ => rfl))
theorem zk_tu {J : Nat → Nat → Int32} {L : za_T} {C : za_C} {i : Nat} (h : ∀ q, q < 16 → J 132 q = nI (if q < i then za_op L C q else L.1 q)) : ∀ q, q < 16 → zw_up J 132 i (nI (za_op L C i)) 132 q = nI (if q < i + 1 then za_op L C q else L.1 q) := by
  intro q hq
  by_cases e : q = i
  · rw [e, zw_up_s, if_pos (Nat.lt_succ_self i)]
  · rw [zw_up_n _ _ (Or.inr e), h q hq]
    by_cases g : q < i
    · rw [if_pos g, if_pos (by omega)]
    · rw [if_neg g, if_neg (by omega)]
theorem zk_t2 {I J K : Nat → Nat → Int32} {D : Nat → Nat → Nat} {H : za_H} {b : Bool} {L S : za_T} {C : za_C} {t : Nat} (hX : zr_X I D H b L S C) (w : H.1 ≤ 77) (h : ∀ q, q < 16 → J 132 q = nI (if q < 16 then za_op L C q else L.1 q)) (g : ∀ a, a < 132 ∨ 133 ≤ a → J a = I a) (e : K = zw_up (zw_up J 131 1 (nI t)) 131 2 (zw_up J 131 1 (nI t) 131 2 + nI 1)) : zr_X K D H b (za_op L C, t, L.2.2 + nI 1) S C := by
  subst e
  refine zr_Xl hX w ⟨fun p hp => ?_, ?_, ?_⟩ (fun a ha => (zw_up_row _ _ _ (by omega)).trans ((zw_up_row _ _ _ (by omega)).trans (g a (by omega))))
  · rw [zw_up_row _ _ _ (by decide), zw_up_row _ _ _ (by decide), h p hp, if_pos hp]
  · rw [zw_up_n _ _ (by decide), zw_up_s]
  · rw [zw_up_s, zw_up_n _ _ (by decide), g 131 (by omega), hX.2.2.2.1.2.2]
set_option maxHeartbeats 4000000 in
set_option maxRecDepth 100000 in
theorem lp_turn {V : zv_V} (E : zv_OK V) {w : zw_W} {n0 u0 : Nat} {Q : zg_O → zw_W → Prop} (HX : zl_X w) {D : Nat → Nat → Nat} {H : za_H} {b : Bool} {L S : za_T} {C : za_C} (hX : zr_X (zw_i w) D H b L S C) (hH : za_WH H) (h77 : H.1 < 77) (wC : za_WC C) {t : Nat} (ht : t < 48) (hq : ∀ J, zr_X J D (za_hold H 0 (za_ms (L.2.2 + nI 1) t)) b (za_op L C, t, L.2.2 + nI 1) S za_C0 → (∀ a, 156 ≤ a → J a = zw_i w a) → Q (.inl none) (zw_I w J)) : ∀ (n i : Nat) (J : Nat → Nat → Int32), i ≤ 16 → 16 + 1 ≤ i + n → (∀ q, q < 16 → J 132 q = nI (if q < i then za_op L C q else L.1 q)) → (∀ a, a < 132 ∨ 133 ≤ a → J a = zw_i w a) → zg_G V zm_X3_turnOver 2 130 n0 u0 2 [] [(2, .int (nI i)), (0, .ref 1), (1, .int (nI t))] (zw_I w J) Q := by
  intro n
  induction n with
  | zero =>
    intro i J hi hn
    exact absurd hn (by omega)
  | succ n ih =>
    intro i J hi hn k0 k1
    have hc : zr_C J C := zr_Ce hX.2.2.2.2.2 (fun a h1 h2 i => congrFun (k1 a (by omega)) i)
    refine zg_iload_n dX3_turnOver_2 rfl ?_
    refine zg_bipush (v := nI 16) dX3_turnOver_3 (by decide) ?_
    refine zg_icmp_ge (tgt := 28) dX3_turnOver_5 (by decide) (fun h5 => ?_) (fun h5 => ?_)
    · obtain rfl : i = 16 := by have := zn_ge h5 (by omega) (by omega); omega
      refine zg_aload_n dX3_turnOver_28 rfl ?_
      refine zg_getR E (ci := 3) (j := 2) (r := 131) dX3_turnOver_29 rfl (congrArg Prod.fst (zl_at HX (k := 1) (t := (3, 7)) rfl (by decide) (by decide))) (by decide) (zl_lt HX (by decide)) (by decide) fl_X3_24 rfl (zl_rf HX rfl (by decide) (by decide)) ?_
      refine zg_iload_n dX3_turnOver_32 rfl ?_
      refine zg_putI E (ci := 2) (j := 1) dX3_turnOver_33 rfl (congrArg Prod.fst (zl_at HX (k := 131) (t := (2, 3)) rfl (by decide) (by decide))) (by decide) (zl_lt HX (by decide)) (by decide) fl_X3_173 rfl rfl rfl rfl ?_
      refine zg_aload_n dX3_turnOver_36 rfl ?_
      refine zg_getR E (ci := 3) (j := 2) (r := 131) dX3_turnOver_37 rfl (congrArg Prod.fst (zl_at HX (k := 1) (t := (3, 7)) rfl (by decide) (by decide))) (by decide) (zl_lt HX (by decide)) (by decide) fl_X3_24 rfl (zl_rf HX rfl (by decide) (by decide)) ?_
      refine zg_dup dX3_turnOver_40 rfl ?_
      refine zg_getI E (ci := 2) (j := 2) dX3_turnOver_41 rfl (congrArg Prod.fst (zl_at HX (k := 131) (t := (2, 3)) rfl (by decide) (by decide))) (by decide) (zl_lt HX (by decide)) (by decide) fl_X3_118 rfl ?_
      refine zg_iconst (v := nI 1) dX3_turnOver_44 (by decide) ?_
      refine zg_iadd dX3_turnOver_45 ?_
      refine zg_putI E (ci := 2) (j := 2) dX3_turnOver_46 rfl (congrArg Prod.fst (zl_at HX (k := 131) (t := (2, 3)) rfl (by decide) (by decide))) (by decide) (zl_lt HX (by decide)) (by decide) fl_X3_118 rfl rfl rfl rfl ?_
      obtain ⟨J2, e2, hx2, hf2⟩ : ∃ K, zw_si (zw_si (zw_I w J) 131 1 (nI t)) 131 2 ((zw_i (zw_si (zw_I w J) 131 1 (nI t)) 131 2) + (nI 1)) = zw_I w K ∧ (zr_X K D H b (za_op L C, t, L.2.2 + nI 1) S C) ∧ ∀ a, 156 ≤ a → K a = zw_i w a := ⟨_, rfl, zk_t2 hX hH.1 k0 k1 rfl, fun a ha => (zw_up_row _ _ _ (by omega)).trans ((zw_up_row _ _ _ (by omega)).trans (k1 a (by omega)))⟩
      refine zg_w e2.symm ?_
      refine zg_aload_n dX3_turnOver_49 rfl ?_
      refine zg_getR E (ci := 3) (j := 4) (r := 135) dX3_turnOver_50 rfl (congrArg Prod.fst (zl_at HX (k := 1) (t := (3, 7)) rfl (by decide) (by decide))) (by decide) (zl_lt HX (by decide)) (by decide) fl_X3_34 rfl (zl_rf HX rfl (by decide) (by decide)) ?_
      refine zg_vrt (M := zm_X3_turnOver) E (ci := 0) dX3_turnOver_53 (kt_close (w := zw_I w J2) E HX) wd_X3_121 rfl (congrArg Prod.fst (zl_at HX (k := 135) (t := (0, 4)) rfl (by decide) (by decide))) (by decide) (zl_lt HX (by decide)) rfl dh_X0_close dn_X0_close (Nat.le_of_ble_eq_true rfl) (Nat.le_of_ble_eq_true rfl) (Nat.le_of_ble_eq_true rfl) (zl_cap HX) rfl (fun w53 g53 => ?_)
      obtain ⟨J3, rfl, r3, f3⟩ := g53
      have hx3 := zr_Xc hx2 hH.1 r3 f3
      refine zg_w (w' := zw_I w J3) rfl ?_
      refine zg_aload_n dX3_turnOver_56 rfl ?_
      refine zg_getR E (ci := 3) (j := 5) (r := 155) dX3_turnOver_57 rfl (congrArg Prod.fst (zl_at HX (k := 1) (t := (3, 7)) rfl (by decide) (by decide))) (by decide) (zl_lt HX (by decide)) (by decide) fl_X3_38 rfl (zl_rf HX rfl (by decide) (by decide)) ?_
      refine zg_aload_n dX3_turnOver_60 rfl ?_
      refine zg_getR E (ci := 3) (j := 2) (r := 131) dX3_turnOver_61 rfl (congrArg Prod.fst (zl_at HX (k := 1) (t := (3, 7)) rfl (by decide) (by decide))) (by decide) (zl_lt HX (by decide)) (by decide) fl_X3_24 rfl (zl_rf HX rfl (by decide) (by decide)) ?_
      refine zg_getI E (ci := 2) (j := 2) dX3_turnOver_64 rfl (congrArg Prod.fst (zl_at HX (k := 131) (t := (2, 3)) rfl (by decide) (by decide))) (by decide) (zl_lt HX (by decide)) (by decide) fl_X3_118 rfl ?_
      refine zg_v (x' := L.2.2 + nI 1) hx3.2.2.2.1.2.2 ?_
      refine zg_iload_n dX3_turnOver_67 rfl ?_
      refine zg_sret (M := zm_X3_turnOver) E dX3_turnOver_68 (ct_putMaster (w := zw_I w J3) (k := 155) E (zl_at HX (k := 155) (t := (10, 16)) rfl (by decide) (by decide)) (by decide) (zl_lt HX (by decide)) ht (zl_cap HX)) wd_X3_194 dh_X3_putMaster dn_X3_putMaster (Nat.le_of_ble_eq_true rfl) (Nat.le_of_ble_eq_true rfl) (Nat.le_of_ble_eq_true rfl) (zl_cap HX) rfl (fun w68 g68 => ?_)
      obtain ⟨f, hf, rfl⟩ := g68
      have hx4 : zr_X (zw_ro J3 155 f) D H b (za_op L C, t, L.2.2 + nI 1) S za_C0 := zr_Xf hx3 hH.1 (fun a ha => zw_ro_n _ _ (by omega))
      refine zg_w (w' := zw_I w (zw_ro J3 155 f)) rfl ?_
      refine zg_aload_n dX3_turnOver_71 rfl ?_
      refine zg_getR E (ci := 3) (j := 1) (r := 51) dX3_turnOver_72 rfl (congrArg Prod.fst (zl_at HX (k := 1) (t := (3, 7)) rfl (by decide) (by decide))) (by decide) (zl_lt HX (by decide)) (by decide) fl_X3_17 rfl (zl_rf HX rfl (by decide) (by decide)) ?_
      refine zg_iconst (v := nI 0) dX3_turnOver_75 (by decide) ?_
      refine zg_aload_n dX3_turnOver_76 rfl ?_
      refine zg_getR E (ci := 3) (j := 5) (r := 155) dX3_turnOver_77 rfl (congrArg Prod.fst (zl_at HX (k := 1) (t := (3, 7)) rfl (by decide) (by decide))) (by decide) (zl_lt HX (by decide)) (by decide) fl_X3_38 rfl (zl_rf HX rfl (by decide) (by decide)) ?_
      refine zg_vrt (M := zm_X3_turnOver) E (ci := 1) dX3_turnOver_80 (kt_rowadd (w := zw_I w (zw_ro J3 155 f)) (t := 0) (b := za_ms (L.2.2 + nI 1) t) E HX hx4.2.1 h77 (zl_at HX (k := 155) (t := (10, 16)) rfl (by decide) (by decide)) (by decide) (zl_lt HX (by decide)) (by decide) (fun i hi => (congrFun (zw_ro_s J3 155 f) i).trans (hf i hi))) wd_X3_239 rfl (congrArg Prod.fst (zl_at HX (k := 51) (t := (1, 3)) rfl (by decide) (by decide))) (by decide) (zl_lt HX (by decide)) rfl dh_X1_add dn_X1_add (Nat.le_of_ble_eq_true rfl) (Nat.le_of_ble_eq_true rfl) (Nat.le_of_ble_eq_true rfl) (zl_cap HX) rfl (fun w80 g80 => ?_)
      obtain ⟨J5, rfl, r5, f5⟩ := g80
      refine zg_w (w' := zw_I w J5) rfl ?_
      exact zg_vret rfl dX3_turnOver_83 (hq J5 (zr_Xh hx4 r5 f5) (fun a ha => (f5 a (by omega)).trans ((zw_ro_n _ _ (by omega)).trans ((f3 a (by omega)).trans (hf2 a ha)))))
    · have hlt : i < 16 := zn_lt h5 (by omega) (by omega)
      refine zg_aload_n dX3_turnOver_8 rfl ?_
      refine zg_getR E (ci := 3) (j := 2) (r := 131) dX3_turnOver_9 rfl (congrArg Prod.fst (zl_at HX (k := 1) (t := (3, 7)) rfl (by decide) (by decide))) (by decide) (zl_lt HX (by decide)) (by decide) fl_X3_24 rfl (zl_rf HX rfl (by decide) (by decide)) ?_
      refine zg_getR E (ci := 2) (j := 0) (r := 132) dX3_turnOver_12 rfl (congrArg Prod.fst (zl_at HX (k := 131) (t := (2, 3)) rfl (by decide) (by decide))) (by decide) (zl_lt HX (by decide)) (by decide) fl_X3_72 rfl (zl_rf HX rfl (by decide) (by decide)) ?_
      refine zg_iload_n dX3_turnOver_15 rfl ?_
      refine zg_aload_n dX3_turnOver_16 rfl ?_
      refine zg_iload_n dX3_turnOver_17 rfl ?_
      refine zg_vrt (M := zm_X3_turnOver) E (ci := 3) dX3_turnOver_18 (kt_openPlace (w := zw_I w J) (L := L) E HX hlt ((k0 i hlt).trans (congrArg nI (if_neg (by omega)))) hc wC) wd_X3_140 rfl (congrArg Prod.fst (zl_at HX (k := 1) (t := (3, 7)) rfl (by decide) (by decide))) (by decide) (zl_lt HX (by decide)) rfl dh_X3_openPlace dn_X3_openPlace (Nat.le_of_ble_eq_true rfl) (Nat.le_of_ble_eq_true rfl) (Nat.le_of_ble_eq_true rfl) (zl_cap HX) rfl (fun w18 g18 => ?_)
      subst w18
      refine zg_iast E (j := i) dX3_turnOver_21 (zl_at HX (k := 132) (t := (10, 16)) rfl (by decide) (by decide)) (by decide) (zl_lt HX (by decide)) rfl (by omega) (by decide) ?_
      refine zg_iinc (v := nI (i + 1)) (lv' := [(2, .int (nI (i + 1))), (0, .ref 1), (1, .int (nI t))]) dX3_turnOver_22 rfl (nI_1 i) (by decide) rfl ?_
      refine zg_goto (tgt := 2) dX3_turnOver_25 (by decide) ?_
      refine zg_l [0, 1, 2] rfl ?_
      exact zg_s rfl rfl rfl (ih (i + 1) _ (by omega) (by omega) (zk_tu k0) (fun a ha => (zw_up_row _ _ _ (by omega)).trans (k1 a ha)))
set_option maxHeartbeats 4000000 in
set_option maxRecDepth 100000 in
theorem kt_turn {V : zv_V} (E : zv_OK V) {w : zw_W} (HX : zl_X w) {D : Nat → Nat → Nat} {H : za_H} {b : Bool} {L S : za_T} {C : za_C} (hX : zr_X (zw_i w) D H b L S C) (hH : za_WH H) (h77 : H.1 < 77) (wC : za_WC C) {t : Nat} (ht : t < 48) : zg_C V zm_X3_turnOver yX3_turnOver 2 130 [.ref 1, .int (nI t)] w (zq_p (.inl none) (zr_to w 0 156 (zr_X · D (za_hold H 0 (za_ms (L.2.2 + nI 1) t)) b (za_op L C, t, L.2.2 + nI 1) S za_C0))) := by
  refine zg_of (by decide +kernel) rfl (Nat.le_of_ble_eq_true rfl) ?_
  show zg_G V zm_X3_turnOver 2 130 w.1 w.2.1 0 [] [(0, .ref 1), (1, .int (nI t))] w _
  refine zg_iconst (v := nI 0) dX3_turnOver_0 (by decide) ?_
  refine zg_istore_n (lv' := [(2, .int (nI 0)), (0, .ref 1), (1, .int (nI t))]) dX3_turnOver_1 (by decide) rfl ?_
  exact zg_s rfl rfl rfl (lp_turn E HX hX hH h77 wC ht (fun J h1 h2 => ⟨rfl, J, rfl, h1, fun a ha => (ha.elim (fun z => absurd z (Nat.not_lt_zero _)) (h2 a) : J a = zw_i w a)⟩) 17 0 (zw_i w) (by omega) (by omega) (fun q hq => (hX.2.2.2.1.1 q hq).trans (congrArg nI (if_neg (Nat.not_lt_zero q)).symm)) (fun a _ => rfl))
end
section
/-! The class's public methods, case by case. -/
/-- a public call has ended: one exception's cell more, or none; the class's state is now this -/
def zr_ex (w w' : zw_W) (F : Nat → Prop) : Prop := w.1 ≤ w'.1 ∧ w'.1 ≤ w.1 + 1 ∧ w.2.1 ≤ w'.2.1 ∧ w'.2.1 ≤ w.2.1 + 6 ∧ ∀ a, a < w.1 → zw_t w' a = zw_t w a ∧ zw_r w' a = zw_r w a ∧ zw_l w' a = zw_l w a ∧ (F a → zw_i w' a = zw_i w a)
def zr_pub (w : zw_W) (D : Nat → Nat → Nat) (H : za_H) (b : Bool) (L S : za_T) (C : za_C) (w' : zw_W) : Prop := zr_ex w w' (156 ≤ ·) ∧ zr_X (zw_i w') D H b L S C
theorem zp_to {w w' : zw_W} {D : Nat → Nat → Nat} {H : za_H} {b : Bool} {L S : za_T} {C : za_C} {lo hi : Nat} (h156 : hi ≤ 156) (h : zr_to w lo hi (zr_X · D H b L S C) w') : zr_pub w D H b L S C w' := by
  obtain ⟨J, rfl, h1, h2⟩ := h
  exact ⟨⟨Nat.le_refl _, Nat.le_succ _, Nat.le_refl _, Nat.le_add_right _ _, fun a _ => ⟨rfl, rfl, rfl, fun g => h2 a (Or.inr (Nat.le_trans h156 g))⟩⟩, h1⟩
theorem zp_same {w : zw_W} {D : Nat → Nat → Nat} {H : za_H} {b : Bool} {L S : za_T} {C : za_C} (h : zr_X (zw_i w) D H b L S C) : zr_pub w D H b L S C w := ⟨⟨Nat.le_refl _, Nat.le_succ _, Nat.le_refl _, Nat.le_add_right _ _, fun a _ => ⟨rfl, rfl, rfl, fun _ => rfl⟩⟩, h⟩
theorem zp_nw {w : zw_W} (HX : zl_X w) {k : Nat} {D : Nat → Nat → Nat} {H : za_H} {b : Bool} {L S : za_T} {C : za_C} (h : zr_X (zw_i w) D H b L S C) (hH : za_WH H) : zr_pub w D H b L S C (zw_nw w (k, 6)) := by
  have h1 := HX.1
  refine ⟨⟨Nat.le_succ _, Nat.le_refl _, Nat.le_add_right _ _, Nat.le_refl _, fun a ha => ⟨zw_ro_n _ _ (by omega), zw_ro_n _ _ (by omega), zw_ro_n _ _ (by omega), fun _ => zw_ro_n _ _ (by omega)⟩⟩, zr_Xe h hH.1 (fun a _ ha i => congrFun (zw_ro_n _ _ (by omega)) i)⟩
set_option maxHeartbeats 4000000 in
set_option maxRecDepth 100000 in
theorem pw_1 {V : zv_V} (E : zv_OK V) {w : zw_W} (HX : zl_X w) {D : Nat → Nat → Nat} {H : za_H} {b : Bool} {L S : za_T} {C : za_C} (hX : zr_X (zw_i w) D H b L S C) (hH : za_WH H) {x : Int32} (hx : ∀ n, n < 16 → x ≠ nI n) {u v : Int32} : zg_C V zm_X3_write yX3_write 8 190 [.ref 1, .int x, .int u, .int v] w (zq_p (.inr 20) (zr_pub w D H b L S C)) := by
  refine zg_of (by decide +kernel) rfl (Nat.le_of_ble_eq_true rfl) ?_
  show zg_G V zm_X3_write 8 190 w.1 w.2.1 0 [] [(0, .ref 1), (1, .int x), (2, .int u), (3, .int v)] w _
  refine zg_iload_n dX3_write_0 rfl ?_
  refine zg_sthr (M := zm_X3_write) E dX3_write_1 (ct_checkPage_no E HX hx) wd_X3_45 dh_X3_checkPage dn_X3_checkPage (Nat.le_of_ble_eq_true rfl) (Nat.le_of_ble_eq_true rfl) (Nat.le_of_ble_eq_true rfl) (zl_cap HX) rfl (fun w1 g1 => ?_)
  subst w1
  exact zg_out rfl ⟨rfl, zp_nw HX hX hH⟩
set_option maxHeartbeats 4000000 in
set_option maxRecDepth 100000 in
theorem pw_2 {V : zv_V} (E : zv_OK V) {w : zw_W} (HX : zl_X w) {D : Nat → Nat → Nat} {H : za_H} {b : Bool} {L S : za_T} {C : za_C} (hX : zr_X (zw_i w) D H b L S C) (hH : za_WH H) {p : Nat} (hp : p < 16) {x : Int32} (hx : ∀ n, n < 16 → x ≠ nI n) {v : Int32} : zg_C V zm_X3_write yX3_write 8 190 [.ref 1, .int (nI p), .int x, .int v] w (zq_p (.inr 20) (zr_pub w D H b L S C)) := by
  refine zg_of (by decide +kernel) rfl (Nat.le_of_ble_eq_true rfl) ?_
  show zg_G V zm_X3_write 8 190 w.1 w.2.1 0 [] [(0, .ref 1), (1, .int (nI p)), (2, .int x), (3, .int v)] w _
  refine zg_iload_n dX3_write_0 rfl ?_
  refine zg_sret (M := zm_X3_write) E dX3_write_1 (ct_checkPage_ok E HX hp) wd_X3_45 dh_X3_checkPage dn_X3_checkPage (Nat.le_of_ble_eq_true rfl) (Nat.le_of_ble_eq_true rfl) (Nat.le_of_ble_eq_true rfl) (zl_cap HX) rfl (fun w1 g1 => ?_)
  subst w1
  refine zg_iload_n dX3_write_4 rfl ?_
  refine zg_sthr (M := zm_X3_write) E dX3_write_5 (ct_checkIndex_no E HX hx) wd_X3_49 dh_X3_checkIndex dn_X3_checkIndex (Nat.le_of_ble_eq_true rfl) (Nat.le_of_ble_eq_true rfl) (Nat.le_of_ble_eq_true rfl) (zl_cap HX) rfl (fun w5 g5 => ?_)
  subst w5
  exact zg_out rfl ⟨rfl, zp_nw HX hX hH⟩
set_option maxHeartbeats 4000000 in
set_option maxRecDepth 100000 in
theorem pw_3 {V : zv_V} (E : zv_OK V) {w : zw_W} (HX : zl_X w) {D : Nat → Nat → Nat} {H : za_H} {b : Bool} {L S : za_T} {C : za_C} (hX : zr_X (zw_i w) D H b L S C) (hH : za_WH H) {p : Nat} (hp : p < 16) {i : Nat} (hi : i < 16) {x : Int32} (hx : ∀ n, n < 256 → x ≠ nI n) : zg_C V zm_X3_write yX3_write 8 190 [.ref 1, .int (nI p), .int (nI i), .int x] w (zq_p (.inr 20) (zr_pub w D H b L S C)) := by
  refine zg_of (by decide +kernel) rfl (Nat.le_of_ble_eq_true rfl) ?_
  show zg_G V zm_X3_write 8 190 w.1 w.2.1 0 [] [(0, .ref 1), (1, .int (nI p)), (2, .int (nI i)), (3, .int x)] w _
  refine zg_iload_n dX3_write_0 rfl ?_
  refine zg_sret (M := zm_X3_write) E dX3_write_1 (ct_checkPage_ok E HX hp) wd_X3_45 dh_X3_checkPage dn_X3_checkPage (Nat.le_of_ble_eq_true rfl) (Nat.le_of_ble_eq_true rfl) (Nat.le_of_ble_eq_true rfl) (zl_cap HX) rfl (fun w1 g1 => ?_)
  subst w1
  refine zg_iload_n dX3_write_4 rfl ?_
  refine zg_sret (M := zm_X3_write) E dX3_write_5 (ct_checkIndex_ok E HX hi) wd_X3_49 dh_X3_checkIndex dn_X3_checkIndex (Nat.le_of_ble_eq_true rfl) (Nat.le_of_ble_eq_true rfl) (Nat.le_of_ble_eq_true rfl) (zl_cap HX) rfl (fun w5 g5 => ?_)
  subst w5
  refine zg_iload_n dX3_write_8 rfl ?_
  refine zg_sthr (M := zm_X3_write) E dX3_write_9 (ct_checkByte_no E HX hx) wd_X3_52 dh_X3_checkByte dn_X3_checkByte (Nat.le_of_ble_eq_true rfl) (Nat.le_of_ble_eq_true rfl) (Nat.le_of_ble_eq_true rfl) (zl_cap HX) rfl (fun w9 g9 => ?_)
  subst w9
  exact zg_out rfl ⟨rfl, zp_nw HX hX hH⟩
set_option maxHeartbeats 4000000 in
set_option maxRecDepth 100000 in
theorem pw_4 {V : zv_V} (E : zv_OK V) {w : zw_W} (HX : zl_X w) {D : Nat → Nat → Nat} {H : za_H} {b : Bool} {L S : za_T} {C : za_C} (hX : zr_X (zw_i w) D H b L S C) (hH : za_WH H) {p : Nat} (hp : p < 16) {i : Nat} (hi : i < 16) {y : Nat} (hy : y < 256) (hb : b = true)  : zg_C V zm_X3_write yX3_write 8 190 [.ref 1, .int (nI p), .int (nI i), .int (nI y)] w (zq_p (.inr 21) (zr_pub w D H b L S C)) := by
  refine zg_of (by decide +kernel) rfl (Nat.le_of_ble_eq_true rfl) ?_
  show zg_G V zm_X3_write 8 190 w.1 w.2.1 0 [] [(0, .ref 1), (1, .int (nI p)), (2, .int (nI i)), (3, .int (nI y))] w _
  refine zg_iload_n dX3_write_0 rfl ?_
  refine zg_sret (M := zm_X3_write) E dX3_write_1 (ct_checkPage_ok E HX hp) wd_X3_45 dh_X3_checkPage dn_X3_checkPage (Nat.le_of_ble_eq_true rfl) (Nat.le_of_ble_eq_true rfl) (Nat.le_of_ble_eq_true rfl) (zl_cap HX) rfl (fun w1 g1 => ?_)
  subst w1
  refine zg_iload_n dX3_write_4 rfl ?_
  refine zg_sret (M := zm_X3_write) E dX3_write_5 (ct_checkIndex_ok E HX hi) wd_X3_49 dh_X3_checkIndex dn_X3_checkIndex (Nat.le_of_ble_eq_true rfl) (Nat.le_of_ble_eq_true rfl) (Nat.le_of_ble_eq_true rfl) (zl_cap HX) rfl (fun w5 g5 => ?_)
  subst w5
  refine zg_iload_n dX3_write_8 rfl ?_
  refine zg_sret (M := zm_X3_write) E dX3_write_9 (ct_checkByte_ok E HX hy) wd_X3_52 dh_X3_checkByte dn_X3_checkByte (Nat.le_of_ble_eq_true rfl) (Nat.le_of_ble_eq_true rfl) (Nat.le_of_ble_eq_true rfl) (zl_cap HX) rfl (fun w9 g9 => ?_)
  subst w9
  refine zg_aload_n dX3_write_12 rfl ?_
  refine zg_vth (M := zm_X3_write) E (ci := 3) dX3_write_13 (ct_mounted_no E HX (by rw [hX.2.2.1, hb]; decide)) wd_X3_55 rfl (congrArg Prod.fst (zl_at HX (k := 1) (t := (3, 7)) rfl (by decide) (by decide))) (by decide) (zl_lt HX (by decide)) rfl dh_X3_checkMounted dn_X3_checkMounted (Nat.le_of_ble_eq_true rfl) (Nat.le_of_ble_eq_true rfl) (Nat.le_of_ble_eq_true rfl) (zl_cap HX) rfl (fun w13 g13 => ?_)
  subst w13
  exact zg_out rfl ⟨rfl, zp_nw HX hX hH⟩
set_option maxHeartbeats 4000000 in
set_option maxRecDepth 100000 in
theorem pw_5 {V : zv_V} (E : zv_OK V) {w : zw_W} (HX : zl_X w) {D : Nat → Nat → Nat} {H : za_H} {b : Bool} {L S : za_T} {C : za_C} (hX : zr_X (zw_i w) D H b L S C) (hH : za_WH H) {p : Nat} (hp : p < 16) {i : Nat} (hi : i < 16) {y : Nat} (hy : y < 256) (hb : b = false) (hc : zg_C V zm_X3_changePage yX3_changePage 6 130 [.ref 1, .int (nI p)] w (zq_p (.inr 21) (· = zw_nw w (21, 6))))  : zg_C V zm_X3_write yX3_write 8 190 [.ref 1, .int (nI p), .int (nI i), .int (nI y)] w (zq_p (.inr 21) (zr_pub w D H b L S C)) := by
  refine zg_of (by decide +kernel) rfl (Nat.le_of_ble_eq_true rfl) ?_
  show zg_G V zm_X3_write 8 190 w.1 w.2.1 0 [] [(0, .ref 1), (1, .int (nI p)), (2, .int (nI i)), (3, .int (nI y))] w _
  refine zg_iload_n dX3_write_0 rfl ?_
  refine zg_sret (M := zm_X3_write) E dX3_write_1 (ct_checkPage_ok E HX hp) wd_X3_45 dh_X3_checkPage dn_X3_checkPage (Nat.le_of_ble_eq_true rfl) (Nat.le_of_ble_eq_true rfl) (Nat.le_of_ble_eq_true rfl) (zl_cap HX) rfl (fun w1 g1 => ?_)
  subst w1
  refine zg_iload_n dX3_write_4 rfl ?_
  refine zg_sret (M := zm_X3_write) E dX3_write_5 (ct_checkIndex_ok E HX hi) wd_X3_49 dh_X3_checkIndex dn_X3_checkIndex (Nat.le_of_ble_eq_true rfl) (Nat.le_of_ble_eq_true rfl) (Nat.le_of_ble_eq_true rfl) (zl_cap HX) rfl (fun w5 g5 => ?_)
  subst w5
  refine zg_iload_n dX3_write_8 rfl ?_
  refine zg_sret (M := zm_X3_write) E dX3_write_9 (ct_checkByte_ok E HX hy) wd_X3_52 dh_X3_checkByte dn_X3_checkByte (Nat.le_of_ble_eq_true rfl) (Nat.le_of_ble_eq_true rfl) (Nat.le_of_ble_eq_true rfl) (zl_cap HX) rfl (fun w9 g9 => ?_)
  subst w9
  refine zg_aload_n dX3_write_12 rfl ?_
  refine zg_vrt (M := zm_X3_write) E (ci := 3) dX3_write_13 (ct_mounted_ok E HX (by rw [hX.2.2.1, hb]; rfl)) wd_X3_55 rfl (congrArg Prod.fst (zl_at HX (k := 1) (t := (3, 7)) rfl (by decide) (by decide))) (by decide) (zl_lt HX (by decide)) rfl dh_X3_checkMounted dn_X3_checkMounted (Nat.le_of_ble_eq_true rfl) (Nat.le_of_ble_eq_true rfl) (Nat.le_of_ble_eq_true rfl) (zl_cap HX) rfl (fun w13 g13 => ?_)
  subst w13
  refine zg_aload_n dX3_write_16 rfl ?_
  refine zg_iload_n dX3_write_17 rfl ?_
  refine zg_vth (M := zm_X3_write) E (ci := 3) dX3_write_18 hc wd_X3_58 rfl (congrArg Prod.fst (zl_at HX (k := 1) (t := (3, 7)) rfl (by decide) (by decide))) (by decide) (zl_lt HX (by decide)) rfl dh_X3_changePage dn_X3_changePage (Nat.le_of_ble_eq_true rfl) (Nat.le_of_ble_eq_true rfl) (Nat.le_of_ble_eq_true rfl) (zl_cap HX) rfl (fun w18 g18 => ?_)
  subst w18
  exact zg_out rfl ⟨rfl, zp_nw HX hX hH⟩
theorem zk_put {I J : Nat → Nat → Int32} {C : za_C} {p i x : Nat} (h : zr_C I C) (hp : p < 16) (h0 : C.1 p ≠ 0) (g : J = zw_up I (138 + p) i (nI x)) : zr_C J (za_put C p i x) := by
  subst g
  refine ⟨fun q hq => (congrFun (zw_up_row _ _ _ (by omega)) q).trans (h.1 q hq), (congrFun (zw_up_row _ _ _ (by omega)) 3).trans h.2.1, fun q hq e => ⟨fun j hj => ?_, (congrFun (zw_up_row _ _ _ (by omega)) q).trans (h.2.2 q hq e).2⟩⟩
  show _ = nI (zw_ro C.2.1 p (zw_ro (C.2.1 p) i x) q j)
  by_cases k : q = p
  · subst k
    rw [zw_ro_s]
    by_cases k2 : j = i
    · rw [k2, zw_up_s, zw_ro_s]
    · rw [zw_up_n _ _ (Or.inr k2), zw_ro_n _ _ k2]
      exact (h.2.2 q hq e).1 j hj
  · rw [zw_up_n _ _ (Or.inl (by omega)), zw_ro_n _ _ k]
    exact (h.2.2 q hq e).1 j hj
set_option maxHeartbeats 4000000 in
set_option maxRecDepth 100000 in
theorem pw_6 {V : zv_V} (E : zv_OK V) {w : zw_W} (HX : zl_X w) {D : Nat → Nat → Nat} {H : za_H} {b : Bool} {L S : za_T} {C : za_C} (hX : zr_X (zw_i w) D H b L S C) (hH : za_WH H) {p : Nat} (hp : p < 16) {i : Nat} (hi : i < 16) {y : Nat} (hy : y < 256) (hb : b = false) {C1 : za_C} (h1 : C1.1 p ≠ 0) (hc : zg_C V zm_X3_changePage yX3_changePage 3 130 [.ref 1, .int (nI p)] w (zq_p (.inl none) (zr_to w 135 155 (zr_X · D H b L S C1))))  : zg_C V zm_X3_write yX3_write 8 190 [.ref 1, .int (nI p), .int (nI i), .int (nI y)] w (zq_p (.inl (some (.int (nI (C1.2.1 p i))))) (zr_pub w D H b L S (za_put C1 p i y))) := by
  refine zg_of (by decide +kernel) rfl (Nat.le_of_ble_eq_true rfl) ?_
  show zg_G V zm_X3_write 8 190 w.1 w.2.1 0 [] [(0, .ref 1), (1, .int (nI p)), (2, .int (nI i)), (3, .int (nI y))] w _
  refine zg_iload_n dX3_write_0 rfl ?_
  refine zg_sret (M := zm_X3_write) E dX3_write_1 (ct_checkPage_ok E HX hp) wd_X3_45 dh_X3_checkPage dn_X3_checkPage (Nat.le_of_ble_eq_true rfl) (Nat.le_of_ble_eq_true rfl) (Nat.le_of_ble_eq_true rfl) (zl_cap HX) rfl (fun w1 g1 => ?_)
  subst w1
  refine zg_iload_n dX3_write_4 rfl ?_
  refine zg_sret (M := zm_X3_write) E dX3_write_5 (ct_checkIndex_ok E HX hi) wd_X3_49 dh_X3_checkIndex dn_X3_checkIndex (Nat.le_of_ble_eq_true rfl) (Nat.le_of_ble_eq_true rfl) (Nat.le_of_ble_eq_true rfl) (zl_cap HX) rfl (fun w5 g5 => ?_)
  subst w5
  refine zg_iload_n dX3_write_8 rfl ?_
  refine zg_sret (M := zm_X3_write) E dX3_write_9 (ct_checkByte_ok E HX hy) wd_X3_52 dh_X3_checkByte dn_X3_checkByte (Nat.le_of_ble_eq_true rfl) (Nat.le_of_ble_eq_true rfl) (Nat.le_of_ble_eq_true rfl) (zl_cap HX) rfl (fun w9 g9 => ?_)
  subst w9
  refine zg_aload_n dX3_write_12 rfl ?_
  refine zg_vrt (M := zm_X3_write) E (ci := 3) dX3_write_13 (ct_mounted_ok E HX (by rw [hX.2.2.1, hb]; rfl)) wd_X3_55 rfl (congrArg Prod.fst (zl_at HX (k := 1) (t := (3, 7)) rfl (by decide) (by decide))) (by decide) (zl_lt HX (by decide)) rfl dh_X3_checkMounted dn_X3_checkMounted (Nat.le_of_ble_eq_true rfl) (Nat.le_of_ble_eq_true rfl) (Nat.le_of_ble_eq_true rfl) (zl_cap HX) rfl (fun w13 g13 => ?_)
  subst w13
  refine zg_aload_n dX3_write_16 rfl ?_
  refine zg_iload_n dX3_write_17 rfl ?_
  refine zg_vrt (M := zm_X3_write) E (ci := 3) dX3_write_18 hc wd_X3_58 rfl (congrArg Prod.fst (zl_at HX (k := 1) (t := (3, 7)) rfl (by decide) (by decide))) (by decide) (zl_lt HX (by decide)) rfl dh_X3_changePage dn_X3_changePage (Nat.le_of_ble_eq_true rfl) (Nat.le_of_ble_eq_true rfl) (Nat.le_of_ble_eq_true rfl) (zl_cap HX) rfl (fun w18 g18 => ?_)
  obtain ⟨J1, rfl, r1, f1⟩ := g18
  refine zg_w (w' := zw_I w J1) rfl ?_
  refine zg_aload_n dX3_write_21 rfl ?_
  refine zg_getR E (ci := 3) (j := 4) (r := 135) dX3_write_22 rfl (congrArg Prod.fst (zl_at HX (k := 1) (t := (3, 7)) rfl (by decide) (by decide))) (by decide) (zl_lt HX (by decide)) (by decide) fl_X3_34 rfl (zl_rf HX rfl (by decide) (by decide)) ?_
  refine zg_getR E (ci := 0) (j := 1) (r := 137) dX3_write_25 rfl (congrArg Prod.fst (zl_at HX (k := 135) (t := (0, 4)) rfl (by decide) (by decide))) (by decide) (zl_lt HX (by decide)) (by decide) fl_X3_61 rfl (zl_rf HX rfl (by decide) (by decide)) ?_
  refine zg_iload_n dX3_write_28 rfl ?_
  refine zg_aald E (j := p) (r := 138 + p) dX3_write_29 (zl_at HX (k := 137) (t := (13, 16)) rfl (by decide) (by decide)) (by decide) (zl_lt HX (by decide)) rfl (by omega) (by decide) (zl_rf HX (zl_pag (by omega)).2 (by decide) (by decide)) ?_
  refine zg_iload_n dX3_write_30 rfl ?_
  refine zg_iald E (j := i) dX3_write_31 (zl_at HX (zl_pag (by omega)).1 (by omega) (by omega)) (by omega) (zl_lt HX (by omega)) rfl (by omega) (by decide) ?_
  refine zg_v (x' := nI (C1.2.1 p i)) ((r1.2.2.2.2.2.2.2 p hp h1).1 i hi) ?_
  refine zg_istore (lv' := [(4, .int (nI (C1.2.1 p i))), (0, .ref 1), (1, .int (nI p)), (2, .int (nI i)), (3, .int (nI y))]) dX3_write_32 (by decide) rfl ?_
  refine zg_aload_n dX3_write_34 rfl ?_
  refine zg_getR E (ci := 3) (j := 4) (r := 135) dX3_write_35 rfl (congrArg Prod.fst (zl_at HX (k := 1) (t := (3, 7)) rfl (by decide) (by decide))) (by decide) (zl_lt HX (by decide)) (by decide) fl_X3_34 rfl (zl_rf HX rfl (by decide) (by decide)) ?_
  refine zg_getR E (ci := 0) (j := 1) (r := 137) dX3_write_38 rfl (congrArg Prod.fst (zl_at HX (k := 135) (t := (0, 4)) rfl (by decide) (by decide))) (by decide) (zl_lt HX (by decide)) (by decide) fl_X3_61 rfl (zl_rf HX rfl (by decide) (by decide)) ?_
  refine zg_iload_n dX3_write_41 rfl ?_
  refine zg_aald E (j := p) (r := 138 + p) dX3_write_42 (zl_at HX (k := 137) (t := (13, 16)) rfl (by decide) (by decide)) (by decide) (zl_lt HX (by decide)) rfl (by omega) (by decide) (zl_rf HX (zl_pag (by omega)).2 (by decide) (by decide)) ?_
  refine zg_iload_n dX3_write_43 rfl ?_
  refine zg_iload_n dX3_write_44 rfl ?_
  refine zg_iast E (j := i) dX3_write_45 (zl_at HX (zl_pag (by omega)).1 (by omega) (by omega)) (by omega) (zl_lt HX (by omega)) rfl (by omega) (by decide) ?_
  refine zg_iload dX3_write_46 rfl ?_
  exact zg_iret rfl dX3_write_48 ⟨rfl, zp_to (lo := 135) (hi := 155) (by decide) ⟨_, rfl, zr_Xc r1 hH.1 (zk_put r1.2.2.2.2.2 hp h1 rfl) (fun a ha => zw_up_row _ _ _ (by omega)), fun a ha => (zw_up_row _ _ _ (by omega)).trans (f1 a ha)⟩⟩
set_option maxHeartbeats 4000000 in
set_option maxRecDepth 100000 in
theorem pr_1 {V : zv_V} (E : zv_OK V) {w : zw_W} (HX : zl_X w) {D : Nat → Nat → Nat} {H : za_H} {b : Bool} {L S : za_T} {C : za_C} (hX : zr_X (zw_i w) D H b L S C) (hH : za_WH H) {x : Int32} (hx : ∀ n, n < 16 → x ≠ nI n) {u v : Int32} : zg_C V zm_X3_read yX3_read 8 190 [.ref 1, .int x, .int u, .int v] w (zq_p (.inr 20) (zr_pub w D H b L S C)) := by
  refine zg_of (by decide +kernel) rfl (Nat.le_of_ble_eq_true rfl) ?_
  show zg_G V zm_X3_read 8 190 w.1 w.2.1 0 [] [(0, .ref 1), (1, .int x), (2, .int u), (3, .int v)] w _
  refine zg_iload_n dX3_read_0 rfl ?_
  refine zg_sthr (M := zm_X3_read) E dX3_read_1 (ct_checkPage_no E HX hx) wd_X3_45 dh_X3_checkPage dn_X3_checkPage (Nat.le_of_ble_eq_true rfl) (Nat.le_of_ble_eq_true rfl) (Nat.le_of_ble_eq_true rfl) (zl_cap HX) rfl (fun w1 g1 => ?_)
  subst w1
  exact zg_out rfl ⟨rfl, zp_nw HX hX hH⟩
set_option maxHeartbeats 4000000 in
set_option maxRecDepth 100000 in
theorem pr_2 {V : zv_V} (E : zv_OK V) {w : zw_W} (HX : zl_X w) {D : Nat → Nat → Nat} {H : za_H} {b : Bool} {L S : za_T} {C : za_C} (hX : zr_X (zw_i w) D H b L S C) (hH : za_WH H) {p : Nat} (hp : p < 16) {x : Int32} (hx : ∀ n, n < 16 → x ≠ nI n) {v : Int32} : zg_C V zm_X3_read yX3_read 8 190 [.ref 1, .int (nI p), .int x, .int v] w (zq_p (.inr 20) (zr_pub w D H b L S C)) := by
  refine zg_of (by decide +kernel) rfl (Nat.le_of_ble_eq_true rfl) ?_
  show zg_G V zm_X3_read 8 190 w.1 w.2.1 0 [] [(0, .ref 1), (1, .int (nI p)), (2, .int x), (3, .int v)] w _
  refine zg_iload_n dX3_read_0 rfl ?_
  refine zg_sret (M := zm_X3_read) E dX3_read_1 (ct_checkPage_ok E HX hp) wd_X3_45 dh_X3_checkPage dn_X3_checkPage (Nat.le_of_ble_eq_true rfl) (Nat.le_of_ble_eq_true rfl) (Nat.le_of_ble_eq_true rfl) (zl_cap HX) rfl (fun w1 g1 => ?_)
  subst w1
  refine zg_iload_n dX3_read_4 rfl ?_
  refine zg_sthr (M := zm_X3_read) E dX3_read_5 (ct_checkIndex_no E HX hx) wd_X3_49 dh_X3_checkIndex dn_X3_checkIndex (Nat.le_of_ble_eq_true rfl) (Nat.le_of_ble_eq_true rfl) (Nat.le_of_ble_eq_true rfl) (zl_cap HX) rfl (fun w5 g5 => ?_)
  subst w5
  exact zg_out rfl ⟨rfl, zp_nw HX hX hH⟩
set_option maxHeartbeats 4000000 in
set_option maxRecDepth 100000 in
theorem pr_3 {V : zv_V} (E : zv_OK V) {w : zw_W} (HX : zl_X w) {D : Nat → Nat → Nat} {H : za_H} {b : Bool} {L S : za_T} {C : za_C} (hX : zr_X (zw_i w) D H b L S C) (hH : za_WH H) {p : Nat} (hp : p < 16) {i : Nat} (hi : i < 16) (hb : b = true) {v : Int32} : zg_C V zm_X3_read yX3_read 8 190 [.ref 1, .int (nI p), .int (nI i), .int v] w (zq_p (.inr 21) (zr_pub w D H b L S C)) := by
  refine zg_of (by decide +kernel) rfl (Nat.le_of_ble_eq_true rfl) ?_
  show zg_G V zm_X3_read 8 190 w.1 w.2.1 0 [] [(0, .ref 1), (1, .int (nI p)), (2, .int (nI i)), (3, .int v)] w _
  refine zg_iload_n dX3_read_0 rfl ?_
  refine zg_sret (M := zm_X3_read) E dX3_read_1 (ct_checkPage_ok E HX hp) wd_X3_45 dh_X3_checkPage dn_X3_checkPage (Nat.le_of_ble_eq_true rfl) (Nat.le_of_ble_eq_true rfl) (Nat.le_of_ble_eq_true rfl) (zl_cap HX) rfl (fun w1 g1 => ?_)
  subst w1
  refine zg_iload_n dX3_read_4 rfl ?_
  refine zg_sret (M := zm_X3_read) E dX3_read_5 (ct_checkIndex_ok E HX hi) wd_X3_49 dh_X3_checkIndex dn_X3_checkIndex (Nat.le_of_ble_eq_true rfl) (Nat.le_of_ble_eq_true rfl) (Nat.le_of_ble_eq_true rfl) (zl_cap HX) rfl (fun w5 g5 => ?_)
  subst w5
  refine zg_aload_n dX3_read_8 rfl ?_
  refine zg_vth (M := zm_X3_read) E (ci := 3) dX3_read_9 (ct_mounted_no E HX (by rw [hX.2.2.1, hb]; decide)) wd_X3_55 rfl (congrArg Prod.fst (zl_at HX (k := 1) (t := (3, 7)) rfl (by decide) (by decide))) (by decide) (zl_lt HX (by decide)) rfl dh_X3_checkMounted dn_X3_checkMounted (Nat.le_of_ble_eq_true rfl) (Nat.le_of_ble_eq_true rfl) (Nat.le_of_ble_eq_true rfl) (zl_cap HX) rfl (fun w9 g9 => ?_)
  subst w9
  exact zg_out rfl ⟨rfl, zp_nw HX hX hH⟩
set_option maxHeartbeats 4000000 in
set_option maxRecDepth 100000 in
theorem pr_4 {V : zv_V} (E : zv_OK V) {w : zw_W} (HX : zl_X w) {D : Nat → Nat → Nat} {H : za_H} {b : Bool} {L S : za_T} {C : za_C} (hX : zr_X (zw_i w) D H b L S C) (hH : za_WH H) {p : Nat} (hp : p < 16) {i : Nat} (hi : i < 16) (hb : b = false) {z : Bool} (wL : za_WT L) (wC : za_WC C) (hz : z = false) (h0 : C.1 p ≠ 0) : zg_C V zm_X3_read yX3_read 8 190 [.ref 1, .int (nI p), .int (nI i), .int (za_bit z)] w (zq_p (.inl (some (.int (nI (C.2.1 p i))))) (zr_pub w D H b L S C)) := by
  refine zg_of (by decide +kernel) rfl (Nat.le_of_ble_eq_true rfl) ?_
  show zg_G V zm_X3_read 8 190 w.1 w.2.1 0 [] [(0, .ref 1), (1, .int (nI p)), (2, .int (nI i)), (3, .int (za_bit z))] w _
  refine zg_iload_n dX3_read_0 rfl ?_
  refine zg_sret (M := zm_X3_read) E dX3_read_1 (ct_checkPage_ok E HX hp) wd_X3_45 dh_X3_checkPage dn_X3_checkPage (Nat.le_of_ble_eq_true rfl) (Nat.le_of_ble_eq_true rfl) (Nat.le_of_ble_eq_true rfl) (zl_cap HX) rfl (fun w1 g1 => ?_)
  subst w1
  refine zg_iload_n dX3_read_4 rfl ?_
  refine zg_sret (M := zm_X3_read) E dX3_read_5 (ct_checkIndex_ok E HX hi) wd_X3_49 dh_X3_checkIndex dn_X3_checkIndex (Nat.le_of_ble_eq_true rfl) (Nat.le_of_ble_eq_true rfl) (Nat.le_of_ble_eq_true rfl) (zl_cap HX) rfl (fun w5 g5 => ?_)
  subst w5
  refine zg_aload_n dX3_read_8 rfl ?_
  refine zg_vrt (M := zm_X3_read) E (ci := 3) dX3_read_9 (ct_mounted_ok E HX (by rw [hX.2.2.1, hb]; rfl)) wd_X3_55 rfl (congrArg Prod.fst (zl_at HX (k := 1) (t := (3, 7)) rfl (by decide) (by decide))) (by decide) (zl_lt HX (by decide)) rfl dh_X3_checkMounted dn_X3_checkMounted (Nat.le_of_ble_eq_true rfl) (Nat.le_of_ble_eq_true rfl) (Nat.le_of_ble_eq_true rfl) (zl_cap HX) rfl (fun w9 g9 => ?_)
  subst w9
  refine zg_iload_n dX3_read_12 rfl ?_
  refine zg_if_ne (tgt := 39) dX3_read_13 (by decide) (fun h13 => ?_) (fun h13 => ?_)
  · exact absurd h13 (by rw [hz]; decide)
  · refine zg_aload_n dX3_read_16 rfl ?_
    refine zg_getR E (ci := 3) (j := 4) (r := 135) dX3_read_17 rfl (congrArg Prod.fst (zl_at HX (k := 1) (t := (3, 7)) rfl (by decide) (by decide))) (by decide) (zl_lt HX (by decide)) (by decide) fl_X3_34 rfl (zl_rf HX rfl (by decide) (by decide)) ?_
    refine zg_iload_n dX3_read_20 rfl ?_
    refine zg_vrt (M := zm_X3_read) E (ci := 0) dX3_read_21 (kt_has E HX hp hX.2.2.2.2.2 wC (bz := true) ⟨fun _ => h0, fun _ => rfl⟩) wd_X3_68 rfl (congrArg Prod.fst (zl_at HX (k := 135) (t := (0, 4)) rfl (by decide) (by decide))) (by decide) (zl_lt HX (by decide)) rfl dh_X0_has dn_X0_has (Nat.le_of_ble_eq_true rfl) (Nat.le_of_ble_eq_true rfl) (Nat.le_of_ble_eq_true rfl) (zl_cap HX) rfl (fun w21 g21 => ?_)
    subst w21
    refine zg_if_eq (tgt := 39) dX3_read_24 (by decide) (fun h24 => ?_) (fun h24 => ?_)
    · exact absurd h24 (by decide)
    · refine zg_aload_n dX3_read_27 rfl ?_
      refine zg_getR E (ci := 3) (j := 4) (r := 135) dX3_read_28 rfl (congrArg Prod.fst (zl_at HX (k := 1) (t := (3, 7)) rfl (by decide) (by decide))) (by decide) (zl_lt HX (by decide)) (by decide) fl_X3_34 rfl (zl_rf HX rfl (by decide) (by decide)) ?_
      refine zg_getR E (ci := 0) (j := 1) (r := 137) dX3_read_31 rfl (congrArg Prod.fst (zl_at HX (k := 135) (t := (0, 4)) rfl (by decide) (by decide))) (by decide) (zl_lt HX (by decide)) (by decide) fl_X3_61 rfl (zl_rf HX rfl (by decide) (by decide)) ?_
      refine zg_iload_n dX3_read_34 rfl ?_
      refine zg_aald E (j := p) (r := 138 + p) dX3_read_35 (zl_at HX (k := 137) (t := (13, 16)) rfl (by decide) (by decide)) (by decide) (zl_lt HX (by decide)) rfl (by omega) (by decide) (zl_rf HX (zl_pag (by omega)).2 (by decide) (by decide)) ?_
      refine zg_iload_n dX3_read_36 rfl ?_
      refine zg_iald E (j := i) dX3_read_37 (zl_at HX (zl_pag (by omega)).1 (by omega) (by omega)) (by omega) (zl_lt HX (by omega)) rfl (by omega) (by decide) ?_
      refine zg_v (x' := nI (C.2.1 p i)) ((hX.2.2.2.2.2.2.2 p hp h0).1 i hi) ?_
      exact zg_iret rfl dX3_read_38 ⟨rfl, zp_same hX⟩
set_option maxHeartbeats 4000000 in
set_option maxRecDepth 100000 in
theorem pr_5 {V : zv_V} (E : zv_OK V) {w : zw_W} (HX : zl_X w) {D : Nat → Nat → Nat} {H : za_H} {b : Bool} {L S : za_T} {C : za_C} (hX : zr_X (zw_i w) D H b L S C) (hH : za_WH H) {p : Nat} (hp : p < 16) {i : Nat} (hi : i < 16) (hb : b = false) {z : Bool} (wL : za_WT L) (wC : za_WC C) (hz : z = true) : zg_C V zm_X3_read yX3_read 8 190 [.ref 1, .int (nI p), .int (nI i), .int (za_bit z)] w (zq_p (.inl (some (.int (nI (za_lt D L p i))))) (zr_pub w D H b L S C)) := by
  refine zg_of (by decide +kernel) rfl (Nat.le_of_ble_eq_true rfl) ?_
  show zg_G V zm_X3_read 8 190 w.1 w.2.1 0 [] [(0, .ref 1), (1, .int (nI p)), (2, .int (nI i)), (3, .int (za_bit z))] w _
  refine zg_iload_n dX3_read_0 rfl ?_
  refine zg_sret (M := zm_X3_read) E dX3_read_1 (ct_checkPage_ok E HX hp) wd_X3_45 dh_X3_checkPage dn_X3_checkPage (Nat.le_of_ble_eq_true rfl) (Nat.le_of_ble_eq_true rfl) (Nat.le_of_ble_eq_true rfl) (zl_cap HX) rfl (fun w1 g1 => ?_)
  subst w1
  refine zg_iload_n dX3_read_4 rfl ?_
  refine zg_sret (M := zm_X3_read) E dX3_read_5 (ct_checkIndex_ok E HX hi) wd_X3_49 dh_X3_checkIndex dn_X3_checkIndex (Nat.le_of_ble_eq_true rfl) (Nat.le_of_ble_eq_true rfl) (Nat.le_of_ble_eq_true rfl) (zl_cap HX) rfl (fun w5 g5 => ?_)
  subst w5
  refine zg_aload_n dX3_read_8 rfl ?_
  refine zg_vrt (M := zm_X3_read) E (ci := 3) dX3_read_9 (ct_mounted_ok E HX (by rw [hX.2.2.1, hb]; rfl)) wd_X3_55 rfl (congrArg Prod.fst (zl_at HX (k := 1) (t := (3, 7)) rfl (by decide) (by decide))) (by decide) (zl_lt HX (by decide)) rfl dh_X3_checkMounted dn_X3_checkMounted (Nat.le_of_ble_eq_true rfl) (Nat.le_of_ble_eq_true rfl) (Nat.le_of_ble_eq_true rfl) (zl_cap HX) rfl (fun w9 g9 => ?_)
  subst w9
  refine zg_iload_n dX3_read_12 rfl ?_
  refine zg_if_ne (tgt := 39) dX3_read_13 (by decide) (fun h13 => ?_) (fun h13 => ?_)
  · refine zg_aload_n dX3_read_39 rfl ?_
    refine zg_getR E (ci := 3) (j := 2) (r := 131) dX3_read_40 rfl (congrArg Prod.fst (zl_at HX (k := 1) (t := (3, 7)) rfl (by decide) (by decide))) (by decide) (zl_lt HX (by decide)) (by decide) fl_X3_24 rfl (zl_rf HX rfl (by decide) (by decide)) ?_
    refine zg_getR E (ci := 2) (j := 0) (r := 132) dX3_read_43 rfl (congrArg Prod.fst (zl_at HX (k := 131) (t := (2, 3)) rfl (by decide) (by decide))) (by decide) (zl_lt HX (by decide)) (by decide) fl_X3_72 rfl (zl_rf HX rfl (by decide) (by decide)) ?_
    refine zg_iload_n dX3_read_46 rfl ?_
    refine zg_iald E (j := p) dX3_read_47 (zl_at HX (k := 132) (t := (10, 16)) rfl (by decide) (by decide)) (by decide) (zl_lt HX (by decide)) rfl (by omega) (by decide) ?_
    refine zg_v (x' := nI (L.1 p)) (hX.2.2.2.1.1 p hp) ?_
    refine zg_istore (lv' := [(4, .int (nI (L.1 p))), (0, .ref 1), (1, .int (nI p)), (2, .int (nI i)), (3, .int (za_bit z))]) dX3_read_48 (by decide) rfl ?_
    refine zg_iload dX3_read_50 rfl ?_
    refine zg_if_ne (tgt := 59) dX3_read_52 (by decide) (fun h52 => ?_) (fun h52 => ?_)
    · have hq : L.1 p ≠ 0 := fun z => h52 (congrArg nI z)
      have h48 := wL.1 p hp
      refine zg_aload_n dX3_read_59 rfl ?_
      refine zg_getR E (ci := 3) (j := 0) (r := 2) dX3_read_60 rfl (congrArg Prod.fst (zl_at HX (k := 1) (t := (3, 7)) rfl (by decide) (by decide))) (by decide) (zl_lt HX (by decide)) (by decide) fl_X3_11 rfl (zl_rf HX rfl (by decide) (by decide)) ?_
      refine zg_iload dX3_read_63 rfl ?_
      refine zg_aald E (j := L.1 p) (r := 3 + (L.1 p)) dX3_read_65 (zl_at HX (k := 2) (t := (13, 48)) rfl (by decide) (by decide)) (by decide) (zl_lt HX (by decide)) rfl h48 (by decide) (zl_rf HX (zl_sec h48).2 (by decide) (by decide)) ?_
      refine zg_iload_n dX3_read_66 rfl ?_
      refine zg_iald E (j := i) dX3_read_67 (zl_at HX (zl_sec (by omega)).1 (by omega) (by omega)) (by omega) (zl_lt HX (by omega)) rfl (by omega) (by decide) ?_
      refine zg_v (x' := nI (D (L.1 p) i)) (hX.1 _ h48 i hi) ?_
      exact zg_iret rfl dX3_read_68 ⟨congrArg (fun x => Sum.inl (some (Value.int (nI x)))) (if_neg hq).symm, zp_same hX⟩
    · have hq : L.1 p = 0 := (nI_eq (by have := wL.1 p hp; omega) (by decide)).mp h52
      refine zg_iconst (v := nI 0) dX3_read_55 (by decide) ?_
      refine zg_goto (tgt := 68) dX3_read_56 (by decide) ?_
      exact zg_iret rfl dX3_read_68 ⟨congrArg (fun x => Sum.inl (some (Value.int (nI x)))) (if_pos hq).symm, zp_same hX⟩
  · exact absurd h13 (by rw [hz]; decide)
set_option maxHeartbeats 4000000 in
set_option maxRecDepth 100000 in
theorem pr_6 {V : zv_V} (E : zv_OK V) {w : zw_W} (HX : zl_X w) {D : Nat → Nat → Nat} {H : za_H} {b : Bool} {L S : za_T} {C : za_C} (hX : zr_X (zw_i w) D H b L S C) (hH : za_WH H) {p : Nat} (hp : p < 16) {i : Nat} (hi : i < 16) (hb : b = false) {z : Bool} (wL : za_WT L) (wC : za_WC C) (hz : z = false) (h0 : C.1 p = 0) : zg_C V zm_X3_read yX3_read 8 190 [.ref 1, .int (nI p), .int (nI i), .int (za_bit z)] w (zq_p (.inl (some (.int (nI (za_lt D L p i))))) (zr_pub w D H b L S C)) := by
  refine zg_of (by decide +kernel) rfl (Nat.le_of_ble_eq_true rfl) ?_
  show zg_G V zm_X3_read 8 190 w.1 w.2.1 0 [] [(0, .ref 1), (1, .int (nI p)), (2, .int (nI i)), (3, .int (za_bit z))] w _
  refine zg_iload_n dX3_read_0 rfl ?_
  refine zg_sret (M := zm_X3_read) E dX3_read_1 (ct_checkPage_ok E HX hp) wd_X3_45 dh_X3_checkPage dn_X3_checkPage (Nat.le_of_ble_eq_true rfl) (Nat.le_of_ble_eq_true rfl) (Nat.le_of_ble_eq_true rfl) (zl_cap HX) rfl (fun w1 g1 => ?_)
  subst w1
  refine zg_iload_n dX3_read_4 rfl ?_
  refine zg_sret (M := zm_X3_read) E dX3_read_5 (ct_checkIndex_ok E HX hi) wd_X3_49 dh_X3_checkIndex dn_X3_checkIndex (Nat.le_of_ble_eq_true rfl) (Nat.le_of_ble_eq_true rfl) (Nat.le_of_ble_eq_true rfl) (zl_cap HX) rfl (fun w5 g5 => ?_)
  subst w5
  refine zg_aload_n dX3_read_8 rfl ?_
  refine zg_vrt (M := zm_X3_read) E (ci := 3) dX3_read_9 (ct_mounted_ok E HX (by rw [hX.2.2.1, hb]; rfl)) wd_X3_55 rfl (congrArg Prod.fst (zl_at HX (k := 1) (t := (3, 7)) rfl (by decide) (by decide))) (by decide) (zl_lt HX (by decide)) rfl dh_X3_checkMounted dn_X3_checkMounted (Nat.le_of_ble_eq_true rfl) (Nat.le_of_ble_eq_true rfl) (Nat.le_of_ble_eq_true rfl) (zl_cap HX) rfl (fun w9 g9 => ?_)
  subst w9
  refine zg_iload_n dX3_read_12 rfl ?_
  refine zg_if_ne (tgt := 39) dX3_read_13 (by decide) (fun h13 => ?_) (fun h13 => ?_)
  · exact absurd h13 (by rw [hz]; decide)
  · refine zg_aload_n dX3_read_16 rfl ?_
    refine zg_getR E (ci := 3) (j := 4) (r := 135) dX3_read_17 rfl (congrArg Prod.fst (zl_at HX (k := 1) (t := (3, 7)) rfl (by decide) (by decide))) (by decide) (zl_lt HX (by decide)) (by decide) fl_X3_34 rfl (zl_rf HX rfl (by decide) (by decide)) ?_
    refine zg_iload_n dX3_read_20 rfl ?_
    refine zg_vrt (M := zm_X3_read) E (ci := 0) dX3_read_21 (kt_has E HX hp hX.2.2.2.2.2 wC (bz := false) ⟨fun z => absurd z (by decide), fun z => absurd h0 z⟩) wd_X3_68 rfl (congrArg Prod.fst (zl_at HX (k := 135) (t := (0, 4)) rfl (by decide) (by decide))) (by decide) (zl_lt HX (by decide)) rfl dh_X0_has dn_X0_has (Nat.le_of_ble_eq_true rfl) (Nat.le_of_ble_eq_true rfl) (Nat.le_of_ble_eq_true rfl) (zl_cap HX) rfl (fun w21 g21 => ?_)
    subst w21
    refine zg_if_eq (tgt := 39) dX3_read_24 (by decide) (fun h24 => ?_) (fun h24 => ?_)
    · refine zg_aload_n dX3_read_39 rfl ?_
      refine zg_getR E (ci := 3) (j := 2) (r := 131) dX3_read_40 rfl (congrArg Prod.fst (zl_at HX (k := 1) (t := (3, 7)) rfl (by decide) (by decide))) (by decide) (zl_lt HX (by decide)) (by decide) fl_X3_24 rfl (zl_rf HX rfl (by decide) (by decide)) ?_
      refine zg_getR E (ci := 2) (j := 0) (r := 132) dX3_read_43 rfl (congrArg Prod.fst (zl_at HX (k := 131) (t := (2, 3)) rfl (by decide) (by decide))) (by decide) (zl_lt HX (by decide)) (by decide) fl_X3_72 rfl (zl_rf HX rfl (by decide) (by decide)) ?_
      refine zg_iload_n dX3_read_46 rfl ?_
      refine zg_iald E (j := p) dX3_read_47 (zl_at HX (k := 132) (t := (10, 16)) rfl (by decide) (by decide)) (by decide) (zl_lt HX (by decide)) rfl (by omega) (by decide) ?_
      refine zg_v (x' := nI (L.1 p)) (hX.2.2.2.1.1 p hp) ?_
      refine zg_istore (lv' := [(4, .int (nI (L.1 p))), (0, .ref 1), (1, .int (nI p)), (2, .int (nI i)), (3, .int (za_bit z))]) dX3_read_48 (by decide) rfl ?_
      refine zg_iload dX3_read_50 rfl ?_
      refine zg_if_ne (tgt := 59) dX3_read_52 (by decide) (fun h52 => ?_) (fun h52 => ?_)
      · have hq : L.1 p ≠ 0 := fun z => h52 (congrArg nI z)
        have h48 := wL.1 p hp
        refine zg_aload_n dX3_read_59 rfl ?_
        refine zg_getR E (ci := 3) (j := 0) (r := 2) dX3_read_60 rfl (congrArg Prod.fst (zl_at HX (k := 1) (t := (3, 7)) rfl (by decide) (by decide))) (by decide) (zl_lt HX (by decide)) (by decide) fl_X3_11 rfl (zl_rf HX rfl (by decide) (by decide)) ?_
        refine zg_iload dX3_read_63 rfl ?_
        refine zg_aald E (j := L.1 p) (r := 3 + (L.1 p)) dX3_read_65 (zl_at HX (k := 2) (t := (13, 48)) rfl (by decide) (by decide)) (by decide) (zl_lt HX (by decide)) rfl h48 (by decide) (zl_rf HX (zl_sec h48).2 (by decide) (by decide)) ?_
        refine zg_iload_n dX3_read_66 rfl ?_
        refine zg_iald E (j := i) dX3_read_67 (zl_at HX (zl_sec (by omega)).1 (by omega) (by omega)) (by omega) (zl_lt HX (by omega)) rfl (by omega) (by decide) ?_
        refine zg_v (x' := nI (D (L.1 p) i)) (hX.1 _ h48 i hi) ?_
        exact zg_iret rfl dX3_read_68 ⟨congrArg (fun x => Sum.inl (some (Value.int (nI x)))) (if_neg hq).symm, zp_same hX⟩
      · have hq : L.1 p = 0 := (nI_eq (by have := wL.1 p hp; omega) (by decide)).mp h52
        refine zg_iconst (v := nI 0) dX3_read_55 (by decide) ?_
        refine zg_goto (tgt := 68) dX3_read_56 (by decide) ?_
        exact zg_iret rfl dX3_read_68 ⟨congrArg (fun x => Sum.inl (some (Value.int (nI x)))) (if_pos hq).symm, zp_same hX⟩
    · exact absurd rfl h24
set_option maxHeartbeats 4000000 in
set_option maxRecDepth 100000 in
theorem ps_1 {V : zv_V} (E : zv_OK V) {w : zw_W} (HX : zl_X w) {D : Nat → Nat → Nat} {H : za_H} {b : Bool} {L S : za_T} {C : za_C} (hX : zr_X (zw_i w) D H b L S C) (hH : za_WH H) {x : Int32} (hx : ∀ n, n < 16 → x ≠ nI n)  : zg_C V zm_X3_spill yX3_spill 8 190 [.ref 1, .int x] w (zq_p (.inr 20) (zr_pub w D H b L S C)) := by
  refine zg_of (by decide +kernel) rfl (Nat.le_of_ble_eq_true rfl) ?_
  show zg_G V zm_X3_spill 8 190 w.1 w.2.1 0 [] [(0, .ref 1), (1, .int x)] w _
  refine zg_iload_n dX3_spill_0 rfl ?_
  refine zg_sthr (M := zm_X3_spill) E dX3_spill_1 (ct_checkPage_no E HX hx) wd_X3_45 dh_X3_checkPage dn_X3_checkPage (Nat.le_of_ble_eq_true rfl) (Nat.le_of_ble_eq_true rfl) (Nat.le_of_ble_eq_true rfl) (zl_cap HX) rfl (fun w1 g1 => ?_)
  subst w1
  exact zg_out rfl ⟨rfl, zp_nw HX hX hH⟩
set_option maxHeartbeats 4000000 in
set_option maxRecDepth 100000 in
theorem ps_2 {V : zv_V} (E : zv_OK V) {w : zw_W} (HX : zl_X w) {D : Nat → Nat → Nat} {H : za_H} {b : Bool} {L S : za_T} {C : za_C} (hX : zr_X (zw_i w) D H b L S C) (hH : za_WH H) {p : Nat} (hp : p < 16) (wC : za_WC C) (h0 : C.1 p = 0) : zg_C V zm_X3_spill yX3_spill 8 190 [.ref 1, .int (nI p)] w (zq_p (.inr 20) (zr_pub w D H b L S C)) := by
  refine zg_of (by decide +kernel) rfl (Nat.le_of_ble_eq_true rfl) ?_
  show zg_G V zm_X3_spill 8 190 w.1 w.2.1 0 [] [(0, .ref 1), (1, .int (nI p))] w _
  refine zg_iload_n dX3_spill_0 rfl ?_
  refine zg_sret (M := zm_X3_spill) E dX3_spill_1 (ct_checkPage_ok E HX hp) wd_X3_45 dh_X3_checkPage dn_X3_checkPage (Nat.le_of_ble_eq_true rfl) (Nat.le_of_ble_eq_true rfl) (Nat.le_of_ble_eq_true rfl) (zl_cap HX) rfl (fun w1 g1 => ?_)
  subst w1
  refine zg_aload_n dX3_spill_4 rfl ?_
  refine zg_getR E (ci := 3) (j := 4) (r := 135) dX3_spill_5 rfl (congrArg Prod.fst (zl_at HX (k := 1) (t := (3, 7)) rfl (by decide) (by decide))) (by decide) (zl_lt HX (by decide)) (by decide) fl_X3_34 rfl (zl_rf HX rfl (by decide) (by decide)) ?_
  refine zg_iload_n dX3_spill_8 rfl ?_
  refine zg_vrt (M := zm_X3_spill) E (ci := 0) dX3_spill_9 (kt_has E HX hp hX.2.2.2.2.2 wC (bz := false) ⟨fun z => absurd z (by decide), fun z => absurd h0 z⟩) wd_X3_68 rfl (congrArg Prod.fst (zl_at HX (k := 135) (t := (0, 4)) rfl (by decide) (by decide))) (by decide) (zl_lt HX (by decide)) rfl dh_X0_has dn_X0_has (Nat.le_of_ble_eq_true rfl) (Nat.le_of_ble_eq_true rfl) (Nat.le_of_ble_eq_true rfl) (zl_cap HX) rfl (fun w9 g9 => ?_)
  subst w9
  refine zg_if_eq (tgt := 27) dX3_spill_12 (by decide) (fun h12 => ?_) (fun h12 => ?_)
  · exact zg_throw (M := zm_X3_spill) E 20 (text := "the page has no change that could be spilled") (by decide) rfl rfl dX3_spill_27 dX3_spill_30 dX3_spill_31 dX3_spill_33 dX3_spill_36 (by decide +kernel) (by decide +kernel) (by decide +kernel) tw_20_83 (zt_cap HX).1 (zt_cap HX).2.1 (zt_cap HX).2.2 (Nat.le_of_ble_eq_true rfl) (Nat.le_of_ble_eq_true rfl) ⟨rfl, zp_nw HX hX hH⟩
  · exact absurd rfl h12
set_option maxHeartbeats 4000000 in
set_option maxRecDepth 100000 in
theorem ps_3 {V : zv_V} (E : zv_OK V) {w : zw_W} (HX : zl_X w) {D : Nat → Nat → Nat} {H : za_H} {b : Bool} {L S : za_T} {C : za_C} (hX : zr_X (zw_i w) D H b L S C) (hH : za_WH H) {p : Nat} (hp : p < 16) (wC : za_WC C) (h0 : C.1 p ≠ 0) (hz : C.2.2 p = true) : zg_C V zm_X3_spill yX3_spill 8 190 [.ref 1, .int (nI p)] w (zq_p (.inr 20) (zr_pub w D H b L S C)) := by
  refine zg_of (by decide +kernel) rfl (Nat.le_of_ble_eq_true rfl) ?_
  show zg_G V zm_X3_spill 8 190 w.1 w.2.1 0 [] [(0, .ref 1), (1, .int (nI p))] w _
  refine zg_iload_n dX3_spill_0 rfl ?_
  refine zg_sret (M := zm_X3_spill) E dX3_spill_1 (ct_checkPage_ok E HX hp) wd_X3_45 dh_X3_checkPage dn_X3_checkPage (Nat.le_of_ble_eq_true rfl) (Nat.le_of_ble_eq_true rfl) (Nat.le_of_ble_eq_true rfl) (zl_cap HX) rfl (fun w1 g1 => ?_)
  subst w1
  refine zg_aload_n dX3_spill_4 rfl ?_
  refine zg_getR E (ci := 3) (j := 4) (r := 135) dX3_spill_5 rfl (congrArg Prod.fst (zl_at HX (k := 1) (t := (3, 7)) rfl (by decide) (by decide))) (by decide) (zl_lt HX (by decide)) (by decide) fl_X3_34 rfl (zl_rf HX rfl (by decide) (by decide)) ?_
  refine zg_iload_n dX3_spill_8 rfl ?_
  refine zg_vrt (M := zm_X3_spill) E (ci := 0) dX3_spill_9 (kt_has E HX hp hX.2.2.2.2.2 wC (bz := true) ⟨fun _ => h0, fun _ => rfl⟩) wd_X3_68 rfl (congrArg Prod.fst (zl_at HX (k := 135) (t := (0, 4)) rfl (by decide) (by decide))) (by decide) (zl_lt HX (by decide)) rfl dh_X0_has dn_X0_has (Nat.le_of_ble_eq_true rfl) (Nat.le_of_ble_eq_true rfl) (Nat.le_of_ble_eq_true rfl) (zl_cap HX) rfl (fun w9 g9 => ?_)
  subst w9
  refine zg_if_eq (tgt := 27) dX3_spill_12 (by decide) (fun h12 => ?_) (fun h12 => ?_)
  · exact absurd h12 (by decide)
  · refine zg_aload_n dX3_spill_15 rfl ?_
    refine zg_getR E (ci := 3) (j := 4) (r := 135) dX3_spill_16 rfl (congrArg Prod.fst (zl_at HX (k := 1) (t := (3, 7)) rfl (by decide) (by decide))) (by decide) (zl_lt HX (by decide)) (by decide) fl_X3_34 rfl (zl_rf HX rfl (by decide) (by decide)) ?_
    refine zg_getR E (ci := 0) (j := 2) (r := 154) dX3_spill_19 rfl (congrArg Prod.fst (zl_at HX (k := 135) (t := (0, 4)) rfl (by decide) (by decide))) (by decide) (zl_lt HX (by decide)) (by decide) fl_X3_75 rfl (zl_rf HX rfl (by decide) (by decide)) ?_
    refine zg_iload_n dX3_spill_22 rfl ?_
    refine zg_zald E (j := p) dX3_spill_23 (zl_at HX (k := 154) (t := (11, 16)) rfl (by decide) (by decide)) (by decide) (zl_lt HX (by decide)) rfl (by omega) (by decide) ?_
    refine zg_v (x' := za_bit (C.2.2 p)) ((hX.2.2.2.2.2.2.2 p hp h0).2) ?_
    refine zg_if_eq (tgt := 37) dX3_spill_24 (by decide) (fun h24 => ?_) (fun h24 => ?_)
    · exact absurd h24 (by rw [hz]; decide)
    · exact zg_throw (M := zm_X3_spill) E 20 (text := "the page has no change that could be spilled") (by decide) rfl rfl dX3_spill_27 dX3_spill_30 dX3_spill_31 dX3_spill_33 dX3_spill_36 (by decide +kernel) (by decide +kernel) (by decide +kernel) tw_20_83 (zt_cap HX).1 (zt_cap HX).2.1 (zt_cap HX).2.2 (Nat.le_of_ble_eq_true rfl) (Nat.le_of_ble_eq_true rfl) ⟨rfl, zp_nw HX hX hH⟩
set_option maxHeartbeats 4000000 in
set_option maxRecDepth 100000 in
theorem ps_4 {V : zv_V} (E : zv_OK V) {w : zw_W} (HX : zl_X w) {D : Nat → Nat → Nat} {H : za_H} {b : Bool} {L S : za_T} {C : za_C} (hX : zr_X (zw_i w) D H b L S C) (hH : za_WH H) {p : Nat} (hp : p < 16) (wC : za_WC C) (h0 : C.1 p ≠ 0) (hz : C.2.2 p = false) (h60 : 60 ≤ H.1) : zg_C V zm_X3_spill yX3_spill 8 190 [.ref 1, .int (nI p)] w (zq_p (.inr 21) (zr_pub w D H b L S C)) := by
  refine zg_of (by decide +kernel) rfl (Nat.le_of_ble_eq_true rfl) ?_
  show zg_G V zm_X3_spill 8 190 w.1 w.2.1 0 [] [(0, .ref 1), (1, .int (nI p))] w _
  refine zg_iload_n dX3_spill_0 rfl ?_
  refine zg_sret (M := zm_X3_spill) E dX3_spill_1 (ct_checkPage_ok E HX hp) wd_X3_45 dh_X3_checkPage dn_X3_checkPage (Nat.le_of_ble_eq_true rfl) (Nat.le_of_ble_eq_true rfl) (Nat.le_of_ble_eq_true rfl) (zl_cap HX) rfl (fun w1 g1 => ?_)
  subst w1
  refine zg_aload_n dX3_spill_4 rfl ?_
  refine zg_getR E (ci := 3) (j := 4) (r := 135) dX3_spill_5 rfl (congrArg Prod.fst (zl_at HX (k := 1) (t := (3, 7)) rfl (by decide) (by decide))) (by decide) (zl_lt HX (by decide)) (by decide) fl_X3_34 rfl (zl_rf HX rfl (by decide) (by decide)) ?_
  refine zg_iload_n dX3_spill_8 rfl ?_
  refine zg_vrt (M := zm_X3_spill) E (ci := 0) dX3_spill_9 (kt_has E HX hp hX.2.2.2.2.2 wC (bz := true) ⟨fun _ => h0, fun _ => rfl⟩) wd_X3_68 rfl (congrArg Prod.fst (zl_at HX (k := 135) (t := (0, 4)) rfl (by decide) (by decide))) (by decide) (zl_lt HX (by decide)) rfl dh_X0_has dn_X0_has (Nat.le_of_ble_eq_true rfl) (Nat.le_of_ble_eq_true rfl) (Nat.le_of_ble_eq_true rfl) (zl_cap HX) rfl (fun w9 g9 => ?_)
  subst w9
  refine zg_if_eq (tgt := 27) dX3_spill_12 (by decide) (fun h12 => ?_) (fun h12 => ?_)
  · exact absurd h12 (by decide)
  · refine zg_aload_n dX3_spill_15 rfl ?_
    refine zg_getR E (ci := 3) (j := 4) (r := 135) dX3_spill_16 rfl (congrArg Prod.fst (zl_at HX (k := 1) (t := (3, 7)) rfl (by decide) (by decide))) (by decide) (zl_lt HX (by decide)) (by decide) fl_X3_34 rfl (zl_rf HX rfl (by decide) (by decide)) ?_
    refine zg_getR E (ci := 0) (j := 2) (r := 154) dX3_spill_19 rfl (congrArg Prod.fst (zl_at HX (k := 135) (t := (0, 4)) rfl (by decide) (by decide))) (by decide) (zl_lt HX (by decide)) (by decide) fl_X3_75 rfl (zl_rf HX rfl (by decide) (by decide)) ?_
    refine zg_iload_n dX3_spill_22 rfl ?_
    refine zg_zald E (j := p) dX3_spill_23 (zl_at HX (k := 154) (t := (11, 16)) rfl (by decide) (by decide)) (by decide) (zl_lt HX (by decide)) rfl (by omega) (by decide) ?_
    refine zg_v (x' := za_bit (C.2.2 p)) ((hX.2.2.2.2.2.2.2 p hp h0).2) ?_
    refine zg_if_eq (tgt := 37) dX3_spill_24 (by decide) (fun h24 => ?_) (fun h24 => ?_)
    · refine zg_aload_n dX3_spill_37 rfl ?_
      refine zg_getR E (ci := 3) (j := 1) (r := 51) dX3_spill_38 rfl (congrArg Prod.fst (zl_at HX (k := 1) (t := (3, 7)) rfl (by decide) (by decide))) (by decide) (zl_lt HX (by decide)) (by decide) fl_X3_17 rfl (zl_rf HX rfl (by decide) (by decide)) ?_
      refine zg_getI E (ci := 1) (j := 2) dX3_spill_41 rfl (congrArg Prod.fst (zl_at HX (k := 51) (t := (1, 3)) rfl (by decide) (by decide))) (by decide) (zl_lt HX (by decide)) (by decide) fl_X3_86 rfl ?_
      refine zg_v (x' := nI H.1) hX.2.1.1 ?_
      refine zg_bipush (v := nI 60) dX3_spill_44 (by decide) ?_
      refine zg_icmp_lt (tgt := 59) dX3_spill_46 (by decide) (fun h46 => ?_) (fun h46 => ?_)
      · exact absurd h46 (nI_nlt h60 (by have := hH.1; omega))
      · exact zg_throw (M := zm_X3_spill) E 21 (text := "too many writes are held back") (by decide) rfl rfl dX3_spill_49 dX3_spill_52 dX3_spill_53 dX3_spill_55 dX3_spill_58 (by decide +kernel) (by decide +kernel) (by decide +kernel) tw_21_93 (zt_cap HX).1 (zt_cap HX).2.1 (zt_cap HX).2.2 (Nat.le_of_ble_eq_true rfl) (Nat.le_of_ble_eq_true rfl) ⟨rfl, zp_nw HX hX hH⟩
    · exact absurd (by rw [hz]; rfl) h24
set_option maxHeartbeats 4000000 in
set_option maxRecDepth 100000 in
theorem ps_5 {V : zv_V} (E : zv_OK V) {w : zw_W} (HX : zl_X w) {D : Nat → Nat → Nat} {H : za_H} {b : Bool} {L S : za_T} {C : za_C} (hX : zr_X (zw_i w) D H b L S C) (hH : za_WH H) {p : Nat} (hp : p < 16) (wC : za_WC C) (h0 : C.1 p ≠ 0) (hz : C.2.2 p = false) (h60 : H.1 < 60) : zg_C V zm_X3_spill yX3_spill 8 190 [.ref 1, .int (nI p)] w (zq_p (.inl (some (.int (nI (H.1 + 1))))) (zr_pub w D (za_hold H (C.1 p) (C.2.1 p)) b L S (za_spl C p true))) := by
  refine zg_of (by decide +kernel) rfl (Nat.le_of_ble_eq_true rfl) ?_
  show zg_G V zm_X3_spill 8 190 w.1 w.2.1 0 [] [(0, .ref 1), (1, .int (nI p))] w _
  refine zg_iload_n dX3_spill_0 rfl ?_
  refine zg_sret (M := zm_X3_spill) E dX3_spill_1 (ct_checkPage_ok E HX hp) wd_X3_45 dh_X3_checkPage dn_X3_checkPage (Nat.le_of_ble_eq_true rfl) (Nat.le_of_ble_eq_true rfl) (Nat.le_of_ble_eq_true rfl) (zl_cap HX) rfl (fun w1 g1 => ?_)
  subst w1
  refine zg_aload_n dX3_spill_4 rfl ?_
  refine zg_getR E (ci := 3) (j := 4) (r := 135) dX3_spill_5 rfl (congrArg Prod.fst (zl_at HX (k := 1) (t := (3, 7)) rfl (by decide) (by decide))) (by decide) (zl_lt HX (by decide)) (by decide) fl_X3_34 rfl (zl_rf HX rfl (by decide) (by decide)) ?_
  refine zg_iload_n dX3_spill_8 rfl ?_
  refine zg_vrt (M := zm_X3_spill) E (ci := 0) dX3_spill_9 (kt_has E HX hp hX.2.2.2.2.2 wC (bz := true) ⟨fun _ => h0, fun _ => rfl⟩) wd_X3_68 rfl (congrArg Prod.fst (zl_at HX (k := 135) (t := (0, 4)) rfl (by decide) (by decide))) (by decide) (zl_lt HX (by decide)) rfl dh_X0_has dn_X0_has (Nat.le_of_ble_eq_true rfl) (Nat.le_of_ble_eq_true rfl) (Nat.le_of_ble_eq_true rfl) (zl_cap HX) rfl (fun w9 g9 => ?_)
  subst w9
  refine zg_if_eq (tgt := 27) dX3_spill_12 (by decide) (fun h12 => ?_) (fun h12 => ?_)
  · exact absurd h12 (by decide)
  · refine zg_aload_n dX3_spill_15 rfl ?_
    refine zg_getR E (ci := 3) (j := 4) (r := 135) dX3_spill_16 rfl (congrArg Prod.fst (zl_at HX (k := 1) (t := (3, 7)) rfl (by decide) (by decide))) (by decide) (zl_lt HX (by decide)) (by decide) fl_X3_34 rfl (zl_rf HX rfl (by decide) (by decide)) ?_
    refine zg_getR E (ci := 0) (j := 2) (r := 154) dX3_spill_19 rfl (congrArg Prod.fst (zl_at HX (k := 135) (t := (0, 4)) rfl (by decide) (by decide))) (by decide) (zl_lt HX (by decide)) (by decide) fl_X3_75 rfl (zl_rf HX rfl (by decide) (by decide)) ?_
    refine zg_iload_n dX3_spill_22 rfl ?_
    refine zg_zald E (j := p) dX3_spill_23 (zl_at HX (k := 154) (t := (11, 16)) rfl (by decide) (by decide)) (by decide) (zl_lt HX (by decide)) rfl (by omega) (by decide) ?_
    refine zg_v (x' := za_bit (C.2.2 p)) ((hX.2.2.2.2.2.2.2 p hp h0).2) ?_
    refine zg_if_eq (tgt := 37) dX3_spill_24 (by decide) (fun h24 => ?_) (fun h24 => ?_)
    · refine zg_aload_n dX3_spill_37 rfl ?_
      refine zg_getR E (ci := 3) (j := 1) (r := 51) dX3_spill_38 rfl (congrArg Prod.fst (zl_at HX (k := 1) (t := (3, 7)) rfl (by decide) (by decide))) (by decide) (zl_lt HX (by decide)) (by decide) fl_X3_17 rfl (zl_rf HX rfl (by decide) (by decide)) ?_
      refine zg_getI E (ci := 1) (j := 2) dX3_spill_41 rfl (congrArg Prod.fst (zl_at HX (k := 51) (t := (1, 3)) rfl (by decide) (by decide))) (by decide) (zl_lt HX (by decide)) (by decide) fl_X3_86 rfl ?_
      refine zg_v (x' := nI H.1) hX.2.1.1 ?_
      refine zg_bipush (v := nI 60) dX3_spill_44 (by decide) ?_
      refine zg_icmp_lt (tgt := 59) dX3_spill_46 (by decide) (fun h46 => ?_) (fun h46 => ?_)
      · refine zg_aload_n dX3_spill_59 rfl ?_
        refine zg_iload_n dX3_spill_60 rfl ?_
        refine zg_vrt (M := zm_X3_spill) E (ci := 3) dX3_spill_61 (kt_holdBack E HX hp hX hH h0 (by omega)) wd_X3_94 rfl (congrArg Prod.fst (zl_at HX (k := 1) (t := (3, 7)) rfl (by decide) (by decide))) (by decide) (zl_lt HX (by decide)) rfl dh_X3_holdBackPage dn_X3_holdBackPage (Nat.le_of_ble_eq_true rfl) (Nat.le_of_ble_eq_true rfl) (Nat.le_of_ble_eq_true rfl) (zl_cap HX) rfl (fun w61 g61 => ?_)
        obtain ⟨J1, rfl, r1, f1⟩ := g61
        refine zg_w (w' := zw_I w J1) rfl ?_
        refine zg_aload_n dX3_spill_64 rfl ?_
        refine zg_getR E (ci := 3) (j := 1) (r := 51) dX3_spill_65 rfl (congrArg Prod.fst (zl_at HX (k := 1) (t := (3, 7)) rfl (by decide) (by decide))) (by decide) (zl_lt HX (by decide)) (by decide) fl_X3_17 rfl (zl_rf HX rfl (by decide) (by decide)) ?_
        refine zg_getI E (ci := 1) (j := 2) dX3_spill_68 rfl (congrArg Prod.fst (zl_at HX (k := 51) (t := (1, 3)) rfl (by decide) (by decide))) (by decide) (zl_lt HX (by decide)) (by decide) fl_X3_86 rfl ?_
        refine zg_v (x' := nI (H.1 + 1)) r1.2.1.1 ?_
        exact zg_iret rfl dX3_spill_71 ⟨rfl, zp_to (by decide) ⟨_, rfl, r1, f1⟩⟩
      · exact absurd (nI_lt h60 (by decide)) h46
    · exact absurd (by rw [hz]; rfl) h24
end
section
/-! The class's public methods, on. -/
set_option maxHeartbeats 4000000 in
set_option maxRecDepth 100000 in
theorem pd_1 {V : zv_V} (E : zv_OK V) {w : zw_W} (HX : zl_X w) {D : Nat → Nat → Nat} {H : za_H} {b : Bool} {L S : za_T} {C : za_C} (hX : zr_X (zw_i w) D H b L S C) (hH : za_WH H) {x : Int32} (hx : ∀ n, n < 48 → x ≠ nI n) {u v : Int32} : zg_C V zm_X3_damage yX3_damage 8 190 [.ref 1, .int x, .int u, .int v] w (zq_p (.inr 20) (zr_pub w D H b L S C)) := by
  refine zg_of (by decide +kernel) rfl (Nat.le_of_ble_eq_true rfl) ?_
  show zg_G V zm_X3_damage 8 190 w.1 w.2.1 0 [] [(0, .ref 1), (1, .int x), (2, .int u), (3, .int v)] w _
  refine zg_iload_n dX3_damage_0 rfl ?_
  refine zg_sthr (M := zm_X3_damage) E dX3_damage_1 (ct_checkSector_no E HX hx) wd_X3_135 dh_X3_checkSector dn_X3_checkSector (Nat.le_of_ble_eq_true rfl) (Nat.le_of_ble_eq_true rfl) (Nat.le_of_ble_eq_true rfl) (zl_cap HX) rfl (fun w1 g1 => ?_)
  subst w1
  exact zg_out rfl ⟨rfl, zp_nw HX hX hH⟩
set_option maxHeartbeats 4000000 in
set_option maxRecDepth 100000 in
theorem pd_2 {V : zv_V} (E : zv_OK V) {w : zw_W} (HX : zl_X w) {D : Nat → Nat → Nat} {H : za_H} {b : Bool} {L S : za_T} {C : za_C} (hX : zr_X (zw_i w) D H b L S C) (hH : za_WH H) {s : Nat} (hs : s < 48) {x : Int32} (hx : ∀ n, n < 16 → x ≠ nI n) {v : Int32} : zg_C V zm_X3_damage yX3_damage 8 190 [.ref 1, .int (nI s), .int x, .int v] w (zq_p (.inr 20) (zr_pub w D H b L S C)) := by
  refine zg_of (by decide +kernel) rfl (Nat.le_of_ble_eq_true rfl) ?_
  show zg_G V zm_X3_damage 8 190 w.1 w.2.1 0 [] [(0, .ref 1), (1, .int (nI s)), (2, .int x), (3, .int v)] w _
  refine zg_iload_n dX3_damage_0 rfl ?_
  refine zg_sret (M := zm_X3_damage) E dX3_damage_1 (ct_checkSector_ok E HX hs) wd_X3_135 dh_X3_checkSector dn_X3_checkSector (Nat.le_of_ble_eq_true rfl) (Nat.le_of_ble_eq_true rfl) (Nat.le_of_ble_eq_true rfl) (zl_cap HX) rfl (fun w1 g1 => ?_)
  subst w1
  refine zg_iload_n dX3_damage_4 rfl ?_
  refine zg_sthr (M := zm_X3_damage) E dX3_damage_5 (ct_checkIndex_no E HX hx) wd_X3_49 dh_X3_checkIndex dn_X3_checkIndex (Nat.le_of_ble_eq_true rfl) (Nat.le_of_ble_eq_true rfl) (Nat.le_of_ble_eq_true rfl) (zl_cap HX) rfl (fun w5 g5 => ?_)
  subst w5
  exact zg_out rfl ⟨rfl, zp_nw HX hX hH⟩
set_option maxHeartbeats 4000000 in
set_option maxRecDepth 100000 in
theorem pd_3 {V : zv_V} (E : zv_OK V) {w : zw_W} (HX : zl_X w) {D : Nat → Nat → Nat} {H : za_H} {b : Bool} {L S : za_T} {C : za_C} (hX : zr_X (zw_i w) D H b L S C) (hH : za_WH H) {s : Nat} (hs : s < 48) {i : Nat} (hi : i < 16) {x : Int32} (hx : ∀ n, n < 256 → x ≠ nI n) : zg_C V zm_X3_damage yX3_damage 8 190 [.ref 1, .int (nI s), .int (nI i), .int x] w (zq_p (.inr 20) (zr_pub w D H b L S C)) := by
  refine zg_of (by decide +kernel) rfl (Nat.le_of_ble_eq_true rfl) ?_
  show zg_G V zm_X3_damage 8 190 w.1 w.2.1 0 [] [(0, .ref 1), (1, .int (nI s)), (2, .int (nI i)), (3, .int x)] w _
  refine zg_iload_n dX3_damage_0 rfl ?_
  refine zg_sret (M := zm_X3_damage) E dX3_damage_1 (ct_checkSector_ok E HX hs) wd_X3_135 dh_X3_checkSector dn_X3_checkSector (Nat.le_of_ble_eq_true rfl) (Nat.le_of_ble_eq_true rfl) (Nat.le_of_ble_eq_true rfl) (zl_cap HX) rfl (fun w1 g1 => ?_)
  subst w1
  refine zg_iload_n dX3_damage_4 rfl ?_
  refine zg_sret (M := zm_X3_damage) E dX3_damage_5 (ct_checkIndex_ok E HX hi) wd_X3_49 dh_X3_checkIndex dn_X3_checkIndex (Nat.le_of_ble_eq_true rfl) (Nat.le_of_ble_eq_true rfl) (Nat.le_of_ble_eq_true rfl) (zl_cap HX) rfl (fun w5 g5 => ?_)
  subst w5
  refine zg_iload_n dX3_damage_8 rfl ?_
  refine zg_sthr (M := zm_X3_damage) E dX3_damage_9 (ct_checkByte_no E HX hx) wd_X3_52 dh_X3_checkByte dn_X3_checkByte (Nat.le_of_ble_eq_true rfl) (Nat.le_of_ble_eq_true rfl) (Nat.le_of_ble_eq_true rfl) (zl_cap HX) rfl (fun w9 g9 => ?_)
  subst w9
  exact zg_out rfl ⟨rfl, zp_nw HX hX hH⟩
def za_dam (D : Nat → Nat → Nat) (s i y : Nat) : Nat → Nat → Nat := zw_up D s i y
theorem zk_dam {I J : Nat → Nat → Int32} {D : Nat → Nat → Nat} {s i y : Nat} (h : zr_D I D) (g : J = zw_up I (3 + s) i (nI y)) : zr_D J (za_dam D s i y) := by
  subst g
  intro t ht j hj
  unfold za_dam
  by_cases e : t = s ∧ j = i
  · rw [e.1, e.2, zw_up_s, zw_up_s]
  · have e' : t ≠ s ∨ j ≠ i := by
      rcases Nat.decEq t s with a | a
      · exact Or.inl a
      · exact Or.inr (fun z => e ⟨a, z⟩)
    rw [zw_up_n _ _ e', zw_up_n _ _ (e'.imp (fun z => by omega) id)]
    exact h t ht j hj
set_option maxHeartbeats 4000000 in
set_option maxRecDepth 100000 in
theorem pd_4 {V : zv_V} (E : zv_OK V) {w : zw_W} (HX : zl_X w) {D : Nat → Nat → Nat} {H : za_H} {b : Bool} {L S : za_T} {C : za_C} (hX : zr_X (zw_i w) D H b L S C) (hH : za_WH H) {s : Nat} (hs : s < 48) {i : Nat} (hi : i < 16) {y : Nat} (hy : y < 256)  : zg_C V zm_X3_damage yX3_damage 8 190 [.ref 1, .int (nI s), .int (nI i), .int (nI y)] w (zq_p (.inl (some (.int (nI (D s i))))) (zr_pub w (za_dam D s i y) H b L S C)) := by
  refine zg_of (by decide +kernel) rfl (Nat.le_of_ble_eq_true rfl) ?_
  show zg_G V zm_X3_damage 8 190 w.1 w.2.1 0 [] [(0, .ref 1), (1, .int (nI s)), (2, .int (nI i)), (3, .int (nI y))] w _
  refine zg_iload_n dX3_damage_0 rfl ?_
  refine zg_sret (M := zm_X3_damage) E dX3_damage_1 (ct_checkSector_ok E HX hs) wd_X3_135 dh_X3_checkSector dn_X3_checkSector (Nat.le_of_ble_eq_true rfl) (Nat.le_of_ble_eq_true rfl) (Nat.le_of_ble_eq_true rfl) (zl_cap HX) rfl (fun w1 g1 => ?_)
  subst w1
  refine zg_iload_n dX3_damage_4 rfl ?_
  refine zg_sret (M := zm_X3_damage) E dX3_damage_5 (ct_checkIndex_ok E HX hi) wd_X3_49 dh_X3_checkIndex dn_X3_checkIndex (Nat.le_of_ble_eq_true rfl) (Nat.le_of_ble_eq_true rfl) (Nat.le_of_ble_eq_true rfl) (zl_cap HX) rfl (fun w5 g5 => ?_)
  subst w5
  refine zg_iload_n dX3_damage_8 rfl ?_
  refine zg_sret (M := zm_X3_damage) E dX3_damage_9 (ct_checkByte_ok E HX hy) wd_X3_52 dh_X3_checkByte dn_X3_checkByte (Nat.le_of_ble_eq_true rfl) (Nat.le_of_ble_eq_true rfl) (Nat.le_of_ble_eq_true rfl) (zl_cap HX) rfl (fun w9 g9 => ?_)
  subst w9
  refine zg_aload_n dX3_damage_12 rfl ?_
  refine zg_getR E (ci := 3) (j := 0) (r := 2) dX3_damage_13 rfl (congrArg Prod.fst (zl_at HX (k := 1) (t := (3, 7)) rfl (by decide) (by decide))) (by decide) (zl_lt HX (by decide)) (by decide) fl_X3_11 rfl (zl_rf HX rfl (by decide) (by decide)) ?_
  refine zg_iload_n dX3_damage_16 rfl ?_
  refine zg_aald E (j := s) (r := 3 + s) dX3_damage_17 (zl_at HX (k := 2) (t := (13, 48)) rfl (by decide) (by decide)) (by decide) (zl_lt HX (by decide)) rfl (by omega) (by decide) (zl_rf HX (zl_sec (by omega)).2 (by decide) (by decide)) ?_
  refine zg_iload_n dX3_damage_18 rfl ?_
  refine zg_iald E (j := i) dX3_damage_19 (zl_at HX (zl_sec (by omega)).1 (by omega) (by omega)) (by omega) (zl_lt HX (by omega)) rfl (by omega) (by decide) ?_
  refine zg_v (x' := nI (D s i)) (hX.1 s hs i hi) ?_
  refine zg_istore (lv' := [(4, .int (nI (D s i))), (0, .ref 1), (1, .int (nI s)), (2, .int (nI i)), (3, .int (nI y))]) dX3_damage_20 (by decide) rfl ?_
  refine zg_aload_n dX3_damage_22 rfl ?_
  refine zg_getR E (ci := 3) (j := 0) (r := 2) dX3_damage_23 rfl (congrArg Prod.fst (zl_at HX (k := 1) (t := (3, 7)) rfl (by decide) (by decide))) (by decide) (zl_lt HX (by decide)) (by decide) fl_X3_11 rfl (zl_rf HX rfl (by decide) (by decide)) ?_
  refine zg_iload_n dX3_damage_26 rfl ?_
  refine zg_aald E (j := s) (r := 3 + s) dX3_damage_27 (zl_at HX (k := 2) (t := (13, 48)) rfl (by decide) (by decide)) (by decide) (zl_lt HX (by decide)) rfl (by omega) (by decide) (zl_rf HX (zl_sec (by omega)).2 (by decide) (by decide)) ?_
  refine zg_iload_n dX3_damage_28 rfl ?_
  refine zg_iload_n dX3_damage_29 rfl ?_
  refine zg_iast E (j := i) dX3_damage_30 (zl_at HX (zl_sec (by omega)).1 (by omega) (by omega)) (by omega) (zl_lt HX (by omega)) rfl (by omega) (by decide) ?_
  refine zg_iload dX3_damage_31 rfl ?_
  exact zg_iret rfl dX3_damage_33 ⟨rfl, zp_to (lo := 3) (hi := 51) (by decide) ⟨_, rfl, zr_Xd hX hH.1 (zk_dam hX.1 rfl) (fun a ha => zw_up_row _ _ _ (by omega)), fun a ha => zw_up_row _ _ _ (by omega)⟩⟩
set_option maxHeartbeats 4000000 in
set_option maxRecDepth 100000 in
theorem pk_1 {V : zv_V} (E : zv_OK V) {w : zw_W} (HX : zl_X w) {D : Nat → Nat → Nat} {H : za_H} {b : Bool} {L S : za_T} {C : za_C} (hX : zr_X (zw_i w) D H b L S C) (hH : za_WH H) {x : Int32} (hx : ∀ n, n < 48 → x ≠ nI n) {u : Int32} : zg_C V zm_X3_disk yX3_disk 8 190 [.ref 1, .int x, .int u] w (zq_p (.inr 20) (zr_pub w D H b L S C)) := by
  refine zg_of (by decide +kernel) rfl (Nat.le_of_ble_eq_true rfl) ?_
  show zg_G V zm_X3_disk 8 190 w.1 w.2.1 0 [] [(0, .ref 1), (1, .int x), (2, .int u)] w _
  refine zg_iload_n dX3_disk_0 rfl ?_
  refine zg_sthr (M := zm_X3_disk) E dX3_disk_1 (ct_checkSector_no E HX hx) wd_X3_135 dh_X3_checkSector dn_X3_checkSector (Nat.le_of_ble_eq_true rfl) (Nat.le_of_ble_eq_true rfl) (Nat.le_of_ble_eq_true rfl) (zl_cap HX) rfl (fun w1 g1 => ?_)
  subst w1
  exact zg_out rfl ⟨rfl, zp_nw HX hX hH⟩
set_option maxHeartbeats 4000000 in
set_option maxRecDepth 100000 in
theorem pk_2 {V : zv_V} (E : zv_OK V) {w : zw_W} (HX : zl_X w) {D : Nat → Nat → Nat} {H : za_H} {b : Bool} {L S : za_T} {C : za_C} (hX : zr_X (zw_i w) D H b L S C) (hH : za_WH H) {s : Nat} (hs : s < 48) {x : Int32} (hx : ∀ n, n < 16 → x ≠ nI n)  : zg_C V zm_X3_disk yX3_disk 8 190 [.ref 1, .int (nI s), .int x] w (zq_p (.inr 20) (zr_pub w D H b L S C)) := by
  refine zg_of (by decide +kernel) rfl (Nat.le_of_ble_eq_true rfl) ?_
  show zg_G V zm_X3_disk 8 190 w.1 w.2.1 0 [] [(0, .ref 1), (1, .int (nI s)), (2, .int x)] w _
  refine zg_iload_n dX3_disk_0 rfl ?_
  refine zg_sret (M := zm_X3_disk) E dX3_disk_1 (ct_checkSector_ok E HX hs) wd_X3_135 dh_X3_checkSector dn_X3_checkSector (Nat.le_of_ble_eq_true rfl) (Nat.le_of_ble_eq_true rfl) (Nat.le_of_ble_eq_true rfl) (zl_cap HX) rfl (fun w1 g1 => ?_)
  subst w1
  refine zg_iload_n dX3_disk_4 rfl ?_
  refine zg_sthr (M := zm_X3_disk) E dX3_disk_5 (ct_checkIndex_no E HX hx) wd_X3_49 dh_X3_checkIndex dn_X3_checkIndex (Nat.le_of_ble_eq_true rfl) (Nat.le_of_ble_eq_true rfl) (Nat.le_of_ble_eq_true rfl) (zl_cap HX) rfl (fun w5 g5 => ?_)
  subst w5
  exact zg_out rfl ⟨rfl, zp_nw HX hX hH⟩
set_option maxHeartbeats 4000000 in
set_option maxRecDepth 100000 in
theorem pk_3 {V : zv_V} (E : zv_OK V) {w : zw_W} (HX : zl_X w) {D : Nat → Nat → Nat} {H : za_H} {b : Bool} {L S : za_T} {C : za_C} (hX : zr_X (zw_i w) D H b L S C) (hH : za_WH H) {s : Nat} (hs : s < 48) {i : Nat} (hi : i < 16)  : zg_C V zm_X3_disk yX3_disk 8 190 [.ref 1, .int (nI s), .int (nI i)] w (zq_p (.inl (some (.int (nI (D s i))))) (zr_pub w D H b L S C)) := by
  refine zg_of (by decide +kernel) rfl (Nat.le_of_ble_eq_true rfl) ?_
  show zg_G V zm_X3_disk 8 190 w.1 w.2.1 0 [] [(0, .ref 1), (1, .int (nI s)), (2, .int (nI i))] w _
  refine zg_iload_n dX3_disk_0 rfl ?_
  refine zg_sret (M := zm_X3_disk) E dX3_disk_1 (ct_checkSector_ok E HX hs) wd_X3_135 dh_X3_checkSector dn_X3_checkSector (Nat.le_of_ble_eq_true rfl) (Nat.le_of_ble_eq_true rfl) (Nat.le_of_ble_eq_true rfl) (zl_cap HX) rfl (fun w1 g1 => ?_)
  subst w1
  refine zg_iload_n dX3_disk_4 rfl ?_
  refine zg_sret (M := zm_X3_disk) E dX3_disk_5 (ct_checkIndex_ok E HX hi) wd_X3_49 dh_X3_checkIndex dn_X3_checkIndex (Nat.le_of_ble_eq_true rfl) (Nat.le_of_ble_eq_true rfl) (Nat.le_of_ble_eq_true rfl) (zl_cap HX) rfl (fun w5 g5 => ?_)
  subst w5
  refine zg_aload_n dX3_disk_8 rfl ?_
  refine zg_getR E (ci := 3) (j := 0) (r := 2) dX3_disk_9 rfl (congrArg Prod.fst (zl_at HX (k := 1) (t := (3, 7)) rfl (by decide) (by decide))) (by decide) (zl_lt HX (by decide)) (by decide) fl_X3_11 rfl (zl_rf HX rfl (by decide) (by decide)) ?_
  refine zg_iload_n dX3_disk_12 rfl ?_
  refine zg_aald E (j := s) (r := 3 + s) dX3_disk_13 (zl_at HX (k := 2) (t := (13, 48)) rfl (by decide) (by decide)) (by decide) (zl_lt HX (by decide)) rfl (by omega) (by decide) (zl_rf HX (zl_sec (by omega)).2 (by decide) (by decide)) ?_
  refine zg_iload_n dX3_disk_14 rfl ?_
  refine zg_iald E (j := i) dX3_disk_15 (zl_at HX (zl_sec (by omega)).1 (by omega) (by omega)) (by omega) (zl_lt HX (by omega)) rfl (by omega) (by decide) ?_
  refine zg_v (x' := nI (D s i)) (hX.1 s hs i hi) ?_
  exact zg_iret rfl dX3_disk_16 ⟨rfl, zp_same hX⟩
set_option maxHeartbeats 4000000 in
set_option maxRecDepth 100000 in
theorem pp_1 {V : zv_V} (E : zv_OK V) {w : zw_W} (HX : zl_X w) {D : Nat → Nat → Nat} {H : za_H} {b : Bool} {L S : za_T} {C : za_C} (hX : zr_X (zw_i w) D H b L S C) (hH : za_WH H) {x : Int32} (hx : ∀ n, n < 16 → x ≠ nI n) {u : Int32} : zg_C V zm_X3_place yX3_place 8 190 [.ref 1, .int x, .int u] w (zq_p (.inr 20) (zr_pub w D H b L S C)) := by
  refine zg_of (by decide +kernel) rfl (Nat.le_of_ble_eq_true rfl) ?_
  show zg_G V zm_X3_place 8 190 w.1 w.2.1 0 [] [(0, .ref 1), (1, .int x), (2, .int u)] w _
  refine zg_iload_n dX3_place_0 rfl ?_
  refine zg_sthr (M := zm_X3_place) E dX3_place_1 (ct_checkPage_no E HX hx) wd_X3_45 dh_X3_checkPage dn_X3_checkPage (Nat.le_of_ble_eq_true rfl) (Nat.le_of_ble_eq_true rfl) (Nat.le_of_ble_eq_true rfl) (zl_cap HX) rfl (fun w1 g1 => ?_)
  subst w1
  exact zg_out rfl ⟨rfl, zp_nw HX hX hH⟩
set_option maxHeartbeats 4000000 in
set_option maxRecDepth 100000 in
theorem pp_2 {V : zv_V} (E : zv_OK V) {w : zw_W} (HX : zl_X w) {D : Nat → Nat → Nat} {H : za_H} {b : Bool} {L S : za_T} {C : za_C} (hX : zr_X (zw_i w) D H b L S C) (hH : za_WH H) {p : Nat} (hp : p < 16) {x : Int32} (hx : ∀ n, n < 3 → x ≠ nI n) : zg_C V zm_X3_place yX3_place 8 190 [.ref 1, .int (nI p), .int x] w (zq_p (.inr 20) (zr_pub w D H b L S C)) := by
  refine zg_of (by decide +kernel) rfl (Nat.le_of_ble_eq_true rfl) ?_
  show zg_G V zm_X3_place 8 190 w.1 w.2.1 0 [] [(0, .ref 1), (1, .int (nI p)), (2, .int x)] w _
  refine zg_iload_n dX3_place_0 rfl ?_
  refine zg_sret (M := zm_X3_place) E dX3_place_1 (ct_checkPage_ok E HX hp) wd_X3_45 dh_X3_checkPage dn_X3_checkPage (Nat.le_of_ble_eq_true rfl) (Nat.le_of_ble_eq_true rfl) (Nat.le_of_ble_eq_true rfl) (zl_cap HX) rfl (fun w1 g1 => ?_)
  subst w1
  refine zg_iload_n dX3_place_4 rfl ?_
  refine zg_if_lt (tgt := 13) dX3_place_5 (by decide) (fun h5 => ?_) (fun h5 => ?_)
  · exact zg_throw (M := zm_X3_place) E 20 (text := "no such table") (by decide) rfl rfl dX3_place_13 dX3_place_16 dX3_place_17 dX3_place_19 dX3_place_22 (by decide +kernel) (by decide +kernel) (by decide +kernel) tw_20_83 (zt_cap HX).1 (zt_cap HX).2.1 (zt_cap HX).2.2 (Nat.le_of_ble_eq_true rfl) (Nat.le_of_ble_eq_true rfl) ⟨rfl, zp_nw HX hX hH⟩
  · refine zg_iload_n dX3_place_8 rfl ?_
    refine zg_iconst (v := nI 2) dX3_place_9 (by decide) ?_
    refine zg_icmp_le (tgt := 23) dX3_place_10 (by decide) (fun h10 => ?_) (fun h10 => ?_)
    · exact absurd (zn_no (n := 3) hx h5 (Int32.lt_of_le_of_lt h10 (by decide))) not_false
    · exact zg_throw (M := zm_X3_place) E 20 (text := "no such table") (by decide) rfl rfl dX3_place_13 dX3_place_16 dX3_place_17 dX3_place_19 dX3_place_22 (by decide +kernel) (by decide +kernel) (by decide +kernel) tw_20_83 (zt_cap HX).1 (zt_cap HX).2.1 (zt_cap HX).2.2 (Nat.le_of_ble_eq_true rfl) (Nat.le_of_ble_eq_true rfl) ⟨rfl, zp_nw HX hX hH⟩
set_option maxHeartbeats 4000000 in
set_option maxRecDepth 100000 in
theorem pp_3 {V : zv_V} (E : zv_OK V) {w : zw_W} (HX : zl_X w) {D : Nat → Nat → Nat} {H : za_H} {b : Bool} {L S : za_T} {C : za_C} (hX : zr_X (zw_i w) D H b L S C) (hH : za_WH H) {p : Nat} (hp : p < 16) {k : Nat} (hk : k < 3) (hb : b = true)  : zg_C V zm_X3_place yX3_place 8 190 [.ref 1, .int (nI p), .int (nI k)] w (zq_p (.inr 21) (zr_pub w D H b L S C)) := by
  refine zg_of (by decide +kernel) rfl (Nat.le_of_ble_eq_true rfl) ?_
  show zg_G V zm_X3_place 8 190 w.1 w.2.1 0 [] [(0, .ref 1), (1, .int (nI p)), (2, .int (nI k))] w _
  refine zg_iload_n dX3_place_0 rfl ?_
  refine zg_sret (M := zm_X3_place) E dX3_place_1 (ct_checkPage_ok E HX hp) wd_X3_45 dh_X3_checkPage dn_X3_checkPage (Nat.le_of_ble_eq_true rfl) (Nat.le_of_ble_eq_true rfl) (Nat.le_of_ble_eq_true rfl) (zl_cap HX) rfl (fun w1 g1 => ?_)
  subst w1
  refine zg_iload_n dX3_place_4 rfl ?_
  refine zg_if_lt (tgt := 13) dX3_place_5 (by decide) (fun h5 => ?_) (fun h5 => ?_)
  · exact absurd h5 (nI_pos (by omega))
  · refine zg_iload_n dX3_place_8 rfl ?_
    refine zg_iconst (v := nI 2) dX3_place_9 (by decide) ?_
    refine zg_icmp_le (tgt := 23) dX3_place_10 (by decide) (fun h10 => ?_) (fun h10 => ?_)
    · refine zg_aload_n dX3_place_23 rfl ?_
      refine zg_vth (M := zm_X3_place) E (ci := 3) dX3_place_24 (ct_mounted_no E HX (by rw [hX.2.2.1, hb]; decide)) wd_X3_55 rfl (congrArg Prod.fst (zl_at HX (k := 1) (t := (3, 7)) rfl (by decide) (by decide))) (by decide) (zl_lt HX (by decide)) rfl dh_X3_checkMounted dn_X3_checkMounted (Nat.le_of_ble_eq_true rfl) (Nat.le_of_ble_eq_true rfl) (Nat.le_of_ble_eq_true rfl) (zl_cap HX) rfl (fun w24 g24 => ?_)
      subst w24
      exact zg_out rfl ⟨rfl, zp_nw HX hX hH⟩
    · exact absurd (nI_le (by omega) (by decide) : nI k ≤ nI 2) h10
def za_pl (L S : za_T) (C : za_C) (p k : Nat) : Nat := if k = 0 then L.1 p else if k = 1 then S.1 p else za_op L C p
set_option maxHeartbeats 4000000 in
set_option maxRecDepth 100000 in
theorem pp_4 {V : zv_V} (E : zv_OK V) {w : zw_W} (HX : zl_X w) {D : Nat → Nat → Nat} {H : za_H} {b : Bool} {L S : za_T} {C : za_C} (hX : zr_X (zw_i w) D H b L S C) (hH : za_WH H) {p : Nat} (hp : p < 16) {k : Nat} (hk : k < 3) (hb : b = false) (wC : za_WC C) : zg_C V zm_X3_place yX3_place 8 190 [.ref 1, .int (nI p), .int (nI k)] w (zq_p (.inl (some (.int (nI (za_pl L S C p k))))) (zr_pub w D H b L S C)) := by
  refine zg_of (by decide +kernel) rfl (Nat.le_of_ble_eq_true rfl) ?_
  show zg_G V zm_X3_place 8 190 w.1 w.2.1 0 [] [(0, .ref 1), (1, .int (nI p)), (2, .int (nI k))] w _
  refine zg_iload_n dX3_place_0 rfl ?_
  refine zg_sret (M := zm_X3_place) E dX3_place_1 (ct_checkPage_ok E HX hp) wd_X3_45 dh_X3_checkPage dn_X3_checkPage (Nat.le_of_ble_eq_true rfl) (Nat.le_of_ble_eq_true rfl) (Nat.le_of_ble_eq_true rfl) (zl_cap HX) rfl (fun w1 g1 => ?_)
  subst w1
  refine zg_iload_n dX3_place_4 rfl ?_
  refine zg_if_lt (tgt := 13) dX3_place_5 (by decide) (fun h5 => ?_) (fun h5 => ?_)
  · exact absurd h5 (nI_pos (by omega))
  · refine zg_iload_n dX3_place_8 rfl ?_
    refine zg_iconst (v := nI 2) dX3_place_9 (by decide) ?_
    refine zg_icmp_le (tgt := 23) dX3_place_10 (by decide) (fun h10 => ?_) (fun h10 => ?_)
    · refine zg_aload_n dX3_place_23 rfl ?_
      refine zg_vrt (M := zm_X3_place) E (ci := 3) dX3_place_24 (ct_mounted_ok E HX (by rw [hX.2.2.1, hb]; rfl)) wd_X3_55 rfl (congrArg Prod.fst (zl_at HX (k := 1) (t := (3, 7)) rfl (by decide) (by decide))) (by decide) (zl_lt HX (by decide)) rfl dh_X3_checkMounted dn_X3_checkMounted (Nat.le_of_ble_eq_true rfl) (Nat.le_of_ble_eq_true rfl) (Nat.le_of_ble_eq_true rfl) (zl_cap HX) rfl (fun w24 g24 => ?_)
      subst w24
      refine zg_iload_n dX3_place_27 rfl ?_
      refine zg_if_ne (tgt := 41) dX3_place_28 (by decide) (fun h28 => ?_) (fun h28 => ?_)
      · have e0 : k ≠ 0 := fun z => h28 (congrArg nI z)
        refine zg_iload_n dX3_place_41 rfl ?_
        refine zg_iconst (v := nI 1) dX3_place_42 (by decide) ?_
        refine zg_icmp_ne (tgt := 58) dX3_place_43 (by decide) (fun h43 => ?_) (fun h43 => ?_)
        · have e1 : k ≠ 1 := fun z => h43 (congrArg nI z)
          refine zg_aload_n dX3_place_58 rfl ?_
          refine zg_iload_n dX3_place_59 rfl ?_
          refine zg_vrt (M := zm_X3_place) E (ci := 3) dX3_place_60 (kt_openPlace (L := L) E HX hp (hX.2.2.2.1.1 p hp) hX.2.2.2.2.2 wC) wd_X3_140 rfl (congrArg Prod.fst (zl_at HX (k := 1) (t := (3, 7)) rfl (by decide) (by decide))) (by decide) (zl_lt HX (by decide)) rfl dh_X3_openPlace dn_X3_openPlace (Nat.le_of_ble_eq_true rfl) (Nat.le_of_ble_eq_true rfl) (Nat.le_of_ble_eq_true rfl) (zl_cap HX) rfl (fun w60 g60 => ?_)
          subst w60
          exact zg_iret rfl dX3_place_63 ⟨congrArg (fun x => Sum.inl (some (Value.int (nI x)))) ((if_neg e0).trans (if_neg e1)).symm, zp_same hX⟩
        · have e1 : k = 1 := (nI_eq (by omega) (by decide)).mp h43
          refine zg_aload_n dX3_place_46 rfl ?_
          refine zg_getR E (ci := 3) (j := 3) (r := 133) dX3_place_47 rfl (congrArg Prod.fst (zl_at HX (k := 1) (t := (3, 7)) rfl (by decide) (by decide))) (by decide) (zl_lt HX (by decide)) (by decide) fl_X3_28 rfl (zl_rf HX rfl (by decide) (by decide)) ?_
          refine zg_getR E (ci := 2) (j := 0) (r := 134) dX3_place_50 rfl (congrArg Prod.fst (zl_at HX (k := 133) (t := (2, 3)) rfl (by decide) (by decide))) (by decide) (zl_lt HX (by decide)) (by decide) fl_X3_72 rfl (zl_rf HX rfl (by decide) (by decide)) ?_
          refine zg_iload_n dX3_place_53 rfl ?_
          refine zg_iald E (j := p) dX3_place_54 (zl_at HX (k := 134) (t := (10, 16)) rfl (by decide) (by decide)) (by decide) (zl_lt HX (by decide)) rfl (by omega) (by decide) ?_
          refine zg_v (x' := nI (S.1 p)) (hX.2.2.2.2.1.1 p hp) ?_
          refine zg_goto (tgt := 63) dX3_place_55 (by decide) ?_
          exact zg_iret rfl dX3_place_63 ⟨congrArg (fun x => Sum.inl (some (Value.int (nI x)))) ((if_neg e0).trans (if_pos e1)).symm, zp_same hX⟩
      · have e0 : k = 0 := (nI_eq (by omega) (by decide)).mp h28
        refine zg_aload_n dX3_place_31 rfl ?_
        refine zg_getR E (ci := 3) (j := 2) (r := 131) dX3_place_32 rfl (congrArg Prod.fst (zl_at HX (k := 1) (t := (3, 7)) rfl (by decide) (by decide))) (by decide) (zl_lt HX (by decide)) (by decide) fl_X3_24 rfl (zl_rf HX rfl (by decide) (by decide)) ?_
        refine zg_getR E (ci := 2) (j := 0) (r := 132) dX3_place_35 rfl (congrArg Prod.fst (zl_at HX (k := 131) (t := (2, 3)) rfl (by decide) (by decide))) (by decide) (zl_lt HX (by decide)) (by decide) fl_X3_72 rfl (zl_rf HX rfl (by decide) (by decide)) ?_
        refine zg_iload_n dX3_place_38 rfl ?_
        refine zg_iald E (j := p) dX3_place_39 (zl_at HX (k := 132) (t := (10, 16)) rfl (by decide) (by decide)) (by decide) (zl_lt HX (by decide)) rfl (by omega) (by decide) ?_
        refine zg_v (x' := nI (L.1 p)) (hX.2.2.2.1.1 p hp) ?_
        exact zg_iret rfl dX3_place_40 ⟨congrArg (fun x => Sum.inl (some (Value.int (nI x)))) (if_pos e0).symm, zp_same hX⟩
    · exact absurd (nI_le (by omega) (by decide) : nI k ≤ nI 2) h10
set_option maxHeartbeats 4000000 in
set_option maxRecDepth 100000 in
theorem pf_1 {V : zv_V} (E : zv_OK V) {w : zw_W} (HX : zl_X w) {D : Nat → Nat → Nat} {H : za_H} {b : Bool} {L S : za_T} {C : za_C} (hX : zr_X (zw_i w) D H b L S C) (hH : za_WH H) {x : Int32} (hx : ∀ n, n < 48 → x ≠ nI n)  : zg_C V zm_X3_free yX3_free 8 190 [.ref 1, .int x] w (zq_p (.inr 20) (zr_pub w D H b L S C)) := by
  refine zg_of (by decide +kernel) rfl (Nat.le_of_ble_eq_true rfl) ?_
  show zg_G V zm_X3_free 8 190 w.1 w.2.1 0 [] [(0, .ref 1), (1, .int x)] w _
  refine zg_iload_n dX3_free_0 rfl ?_
  refine zg_sthr (M := zm_X3_free) E dX3_free_1 (ct_checkSector_no E HX hx) wd_X3_135 dh_X3_checkSector dn_X3_checkSector (Nat.le_of_ble_eq_true rfl) (Nat.le_of_ble_eq_true rfl) (Nat.le_of_ble_eq_true rfl) (zl_cap HX) rfl (fun w1 g1 => ?_)
  subst w1
  exact zg_out rfl ⟨rfl, zp_nw HX hX hH⟩
set_option maxHeartbeats 4000000 in
set_option maxRecDepth 100000 in
theorem pf_2 {V : zv_V} (E : zv_OK V) {w : zw_W} (HX : zl_X w) {D : Nat → Nat → Nat} {H : za_H} {b : Bool} {L S : za_T} {C : za_C} (hX : zr_X (zw_i w) D H b L S C) (hH : za_WH H) {s : Nat} (hs : s < 48) (hb : b = true)  : zg_C V zm_X3_free yX3_free 8 190 [.ref 1, .int (nI s)] w (zq_p (.inr 21) (zr_pub w D H b L S C)) := by
  refine zg_of (by decide +kernel) rfl (Nat.le_of_ble_eq_true rfl) ?_
  show zg_G V zm_X3_free 8 190 w.1 w.2.1 0 [] [(0, .ref 1), (1, .int (nI s))] w _
  refine zg_iload_n dX3_free_0 rfl ?_
  refine zg_sret (M := zm_X3_free) E dX3_free_1 (ct_checkSector_ok E HX hs) wd_X3_135 dh_X3_checkSector dn_X3_checkSector (Nat.le_of_ble_eq_true rfl) (Nat.le_of_ble_eq_true rfl) (Nat.le_of_ble_eq_true rfl) (zl_cap HX) rfl (fun w1 g1 => ?_)
  subst w1
  refine zg_aload_n dX3_free_4 rfl ?_
  refine zg_vth (M := zm_X3_free) E (ci := 3) dX3_free_5 (ct_mounted_no E HX (by rw [hX.2.2.1, hb]; decide)) wd_X3_55 rfl (congrArg Prod.fst (zl_at HX (k := 1) (t := (3, 7)) rfl (by decide) (by decide))) (by decide) (zl_lt HX (by decide)) rfl dh_X3_checkMounted dn_X3_checkMounted (Nat.le_of_ble_eq_true rfl) (Nat.le_of_ble_eq_true rfl) (Nat.le_of_ble_eq_true rfl) (zl_cap HX) rfl (fun w5 g5 => ?_)
  subst w5
  exact zg_out rfl ⟨rfl, zp_nw HX hX hH⟩
theorem zb_iff {a b : Bool} (h : a = true ↔ b = true) : a = b := by
  cases a
  · cases b
    · rfl
    · exact absurd (h.mpr rfl) (by decide)
  · exact (h.mp rfl).symm
theorem za_bit_nar (z : Bool) : narrow .boolean (.int (za_bit z)) = .int (za_bit z) := by
  cases z
  · rfl
  · rfl
set_option maxHeartbeats 4000000 in
set_option maxRecDepth 100000 in
theorem pf_3 {V : zv_V} (E : zv_OK V) {w : zw_W} (HX : zl_X w) {D : Nat → Nat → Nat} {H : za_H} {b : Bool} {L S : za_T} {C : za_C} (hX : zr_X (zw_i w) D H b L S C) (hH : za_WH H) {s : Nat} (hs : s < 48) (hb : b = false) (wL : za_WT L) (wS : za_WT S) (wC : za_WC C) {z : Bool} (hz : z = true ↔ ¬ za_us L S C.1 s) : zg_C V zm_X3_free yX3_free 8 190 [.ref 1, .int (nI s)] w (zq_p (.inl (some (.int (za_bit z)))) (zr_pub w D H b L S C)) := by
  refine zg_of (by decide +kernel) rfl (Nat.le_of_ble_eq_true rfl) ?_
  show zg_G V zm_X3_free 8 190 w.1 w.2.1 0 [] [(0, .ref 1), (1, .int (nI s))] w _
  refine zg_iload_n dX3_free_0 rfl ?_
  refine zg_sret (M := zm_X3_free) E dX3_free_1 (ct_checkSector_ok E HX hs) wd_X3_135 dh_X3_checkSector dn_X3_checkSector (Nat.le_of_ble_eq_true rfl) (Nat.le_of_ble_eq_true rfl) (Nat.le_of_ble_eq_true rfl) (zl_cap HX) rfl (fun w1 g1 => ?_)
  subst w1
  refine zg_aload_n dX3_free_4 rfl ?_
  refine zg_vrt (M := zm_X3_free) E (ci := 3) dX3_free_5 (ct_mounted_ok E HX (by rw [hX.2.2.1, hb]; rfl)) wd_X3_55 rfl (congrArg Prod.fst (zl_at HX (k := 1) (t := (3, 7)) rfl (by decide) (by decide))) (by decide) (zl_lt HX (by decide)) rfl dh_X3_checkMounted dn_X3_checkMounted (Nat.le_of_ble_eq_true rfl) (Nat.le_of_ble_eq_true rfl) (Nat.le_of_ble_eq_true rfl) (zl_cap HX) rfl (fun w5 g5 => ?_)
  subst w5
  refine zg_aload_n dX3_free_8 rfl ?_
  refine zg_vrt (M := zm_X3_free) E (ci := 3) dX3_free_9 (ct_freeSet E HX) wd_X3_144 rfl (congrArg Prod.fst (zl_at HX (k := 1) (t := (3, 7)) rfl (by decide) (by decide))) (by decide) (zl_lt HX (by decide)) rfl dh_X3_freeSet dn_X3_freeSet (Nat.le_of_ble_eq_true rfl) (Nat.le_of_ble_eq_true rfl) (Nat.le_of_ble_eq_true rfl) (zl_cap HX) rfl (fun w9 g9 => ?_)
  subst w9
  refine zg_iload_n dX3_free_12 rfl ?_
  refine zg_sret (M := zm_X3_free) E dX3_free_13 (ct_holds E (zk_fs (zw_i w)) (nI s)) wd_X3_148 dh_X3_holds dn_X3_holds (Nat.le_of_ble_eq_true rfl) (Nat.le_of_ble_eq_true rfl) (Nat.le_of_ble_eq_true rfl) (zl_cap HX) rfl (fun w13 g13 => ?_)
  subst w13
  refine zg_v (x' := za_bit z) ((zp_hol _ (by omega)).trans (congrArg za_bit (zb_iff ((zk_fs_b hX.2.2.2.1 hX.2.2.2.2.1 hX.2.2.2.2.2 wL wS wC hs).trans hz.symm)))) ?_
  exact zg_zret rfl (za_bit_nar z) dX3_free_16 ⟨rfl, zp_same hX⟩
set_option maxHeartbeats 4000000 in
set_option maxRecDepth 100000 in
theorem ph_1 {V : zv_V} (E : zv_OK V) {w : zw_W} (HX : zl_X w) {D : Nat → Nat → Nat} {H : za_H} {b : Bool} {L S : za_T} {C : za_C} (hX : zr_X (zw_i w) D H b L S C) (hH : za_WH H) {x : Int32} (hx : ∀ n, n < H.1 → x ≠ nI n) {u : Int32} : zg_C V zm_X3_held yX3_held 8 190 [.ref 1, .int x, .int u] w (zq_p (.inr 20) (zr_pub w D H b L S C)) := by
  refine zg_of (by decide +kernel) rfl (Nat.le_of_ble_eq_true rfl) ?_
  show zg_G V zm_X3_held 8 190 w.1 w.2.1 0 [] [(0, .ref 1), (1, .int x), (2, .int u)] w _
  refine zg_iload_n dX3_held_0 rfl ?_
  refine zg_if_lt (tgt := 15) dX3_held_1 (by decide) (fun h1 => ?_) (fun h1 => ?_)
  · exact zg_throw (M := zm_X3_held) E 20 (text := "no such write is held back") (by decide) rfl rfl dX3_held_15 dX3_held_18 dX3_held_19 dX3_held_21 dX3_held_24 (by decide +kernel) (by decide +kernel) (by decide +kernel) tw_20_83 (zt_cap HX).1 (zt_cap HX).2.1 (zt_cap HX).2.2 (Nat.le_of_ble_eq_true rfl) (Nat.le_of_ble_eq_true rfl) ⟨rfl, zp_nw HX hX hH⟩
  · refine zg_iload_n dX3_held_4 rfl ?_
    refine zg_aload_n dX3_held_5 rfl ?_
    refine zg_getR E (ci := 3) (j := 1) (r := 51) dX3_held_6 rfl (congrArg Prod.fst (zl_at HX (k := 1) (t := (3, 7)) rfl (by decide) (by decide))) (by decide) (zl_lt HX (by decide)) (by decide) fl_X3_17 rfl (zl_rf HX rfl (by decide) (by decide)) ?_
    refine zg_getI E (ci := 1) (j := 2) dX3_held_9 rfl (congrArg Prod.fst (zl_at HX (k := 51) (t := (1, 3)) rfl (by decide) (by decide))) (by decide) (zl_lt HX (by decide)) (by decide) fl_X3_86 rfl ?_
    refine zg_v (x' := nI H.1) hX.2.1.1 ?_
    refine zg_icmp_lt (tgt := 25) dX3_held_12 (by decide) (fun h12 => ?_) (fun h12 => ?_)
    · exact absurd (zn_no (n := H.1) hx h1 h12 (by have := hH.1; omega)) not_false
    · exact zg_throw (M := zm_X3_held) E 20 (text := "no such write is held back") (by decide) rfl rfl dX3_held_15 dX3_held_18 dX3_held_19 dX3_held_21 dX3_held_24 (by decide +kernel) (by decide +kernel) (by decide +kernel) tw_20_83 (zt_cap HX).1 (zt_cap HX).2.1 (zt_cap HX).2.2 (Nat.le_of_ble_eq_true rfl) (Nat.le_of_ble_eq_true rfl) ⟨rfl, zp_nw HX hX hH⟩
set_option maxHeartbeats 4000000 in
set_option maxRecDepth 100000 in
theorem ph_2 {V : zv_V} (E : zv_OK V) {w : zw_W} (HX : zl_X w) {D : Nat → Nat → Nat} {H : za_H} {b : Bool} {L S : za_T} {C : za_C} (hX : zr_X (zw_i w) D H b L S C) (hH : za_WH H) {k : Nat} (hk : k < H.1)  : zg_C V zm_X3_held yX3_held 8 190 [.ref 1, .int (nI k), .int ((-1))] w (zq_p (.inl (some (.int (nI (H.2.1 k))))) (zr_pub w D H b L S C)) := by
  refine zg_of (by decide +kernel) rfl (Nat.le_of_ble_eq_true rfl) ?_
  show zg_G V zm_X3_held 8 190 w.1 w.2.1 0 [] [(0, .ref 1), (1, .int (nI k)), (2, .int ((-1)))] w _
  refine zg_iload_n dX3_held_0 rfl ?_
  refine zg_if_lt (tgt := 15) dX3_held_1 (by decide) (fun h1 => ?_) (fun h1 => ?_)
  · exact absurd h1 (nI_pos (by have := hH.1; omega))
  · refine zg_iload_n dX3_held_4 rfl ?_
    refine zg_aload_n dX3_held_5 rfl ?_
    refine zg_getR E (ci := 3) (j := 1) (r := 51) dX3_held_6 rfl (congrArg Prod.fst (zl_at HX (k := 1) (t := (3, 7)) rfl (by decide) (by decide))) (by decide) (zl_lt HX (by decide)) (by decide) fl_X3_17 rfl (zl_rf HX rfl (by decide) (by decide)) ?_
    refine zg_getI E (ci := 1) (j := 2) dX3_held_9 rfl (congrArg Prod.fst (zl_at HX (k := 51) (t := (1, 3)) rfl (by decide) (by decide))) (by decide) (zl_lt HX (by decide)) (by decide) fl_X3_86 rfl ?_
    refine zg_v (x' := nI H.1) hX.2.1.1 ?_
    refine zg_icmp_lt (tgt := 25) dX3_held_12 (by decide) (fun h12 => ?_) (fun h12 => ?_)
    · refine zg_iload_n dX3_held_25 rfl ?_
      refine zg_iconst (v := (-1)) dX3_held_26 (by decide) ?_
      refine zg_icmp_ne (tgt := 40) dX3_held_27 (by decide) (fun h27 => ?_) (fun h27 => ?_)
      · exact absurd rfl h27
      · refine zg_aload_n dX3_held_30 rfl ?_
        refine zg_getR E (ci := 3) (j := 1) (r := 51) dX3_held_31 rfl (congrArg Prod.fst (zl_at HX (k := 1) (t := (3, 7)) rfl (by decide) (by decide))) (by decide) (zl_lt HX (by decide)) (by decide) fl_X3_17 rfl (zl_rf HX rfl (by decide) (by decide)) ?_
        refine zg_getR E (ci := 1) (j := 0) (r := 52) dX3_held_34 rfl (congrArg Prod.fst (zl_at HX (k := 51) (t := (1, 3)) rfl (by decide) (by decide))) (by decide) (zl_lt HX (by decide)) (by decide) fl_X3_154 rfl (zl_rf HX rfl (by decide) (by decide)) ?_
        refine zg_iload_n dX3_held_37 rfl ?_
        refine zg_iald E (j := k) dX3_held_38 (zl_at HX (k := 52) (t := (10, 77)) rfl (by decide) (by decide)) (by decide) (zl_lt HX (by decide)) rfl (by have := hH.1; omega) (by decide) ?_
        refine zg_v (x' := nI (H.2.1 k)) (hX.2.1.2.1 k hk) ?_
        exact zg_iret rfl dX3_held_39 ⟨rfl, zp_same hX⟩
    · exact absurd (nI_lt hk (by have := hH.1; omega)) h12
set_option maxHeartbeats 4000000 in
set_option maxRecDepth 100000 in
theorem ph_3 {V : zv_V} (E : zv_OK V) {w : zw_W} (HX : zl_X w) {D : Nat → Nat → Nat} {H : za_H} {b : Bool} {L S : za_T} {C : za_C} (hX : zr_X (zw_i w) D H b L S C) (hH : za_WH H) {k : Nat} (hk : k < H.1) {x : Int32} (hx : ∀ n, n < 16 → x ≠ nI n) (hm : x ≠ (-1)) : zg_C V zm_X3_held yX3_held 8 190 [.ref 1, .int (nI k), .int x] w (zq_p (.inr 20) (zr_pub w D H b L S C)) := by
  refine zg_of (by decide +kernel) rfl (Nat.le_of_ble_eq_true rfl) ?_
  show zg_G V zm_X3_held 8 190 w.1 w.2.1 0 [] [(0, .ref 1), (1, .int (nI k)), (2, .int x)] w _
  refine zg_iload_n dX3_held_0 rfl ?_
  refine zg_if_lt (tgt := 15) dX3_held_1 (by decide) (fun h1 => ?_) (fun h1 => ?_)
  · exact absurd h1 (nI_pos (by have := hH.1; omega))
  · refine zg_iload_n dX3_held_4 rfl ?_
    refine zg_aload_n dX3_held_5 rfl ?_
    refine zg_getR E (ci := 3) (j := 1) (r := 51) dX3_held_6 rfl (congrArg Prod.fst (zl_at HX (k := 1) (t := (3, 7)) rfl (by decide) (by decide))) (by decide) (zl_lt HX (by decide)) (by decide) fl_X3_17 rfl (zl_rf HX rfl (by decide) (by decide)) ?_
    refine zg_getI E (ci := 1) (j := 2) dX3_held_9 rfl (congrArg Prod.fst (zl_at HX (k := 51) (t := (1, 3)) rfl (by decide) (by decide))) (by decide) (zl_lt HX (by decide)) (by decide) fl_X3_86 rfl ?_
    refine zg_v (x' := nI H.1) hX.2.1.1 ?_
    refine zg_icmp_lt (tgt := 25) dX3_held_12 (by decide) (fun h12 => ?_) (fun h12 => ?_)
    · refine zg_iload_n dX3_held_25 rfl ?_
      refine zg_iconst (v := (-1)) dX3_held_26 (by decide) ?_
      refine zg_icmp_ne (tgt := 40) dX3_held_27 (by decide) (fun h27 => ?_) (fun h27 => ?_)
      · refine zg_iload_n dX3_held_40 rfl ?_
        refine zg_sthr (M := zm_X3_held) E dX3_held_41 (ct_checkIndex_no E HX hx) wd_X3_49 dh_X3_checkIndex dn_X3_checkIndex (Nat.le_of_ble_eq_true rfl) (Nat.le_of_ble_eq_true rfl) (Nat.le_of_ble_eq_true rfl) (zl_cap HX) rfl (fun w41 g41 => ?_)
        subst w41
        exact zg_out rfl ⟨rfl, zp_nw HX hX hH⟩
      · exact absurd h27 hm
    · exact absurd (nI_lt hk (by have := hH.1; omega)) h12
set_option maxHeartbeats 4000000 in
set_option maxRecDepth 100000 in
theorem ph_4 {V : zv_V} (E : zv_OK V) {w : zw_W} (HX : zl_X w) {D : Nat → Nat → Nat} {H : za_H} {b : Bool} {L S : za_T} {C : za_C} (hX : zr_X (zw_i w) D H b L S C) (hH : za_WH H) {k : Nat} (hk : k < H.1) {i : Nat} (hi : i < 16)  : zg_C V zm_X3_held yX3_held 8 190 [.ref 1, .int (nI k), .int (nI i)] w (zq_p (.inl (some (.int (nI (H.2.2 k i))))) (zr_pub w D H b L S C)) := by
  refine zg_of (by decide +kernel) rfl (Nat.le_of_ble_eq_true rfl) ?_
  show zg_G V zm_X3_held 8 190 w.1 w.2.1 0 [] [(0, .ref 1), (1, .int (nI k)), (2, .int (nI i))] w _
  have h77 := hH.1
  refine zg_iload_n dX3_held_0 rfl ?_
  refine zg_if_lt (tgt := 15) dX3_held_1 (by decide) (fun h1 => ?_) (fun h1 => ?_)
  · exact absurd h1 (nI_pos (by have := hH.1; omega))
  · refine zg_iload_n dX3_held_4 rfl ?_
    refine zg_aload_n dX3_held_5 rfl ?_
    refine zg_getR E (ci := 3) (j := 1) (r := 51) dX3_held_6 rfl (congrArg Prod.fst (zl_at HX (k := 1) (t := (3, 7)) rfl (by decide) (by decide))) (by decide) (zl_lt HX (by decide)) (by decide) fl_X3_17 rfl (zl_rf HX rfl (by decide) (by decide)) ?_
    refine zg_getI E (ci := 1) (j := 2) dX3_held_9 rfl (congrArg Prod.fst (zl_at HX (k := 51) (t := (1, 3)) rfl (by decide) (by decide))) (by decide) (zl_lt HX (by decide)) (by decide) fl_X3_86 rfl ?_
    refine zg_v (x' := nI H.1) hX.2.1.1 ?_
    refine zg_icmp_lt (tgt := 25) dX3_held_12 (by decide) (fun h12 => ?_) (fun h12 => ?_)
    · refine zg_iload_n dX3_held_25 rfl ?_
      refine zg_iconst (v := (-1)) dX3_held_26 (by decide) ?_
      refine zg_icmp_ne (tgt := 40) dX3_held_27 (by decide) (fun h27 => ?_) (fun h27 => ?_)
      · refine zg_iload_n dX3_held_40 rfl ?_
        refine zg_sret (M := zm_X3_held) E dX3_held_41 (ct_checkIndex_ok E HX hi) wd_X3_49 dh_X3_checkIndex dn_X3_checkIndex (Nat.le_of_ble_eq_true rfl) (Nat.le_of_ble_eq_true rfl) (Nat.le_of_ble_eq_true rfl) (zl_cap HX) rfl (fun w41 g41 => ?_)
        subst w41
        refine zg_aload_n dX3_held_44 rfl ?_
        refine zg_getR E (ci := 3) (j := 1) (r := 51) dX3_held_45 rfl (congrArg Prod.fst (zl_at HX (k := 1) (t := (3, 7)) rfl (by decide) (by decide))) (by decide) (zl_lt HX (by decide)) (by decide) fl_X3_17 rfl (zl_rf HX rfl (by decide) (by decide)) ?_
        refine zg_getR E (ci := 1) (j := 1) (r := 53) dX3_held_48 rfl (congrArg Prod.fst (zl_at HX (k := 51) (t := (1, 3)) rfl (by decide) (by decide))) (by decide) (zl_lt HX (by decide)) (by decide) fl_X3_157 rfl (zl_rf HX rfl (by decide) (by decide)) ?_
        refine zg_iload_n dX3_held_51 rfl ?_
        refine zg_aald E (j := k) (r := 54 + k) dX3_held_52 (zl_at HX (k := 53) (t := (13, 77)) rfl (by decide) (by decide)) (by decide) (zl_lt HX (by decide)) rfl (by have := hH.1; omega) (by decide) (zl_rf HX (zl_row (by have := hH.1; omega)).2 (by decide) (by decide)) ?_
        refine zg_iload_n dX3_held_53 rfl ?_
        refine zg_iald E (j := i) dX3_held_54 (zl_at HX (zl_row (by omega)).1 (by omega) (by omega)) (by omega) (zl_lt HX (by omega)) rfl (by omega) (by decide) ?_
        refine zg_v (x' := nI (H.2.2 k i)) (hX.2.1.2.2 k hk i hi) ?_
        exact zg_iret rfl dX3_held_55 ⟨rfl, zp_same hX⟩
      · exact absurd h27 (fun z => absurd (z ▸ nI_pos (by omega : i < 2 ^ 31)) (by decide))
    · exact absurd (nI_lt hk (by have := hH.1; omega)) h12
theorem zk_no {I : Nat → Nat → Int32} {C : za_C} (h : zr_C I C) (h0 : za_n C.1 16 = 0) : ¬ 0 < I 135 3 := by
  rw [h.2.1, h0]
  decide
theorem zk_yes {I : Nat → Nat → Int32} {C : za_C} (h : zr_C I C) (h0 : 0 < za_n C.1 16) : 0 < I 135 3 := by
  rw [h.2.1]
  exact nI_lt h0 (by have := za_n_le C.1 16; omega)
set_option maxHeartbeats 4000000 in
set_option maxRecDepth 100000 in
theorem pa_1 {V : zv_V} (E : zv_OK V) {w : zw_W} (HX : zl_X w) {D : Nat → Nat → Nat} {H : za_H} {b : Bool} {L S : za_T} {C : za_C} (hX : zr_X (zw_i w) D H b L S C) (hH : za_WH H) (hb : b = true)  : zg_C V zm_X3_abort yX3_abort 8 190 [.ref 1] w (zq_p (.inr 21) (zr_pub w D H b L S C)) := by
  refine zg_of (by decide +kernel) rfl (Nat.le_of_ble_eq_true rfl) ?_
  show zg_G V zm_X3_abort 8 190 w.1 w.2.1 0 [] [(0, .ref 1)] w _
  refine zg_aload_n dX3_abort_0 rfl ?_
  refine zg_vth (M := zm_X3_abort) E (ci := 3) dX3_abort_1 (ct_mounted_no E HX (by rw [hX.2.2.1, hb]; decide)) wd_X3_55 rfl (congrArg Prod.fst (zl_at HX (k := 1) (t := (3, 7)) rfl (by decide) (by decide))) (by decide) (zl_lt HX (by decide)) rfl dh_X3_checkMounted dn_X3_checkMounted (Nat.le_of_ble_eq_true rfl) (Nat.le_of_ble_eq_true rfl) (Nat.le_of_ble_eq_true rfl) (zl_cap HX) rfl (fun w1 g1 => ?_)
  subst w1
  exact zg_out rfl ⟨rfl, zp_nw HX hX hH⟩
set_option maxHeartbeats 4000000 in
set_option maxRecDepth 100000 in
theorem pa_2 {V : zv_V} (E : zv_OK V) {w : zw_W} (HX : zl_X w) {D : Nat → Nat → Nat} {H : za_H} {b : Bool} {L S : za_T} {C : za_C} (hX : zr_X (zw_i w) D H b L S C) (hH : za_WH H) (hb : b = false) (h0 : za_n C.1 16 = 0)  : zg_C V zm_X3_abort yX3_abort 8 190 [.ref 1] w (zq_p (.inr 21) (zr_pub w D H b L S C)) := by
  refine zg_of (by decide +kernel) rfl (Nat.le_of_ble_eq_true rfl) ?_
  show zg_G V zm_X3_abort 8 190 w.1 w.2.1 0 [] [(0, .ref 1)] w _
  refine zg_aload_n dX3_abort_0 rfl ?_
  refine zg_vrt (M := zm_X3_abort) E (ci := 3) dX3_abort_1 (ct_mounted_ok E HX (by rw [hX.2.2.1, hb]; rfl)) wd_X3_55 rfl (congrArg Prod.fst (zl_at HX (k := 1) (t := (3, 7)) rfl (by decide) (by decide))) (by decide) (zl_lt HX (by decide)) rfl dh_X3_checkMounted dn_X3_checkMounted (Nat.le_of_ble_eq_true rfl) (Nat.le_of_ble_eq_true rfl) (Nat.le_of_ble_eq_true rfl) (zl_cap HX) rfl (fun w1 g1 => ?_)
  subst w1
  refine zg_aload_n dX3_abort_4 rfl ?_
  refine zg_vth (M := zm_X3_abort) E (ci := 3) dX3_abort_5 (ct_open_no E HX (zk_no hX.2.2.2.2.2 h0)) wd_X3_97 rfl (congrArg Prod.fst (zl_at HX (k := 1) (t := (3, 7)) rfl (by decide) (by decide))) (by decide) (zl_lt HX (by decide)) rfl dh_X3_checkOpen dn_X3_checkOpen (Nat.le_of_ble_eq_true rfl) (Nat.le_of_ble_eq_true rfl) (Nat.le_of_ble_eq_true rfl) (zl_cap HX) rfl (fun w5 g5 => ?_)
  subst w5
  exact zg_out rfl ⟨rfl, zp_nw HX hX hH⟩
set_option maxHeartbeats 4000000 in
set_option maxRecDepth 100000 in
theorem pc_1 {V : zv_V} (E : zv_OK V) {w : zw_W} (HX : zl_X w) {D : Nat → Nat → Nat} {H : za_H} {b : Bool} {L S : za_T} {C : za_C} (hX : zr_X (zw_i w) D H b L S C) (hH : za_WH H) (hb : b = true) {z : Bool}  : zg_C V zm_X3_commit yX3_commit 8 190 [.ref 1, .int (za_bit z)] w (zq_p (.inr 21) (zr_pub w D H b L S C)) := by
  refine zg_of (by decide +kernel) rfl (Nat.le_of_ble_eq_true rfl) ?_
  show zg_G V zm_X3_commit 8 190 w.1 w.2.1 0 [] [(0, .ref 1), (1, .int (za_bit z))] w _
  refine zg_aload_n dX3_commit_0 rfl ?_
  refine zg_vth (M := zm_X3_commit) E (ci := 3) dX3_commit_1 (ct_mounted_no E HX (by rw [hX.2.2.1, hb]; decide)) wd_X3_55 rfl (congrArg Prod.fst (zl_at HX (k := 1) (t := (3, 7)) rfl (by decide) (by decide))) (by decide) (zl_lt HX (by decide)) rfl dh_X3_checkMounted dn_X3_checkMounted (Nat.le_of_ble_eq_true rfl) (Nat.le_of_ble_eq_true rfl) (Nat.le_of_ble_eq_true rfl) (zl_cap HX) rfl (fun w1 g1 => ?_)
  subst w1
  exact zg_out rfl ⟨rfl, zp_nw HX hX hH⟩
set_option maxHeartbeats 4000000 in
set_option maxRecDepth 100000 in
theorem pc_2 {V : zv_V} (E : zv_OK V) {w : zw_W} (HX : zl_X w) {D : Nat → Nat → Nat} {H : za_H} {b : Bool} {L S : za_T} {C : za_C} (hX : zr_X (zw_i w) D H b L S C) (hH : za_WH H) (hb : b = false) (h0 : za_n C.1 16 = 0) {z : Bool}  : zg_C V zm_X3_commit yX3_commit 8 190 [.ref 1, .int (za_bit z)] w (zq_p (.inr 21) (zr_pub w D H b L S C)) := by
  refine zg_of (by decide +kernel) rfl (Nat.le_of_ble_eq_true rfl) ?_
  show zg_G V zm_X3_commit 8 190 w.1 w.2.1 0 [] [(0, .ref 1), (1, .int (za_bit z))] w _
  refine zg_aload_n dX3_commit_0 rfl ?_
  refine zg_vrt (M := zm_X3_commit) E (ci := 3) dX3_commit_1 (ct_mounted_ok E HX (by rw [hX.2.2.1, hb]; rfl)) wd_X3_55 rfl (congrArg Prod.fst (zl_at HX (k := 1) (t := (3, 7)) rfl (by decide) (by decide))) (by decide) (zl_lt HX (by decide)) rfl dh_X3_checkMounted dn_X3_checkMounted (Nat.le_of_ble_eq_true rfl) (Nat.le_of_ble_eq_true rfl) (Nat.le_of_ble_eq_true rfl) (zl_cap HX) rfl (fun w1 g1 => ?_)
  subst w1
  refine zg_aload_n dX3_commit_4 rfl ?_
  refine zg_vth (M := zm_X3_commit) E (ci := 3) dX3_commit_5 (ct_open_no E HX (zk_no hX.2.2.2.2.2 h0)) wd_X3_97 rfl (congrArg Prod.fst (zl_at HX (k := 1) (t := (3, 7)) rfl (by decide) (by decide))) (by decide) (zl_lt HX (by decide)) rfl dh_X3_checkOpen dn_X3_checkOpen (Nat.le_of_ble_eq_true rfl) (Nat.le_of_ble_eq_true rfl) (Nat.le_of_ble_eq_true rfl) (zl_cap HX) rfl (fun w5 g5 => ?_)
  subst w5
  exact zg_out rfl ⟨rfl, zp_nw HX hX hH⟩
set_option maxHeartbeats 4000000 in
set_option maxRecDepth 100000 in
theorem pa_3 {V : zv_V} (E : zv_OK V) {w : zw_W} (HX : zl_X w) {D : Nat → Nat → Nat} {H : za_H} {b : Bool} {L S : za_T} {C : za_C} (hX : zr_X (zw_i w) D H b L S C) (hH : za_WH H) (hb : b = false) (h0 : 0 < za_n C.1 16) : zg_C V zm_X3_abort yX3_abort 8 190 [.ref 1] w (zq_p (.inl (some (.int (nI (za_n C.1 16))))) (zr_pub w D H b L S za_C0)) := by
  refine zg_of (by decide +kernel) rfl (Nat.le_of_ble_eq_true rfl) ?_
  show zg_G V zm_X3_abort 8 190 w.1 w.2.1 0 [] [(0, .ref 1)] w _
  refine zg_aload_n dX3_abort_0 rfl ?_
  refine zg_vrt (M := zm_X3_abort) E (ci := 3) dX3_abort_1 (ct_mounted_ok E HX (by rw [hX.2.2.1, hb]; rfl)) wd_X3_55 rfl (congrArg Prod.fst (zl_at HX (k := 1) (t := (3, 7)) rfl (by decide) (by decide))) (by decide) (zl_lt HX (by decide)) rfl dh_X3_checkMounted dn_X3_checkMounted (Nat.le_of_ble_eq_true rfl) (Nat.le_of_ble_eq_true rfl) (Nat.le_of_ble_eq_true rfl) (zl_cap HX) rfl (fun w1 g1 => ?_)
  subst w1
  refine zg_aload_n dX3_abort_4 rfl ?_
  refine zg_vrt (M := zm_X3_abort) E (ci := 3) dX3_abort_5 (ct_open_ok E HX (zk_yes hX.2.2.2.2.2 h0)) wd_X3_97 rfl (congrArg Prod.fst (zl_at HX (k := 1) (t := (3, 7)) rfl (by decide) (by decide))) (by decide) (zl_lt HX (by decide)) rfl dh_X3_checkOpen dn_X3_checkOpen (Nat.le_of_ble_eq_true rfl) (Nat.le_of_ble_eq_true rfl) (Nat.le_of_ble_eq_true rfl) (zl_cap HX) rfl (fun w5 g5 => ?_)
  subst w5
  refine zg_aload_n dX3_abort_8 rfl ?_
  refine zg_getR E (ci := 3) (j := 4) (r := 135) dX3_abort_9 rfl (congrArg Prod.fst (zl_at HX (k := 1) (t := (3, 7)) rfl (by decide) (by decide))) (by decide) (zl_lt HX (by decide)) (by decide) fl_X3_34 rfl (zl_rf HX rfl (by decide) (by decide)) ?_
  refine zg_getI E (ci := 0) (j := 3) dX3_abort_12 rfl (congrArg Prod.fst (zl_at HX (k := 135) (t := (0, 4)) rfl (by decide) (by decide))) (by decide) (zl_lt HX (by decide)) (by decide) fl_X3_64 rfl ?_
  refine zg_v (x' := nI (za_n C.1 16)) hX.2.2.2.2.2.2.1 ?_
  refine zg_istore_n (lv' := [(1, .int (nI (za_n C.1 16))), (0, .ref 1)]) dX3_abort_15 (by decide) rfl ?_
  refine zg_aload_n dX3_abort_16 rfl ?_
  refine zg_getR E (ci := 3) (j := 4) (r := 135) dX3_abort_17 rfl (congrArg Prod.fst (zl_at HX (k := 1) (t := (3, 7)) rfl (by decide) (by decide))) (by decide) (zl_lt HX (by decide)) (by decide) fl_X3_34 rfl (zl_rf HX rfl (by decide) (by decide)) ?_
  refine zg_vrt (M := zm_X3_abort) E (ci := 0) dX3_abort_20 (kt_close E HX) wd_X3_121 rfl (congrArg Prod.fst (zl_at HX (k := 135) (t := (0, 4)) rfl (by decide) (by decide))) (by decide) (zl_lt HX (by decide)) rfl dh_X0_close dn_X0_close (Nat.le_of_ble_eq_true rfl) (Nat.le_of_ble_eq_true rfl) (Nat.le_of_ble_eq_true rfl) (zl_cap HX) rfl (fun w20 g20 => ?_)
  obtain ⟨J1, rfl, r1, f1⟩ := g20
  refine zg_w (w' := zw_I w J1) rfl ?_
  refine zg_iload_n dX3_abort_23 rfl ?_
  exact zg_iret rfl dX3_abort_24 ⟨rfl, zp_to (by decide) ⟨_, rfl, zr_Xc hX hH.1 r1 f1, f1⟩⟩
set_option maxHeartbeats 4000000 in
set_option maxRecDepth 100000 in
theorem pl_1 {V : zv_V} (E : zv_OK V) {w : zw_W} (HX : zl_X w) {D : Nat → Nat → Nat} {H : za_H} {b : Bool} {L S : za_T} {C : za_C} (hX : zr_X (zw_i w) D H b L S C) (hH : za_WH H) (hb : b = true)  : zg_C V zm_X3_flush yX3_flush 8 190 [.ref 1] w (zq_p (.inr 21) (zr_pub w D H b L S C)) := by
  refine zg_of (by decide +kernel) rfl (Nat.le_of_ble_eq_true rfl) ?_
  show zg_G V zm_X3_flush 8 190 w.1 w.2.1 0 [] [(0, .ref 1)] w _
  refine zg_aload_n dX3_flush_0 rfl ?_
  refine zg_vth (M := zm_X3_flush) E (ci := 3) dX3_flush_1 (ct_mounted_no E HX (by rw [hX.2.2.1, hb]; decide)) wd_X3_55 rfl (congrArg Prod.fst (zl_at HX (k := 1) (t := (3, 7)) rfl (by decide) (by decide))) (by decide) (zl_lt HX (by decide)) rfl dh_X3_checkMounted dn_X3_checkMounted (Nat.le_of_ble_eq_true rfl) (Nat.le_of_ble_eq_true rfl) (Nat.le_of_ble_eq_true rfl) (zl_cap HX) rfl (fun w1 g1 => ?_)
  subst w1
  exact zg_out rfl ⟨rfl, zp_nw HX hX hH⟩
set_option maxHeartbeats 4000000 in
set_option maxRecDepth 100000 in
theorem pl_2 {V : zv_V} (E : zv_OK V) {w : zw_W} (HX : zl_X w) {D : Nat → Nat → Nat} {H : za_H} {b : Bool} {L S : za_T} {C : za_C} (hX : zr_X (zw_i w) D H b L S C) (hH : za_WH H) (hb : b = false)  : zg_C V zm_X3_flush yX3_flush 8 190 [.ref 1] w (zq_p (.inl (some (.int (nI H.1)))) (zr_pub w (za_car D H za_all H.1) (0, H.2) b L (if za_z H H.1 then L else S) C)) := by
  refine zg_of (by decide +kernel) rfl (Nat.le_of_ble_eq_true rfl) ?_
  show zg_G V zm_X3_flush 8 190 w.1 w.2.1 0 [] [(0, .ref 1)] w _
  refine zg_aload_n dX3_flush_0 rfl ?_
  refine zg_vrt (M := zm_X3_flush) E (ci := 3) dX3_flush_1 (ct_mounted_ok E HX (by rw [hX.2.2.1, hb]; rfl)) wd_X3_55 rfl (congrArg Prod.fst (zl_at HX (k := 1) (t := (3, 7)) rfl (by decide) (by decide))) (by decide) (zl_lt HX (by decide)) rfl dh_X3_checkMounted dn_X3_checkMounted (Nat.le_of_ble_eq_true rfl) (Nat.le_of_ble_eq_true rfl) (Nat.le_of_ble_eq_true rfl) (zl_cap HX) rfl (fun w1 g1 => ?_)
  subst w1
  refine zg_aload_n dX3_flush_4 rfl ?_
  refine zg_vrt (M := zm_X3_flush) E (ci := 3) dX3_flush_5 (kt_carryOutAll E HX hX hH) wd_X3_112 rfl (congrArg Prod.fst (zl_at HX (k := 1) (t := (3, 7)) rfl (by decide) (by decide))) (by decide) (zl_lt HX (by decide)) rfl dh_X3_carryOutAll dn_X3_carryOutAll (Nat.le_of_ble_eq_true rfl) (Nat.le_of_ble_eq_true rfl) (Nat.le_of_ble_eq_true rfl) (zl_cap HX) rfl (fun w5 g5 => ?_)
  obtain ⟨J1, rfl, r1, f1⟩ := g5
  refine zg_w (w' := zw_I w J1) rfl ?_
  exact zg_iret rfl dX3_flush_8 ⟨rfl, zp_to (by decide) ⟨_, rfl, r1, f1⟩⟩
set_option maxHeartbeats 4000000 in
set_option maxRecDepth 100000 in
theorem pm_1 {V : zv_V} (E : zv_OK V) {w : zw_W} (HX : zl_X w) {D : Nat → Nat → Nat} {H : za_H} {b : Bool} {L S : za_T} {C : za_C} (hX : zr_X (zw_i w) D H b L S C) (hH : za_WH H)  : zg_C V zm_X3_format yX3_format 8 190 [.ref 1] w (zq_p (.inl none) (zr_pub w za_D0 (0, H.2) false (za_mt za_D0) (za_mt za_D0) za_C0)) := by
  refine zg_of (by decide +kernel) rfl (Nat.le_of_ble_eq_true rfl) ?_
  show zg_G V zm_X3_format 8 190 w.1 w.2.1 0 [] [(0, .ref 1)] w _
  refine zg_aload_n dX3_format_0 rfl ?_
  refine zg_vrt (M := zm_X3_format) E (ci := 3) dX3_format_1 (kt_format E HX hX hH) wd_X3_42 rfl (congrArg Prod.fst (zl_at HX (k := 1) (t := (3, 7)) rfl (by decide) (by decide))) (by decide) (zl_lt HX (by decide)) rfl dh_X3_formatAndMount dn_X3_formatAndMount (Nat.le_of_ble_eq_true rfl) (Nat.le_of_ble_eq_true rfl) (Nat.le_of_ble_eq_true rfl) (zl_cap HX) rfl (fun w1 g1 => ?_)
  obtain ⟨J1, rfl, r1, f1⟩ := g1
  refine zg_w (w' := zw_I w J1) rfl ?_
  exact zg_vret rfl dX3_format_4 ⟨rfl, zp_to (by decide) ⟨_, rfl, r1, f1⟩⟩
end
section
/-! The class's public methods: commit, fail, fill, total. -/
set_option maxHeartbeats 4000000 in
set_option maxRecDepth 100000 in
theorem pc_3 {V : zv_V} (E : zv_OK V) {w : zw_W} (HX : zl_X w) {D : Nat → Nat → Nat} {H : za_H} {b : Bool} {L S : za_T} {C : za_C} (hX : zr_X (zw_i w) D H b L S C) (hH : za_WH H) (hb : b = false) (h0 : 0 < za_n C.1 16) {z : Bool} (wL : za_WT L) (wS : za_WT S) (wC : za_WC C) (hr : za_ff L S C.1 (-1)) : zg_C V zm_X3_commit yX3_commit 8 190 [.ref 1, .int (za_bit z)] w (zq_p (.inr 21) (zr_pub w D H b L S C)) := by
  refine zg_of (by decide +kernel) rfl (Nat.le_of_ble_eq_true rfl) ?_
  show zg_G V zm_X3_commit 8 190 w.1 w.2.1 0 [] [(0, .ref 1), (1, .int (za_bit z))] w _
  refine zg_aload_n dX3_commit_0 rfl ?_
  refine zg_vrt (M := zm_X3_commit) E (ci := 3) dX3_commit_1 (ct_mounted_ok E HX (by rw [hX.2.2.1, hb]; rfl)) wd_X3_55 rfl (congrArg Prod.fst (zl_at HX (k := 1) (t := (3, 7)) rfl (by decide) (by decide))) (by decide) (zl_lt HX (by decide)) rfl dh_X3_checkMounted dn_X3_checkMounted (Nat.le_of_ble_eq_true rfl) (Nat.le_of_ble_eq_true rfl) (Nat.le_of_ble_eq_true rfl) (zl_cap HX) rfl (fun w1 g1 => ?_)
  subst w1
  refine zg_aload_n dX3_commit_4 rfl ?_
  refine zg_vrt (M := zm_X3_commit) E (ci := 3) dX3_commit_5 (ct_open_ok E HX (zk_yes hX.2.2.2.2.2 h0)) wd_X3_97 rfl (congrArg Prod.fst (zl_at HX (k := 1) (t := (3, 7)) rfl (by decide) (by decide))) (by decide) (zl_lt HX (by decide)) rfl dh_X3_checkOpen dn_X3_checkOpen (Nat.le_of_ble_eq_true rfl) (Nat.le_of_ble_eq_true rfl) (Nat.le_of_ble_eq_true rfl) (zl_cap HX) rfl (fun w5 g5 => ?_)
  subst w5
  refine zg_aload_n dX3_commit_8 rfl ?_
  refine zg_vrt (M := zm_X3_commit) E (ci := 3) dX3_commit_9 (kt_leastFree E HX hX wL wS wC hr) wd_X3_100 rfl (congrArg Prod.fst (zl_at HX (k := 1) (t := (3, 7)) rfl (by decide) (by decide))) (by decide) (zl_lt HX (by decide)) rfl dh_X3_leastFree dn_X3_leastFree (Nat.le_of_ble_eq_true rfl) (Nat.le_of_ble_eq_true rfl) (Nat.le_of_ble_eq_true rfl) (zl_cap HX) rfl (fun w9 g9 => ?_)
  subst w9
  refine zg_istore_n (lv' := [(2, .int ((-1))), (0, .ref 1), (1, .int (za_bit z))]) dX3_commit_12 (by decide) rfl ?_
  refine zg_iload_n dX3_commit_13 rfl ?_
  refine zg_iconst (v := (-1)) dX3_commit_14 (by decide) ?_
  refine zg_icmp_ne (tgt := 28) dX3_commit_15 (by decide) (fun h15 => ?_) (fun h15 => ?_)
  · exact absurd rfl h15
  · exact zg_throw (M := zm_X3_commit) E 21 (text := "no sector is free for the table") (by decide) rfl rfl dX3_commit_18 dX3_commit_21 dX3_commit_22 dX3_commit_24 dX3_commit_27 (by decide +kernel) (by decide +kernel) (by decide +kernel) tw_21_93 (zt_cap HX).1 (zt_cap HX).2.1 (zt_cap HX).2.2 (Nat.le_of_ble_eq_true rfl) (Nat.le_of_ble_eq_true rfl) ⟨rfl, zp_nw HX hX hH⟩
/-- a commit: what it holds back, what it leaves -/
def za_cH (L : za_T) (C : za_C) (H : za_H) (t : Nat) : za_H := za_hold (za_un C H 16) t (za_op L C)
def za_cD (D : Nat → Nat → Nat) (L : za_T) (C : za_C) (H : za_H) (t : Nat) : Nat → Nat → Nat := za_car D (za_cH L C H t) za_all (za_cH L C H t).1
def za_cS (L S : za_T) (C : za_C) (H : za_H) (t : Nat) : za_T := if za_z (za_cH L C H t) (za_cH L C H t).1 then L else S
def za_cL (L : za_T) (C : za_C) (t : Nat) : za_T := (za_op L C, t, L.2.2 + nI 1)
def za_cM (L : za_T) (C : za_C) (H : za_H) (t : Nat) : za_H := za_hold (0, (za_cH L C H t).2) 0 (za_ms (L.2.2 + nI 1) t)
theorem za_cH_W {L : za_T} {C : za_C} {H : za_H} {t : Nat} (hH : za_WH H) (h60 : H.1 ≤ 60) (wL : za_WT L) (wC : za_WC C) (ht : t < 48) : za_WH (za_cH L C H t) := by
  have h := za_un_le C H 16
  refine za_hold_W (za_un_W hH h60 wC 16 (by omega)) (by omega) ht (fun i hi => ?_)
  have h1 := wL.1 i hi
  have h2 := wC.1 i hi
  unfold za_op
  split <;> omega
theorem za_cM_W {L : za_T} {C : za_C} {H : za_H} {t : Nat} (hH : za_WH (za_cH L C H t)) (ht : t < 48) : za_WH (za_cM L C H t) := za_hold_W ⟨Nat.zero_le _, fun k hk => absurd hk (Nat.not_lt_zero k), fun k hk => absurd hk (Nat.not_lt_zero k)⟩ (by decide : (0 : Nat) < 77) (by decide) (fun i _ => za_ms_lt _ ht i)
set_option maxHeartbeats 4000000 in
set_option maxRecDepth 100000 in
theorem pc_4 {V : zv_V} (E : zv_OK V) {w : zw_W} (HX : zl_X w) {D : Nat → Nat → Nat} {H : za_H} {b : Bool} {L S : za_T} {C : za_C} (hX : zr_X (zw_i w) D H b L S C) (hH : za_WH H) (hb : b = false) (h0 : 0 < za_n C.1 16) (h60 : H.1 ≤ 60) (wL : za_WT L) (wS : za_WT S) (wC : za_WC C) {t : Nat} (ht : t < 48) (hr : za_ff L S C.1 (nI t))  : zg_C V zm_X3_commit yX3_commit 8 190 [.ref 1, .int (za_bit false)] w (zq_p (.inl (some (.int (L.2.2 + nI 1)))) (zr_pub w (za_cD D L C H t) (za_cM L C H t) b (za_cL L C t) (za_cS L S C H t) za_C0)) := by
  refine zg_of (by decide +kernel) rfl (Nat.le_of_ble_eq_true rfl) ?_
  show zg_G V zm_X3_commit 8 190 w.1 w.2.1 0 [] [(0, .ref 1), (1, .int (za_bit false))] w _
  refine zg_aload_n dX3_commit_0 rfl ?_
  refine zg_vrt (M := zm_X3_commit) E (ci := 3) dX3_commit_1 (ct_mounted_ok E HX (by rw [hX.2.2.1, hb]; rfl)) wd_X3_55 rfl (congrArg Prod.fst (zl_at HX (k := 1) (t := (3, 7)) rfl (by decide) (by decide))) (by decide) (zl_lt HX (by decide)) rfl dh_X3_checkMounted dn_X3_checkMounted (Nat.le_of_ble_eq_true rfl) (Nat.le_of_ble_eq_true rfl) (Nat.le_of_ble_eq_true rfl) (zl_cap HX) rfl (fun w1 g1 => ?_)
  subst w1
  refine zg_aload_n dX3_commit_4 rfl ?_
  refine zg_vrt (M := zm_X3_commit) E (ci := 3) dX3_commit_5 (ct_open_ok E HX (zk_yes hX.2.2.2.2.2 h0)) wd_X3_97 rfl (congrArg Prod.fst (zl_at HX (k := 1) (t := (3, 7)) rfl (by decide) (by decide))) (by decide) (zl_lt HX (by decide)) rfl dh_X3_checkOpen dn_X3_checkOpen (Nat.le_of_ble_eq_true rfl) (Nat.le_of_ble_eq_true rfl) (Nat.le_of_ble_eq_true rfl) (zl_cap HX) rfl (fun w5 g5 => ?_)
  subst w5
  refine zg_aload_n dX3_commit_8 rfl ?_
  refine zg_vrt (M := zm_X3_commit) E (ci := 3) dX3_commit_9 (kt_leastFree E HX hX wL wS wC hr) wd_X3_100 rfl (congrArg Prod.fst (zl_at HX (k := 1) (t := (3, 7)) rfl (by decide) (by decide))) (by decide) (zl_lt HX (by decide)) rfl dh_X3_leastFree dn_X3_leastFree (Nat.le_of_ble_eq_true rfl) (Nat.le_of_ble_eq_true rfl) (Nat.le_of_ble_eq_true rfl) (zl_cap HX) rfl (fun w9 g9 => ?_)
  subst w9
  refine zg_istore_n (lv' := [(2, .int (nI t)), (0, .ref 1), (1, .int (za_bit false))]) dX3_commit_12 (by decide) rfl ?_
  refine zg_iload_n dX3_commit_13 rfl ?_
  refine zg_iconst (v := (-1)) dX3_commit_14 (by decide) ?_
  refine zg_icmp_ne (tgt := 28) dX3_commit_15 (by decide) (fun h15 => ?_) (fun h15 => ?_)
  · refine zg_aload_n dX3_commit_28 rfl ?_
    refine zg_vrt (M := zm_X3_commit) E (ci := 3) dX3_commit_29 (kt_unsp E HX hX hH h60 wC) wd_X3_106 rfl (congrArg Prod.fst (zl_at HX (k := 1) (t := (3, 7)) rfl (by decide) (by decide))) (by decide) (zl_lt HX (by decide)) rfl dh_X3_holdBackUnspilledPages dn_X3_holdBackUnspilledPages (Nat.le_of_ble_eq_true rfl) (Nat.le_of_ble_eq_true rfl) (Nat.le_of_ble_eq_true rfl) (zl_cap HX) rfl (fun w29 g29 => ?_)
    obtain ⟨J1, rfl, ⟨Z, r1⟩, f1⟩ := g29
    have hu := za_un_le C H 16
    have hU := za_un_W hH h60 wC 16 (by omega)
    have hW2 := za_cH_W (t := t) hH h60 wL wC ht
    refine zg_w (w' := zw_I w J1) rfl ?_
    refine zg_aload_n dX3_commit_32 rfl ?_
    refine zg_iload_n dX3_commit_33 rfl ?_
    refine zg_vrt (M := zm_X3_commit) E (ci := 3) dX3_commit_34 (kt_table (w := zw_I w J1) (t := t) E HX r1 hU (by omega) wC) wd_X3_109 rfl (congrArg Prod.fst (zl_at HX (k := 1) (t := (3, 7)) rfl (by decide) (by decide))) (by decide) (zl_lt HX (by decide)) rfl dh_X3_holdBackTable dn_X3_holdBackTable (Nat.le_of_ble_eq_true rfl) (Nat.le_of_ble_eq_true rfl) (Nat.le_of_ble_eq_true rfl) (zl_cap HX) rfl (fun w34 g34 => ?_)
    obtain ⟨J2, rfl, r2, f2⟩ := g34
    refine zg_w (w' := zw_I w J2) rfl ?_
    refine zg_aload_n dX3_commit_37 rfl ?_
    refine zg_vrt (M := zm_X3_commit) E (ci := 3) dX3_commit_38 (kt_carryOutAll (w := zw_I w J2) (H := za_cH L C H t) E HX r2 hW2) wd_X3_112 rfl (congrArg Prod.fst (zl_at HX (k := 1) (t := (3, 7)) rfl (by decide) (by decide))) (by decide) (zl_lt HX (by decide)) rfl dh_X3_carryOutAll dn_X3_carryOutAll (Nat.le_of_ble_eq_true rfl) (Nat.le_of_ble_eq_true rfl) (Nat.le_of_ble_eq_true rfl) (zl_cap HX) rfl (fun w38 g38 => ?_)
    obtain ⟨J3, rfl, r3, f3⟩ := g38
    refine zg_w (w' := zw_I w J3) rfl ?_
    refine zg_pop dX3_commit_41 rfl ?_
    refine zg_aload_n dX3_commit_42 rfl ?_
    refine zg_iload_n dX3_commit_43 rfl ?_
    refine zg_vrt (M := zm_X3_commit) E (ci := 3) dX3_commit_44 (kt_turn (w := zw_I w J3) (t := t) E HX r3 ⟨Nat.zero_le _, fun k hk => absurd hk (Nat.not_lt_zero k), fun k hk => absurd hk (Nat.not_lt_zero k)⟩ (by decide : (0 : Nat) < 77) wC ht) wd_X3_115 rfl (congrArg Prod.fst (zl_at HX (k := 1) (t := (3, 7)) rfl (by decide) (by decide))) (by decide) (zl_lt HX (by decide)) rfl dh_X3_turnOver dn_X3_turnOver (Nat.le_of_ble_eq_true rfl) (Nat.le_of_ble_eq_true rfl) (Nat.le_of_ble_eq_true rfl) (zl_cap HX) rfl (fun w44 g44 => ?_)
    obtain ⟨J4, rfl, r4, f4⟩ := g44
    have q4 : ∀ a, 156 ≤ a → J4 a = zw_i w a := fun a ha => (f4 a (Or.inr ha)).trans ((f3 a (Or.inr ha)).trans ((f2 a (Or.inr ha)).trans (f1 a (Or.inr ha))))
    have r4 : zr_X J4 (za_cD D L C H t) (za_cM L C H t) b (za_cL L C t) (za_cS L S C H t) za_C0 := r4
    refine zg_w (w' := zw_I w J4) rfl ?_
    refine zg_iload_n dX3_commit_47 rfl ?_
    refine zg_if_eq (tgt := 56) dX3_commit_48 (by decide) (fun h48 => ?_) (fun h48 => ?_)
    · refine zg_aload_n dX3_commit_56 rfl ?_
      refine zg_getR E (ci := 3) (j := 2) (r := 131) dX3_commit_57 rfl (congrArg Prod.fst (zl_at HX (k := 1) (t := (3, 7)) rfl (by decide) (by decide))) (by decide) (zl_lt HX (by decide)) (by decide) fl_X3_24 rfl (zl_rf HX rfl (by decide) (by decide)) ?_
      refine zg_getI E (ci := 2) (j := 2) dX3_commit_60 rfl (congrArg Prod.fst (zl_at HX (k := 131) (t := (2, 3)) rfl (by decide) (by decide))) (by decide) (zl_lt HX (by decide)) (by decide) fl_X3_118 rfl ?_
      refine zg_v (x' := L.2.2 + nI 1) r4.2.2.2.1.2.2 ?_
      exact zg_iret rfl dX3_commit_63 ⟨rfl, zp_to (lo := 0) (hi := 156) (by decide) ⟨_, rfl, r4, fun a ha => ha.elim (fun z => absurd z (Nat.not_lt_zero _)) (fun z => q4 a z)⟩⟩
    · exact absurd rfl h48
  · exact absurd h15 (fun z => absurd (z ▸ nI_pos (by omega : t < 2 ^ 31)) (by decide))
set_option maxHeartbeats 4000000 in
set_option maxRecDepth 100000 in
theorem pc_5 {V : zv_V} (E : zv_OK V) {w : zw_W} (HX : zl_X w) {D : Nat → Nat → Nat} {H : za_H} {b : Bool} {L S : za_T} {C : za_C} (hX : zr_X (zw_i w) D H b L S C) (hH : za_WH H) (hb : b = false) (h0 : 0 < za_n C.1 16) (h60 : H.1 ≤ 60) (wL : za_WT L) (wS : za_WT S) (wC : za_WC C) {t : Nat} (ht : t < 48) (hr : za_ff L S C.1 (nI t))  : zg_C V zm_X3_commit yX3_commit 8 190 [.ref 1, .int (za_bit true)] w (zq_p (.inl (some (.int (L.2.2 + nI 1)))) (zr_pub w (za_car (za_cD D L C H t) (za_cM L C H t) za_all (za_cM L C H t).1) (0, (za_cM L C H t).2) b (za_cL L C t) (if za_z (za_cM L C H t) (za_cM L C H t).1 then za_cL L C t else za_cS L S C H t) za_C0)) := by
  refine zg_of (by decide +kernel) rfl (Nat.le_of_ble_eq_true rfl) ?_
  show zg_G V zm_X3_commit 8 190 w.1 w.2.1 0 [] [(0, .ref 1), (1, .int (za_bit true))] w _
  refine zg_aload_n dX3_commit_0 rfl ?_
  refine zg_vrt (M := zm_X3_commit) E (ci := 3) dX3_commit_1 (ct_mounted_ok E HX (by rw [hX.2.2.1, hb]; rfl)) wd_X3_55 rfl (congrArg Prod.fst (zl_at HX (k := 1) (t := (3, 7)) rfl (by decide) (by decide))) (by decide) (zl_lt HX (by decide)) rfl dh_X3_checkMounted dn_X3_checkMounted (Nat.le_of_ble_eq_true rfl) (Nat.le_of_ble_eq_true rfl) (Nat.le_of_ble_eq_true rfl) (zl_cap HX) rfl (fun w1 g1 => ?_)
  subst w1
  refine zg_aload_n dX3_commit_4 rfl ?_
  refine zg_vrt (M := zm_X3_commit) E (ci := 3) dX3_commit_5 (ct_open_ok E HX (zk_yes hX.2.2.2.2.2 h0)) wd_X3_97 rfl (congrArg Prod.fst (zl_at HX (k := 1) (t := (3, 7)) rfl (by decide) (by decide))) (by decide) (zl_lt HX (by decide)) rfl dh_X3_checkOpen dn_X3_checkOpen (Nat.le_of_ble_eq_true rfl) (Nat.le_of_ble_eq_true rfl) (Nat.le_of_ble_eq_true rfl) (zl_cap HX) rfl (fun w5 g5 => ?_)
  subst w5
  refine zg_aload_n dX3_commit_8 rfl ?_
  refine zg_vrt (M := zm_X3_commit) E (ci := 3) dX3_commit_9 (kt_leastFree E HX hX wL wS wC hr) wd_X3_100 rfl (congrArg Prod.fst (zl_at HX (k := 1) (t := (3, 7)) rfl (by decide) (by decide))) (by decide) (zl_lt HX (by decide)) rfl dh_X3_leastFree dn_X3_leastFree (Nat.le_of_ble_eq_true rfl) (Nat.le_of_ble_eq_true rfl) (Nat.le_of_ble_eq_true rfl) (zl_cap HX) rfl (fun w9 g9 => ?_)
  subst w9
  refine zg_istore_n (lv' := [(2, .int (nI t)), (0, .ref 1), (1, .int (za_bit true))]) dX3_commit_12 (by decide) rfl ?_
  refine zg_iload_n dX3_commit_13 rfl ?_
  refine zg_iconst (v := (-1)) dX3_commit_14 (by decide) ?_
  refine zg_icmp_ne (tgt := 28) dX3_commit_15 (by decide) (fun h15 => ?_) (fun h15 => ?_)
  · refine zg_aload_n dX3_commit_28 rfl ?_
    refine zg_vrt (M := zm_X3_commit) E (ci := 3) dX3_commit_29 (kt_unsp E HX hX hH h60 wC) wd_X3_106 rfl (congrArg Prod.fst (zl_at HX (k := 1) (t := (3, 7)) rfl (by decide) (by decide))) (by decide) (zl_lt HX (by decide)) rfl dh_X3_holdBackUnspilledPages dn_X3_holdBackUnspilledPages (Nat.le_of_ble_eq_true rfl) (Nat.le_of_ble_eq_true rfl) (Nat.le_of_ble_eq_true rfl) (zl_cap HX) rfl (fun w29 g29 => ?_)
    obtain ⟨J1, rfl, ⟨Z, r1⟩, f1⟩ := g29
    have hu := za_un_le C H 16
    have hU := za_un_W hH h60 wC 16 (by omega)
    have hW2 := za_cH_W (t := t) hH h60 wL wC ht
    refine zg_w (w' := zw_I w J1) rfl ?_
    refine zg_aload_n dX3_commit_32 rfl ?_
    refine zg_iload_n dX3_commit_33 rfl ?_
    refine zg_vrt (M := zm_X3_commit) E (ci := 3) dX3_commit_34 (kt_table (w := zw_I w J1) (t := t) E HX r1 hU (by omega) wC) wd_X3_109 rfl (congrArg Prod.fst (zl_at HX (k := 1) (t := (3, 7)) rfl (by decide) (by decide))) (by decide) (zl_lt HX (by decide)) rfl dh_X3_holdBackTable dn_X3_holdBackTable (Nat.le_of_ble_eq_true rfl) (Nat.le_of_ble_eq_true rfl) (Nat.le_of_ble_eq_true rfl) (zl_cap HX) rfl (fun w34 g34 => ?_)
    obtain ⟨J2, rfl, r2, f2⟩ := g34
    refine zg_w (w' := zw_I w J2) rfl ?_
    refine zg_aload_n dX3_commit_37 rfl ?_
    refine zg_vrt (M := zm_X3_commit) E (ci := 3) dX3_commit_38 (kt_carryOutAll (w := zw_I w J2) (H := za_cH L C H t) E HX r2 hW2) wd_X3_112 rfl (congrArg Prod.fst (zl_at HX (k := 1) (t := (3, 7)) rfl (by decide) (by decide))) (by decide) (zl_lt HX (by decide)) rfl dh_X3_carryOutAll dn_X3_carryOutAll (Nat.le_of_ble_eq_true rfl) (Nat.le_of_ble_eq_true rfl) (Nat.le_of_ble_eq_true rfl) (zl_cap HX) rfl (fun w38 g38 => ?_)
    obtain ⟨J3, rfl, r3, f3⟩ := g38
    refine zg_w (w' := zw_I w J3) rfl ?_
    refine zg_pop dX3_commit_41 rfl ?_
    refine zg_aload_n dX3_commit_42 rfl ?_
    refine zg_iload_n dX3_commit_43 rfl ?_
    refine zg_vrt (M := zm_X3_commit) E (ci := 3) dX3_commit_44 (kt_turn (w := zw_I w J3) (t := t) E HX r3 ⟨Nat.zero_le _, fun k hk => absurd hk (Nat.not_lt_zero k), fun k hk => absurd hk (Nat.not_lt_zero k)⟩ (by decide : (0 : Nat) < 77) wC ht) wd_X3_115 rfl (congrArg Prod.fst (zl_at HX (k := 1) (t := (3, 7)) rfl (by decide) (by decide))) (by decide) (zl_lt HX (by decide)) rfl dh_X3_turnOver dn_X3_turnOver (Nat.le_of_ble_eq_true rfl) (Nat.le_of_ble_eq_true rfl) (Nat.le_of_ble_eq_true rfl) (zl_cap HX) rfl (fun w44 g44 => ?_)
    obtain ⟨J4, rfl, r4, f4⟩ := g44
    have q4 : ∀ a, 156 ≤ a → J4 a = zw_i w a := fun a ha => (f4 a (Or.inr ha)).trans ((f3 a (Or.inr ha)).trans ((f2 a (Or.inr ha)).trans (f1 a (Or.inr ha))))
    have r4 : zr_X J4 (za_cD D L C H t) (za_cM L C H t) b (za_cL L C t) (za_cS L S C H t) za_C0 := r4
    refine zg_w (w' := zw_I w J4) rfl ?_
    refine zg_iload_n dX3_commit_47 rfl ?_
    refine zg_if_eq (tgt := 56) dX3_commit_48 (by decide) (fun h48 => ?_) (fun h48 => ?_)
    · exact absurd h48 (by decide)
    · refine zg_aload_n dX3_commit_51 rfl ?_
      refine zg_vrt (M := zm_X3_commit) E (ci := 3) dX3_commit_52 (kt_carryOutAll (w := zw_I w J4) (H := za_cM L C H t) E HX r4 (za_cM_W hW2 ht)) wd_X3_112 rfl (congrArg Prod.fst (zl_at HX (k := 1) (t := (3, 7)) rfl (by decide) (by decide))) (by decide) (zl_lt HX (by decide)) rfl dh_X3_carryOutAll dn_X3_carryOutAll (Nat.le_of_ble_eq_true rfl) (Nat.le_of_ble_eq_true rfl) (Nat.le_of_ble_eq_true rfl) (zl_cap HX) rfl (fun w52 g52 => ?_)
      obtain ⟨J5, rfl, r5, f5⟩ := g52
      refine zg_w (w' := zw_I w J5) rfl ?_
      refine zg_pop dX3_commit_55 rfl ?_
      refine zg_aload_n dX3_commit_56 rfl ?_
      refine zg_getR E (ci := 3) (j := 2) (r := 131) dX3_commit_57 rfl (congrArg Prod.fst (zl_at HX (k := 1) (t := (3, 7)) rfl (by decide) (by decide))) (by decide) (zl_lt HX (by decide)) (by decide) fl_X3_24 rfl (zl_rf HX rfl (by decide) (by decide)) ?_
      refine zg_getI E (ci := 2) (j := 2) dX3_commit_60 rfl (congrArg Prod.fst (zl_at HX (k := 131) (t := (2, 3)) rfl (by decide) (by decide))) (by decide) (zl_lt HX (by decide)) (by decide) fl_X3_118 rfl ?_
      refine zg_v (x' := L.2.2 + nI 1) r5.2.2.2.1.2.2 ?_
      exact zg_iret rfl dX3_commit_63 ⟨rfl, zp_to (lo := 0) (hi := 156) (by decide) ⟨_, rfl, r5, fun a ha => ha.elim (fun z => absurd z (Nat.not_lt_zero _)) (fun z => (f5 a (Or.inr z)).trans (q4 a z))⟩⟩
  · exact absurd h15 (fun z => absurd (z ▸ nI_pos (by omega : t < 2 ^ 31)) (by decide))
set_option maxHeartbeats 4000000 in
set_option maxRecDepth 100000 in
theorem lp_fail {V : zv_V} (E : zv_OK V) {w : zw_W} {n0 u0 : Nat} {Q : zg_O → zw_W → Prop} (HX : zl_X w) {D : Nat → Nat → Nat} {H : za_H} {b : Bool} {L S : za_T} {C : za_C} (hH : za_WH H) (h60 : H.1 ≤ 60) (hD : za_WD D) {v : Int64} {ok : Bool} (hok : ok = true ↔ za_mr (za_car D H (zb v) H.1) ∧ za_tr (za_car D H (zb v) H.1)) (hq : ∀ J, zr_X J (za_car D H (zb v) H.1) (0, H.2) (!ok) (if ok then za_mt (za_car D H (zb v) H.1) else L) (if ok then za_mt (za_car D H (zb v) H.1) else S) za_C0 → (∀ a, 156 ≤ a → J a = zw_i w a) → Q (.inl (some (.int (za_bit ok)))) (zw_I w J)) : ∀ (n i : Nat) (J : Nat → Nat → Int32), i ≤ H.1 → H.1 + 1 ≤ i + n → zr_X J (za_car D H (zb v) i) H b L S C → (∀ a, 156 ≤ a → J a = zw_i w a) → zg_G V zm_X3_fail 8 190 n0 u0 2 [] [(3, .int (nI i)), (0, .ref 1), (1, .long v)] (zw_I w J) Q := by
  intro n
  induction n with
  | zero =>
    intro i J hi hn
    exact absurd hn (by omega)
  | succ n ih =>
    intro i J hi hn k0 k1
    refine zg_iload_n dX3_fail_2 rfl ?_
    refine zg_aload_n dX3_fail_3 rfl ?_
    refine zg_getR E (ci := 3) (j := 1) (r := 51) dX3_fail_4 rfl (congrArg Prod.fst (zl_at HX (k := 1) (t := (3, 7)) rfl (by decide) (by decide))) (by decide) (zl_lt HX (by decide)) (by decide) fl_X3_17 rfl (zl_rf HX rfl (by decide) (by decide)) ?_
    refine zg_getI E (ci := 1) (j := 2) dX3_fail_7 rfl (congrArg Prod.fst (zl_at HX (k := 51) (t := (1, 3)) rfl (by decide) (by decide))) (by decide) (zl_lt HX (by decide)) (by decide) fl_X3_86 rfl ?_
    refine zg_v (x' := nI H.1) k0.2.1.1 ?_
    refine zg_icmp_ge (tgt := 41) dX3_fail_10 (by decide) (fun h10 => ?_) (fun h10 => ?_)
    · obtain rfl : i = H.1 := by have := zn_ge h10 (by omega) (by omega); omega
      refine zg_aload_n dX3_fail_41 rfl ?_
      refine zg_vrt (M := zm_X3_fail) E (ci := 3) dX3_fail_42 (kt_mount (w := zw_I w J) E HX k0 (za_car_W _ hD hH _ (Nat.le_refl _)) hH hok) wd_X3_128 rfl (congrArg Prod.fst (zl_at HX (k := 1) (t := (3, 7)) rfl (by decide) (by decide))) (by decide) (zl_lt HX (by decide)) rfl dh_X3_mount dn_X3_mount (Nat.le_of_ble_eq_true rfl) (Nat.le_of_ble_eq_true rfl) (Nat.le_of_ble_eq_true rfl) (zl_cap HX) rfl (fun w42 g42 => ?_)
      obtain ⟨J2, rfl, r2, f2⟩ := g42
      refine zg_w (w' := zw_I w J2) rfl ?_
      refine zg_aload_n dX3_fail_45 rfl ?_
      refine zg_getI E (ci := 3) (j := 6) dX3_fail_46 rfl (congrArg Prod.fst (zl_at HX (k := 1) (t := (3, 7)) rfl (by decide) (by decide))) (by decide) (zl_lt HX (by decide)) (by decide) fl_X3_131 rfl ?_
      refine zg_v (x' := za_bit (!ok)) r2.2.2.1 ?_
      refine zg_if_ne (tgt := 56) dX3_fail_49 (by decide) (fun h49 => ?_) (fun h49 => ?_)
      · have e : ok = false := by cases ok with | false => rfl | true => exact absurd rfl h49
        refine zg_iconst (v := nI 0) dX3_fail_56 (by decide) ?_
        exact zg_zret rfl rfl dX3_fail_57 ((show za_bit ok = nI 0 by rw [e]; rfl) ▸ hq J2 r2 (fun a ha => (f2 a (Or.inr ha)).trans (k1 a ha)))
      · have e : ok = true := by cases ok with | true => rfl | false => exact absurd h49 (by decide)
        refine zg_iconst (v := nI 1) dX3_fail_52 (by decide) ?_
        refine zg_goto (tgt := 57) dX3_fail_53 (by decide) ?_
        exact zg_zret rfl rfl dX3_fail_57 ((show za_bit ok = nI 1 by rw [e]; rfl) ▸ hq J2 r2 (fun a ha => (f2 a (Or.inr ha)).trans (k1 a ha)))
    · have hlt : i < H.1 := zn_lt h10 (by omega) (by omega)
      refine zg_lload_n dX3_fail_13 rfl ?_
      refine zg_iload_n dX3_fail_14 rfl ?_
      refine zg_lushr dX3_fail_15 ?_
      refine zg_lconst (v := 1) dX3_fail_16 (by decide) ?_
      refine zg_land dX3_fail_17 ?_
      refine zg_lconst (v := 0) dX3_fail_18 (by decide) ?_
      refine zg_lcmp dX3_fail_19 ?_
      refine zg_if_eq (tgt := 35) dX3_fail_20 (by decide) (fun h20 => ?_) (fun h20 => ?_)
      · have hc : za_car D H (zb v) (i + 1) = za_car D H (zb v) i := if_neg (by rw [(zb_hol v (by omega)).mp (zs_cmp h20)]; decide)
        refine zg_iinc (v := nI (i + 1)) (lv' := [(3, .int (nI (i + 1))), (0, .ref 1), (1, .long v)]) dX3_fail_35 rfl (nI_1 i) (by decide) rfl ?_
        refine zg_goto (tgt := 2) dX3_fail_38 (by decide) ?_
        refine zg_l [0, 1, 2] rfl ?_
        exact zg_s rfl rfl rfl (ih (i + 1) J (by omega) (by omega) (by rw [hc]; exact k0) k1)
      · have hc : za_car D H (zb v) (i + 1) = zw_ro (za_car D H (zb v) i) (H.2.1 i) (H.2.2 i) := if_pos (Classical.byContradiction fun z => zs_cmp0 h20 ((zb_hol v (by omega)).mpr (by simpa using z)))
        refine zg_aload_n dX3_fail_23 rfl ?_
        refine zg_getR E (ci := 3) (j := 1) (r := 51) dX3_fail_24 rfl (congrArg Prod.fst (zl_at HX (k := 1) (t := (3, 7)) rfl (by decide) (by decide))) (by decide) (zl_lt HX (by decide)) (by decide) fl_X3_17 rfl (zl_rf HX rfl (by decide) (by decide)) ?_
        refine zg_iload_n dX3_fail_27 rfl ?_
        refine zg_aload_n dX3_fail_28 rfl ?_
        refine zg_getR E (ci := 3) (j := 0) (r := 2) dX3_fail_29 rfl (congrArg Prod.fst (zl_at HX (k := 1) (t := (3, 7)) rfl (by decide) (by decide))) (by decide) (zl_lt HX (by decide)) (by decide) fl_X3_11 rfl (zl_rf HX rfl (by decide) (by decide)) ?_
        refine zg_vrt (M := zm_X3_fail) E (ci := 1) dX3_fail_32 (kt_carry (w := zw_I w J) E HX k0.1 k0.2.1 hH hlt) wd_X3_124 rfl (congrArg Prod.fst (zl_at HX (k := 51) (t := (1, 3)) rfl (by decide) (by decide))) (by decide) (zl_lt HX (by decide)) rfl dh_X1_carryOut dn_X1_carryOut (Nat.le_of_ble_eq_true rfl) (Nat.le_of_ble_eq_true rfl) (Nat.le_of_ble_eq_true rfl) (zl_cap HX) rfl (fun w32 g32 => ?_)
        obtain ⟨J1, rfl, r1, f1⟩ := g32
        refine zg_w (w' := zw_I w J1) rfl ?_
        refine zg_iinc (v := nI (i + 1)) (lv' := [(3, .int (nI (i + 1))), (0, .ref 1), (1, .long v)]) dX3_fail_35 rfl (nI_1 i) (by decide) rfl ?_
        refine zg_goto (tgt := 2) dX3_fail_38 (by decide) ?_
        refine zg_l [0, 1, 2] rfl ?_
        exact zg_s rfl rfl rfl (ih (i + 1) J1 (by omega) (by omega) (by rw [hc]; exact zr_Xd k0 hH.1 r1 f1) (fun a ha => (f1 a (by omega)).trans (k1 a ha)))
set_option maxHeartbeats 4000000 in
set_option maxRecDepth 100000 in
theorem px_1 {V : zv_V} (E : zv_OK V) {w : zw_W} (HX : zl_X w) {D : Nat → Nat → Nat} {H : za_H} {b : Bool} {L S : za_T} {C : za_C} (hX : zr_X (zw_i w) D H b L S C) (hH : za_WH H) (h60 : H.1 ≤ 60) (hD : za_WD D) {v : Int64} {ok : Bool} (hok : ok = true ↔ za_mr (za_car D H (zb v) H.1) ∧ za_tr (za_car D H (zb v) H.1)) : zg_C V zm_X3_fail yX3_fail 8 190 [.ref 1, .long v] w (zq_p (.inl (some (.int (za_bit ok)))) (zr_pub w (za_car D H (zb v) H.1) (0, H.2) (!ok) (if ok then za_mt (za_car D H (zb v) H.1) else L) (if ok then za_mt (za_car D H (zb v) H.1) else S) za_C0)) := by
  refine zg_of (by decide +kernel) rfl (Nat.le_of_ble_eq_true rfl) ?_
  show zg_G V zm_X3_fail 8 190 w.1 w.2.1 0 [] [(0, .ref 1), (1, .long v)] w _
  refine zg_iconst (v := nI 0) dX3_fail_0 (by decide) ?_
  refine zg_istore_n (lv' := [(3, .int (nI 0)), (0, .ref 1), (1, .long v)]) dX3_fail_1 (by decide) rfl ?_
  exact zg_s rfl rfl rfl (lp_fail E HX hH h60 hD hok (fun J h1 h2 => ⟨rfl, zp_to (lo := 0) (hi := 156) (by decide) ⟨J, rfl, h1, fun a ha => ha.elim (fun z => absurd z (Nat.not_lt_zero _)) (h2 a)⟩⟩) (H.1 + 1) 0 (zw_i w) (by omega) (by omega) hX (fun a _ => rfl))
/-- the bytes of two longs -/
def za_fb (u v : Int64) (j : Nat) : Nat := if j < 8 then u.toBitVec.toNat / 2 ^ (8 * j) % 256 else v.toBitVec.toNat / 2 ^ (8 * (j - 8)) % 256
theorem za_fb_lt (u v : Int64) (j : Nat) : za_fb u v j < 256 := by
  unfold za_fb
  split
  · exact Nat.mod_lt _ (by decide)
  · exact Nat.mod_lt _ (by decide)
def za_fil (C : za_C) (p : Nat) (f : Nat → Nat) : za_C := (C.1, zw_ro C.2.1 p f, C.2.2)
theorem zn_fb (u : Int64) {i : Nat} (hi : i < 8) : (u.toUInt64 >>> ((nI (8 * i)).toInt64.toUInt64 &&& Int64.toUInt64 63)).toInt64.toInt32 &&& nI 255 = nI (u.toBitVec.toNat / 2 ^ (8 * i) % 256) := by
  rw [pk_and _ 8 (by decide)]
  refine congrArg nI ?_
  have e : ((u.toUInt64 >>> ((nI (8 * i)).toInt64.toUInt64 &&& Int64.toUInt64 63)).toInt64).toBitVec = u.toBitVec >>> (8 * i) := by
    show u.toBitVec >>> (((nI (8 * i)).toInt64.toUInt64 &&& Int64.toUInt64 63).toBitVec % 64#64) = _
    rw [BitVec.ushiftRight_eq', zb_amt (8 * i) (by omega)]
  rw [Int64.toBitVec_toInt32, e, BitVec.signExtend_eq_setWidth_of_le _ (by decide), BitVec.toNat_setWidth, BitVec.toNat_ushiftRight, Nat.shiftRight_eq_div_pow, Nat.mod_mod_of_dvd _ (by decide)]
theorem zk_fil {I J : Nat → Nat → Int32} {C : za_C} {p : Nat} {f : Nat → Nat} (h : zr_C I C) (h1 : ∀ i, i < 16 → J (138 + p) i = nI (f i)) (h2 : ∀ a, a ≠ 138 + p → J a = I a) (hp : p < 16) : zr_C J (za_fil C p f) := by
  refine ⟨fun q hq => (congrFun (h2 136 (by omega)) q).trans (h.1 q hq), (congrFun (h2 135 (by omega)) 3).trans h.2.1, fun q hq e => ⟨fun j hj => ?_, (congrFun (h2 154 (by omega)) q).trans (h.2.2 q hq e).2⟩⟩
  show _ = nI (zw_ro C.2.1 p f q j)
  by_cases k : q = p
  · rw [k, zw_ro_s]
    exact h1 j hj
  · rw [zw_ro_n _ _ k, h2 _ (by omega)]
    exact (h.2.2 q hq e).1 j hj
theorem zk_f8 {J : Nat → Nat → Int32} {k i : Nat} {u v : Int64} (hi : i < 8) (h : ∀ j, j < i → J k j = nI (za_fb u v j) ∧ J k (8 + j) = nI (za_fb u v (8 + j))) : ∀ j, j < i + 1 → zw_up (zw_up J k i (nI (u.toBitVec.toNat / 2 ^ (8 * i) % 256))) k (8 + i) (nI (v.toBitVec.toNat / 2 ^ (8 * i) % 256)) k j = nI (za_fb u v j) ∧ zw_up (zw_up J k i (nI (u.toBitVec.toNat / 2 ^ (8 * i) % 256))) k (8 + i) (nI (v.toBitVec.toNat / 2 ^ (8 * i) % 256)) k (8 + j) = nI (za_fb u v (8 + j)) := by
  intro j hj
  by_cases e : j = i
  · subst e
    rw [zw_up_n _ _ (Or.inr (by omega)), zw_up_s, zw_up_s]
    unfold za_fb
    rw [if_pos hi, if_neg (by omega), show 8 + j - 8 = j by omega]
    exact ⟨rfl, rfl⟩
  · rw [zw_up_n _ _ (Or.inr (by omega)), zw_up_n _ _ (Or.inr e), zw_up_n _ _ (Or.inr (by omega)), zw_up_n _ _ (Or.inr (by omega))]
    exact h j (by omega)
set_option maxHeartbeats 4000000 in
set_option maxRecDepth 100000 in
theorem pi_1 {V : zv_V} (E : zv_OK V) {w : zw_W} (HX : zl_X w) {D : Nat → Nat → Nat} {H : za_H} {b : Bool} {L S : za_T} {C : za_C} (hX : zr_X (zw_i w) D H b L S C) (hH : za_WH H) {x : Int32} (hx : ∀ n, n < 16 → x ≠ nI n) {u v : Int64} : zg_C V zm_X3_fill yX3_fill 8 190 [.ref 1, .int x, .long u, .long v] w (zq_p (.inr 20) (zr_pub w D H b L S C)) := by
  refine zg_of (by decide +kernel) rfl (Nat.le_of_ble_eq_true rfl) ?_
  show zg_G V zm_X3_fill 8 190 w.1 w.2.1 0 [] [(0, .ref 1), (1, .int x), (2, .long u), (4, .long v)] w _
  refine zg_iload_n dX3_fill_0 rfl ?_
  refine zg_sthr (M := zm_X3_fill) E dX3_fill_1 (ct_checkPage_no E HX hx) wd_X3_45 dh_X3_checkPage dn_X3_checkPage (Nat.le_of_ble_eq_true rfl) (Nat.le_of_ble_eq_true rfl) (Nat.le_of_ble_eq_true rfl) (zl_cap HX) rfl (fun w1 g1 => ?_)
  subst w1
  exact zg_out rfl ⟨rfl, zp_nw HX hX hH⟩
set_option maxHeartbeats 4000000 in
set_option maxRecDepth 100000 in
theorem pi_2 {V : zv_V} (E : zv_OK V) {w : zw_W} (HX : zl_X w) {D : Nat → Nat → Nat} {H : za_H} {b : Bool} {L S : za_T} {C : za_C} (hX : zr_X (zw_i w) D H b L S C) (hH : za_WH H) {p : Nat} (hp : p < 16) {u v : Int64} (hb : b = true)  : zg_C V zm_X3_fill yX3_fill 8 190 [.ref 1, .int (nI p), .long u, .long v] w (zq_p (.inr 21) (zr_pub w D H b L S C)) := by
  refine zg_of (by decide +kernel) rfl (Nat.le_of_ble_eq_true rfl) ?_
  show zg_G V zm_X3_fill 8 190 w.1 w.2.1 0 [] [(0, .ref 1), (1, .int (nI p)), (2, .long u), (4, .long v)] w _
  refine zg_iload_n dX3_fill_0 rfl ?_
  refine zg_sret (M := zm_X3_fill) E dX3_fill_1 (ct_checkPage_ok E HX hp) wd_X3_45 dh_X3_checkPage dn_X3_checkPage (Nat.le_of_ble_eq_true rfl) (Nat.le_of_ble_eq_true rfl) (Nat.le_of_ble_eq_true rfl) (zl_cap HX) rfl (fun w1 g1 => ?_)
  subst w1
  refine zg_aload_n dX3_fill_4 rfl ?_
  refine zg_vth (M := zm_X3_fill) E (ci := 3) dX3_fill_5 (ct_mounted_no E HX (by rw [hX.2.2.1, hb]; decide)) wd_X3_55 rfl (congrArg Prod.fst (zl_at HX (k := 1) (t := (3, 7)) rfl (by decide) (by decide))) (by decide) (zl_lt HX (by decide)) rfl dh_X3_checkMounted dn_X3_checkMounted (Nat.le_of_ble_eq_true rfl) (Nat.le_of_ble_eq_true rfl) (Nat.le_of_ble_eq_true rfl) (zl_cap HX) rfl (fun w5 g5 => ?_)
  subst w5
  exact zg_out rfl ⟨rfl, zp_nw HX hX hH⟩
set_option maxHeartbeats 4000000 in
set_option maxRecDepth 100000 in
theorem pi_3 {V : zv_V} (E : zv_OK V) {w : zw_W} (HX : zl_X w) {D : Nat → Nat → Nat} {H : za_H} {b : Bool} {L S : za_T} {C : za_C} (hX : zr_X (zw_i w) D H b L S C) (hH : za_WH H) {p : Nat} (hp : p < 16) {u v : Int64} (hb : b = false) (hc : zg_C V zm_X3_changePage yX3_changePage 6 130 [.ref 1, .int (nI p)] w (zq_p (.inr 21) (· = zw_nw w (21, 6))))  : zg_C V zm_X3_fill yX3_fill 8 190 [.ref 1, .int (nI p), .long u, .long v] w (zq_p (.inr 21) (zr_pub w D H b L S C)) := by
  refine zg_of (by decide +kernel) rfl (Nat.le_of_ble_eq_true rfl) ?_
  show zg_G V zm_X3_fill 8 190 w.1 w.2.1 0 [] [(0, .ref 1), (1, .int (nI p)), (2, .long u), (4, .long v)] w _
  refine zg_iload_n dX3_fill_0 rfl ?_
  refine zg_sret (M := zm_X3_fill) E dX3_fill_1 (ct_checkPage_ok E HX hp) wd_X3_45 dh_X3_checkPage dn_X3_checkPage (Nat.le_of_ble_eq_true rfl) (Nat.le_of_ble_eq_true rfl) (Nat.le_of_ble_eq_true rfl) (zl_cap HX) rfl (fun w1 g1 => ?_)
  subst w1
  refine zg_aload_n dX3_fill_4 rfl ?_
  refine zg_vrt (M := zm_X3_fill) E (ci := 3) dX3_fill_5 (ct_mounted_ok E HX (by rw [hX.2.2.1, hb]; rfl)) wd_X3_55 rfl (congrArg Prod.fst (zl_at HX (k := 1) (t := (3, 7)) rfl (by decide) (by decide))) (by decide) (zl_lt HX (by decide)) rfl dh_X3_checkMounted dn_X3_checkMounted (Nat.le_of_ble_eq_true rfl) (Nat.le_of_ble_eq_true rfl) (Nat.le_of_ble_eq_true rfl) (zl_cap HX) rfl (fun w5 g5 => ?_)
  subst w5
  refine zg_aload_n dX3_fill_8 rfl ?_
  refine zg_iload_n dX3_fill_9 rfl ?_
  refine zg_vth (M := zm_X3_fill) E (ci := 3) dX3_fill_10 hc wd_X3_58 rfl (congrArg Prod.fst (zl_at HX (k := 1) (t := (3, 7)) rfl (by decide) (by decide))) (by decide) (zl_lt HX (by decide)) rfl dh_X3_changePage dn_X3_changePage (Nat.le_of_ble_eq_true rfl) (Nat.le_of_ble_eq_true rfl) (Nat.le_of_ble_eq_true rfl) (zl_cap HX) rfl (fun w10 g10 => ?_)
  subst w10
  exact zg_out rfl ⟨rfl, zp_nw HX hX hH⟩
set_option maxHeartbeats 4000000 in
set_option maxRecDepth 100000 in
theorem lp_fill2 {V : zv_V} (E : zv_OK V) {w : zw_W} {n0 u0 : Nat} {Q : zg_O → zw_W → Prop} (HX : zl_X w) {D : Nat → Nat → Nat} {H : za_H} {b : Bool} {L S : za_T} {C : za_C} {u v : Int64} {p : Nat} (hp : p < 16) (hH : za_WH H) {J1 : Nat → Nat → Int32} {C1 : za_C} (r1 : zr_X J1 D H b L S C1) (hq : ∀ J, zr_X J D H b L S (za_fil C1 p (za_fb u v)) → (∀ a, a ≠ 138 + p → J a = J1 a) → Q (.inl (some (.int (nI (za_n C1.1 16))))) (zw_I w J)) : ∀ (n i : Nat) (J : Nat → Nat → Int32), i ≤ 8 → 8 + 1 ≤ i + n → (∀ j, j < i → J (138 + p) j = nI (za_fb u v j) ∧ J (138 + p) (8 + j) = nI (za_fb u v (8 + j))) → (∀ a, a ≠ 138 + p → J a = J1 a) → zg_G V zm_X3_fill 8 190 n0 u0 31 [] [(8, .int (nI i)), (7, .int (nI 8)), (6, .ref (138 + p)), (0, .ref 1), (2, .long u), (4, .long v)] (zw_I w J) Q := by
  intro n
  induction n with
  | zero =>
    intro i J hi hn
    exact absurd hn (by omega)
  | succ n ih =>
    intro i J hi hn k0 k1
    refine zg_iload dX3_fill_31 rfl ?_
    refine zg_iload dX3_fill_33 rfl ?_
    refine zg_icmp_ge (tgt := 82) dX3_fill_35 (by decide) (fun h35 => ?_) (fun h35 => ?_)
    · obtain rfl : i = 8 := by have := zn_ge h35 (by omega) (by omega); omega
      have hx : zr_X J D H b L S (za_fil C1 p (za_fb u v)) := zr_Xc r1 hH.1 (zk_fil r1.2.2.2.2.2 (fun j hj => (Nat.lt_or_ge j 8).elim (fun z => (k0 j z).1) (fun z => by have := (k0 (j - 8) (by omega)).2; rwa [show 8 + (j - 8) = j by omega] at this)) k1 hp) (fun a ha => k1 a (by omega))
      refine zg_aload_n dX3_fill_82 rfl ?_
      refine zg_getR E (ci := 3) (j := 4) (r := 135) dX3_fill_83 rfl (congrArg Prod.fst (zl_at HX (k := 1) (t := (3, 7)) rfl (by decide) (by decide))) (by decide) (zl_lt HX (by decide)) (by decide) fl_X3_34 rfl (zl_rf HX rfl (by decide) (by decide)) ?_
      refine zg_getI E (ci := 0) (j := 3) dX3_fill_86 rfl (congrArg Prod.fst (zl_at HX (k := 135) (t := (0, 4)) rfl (by decide) (by decide))) (by decide) (zl_lt HX (by decide)) (by decide) fl_X3_64 rfl ?_
      refine zg_v (x' := nI (za_n C1.1 16)) hx.2.2.2.2.2.2.1 ?_
      exact zg_iret rfl dX3_fill_89 (hq J hx k1)
    · have hlt : i < 8 := zn_lt h35 (by omega) (by omega)
      refine zg_aload dX3_fill_38 rfl ?_
      refine zg_iload dX3_fill_40 rfl ?_
      refine zg_lload_n dX3_fill_42 rfl ?_
      refine zg_bipush (v := nI 8) dX3_fill_43 (by decide) ?_
      refine zg_iload dX3_fill_45 rfl ?_
      refine zg_imul dX3_fill_47 ?_
      refine zg_v (x' := nI (8 * i)) (pk_mul _ _) ?_
      refine zg_lushr dX3_fill_48 ?_
      refine zg_l2i dX3_fill_49 ?_
      refine zg_sipush (v := nI 255) dX3_fill_50 (by decide) ?_
      refine zg_iand dX3_fill_53 ?_
      refine zg_v (x' := nI (u.toBitVec.toNat / 2 ^ (8 * i) % 256)) (zn_fb u hlt) ?_
      refine zg_iast E (j := i) dX3_fill_54 (zl_at HX (zl_pag (by omega)).1 (by omega) (by omega)) (by omega) (zl_lt HX (by omega)) rfl (by omega) (by decide) ?_
      refine zg_aload dX3_fill_55 rfl ?_
      refine zg_iload dX3_fill_57 rfl ?_
      refine zg_iload dX3_fill_59 rfl ?_
      refine zg_iadd dX3_fill_61 ?_
      refine zg_v (x' := nI (8 + i)) (nI_add _ _) ?_
      refine zg_lload dX3_fill_62 rfl ?_
      refine zg_bipush (v := nI 8) dX3_fill_64 (by decide) ?_
      refine zg_iload dX3_fill_66 rfl ?_
      refine zg_imul dX3_fill_68 ?_
      refine zg_v (x' := nI (8 * i)) (pk_mul _ _) ?_
      refine zg_lushr dX3_fill_69 ?_
      refine zg_l2i dX3_fill_70 ?_
      refine zg_sipush (v := nI 255) dX3_fill_71 (by decide) ?_
      refine zg_iand dX3_fill_74 ?_
      refine zg_v (x' := nI (v.toBitVec.toNat / 2 ^ (8 * i) % 256)) (zn_fb v hlt) ?_
      refine zg_iast E (j := 8 + i) dX3_fill_75 (zl_at HX (zl_pag (by omega)).1 (by omega) (by omega)) (by omega) (zl_lt HX (by omega)) rfl (by omega) (by decide) ?_
      refine zg_iinc (v := nI (i + 1)) (lv' := [(8, .int (nI (i + 1))), (7, .int (nI 8)), (6, .ref (138 + p)), (0, .ref 1), (2, .long u), (4, .long v)]) dX3_fill_76 rfl (nI_1 i) (by decide) rfl ?_
      refine zg_goto (tgt := 31) dX3_fill_79 (by decide) ?_
      refine zg_l [0, 1, 2, 3, 4, 5] rfl ?_
      exact zg_s rfl rfl rfl (ih (i + 1) _ (by omega) (by omega) (zk_f8 hlt k0) (fun a ha => (zw_up_row _ _ _ ha).trans ((zw_up_row _ _ _ ha).trans (k1 a ha))))
set_option maxHeartbeats 4000000 in
set_option maxRecDepth 100000 in
theorem pi_4 {V : zv_V} (E : zv_OK V) {w : zw_W} (HX : zl_X w) {D : Nat → Nat → Nat} {H : za_H} {b : Bool} {L S : za_T} {C : za_C} (hX : zr_X (zw_i w) D H b L S C) (hH : za_WH H) {p : Nat} (hp : p < 16) {u v : Int64} (hb : b = false) {C1 : za_C} (h1 : C1.1 p ≠ 0) (hc : zg_C V zm_X3_changePage yX3_changePage 3 130 [.ref 1, .int (nI p)] w (zq_p (.inl none) (zr_to w 135 155 (zr_X · D H b L S C1))))  : zg_C V zm_X3_fill yX3_fill 8 190 [.ref 1, .int (nI p), .long u, .long v] w (zq_p (.inl (some (.int (nI (za_n C1.1 16))))) (zr_pub w D H b L S (za_fil C1 p (za_fb u v)))) := by
  refine zg_of (by decide +kernel) rfl (Nat.le_of_ble_eq_true rfl) ?_
  show zg_G V zm_X3_fill 8 190 w.1 w.2.1 0 [] [(0, .ref 1), (1, .int (nI p)), (2, .long u), (4, .long v)] w _
  refine zg_iload_n dX3_fill_0 rfl ?_
  refine zg_sret (M := zm_X3_fill) E dX3_fill_1 (ct_checkPage_ok E HX hp) wd_X3_45 dh_X3_checkPage dn_X3_checkPage (Nat.le_of_ble_eq_true rfl) (Nat.le_of_ble_eq_true rfl) (Nat.le_of_ble_eq_true rfl) (zl_cap HX) rfl (fun w1 g1 => ?_)
  subst w1
  refine zg_aload_n dX3_fill_4 rfl ?_
  refine zg_vrt (M := zm_X3_fill) E (ci := 3) dX3_fill_5 (ct_mounted_ok E HX (by rw [hX.2.2.1, hb]; rfl)) wd_X3_55 rfl (congrArg Prod.fst (zl_at HX (k := 1) (t := (3, 7)) rfl (by decide) (by decide))) (by decide) (zl_lt HX (by decide)) rfl dh_X3_checkMounted dn_X3_checkMounted (Nat.le_of_ble_eq_true rfl) (Nat.le_of_ble_eq_true rfl) (Nat.le_of_ble_eq_true rfl) (zl_cap HX) rfl (fun w5 g5 => ?_)
  subst w5
  refine zg_aload_n dX3_fill_8 rfl ?_
  refine zg_iload_n dX3_fill_9 rfl ?_
  refine zg_vrt (M := zm_X3_fill) E (ci := 3) dX3_fill_10 hc wd_X3_58 rfl (congrArg Prod.fst (zl_at HX (k := 1) (t := (3, 7)) rfl (by decide) (by decide))) (by decide) (zl_lt HX (by decide)) rfl dh_X3_changePage dn_X3_changePage (Nat.le_of_ble_eq_true rfl) (Nat.le_of_ble_eq_true rfl) (Nat.le_of_ble_eq_true rfl) (zl_cap HX) rfl (fun w10 g10 => ?_)
  obtain ⟨J1, rfl, r1, f1⟩ := g10
  refine zg_w (w' := zw_I w J1) rfl ?_
  refine zg_aload_n dX3_fill_13 rfl ?_
  refine zg_getR E (ci := 3) (j := 4) (r := 135) dX3_fill_14 rfl (congrArg Prod.fst (zl_at HX (k := 1) (t := (3, 7)) rfl (by decide) (by decide))) (by decide) (zl_lt HX (by decide)) (by decide) fl_X3_34 rfl (zl_rf HX rfl (by decide) (by decide)) ?_
  refine zg_getR E (ci := 0) (j := 1) (r := 137) dX3_fill_17 rfl (congrArg Prod.fst (zl_at HX (k := 135) (t := (0, 4)) rfl (by decide) (by decide))) (by decide) (zl_lt HX (by decide)) (by decide) fl_X3_61 rfl (zl_rf HX rfl (by decide) (by decide)) ?_
  refine zg_iload_n dX3_fill_20 rfl ?_
  refine zg_aald E (j := p) (r := 138 + p) dX3_fill_21 (zl_at HX (k := 137) (t := (13, 16)) rfl (by decide) (by decide)) (by decide) (zl_lt HX (by decide)) rfl (by omega) (by decide) (zl_rf HX (zl_pag (by omega)).2 (by decide) (by decide)) ?_
  refine zg_astore (lv' := [(6, .ref (138 + p)), (0, .ref 1), (1, .int (nI p)), (2, .long u), (4, .long v)]) dX3_fill_22 (by decide) rfl ?_
  refine zg_bipush (v := nI 8) dX3_fill_24 (by decide) ?_
  refine zg_istore (lv' := [(7, .int (nI 8)), (6, .ref (138 + p)), (0, .ref 1), (1, .int (nI p)), (2, .long u), (4, .long v)]) dX3_fill_26 (by decide) rfl ?_
  refine zg_iconst (v := nI 0) dX3_fill_28 (by decide) ?_
  refine zg_istore (lv' := [(8, .int (nI 0)), (7, .int (nI 8)), (6, .ref (138 + p)), (0, .ref 1), (1, .int (nI p)), (2, .long u), (4, .long v)]) dX3_fill_29 (by decide) rfl ?_
  refine zg_l [0, 1, 2, 3, 5, 6] rfl ?_
  exact zg_s rfl rfl rfl (lp_fill2 (C := C) E HX hp hH r1 (fun J h2 h3 => ⟨rfl, zp_to (lo := 135) (hi := 155) (by decide) ⟨J, rfl, h2, fun a ha => (h3 a (by omega)).trans (f1 a ha)⟩⟩) 9 0 J1 (by omega) (by omega) (fun j hj => absurd hj (Nat.not_lt_zero j)) (fun a _ => rfl))
end
section
/-! Long.bitCount counts. -/
def za_pc (f : Nat → Bool) : Nat → Nat
  | 0 => 0
  | n + 1 => za_pc f n + (if f n then 1 else 0)
theorem za_pc_add (f : Nat → Bool) (m n : Nat) : za_pc f (m + n) = za_pc f m + za_pc (fun i => f (m + i)) n := by
  induction n with
  | zero => rfl
  | succ n ih =>
    show za_pc f (m + n) + (if f (m + n) then 1 else 0) = za_pc f m + (za_pc (fun i => f (m + i)) n + (if f (m + n) then 1 else 0))
    rw [ih, Nat.add_assoc]
theorem za_pc_e {f g : Nat → Bool} {n : Nat} (h : ∀ i, i < n → f i = g i) : za_pc f n = za_pc g n := by
  induction n with
  | zero => rfl
  | succ n ih =>
    unfold za_pc
    rw [ih (fun i hi => h i (by omega)), h n (by omega)]
theorem za_pc_le (f : Nat → Bool) (n : Nat) : za_pc f n ≤ n := by
  induction n with
  | zero => exact Nat.le_refl 0
  | succ n ih =>
    unfold za_pc
    split <;> omega
/-- a mask of n bytes -/
def zB (c : Nat) : Nat → Nat
  | 0 => 0
  | n + 1 => 256 * zB c n + c
theorem zB_and {a b c d : Nat} (hb : b < 256) (hd : d < 256) : (256 * a + b) &&& (256 * c + d) = 256 * (a &&& c) + (b &&& d) := by
  have h1 : ((256 * a + b) &&& (256 * c + d)) % 2 ^ 8 = b &&& d := by
    rw [Nat.and_mod_two_pow, show (256 * a + b) % 2 ^ 8 = b by omega, show (256 * c + d) % 2 ^ 8 = d by omega]
  have h2 : ((256 * a + b) &&& (256 * c + d)) / 2 ^ 8 = a &&& c := by
    rw [Nat.and_div_two_pow, show (256 * a + b) / 2 ^ 8 = a by omega, show (256 * c + d) / 2 ^ 8 = c by omega]
  omega
theorem zB_S (c n : Nat) : zB c (n + 1) = 256 * zB c n + c := rfl
def zB1 (m x : Nat) : Nat := x - ((x / 2) &&& m)
def zB2 (m x : Nat) : Nat := (x &&& m) + ((x / 4) &&& m)
def zB3 (m x : Nat) : Nat := (x + x / 16) &&& m
theorem zB_a1 : ∀ r, r < 256 → ∀ e, e < 2 → (128 * e + r / 2) &&& 85 = (r / 2) &&& 85 := by decide +kernel
theorem zB_a2 : ∀ r, r < 256 → ∀ e, e < 4 → (64 * e + r / 4) &&& 51 = (r / 4) &&& 51 := by decide +kernel
theorem zB_a3 : ∀ r, r < 256 → zB1 85 r < 256 ∧ zB2 51 (zB1 85 r) % 16 ≤ 4 ∧ zB2 51 (zB1 85 r) / 16 ≤ 4 := by decide +kernel
theorem zB_s1 (m q : Nat) {r : Nat} (hr : r < 256) : zB1 (256 * m + 85) (256 * q + r) = 256 * zB1 m q + zB1 85 r := by
  unfold zB1
  rw [show (256 * q + r) / 2 = 256 * (q / 2) + (128 * (q % 2) + r / 2) by omega, zB_and (by omega) (by decide), zB_a1 r hr (q % 2) (by omega)]
  have h1 : (q / 2) &&& m ≤ q / 2 := Nat.and_le_left
  have h2 : (r / 2) &&& 85 ≤ r / 2 := Nat.and_le_left
  omega
theorem zB_s2 (m q : Nat) {r : Nat} (hr : r < 256) : zB2 (256 * m + 51) (256 * q + r) = 256 * zB2 m q + zB2 51 r := by
  unfold zB2
  rw [show (256 * q + r) / 4 = 256 * (q / 4) + (64 * (q % 4) + r / 4) by omega, zB_and hr (by decide), zB_and (by omega) (by decide), zB_a2 r hr (q % 4) (by omega)]
  omega
theorem zB_s3 (m q : Nat) {r : Nat} (h1 : r % 16 ≤ 4) (h2 : r / 16 ≤ 4) (h3 : q % 16 ≤ 4) : zB3 (256 * m + 15) (256 * q + r) = 256 * zB3 m q + zB3 15 r := by
  unfold zB3
  rw [show 256 * q + r + (256 * q + r) / 16 = 256 * (q + q / 16) + (r + r / 16 + 16 * (q % 16)) by omega, zB_and (by omega) (by decide)]
  have e : ∀ x, x &&& 15 = x % 16 := fun x => Nat.and_two_pow_sub_one_eq_mod x 4
  rw [e, e]
  omega
/-- byte by byte -/
def zBt : Nat → Nat → Nat
  | 0, _ => 0
  | n + 1, x => 256 * zBt n (x / 256) + zB3 15 (zB2 51 (zB1 85 (x % 256)))
theorem zB_lo (n x : Nat) : zB2 (zB 51 n) (zB1 (zB 85 n) x) % 16 ≤ 4 := by
  cases n with
  | zero =>
    unfold zB2 zB
    rw [Nat.and_zero, Nat.and_zero]
    decide
  | succ n =>
    have hr := Nat.mod_lt x (by decide : 256 > 0)
    obtain ⟨h1, h2, h3⟩ := zB_a3 _ hr
    have e := Nat.div_add_mod x 256
    rw [← e, zB_S, zB_S, zB_s1 _ _ hr, zB_s2 _ _ h1]
    omega
theorem zB_all (n x : Nat) : zB3 (zB 15 n) (zB2 (zB 51 n) (zB1 (zB 85 n) x)) = zBt n x := by
  induction n generalizing x with
  | zero =>
    unfold zB3 zB zBt
    exact Nat.and_zero _
  | succ n ih =>
    have hr := Nat.mod_lt x (by decide : 256 > 0)
    obtain ⟨h1, h2, h3⟩ := zB_a3 _ hr
    have e := Nat.div_add_mod x 256
    unfold zBt
    rw [← ih (x / 256)]
    conv => lhs; rw [← e]
    rw [zB_S, zB_S, zB_S, zB_s1 _ _ hr, zB_s2 _ _ h1, zB_s3 _ _ h2 h3 (zB_lo n _)]
theorem zB_b : ∀ r, r < 256 → zB3 15 (zB2 51 (zB1 85 r)) = za_pc (Nat.testBit r) 8 := by decide +kernel
theorem zB_tb (x : Nat) : za_pc (Nat.testBit (x % 256)) 8 = za_pc (Nat.testBit x) 8 := za_pc_e (fun i hi => by
  rw [show (256 : Nat) = 2 ^ 8 from rfl, Nat.testBit_mod_two_pow]
  simp [hi])
theorem zB_td (x m i : Nat) : Nat.testBit (x / 2 ^ m) i = Nat.testBit x (m + i) := by
  rw [Nat.testBit_div_two_pow, Nat.add_comm]
theorem zB_d {y A c : Nat} (h : y = 256 * A + c) (hc : c < 256) : y / 256 = A := by omega
theorem zB_sum {c0 c1 c2 c3 c4 c5 c6 c7 a1 a2 a3 a4 a5 a6 x : Nat} (h0 : c0 ≤ 8) (h1 : c1 ≤ 8) (h2 : c2 ≤ 8) (h3 : c3 ≤ 8) (h4 : c4 ≤ 8) (h5 : c5 ≤ 8) (h6 : c6 ≤ 8) (h7 : c7 ≤ 8)
    (g6 : a6 = 256 * c7 + c6) (g5 : a5 = 256 * a6 + c5) (g4 : a4 = 256 * a5 + c4) (g3 : a3 = 256 * a4 + c3) (g2 : a2 = 256 * a3 + c2) (g1 : a1 = 256 * a2 + c1) (g0 : x = 256 * a1 + c0) {y z u : Nat}
    (ey : y = x + x / 256) (ez : z = y + y / 65536) (eu : u = z + z / 4294967296) :
    u < 2 ^ 64 ∧ y < 2 ^ 64 ∧ z < 2 ^ 64 ∧ u % 128 = c0 + c1 + c2 + c3 + c4 + c5 + c6 + c7 := by
  rw [zB_d g0 (by omega)] at ey
  have y0 : y = 256 * (a1 + a2) + (c0 + c1) := by omega
  have y1 : a1 + a2 = 256 * (a2 + a3) + (c1 + c2) := by omega
  rw [show 65536 = 256 * 256 from rfl, ← Nat.div_div_eq_div_mul, zB_d y0 (by omega), zB_d y1 (by omega)] at ez
  have z0 : z = 256 * (a1 + a2 + a3 + a4) + (c0 + c1 + c2 + c3) := by omega
  have z1 : a1 + a2 + a3 + a4 = 256 * (a2 + a3 + a4 + a5) + (c1 + c2 + c3 + c4) := by omega
  have z2 : a2 + a3 + a4 + a5 = 256 * (a3 + a4 + a5 + a6) + (c2 + c3 + c4 + c5) := by omega
  have z3 : a3 + a4 + a5 + a6 = 256 * (a4 + a5 + a6 + c7) + (c3 + c4 + c5 + c6) := by omega
  rw [show 4294967296 = 256 * 256 * 256 * 256 from rfl, ← Nat.div_div_eq_div_mul, ← Nat.div_div_eq_div_mul, ← Nat.div_div_eq_div_mul, zB_d z0 (by omega), zB_d z1 (by omega), zB_d z2 (by omega), zB_d z3 (by omega)] at eu
  have u0 : u = 256 * (a1 + a2 + a3 + a4 + a5 + a6 + c7) + (c0 + c1 + c2 + c3 + c4 + c5 + c6 + c7) := by omega
  have b6 : a6 ≤ 2056 := by omega
  have b5 : a5 ≤ 526344 := by omega
  have b4 : a4 ≤ 134744072 := by omega
  have b3 : a3 ≤ 34494482440 := by omega
  have b2 : a2 ≤ 8830587504648 := by omega
  have b1 : a1 ≤ 2260630401189896 := by omega
  clear g0 g1 g2 g3 g4 g5 g6 ey ez eu y1 z1 z2 z3
  refine ⟨by omega, by omega, by omega, ?_⟩
  rw [u0]
  generalize a1 + a2 + a3 + a4 + a5 + a6 + c7 = K
  omega
/-- Long.bitCount, step by step -/
def zk_sr (x : Int64) (n : Int32) : Int64 := (x.toUInt64 >>> (n.toInt64.toUInt64 &&& Int64.toUInt64 63)).toInt64
def zk_b1 (x : Int64) : Int64 := x - (zk_sr x (nI 1) &&& (6148914691236517205))
def zk_b2 (x : Int64) : Int64 := (x &&& (3689348814741910323)) + (zk_sr x (nI 2) &&& (3689348814741910323))
def zk_b3 (x : Int64) : Int64 := (x + zk_sr x (nI 4)) &&& (1085102592571150095)
def zk_b4 (n : Int32) (x : Int64) : Int64 := x + zk_sr x n
def zk_bc (u : Int64) : Int32 := (zk_b4 (nI 32) (zk_b4 (nI 16) (zk_b4 (nI 8) (zk_b3 (zk_b2 (zk_b1 u)))))).toInt32 &&& nI 127
theorem zk_srn (u : Int64) {s : Nat} (hs : s < 64) : (zk_sr u (nI s)).toBitVec.toNat = u.toBitVec.toNat / 2 ^ s := by
  have e : (zk_sr u (nI s)).toBitVec = u.toBitVec >>> s := by
    show u.toBitVec >>> (((nI s).toInt64.toUInt64 &&& Int64.toUInt64 63).toBitVec % 64#64) = _
    rw [BitVec.ushiftRight_eq', zb_amt s hs]
  rw [e, BitVec.toNat_ushiftRight, Nat.shiftRight_eq_div_pow]
theorem zk_addn (a b : Int64) (h : a.toBitVec.toNat + b.toBitVec.toNat < 2 ^ 64) : (a + b).toBitVec.toNat = a.toBitVec.toNat + b.toBitVec.toNat := by
  rw [Int64.toBitVec_add, BitVec.toNat_add, Nat.mod_eq_of_lt h]
theorem zk_andn (a b : Int64) : (a &&& b).toBitVec.toNat = a.toBitVec.toNat &&& b.toBitVec.toNat := by
  rw [Int64.toBitVec_and, BitVec.toNat_and]
theorem zk_b1n (u : Int64) : (zk_b1 u).toBitVec.toNat = zB1 (zB 85 8) u.toBitVec.toNat := by
  unfold zk_b1 zB1
  have e : (zk_sr u (nI 1) &&& (6148914691236517205)).toBitVec.toNat = u.toBitVec.toNat / 2 &&& zB 85 8 := by
    rw [zk_andn, zk_srn u (by decide)]
    rfl
  have h : (zk_sr u (nI 1) &&& (6148914691236517205)).toBitVec.toNat ≤ u.toBitVec.toNat := by
    rw [e]
    exact Nat.le_trans Nat.and_le_left (Nat.div_le_self _ _)
  rw [Int64.toBitVec_sub, BitVec.toNat_sub_of_le h, e]
theorem zk_b2n (u : Int64) : (zk_b2 u).toBitVec.toNat = zB2 (zB 51 8) u.toBitVec.toNat := by
  unfold zk_b2 zB2
  have e1 : (u &&& (3689348814741910323)).toBitVec.toNat = u.toBitVec.toNat &&& zB 51 8 := by
    rw [zk_andn]
    rfl
  have e2 : (zk_sr u (nI 2) &&& (3689348814741910323)).toBitVec.toNat = u.toBitVec.toNat / 4 &&& zB 51 8 := by
    rw [zk_andn, zk_srn u (by decide)]
    rfl
  have h1 : u.toBitVec.toNat &&& zB 51 8 ≤ zB 51 8 := Nat.and_le_right
  have h2 : u.toBitVec.toNat / 4 &&& zB 51 8 ≤ zB 51 8 := Nat.and_le_right
  have h3 : zB 51 8 = 3689348814741910323 := by decide +kernel
  rw [zk_addn _ _ (by rw [e1, e2]; omega), e1, e2]
theorem zk_b2l (u : Int64) : (zk_b2 u).toBitVec.toNat ≤ 7378697629483820646 := by
  rw [zk_b2n]
  unfold zB2
  have h1 : u.toBitVec.toNat &&& zB 51 8 ≤ zB 51 8 := Nat.and_le_right
  have h2 : u.toBitVec.toNat / 4 &&& zB 51 8 ≤ zB 51 8 := Nat.and_le_right
  have h3 : zB 51 8 = 3689348814741910323 := by decide +kernel
  omega
theorem zk_b3n (u : Int64) (h : u.toBitVec.toNat ≤ 7378697629483820646) : (zk_b3 u).toBitVec.toNat = zB3 (zB 15 8) u.toBitVec.toNat := by
  unfold zk_b3 zB3
  rw [zk_andn, zk_addn _ _ (by rw [zk_srn u (by decide)]; omega), zk_srn u (by decide)]
  rfl
theorem zB_cle (r : Nat) : zB3 15 (zB2 51 (zB1 85 (r % 256))) ≤ 8 := by
  rw [zB_b _ (Nat.mod_lt _ (by decide))]
  exact za_pc_le _ 8
theorem zB_byte (x m : Nat) : zB3 15 (zB2 51 (zB1 85 (x / 2 ^ m % 256))) = za_pc (fun i => Nat.testBit x (m + i)) 8 := by
  rw [zB_b _ (Nat.mod_lt _ (by decide)), zB_tb]
  exact za_pc_e (fun i _ => zB_td x m i)
theorem zk_bcn (u : Int64) : zk_bc u = nI (za_pc (zb u) 64) := by
  unfold zk_bc
  have hw : (zk_b3 (zk_b2 (zk_b1 u))).toBitVec.toNat = zBt 8 u.toBitVec.toNat := by
    rw [zk_b3n _ (zk_b2l _), zk_b2n, zk_b1n, zB_all]
  generalize zk_b3 (zk_b2 (zk_b1 u)) = v at hw
  have hx : u.toBitVec.toNat = u.toBitVec.toNat := rfl
  generalize hN : u.toBitVec.toNat = N at hw
  have hpc : za_pc (zb u) 64 = za_pc (Nat.testBit N) 64 := za_pc_e (fun i _ => by rw [← hN]; rfl)
  have hsum : za_pc (Nat.testBit N) 64 = zB3 15 (zB2 51 (zB1 85 (N / 2 ^ 0 % 256))) + zB3 15 (zB2 51 (zB1 85 (N / 2 ^ 8 % 256))) + zB3 15 (zB2 51 (zB1 85 (N / 2 ^ 16 % 256))) + zB3 15 (zB2 51 (zB1 85 (N / 2 ^ 24 % 256))) + zB3 15 (zB2 51 (zB1 85 (N / 2 ^ 32 % 256))) + zB3 15 (zB2 51 (zB1 85 (N / 2 ^ 40 % 256))) + zB3 15 (zB2 51 (zB1 85 (N / 2 ^ 48 % 256))) + zB3 15 (zB2 51 (zB1 85 (N / 2 ^ 56 % 256))) := by
    rw [zB_byte, zB_byte, zB_byte, zB_byte, zB_byte, zB_byte, zB_byte, zB_byte]
    rw [show (64 : Nat) = 56 + 8 from rfl, za_pc_add, show (56 : Nat) = 48 + 8 from rfl, za_pc_add _ 48, show (48 : Nat) = 40 + 8 from rfl, za_pc_add _ 40, show (40 : Nat) = 32 + 8 from rfl, za_pc_add _ 32, show (32 : Nat) = 24 + 8 from rfl, za_pc_add _ 24, show (24 : Nat) = 16 + 8 from rfl, za_pc_add _ 16, show (16 : Nat) = 8 + 8 from rfl, za_pc_add _ 8]
    refine congrArg (· + _) (congrArg (· + _) (congrArg (· + _) (congrArg (· + _) (congrArg (· + _) (congrArg (· + _) (congrArg (· + _) (za_pc_e (fun i _ => by rw [Nat.zero_add])))))))) 
  have hd : ∀ a b : Nat, N / 2 ^ a / 256 = N / 2 ^ (a + 8) := fun a _ => by rw [Nat.div_div_eq_div_mul, Nat.pow_add]
  have k : ∀ a n, zBt (n + 1) (N / 2 ^ a) = 256 * zBt n (N / 2 ^ (a + 8)) + zB3 15 (zB2 51 (zB1 85 (N / 2 ^ a % 256))) := fun a n => by
    rw [← hd a 0]
    rfl
  have h0 : zBt 8 N = 256 * zBt 7 (N / 2 ^ 8) + zB3 15 (zB2 51 (zB1 85 (N / 2 ^ 0 % 256))) := by
    have := k 0 7
    rw [show N / 2 ^ 0 = N by rw [Nat.pow_zero, Nat.div_one]] at this ⊢
    exact this
  have h7 : zBt 1 (N / 2 ^ 56) = zB3 15 (zB2 51 (zB1 85 (N / 2 ^ 56 % 256))) := by
    rw [k 56 0]
    show 256 * 0 + _ = _
    omega
  have S := zB_sum (zB_cle (N / 2 ^ 0)) (zB_cle (N / 2 ^ 8)) (zB_cle (N / 2 ^ 16)) (zB_cle (N / 2 ^ 24)) (zB_cle (N / 2 ^ 32)) (zB_cle (N / 2 ^ 40)) (zB_cle (N / 2 ^ 48)) (zB_cle (N / 2 ^ 56)) (by rw [k 48 1, h7]) (k 40 2) (k 32 3) (k 24 4) (k 16 5) (k 8 6) h0 rfl rfl rfl
  obtain ⟨S1, S2, S3, S4⟩ := S
  rw [← hw] at S1 S2 S3 S4
  rw [hpc, hsum, ← S4]
  have v1 : (zk_b4 (nI 8) v).toBitVec.toNat = v.toBitVec.toNat + v.toBitVec.toNat / 256 := by
    unfold zk_b4
    rw [zk_addn _ _ (by rw [zk_srn v (by decide)]; exact S2), zk_srn v (by decide)]
  generalize zk_b4 (nI 8) v = v1' at v1
  have v2 : (zk_b4 (nI 16) v1').toBitVec.toNat = v1'.toBitVec.toNat + v1'.toBitVec.toNat / 65536 := by
    unfold zk_b4
    rw [zk_addn _ _ (by rw [zk_srn v1' (by decide), v1]; exact S3), zk_srn v1' (by decide)]
  generalize zk_b4 (nI 16) v1' = v2' at v2
  have v3 : (zk_b4 (nI 32) v2').toBitVec.toNat = v2'.toBitVec.toNat + v2'.toBitVec.toNat / 4294967296 := by
    unfold zk_b4
    rw [zk_addn _ _ (by rw [zk_srn v2' (by decide), v2, v1]; exact S1), zk_srn v2' (by decide)]
  generalize zk_b4 (nI 32) v2' = v3' at v3
  rw [pk_and _ 7 (by decide), Int64.toBitVec_toInt32, BitVec.signExtend_eq_setWidth_of_le _ (by decide), BitVec.toNat_setWidth, Nat.mod_mod_of_dvd _ (by decide), v3, v2, v1]
end
section
/-! The class's total; Long.bitCount. -/
set_option maxHeartbeats 4000000 in
set_option maxRecDepth 100000 in
theorem ct_bitCount {V : zv_V} (E : zv_OK V) {w : zw_W} (u : Int64) : zg_C V zm_J13_bitCount_95d88 yJ13_bitCount_95d88 0 0 [.long u] w (zq_p (.inl (some (.int (zk_bc u)))) (· = w)) := by
  refine zg_of (by decide +kernel) rfl (Nat.le_of_ble_eq_true rfl) ?_
  show zg_G V zm_J13_bitCount_95d88 0 0 w.1 w.2.1 0 [] [(0, .long u)] w _
  refine zg_lload_n dJ13_bitCount_95d88_0 rfl ?_
  refine zg_lload_n dJ13_bitCount_95d88_1 rfl ?_
  refine zg_iconst (v := nI 1) dJ13_bitCount_95d88_2 (by decide) ?_
  refine zg_lushr dJ13_bitCount_95d88_3 ?_
  refine zg_ldc2 E (v := 6148914691236517205) dJ13_bitCount_95d88_4 (by decide +kernel) ?_
  refine zg_land dJ13_bitCount_95d88_7 ?_
  refine zg_lsub dJ13_bitCount_95d88_8 ?_
  refine zg_lstore_n (lv' := [(0, .long (u - (((u.toUInt64 >>> ((nI 1).toInt64.toUInt64 &&& Int64.toUInt64 63)).toInt64) &&& ((6148914691236517205)))))]) dJ13_bitCount_95d88_9 (by decide) rfl ?_
  refine zg_s (st' := []) (lv' := [(0, .long (zk_b1 u))]) (w' := w) rfl rfl rfl ?_
  refine zg_lload_n dJ13_bitCount_95d88_10 rfl ?_
  refine zg_ldc2 E (v := 3689348814741910323) dJ13_bitCount_95d88_11 (by decide +kernel) ?_
  refine zg_land dJ13_bitCount_95d88_14 ?_
  refine zg_lload_n dJ13_bitCount_95d88_15 rfl ?_
  refine zg_iconst (v := nI 2) dJ13_bitCount_95d88_16 (by decide) ?_
  refine zg_lushr dJ13_bitCount_95d88_17 ?_
  refine zg_ldc2 E (v := 3689348814741910323) dJ13_bitCount_95d88_18 (by decide +kernel) ?_
  refine zg_land dJ13_bitCount_95d88_21 ?_
  refine zg_ladd dJ13_bitCount_95d88_22 ?_
  refine zg_lstore_n (lv' := [(0, .long (((zk_b1 u) &&& ((3689348814741910323))) + ((((zk_b1 u).toUInt64 >>> ((nI 2).toInt64.toUInt64 &&& Int64.toUInt64 63)).toInt64) &&& ((3689348814741910323)))))]) dJ13_bitCount_95d88_23 (by decide) rfl ?_
  refine zg_s (st' := []) (lv' := [(0, .long (zk_b2 (zk_b1 u)))]) (w' := w) rfl rfl rfl ?_
  refine zg_lload_n dJ13_bitCount_95d88_24 rfl ?_
  refine zg_lload_n dJ13_bitCount_95d88_25 rfl ?_
  refine zg_iconst (v := nI 4) dJ13_bitCount_95d88_26 (by decide) ?_
  refine zg_lushr dJ13_bitCount_95d88_27 ?_
  refine zg_ladd dJ13_bitCount_95d88_28 ?_
  refine zg_ldc2 E (v := 1085102592571150095) dJ13_bitCount_95d88_29 (by decide +kernel) ?_
  refine zg_land dJ13_bitCount_95d88_32 ?_
  refine zg_lstore_n (lv' := [(0, .long (((zk_b2 (zk_b1 u)) + (((zk_b2 (zk_b1 u)).toUInt64 >>> ((nI 4).toInt64.toUInt64 &&& Int64.toUInt64 63)).toInt64)) &&& ((1085102592571150095))))]) dJ13_bitCount_95d88_33 (by decide) rfl ?_
  refine zg_s (st' := []) (lv' := [(0, .long (zk_b3 (zk_b2 (zk_b1 u))))]) (w' := w) rfl rfl rfl ?_
  refine zg_lload_n dJ13_bitCount_95d88_34 rfl ?_
  refine zg_lload_n dJ13_bitCount_95d88_35 rfl ?_
  refine zg_bipush (v := nI 8) dJ13_bitCount_95d88_36 (by decide) ?_
  refine zg_lushr dJ13_bitCount_95d88_38 ?_
  refine zg_ladd dJ13_bitCount_95d88_39 ?_
  refine zg_lstore_n (lv' := [(0, .long ((zk_b3 (zk_b2 (zk_b1 u))) + (((zk_b3 (zk_b2 (zk_b1 u))).toUInt64 >>> ((nI 8).toInt64.toUInt64 &&& Int64.toUInt64 63)).toInt64)))]) dJ13_bitCount_95d88_40 (by decide) rfl ?_
  refine zg_s (st' := []) (lv' := [(0, .long (zk_b4 (nI 8) (zk_b3 (zk_b2 (zk_b1 u)))))]) (w' := w) rfl rfl rfl ?_
  refine zg_lload_n dJ13_bitCount_95d88_41 rfl ?_
  refine zg_lload_n dJ13_bitCount_95d88_42 rfl ?_
  refine zg_bipush (v := nI 16) dJ13_bitCount_95d88_43 (by decide) ?_
  refine zg_lushr dJ13_bitCount_95d88_45 ?_
  refine zg_ladd dJ13_bitCount_95d88_46 ?_
  refine zg_lstore_n (lv' := [(0, .long ((zk_b4 (nI 8) (zk_b3 (zk_b2 (zk_b1 u)))) + (((zk_b4 (nI 8) (zk_b3 (zk_b2 (zk_b1 u)))).toUInt64 >>> ((nI 16).toInt64.toUInt64 &&& Int64.toUInt64 63)).toInt64)))]) dJ13_bitCount_95d88_47 (by decide) rfl ?_
  refine zg_s (st' := []) (lv' := [(0, .long (zk_b4 (nI 16) (zk_b4 (nI 8) (zk_b3 (zk_b2 (zk_b1 u))))))]) (w' := w) rfl rfl rfl ?_
  refine zg_lload_n dJ13_bitCount_95d88_48 rfl ?_
  refine zg_lload_n dJ13_bitCount_95d88_49 rfl ?_
  refine zg_bipush (v := nI 32) dJ13_bitCount_95d88_50 (by decide) ?_
  refine zg_lushr dJ13_bitCount_95d88_52 ?_
  refine zg_ladd dJ13_bitCount_95d88_53 ?_
  refine zg_lstore_n (lv' := [(0, .long ((zk_b4 (nI 16) (zk_b4 (nI 8) (zk_b3 (zk_b2 (zk_b1 u))))) + (((zk_b4 (nI 16) (zk_b4 (nI 8) (zk_b3 (zk_b2 (zk_b1 u))))).toUInt64 >>> ((nI 32).toInt64.toUInt64 &&& Int64.toUInt64 63)).toInt64)))]) dJ13_bitCount_95d88_54 (by decide) rfl ?_
  refine zg_s (st' := []) (lv' := [(0, .long (zk_b4 (nI 32) (zk_b4 (nI 16) (zk_b4 (nI 8) (zk_b3 (zk_b2 (zk_b1 u)))))))]) (w' := w) rfl rfl rfl ?_
  refine zg_lload_n dJ13_bitCount_95d88_55 rfl ?_
  refine zg_l2i dJ13_bitCount_95d88_56 ?_
  refine zg_bipush (v := nI 127) dJ13_bitCount_95d88_57 (by decide) ?_
  refine zg_iand dJ13_bitCount_95d88_59 ?_
  exact zg_iret rfl dJ13_bitCount_95d88_60 ⟨rfl, rfl⟩
theorem zk_free {I : Nat → Nat → Int32} {L S : za_T} {C : za_C} (hL : zr_T 131 132 I L) (hS : zr_T 133 134 I S) (hC : zr_C I C) (wL : za_WT L) (wS : za_WT S) (wC : za_WC C) {f : Nat → Bool} (hf : ∀ s, s < 48 → (f s = true ↔ ¬ za_us L S C.1 s)) : zk_bc (zk_fs I) = nI (za_pc f 48) := by
  rw [zk_bcn, show (64 : Nat) = 48 + 16 from rfl, za_pc_add]
  refine congrArg nI ?_
  rw [za_pc_e (f := zb (zk_fs I)) (g := f) (fun s hs => zb_iff ((zk_fs_b hL hS hC wL wS wC hs).trans (hf s hs).symm)), za_pc_e (f := fun i => zb (zk_fs I) (48 + i)) (g := fun _ => false) (n := 16) (fun s hs => ?_)]
  · rfl
  · unfold zk_fs
    rw [zb_and, zb_all (48 + s) (by omega), show decide (48 + s < 48) = false by simp, Bool.and_false]
set_option maxHeartbeats 4000000 in
set_option maxRecDepth 100000 in
theorem kt_mt1y {V : zv_V} (E : zv_OK V) {w : zw_W} (HX : zl_X w) {D : Nat → Nat → Nat} {H : za_H} {b : Bool} {L S : za_T} {C : za_C} (hX : zr_X (zw_i w) D H b L S C) (h0 : 0 < za_n C.1 16) : zg_C V zm_X3_mountedTotal yX3_mountedTotal 3 100 [.ref 1, .int (nI 1)] w (zq_p (.inl (some (.int (nI (za_n C.1 16))))) (· = w)) := by
  refine zg_of (by decide +kernel) rfl (Nat.le_of_ble_eq_true rfl) ?_
  show zg_G V zm_X3_mountedTotal 3 100 w.1 w.2.1 0 [] [(0, .ref 1), (1, .int (nI 1))] w _
  refine zg_iload_n dX3_mountedTotal_0 rfl ?_
  refine zg_tabIn (off := 35) (tgt := 36) dX3_mountedTotal_1 (by decide) (by decide) (by decide) (by decide) ?_
  refine zg_aload_n dX3_mountedTotal_36 rfl ?_
  refine zg_getR E (ci := 3) (j := 4) (r := 135) dX3_mountedTotal_37 rfl (congrArg Prod.fst (zl_at HX (k := 1) (t := (3, 7)) rfl (by decide) (by decide))) (by decide) (zl_lt HX (by decide)) (by decide) fl_X3_34 rfl (zl_rf HX rfl (by decide) (by decide)) ?_
  refine zg_vrt (M := zm_X3_mountedTotal) E (ci := 0) dX3_mountedTotal_40 (ct_isOpen_y E HX (zk_yes hX.2.2.2.2.2 h0)) wd_X3_163 rfl (congrArg Prod.fst (zl_at HX (k := 135) (t := (0, 4)) rfl (by decide) (by decide))) (by decide) (zl_lt HX (by decide)) rfl dh_X0_isOpen dn_X0_isOpen (Nat.le_of_ble_eq_true rfl) (Nat.le_of_ble_eq_true rfl) (Nat.le_of_ble_eq_true rfl) (zl_cap HX) rfl (fun w40 g40 => ?_)
  subst w40
  refine zg_if_eq (tgt := 56) dX3_mountedTotal_43 (by decide) (fun h43 => ?_) (fun h43 => ?_)
  · exact absurd h43 (by decide)
  · refine zg_aload_n dX3_mountedTotal_46 rfl ?_
    refine zg_getR E (ci := 3) (j := 4) (r := 135) dX3_mountedTotal_47 rfl (congrArg Prod.fst (zl_at HX (k := 1) (t := (3, 7)) rfl (by decide) (by decide))) (by decide) (zl_lt HX (by decide)) (by decide) fl_X3_34 rfl (zl_rf HX rfl (by decide) (by decide)) ?_
    refine zg_getI E (ci := 0) (j := 3) dX3_mountedTotal_50 rfl (congrArg Prod.fst (zl_at HX (k := 135) (t := (0, 4)) rfl (by decide) (by decide))) (by decide) (zl_lt HX (by decide)) (by decide) fl_X3_64 rfl ?_
    refine zg_v (x' := nI (za_n C.1 16)) hX.2.2.2.2.2.2.1 ?_
    refine zg_goto (tgt := 57) dX3_mountedTotal_53 (by decide) ?_
    exact zg_iret rfl dX3_mountedTotal_57 ⟨rfl, rfl⟩
set_option maxHeartbeats 4000000 in
set_option maxRecDepth 100000 in
theorem kt_mt1n {V : zv_V} (E : zv_OK V) {w : zw_W} (HX : zl_X w) {D : Nat → Nat → Nat} {H : za_H} {b : Bool} {L S : za_T} {C : za_C} (hX : zr_X (zw_i w) D H b L S C) (h0 : za_n C.1 16 = 0) : zg_C V zm_X3_mountedTotal yX3_mountedTotal 3 100 [.ref 1, .int (nI 1)] w (zq_p (.inl (some (.int ((-1))))) (· = w)) := by
  refine zg_of (by decide +kernel) rfl (Nat.le_of_ble_eq_true rfl) ?_
  show zg_G V zm_X3_mountedTotal 3 100 w.1 w.2.1 0 [] [(0, .ref 1), (1, .int (nI 1))] w _
  refine zg_iload_n dX3_mountedTotal_0 rfl ?_
  refine zg_tabIn (off := 35) (tgt := 36) dX3_mountedTotal_1 (by decide) (by decide) (by decide) (by decide) ?_
  refine zg_aload_n dX3_mountedTotal_36 rfl ?_
  refine zg_getR E (ci := 3) (j := 4) (r := 135) dX3_mountedTotal_37 rfl (congrArg Prod.fst (zl_at HX (k := 1) (t := (3, 7)) rfl (by decide) (by decide))) (by decide) (zl_lt HX (by decide)) (by decide) fl_X3_34 rfl (zl_rf HX rfl (by decide) (by decide)) ?_
  refine zg_vrt (M := zm_X3_mountedTotal) E (ci := 0) dX3_mountedTotal_40 (ct_isOpen_n E HX (zk_no hX.2.2.2.2.2 h0)) wd_X3_163 rfl (congrArg Prod.fst (zl_at HX (k := 135) (t := (0, 4)) rfl (by decide) (by decide))) (by decide) (zl_lt HX (by decide)) rfl dh_X0_isOpen dn_X0_isOpen (Nat.le_of_ble_eq_true rfl) (Nat.le_of_ble_eq_true rfl) (Nat.le_of_ble_eq_true rfl) (zl_cap HX) rfl (fun w40 g40 => ?_)
  subst w40
  refine zg_if_eq (tgt := 56) dX3_mountedTotal_43 (by decide) (fun h43 => ?_) (fun h43 => ?_)
  · refine zg_iconst (v := (-1)) dX3_mountedTotal_56 (by decide) ?_
    exact zg_iret rfl dX3_mountedTotal_57 ⟨rfl, rfl⟩
  · exact absurd rfl h43
set_option maxHeartbeats 4000000 in
set_option maxRecDepth 100000 in
theorem kt_mt2 {V : zv_V} (E : zv_OK V) {w : zw_W} (HX : zl_X w) {D : Nat → Nat → Nat} {H : za_H} {b : Bool} {L S : za_T} {C : za_C} (hX : zr_X (zw_i w) D H b L S C) (wL : za_WT L) (wS : za_WT S) (wC : za_WC C) {f : Nat → Bool} (hf : ∀ s, s < 48 → (f s = true ↔ ¬ za_us L S C.1 s)) : zg_C V zm_X3_mountedTotal yX3_mountedTotal 3 100 [.ref 1, .int (nI 2)] w (zq_p (.inl (some (.int (nI (za_pc f 48))))) (· = w)) := by
  refine zg_of (by decide +kernel) rfl (Nat.le_of_ble_eq_true rfl) ?_
  show zg_G V zm_X3_mountedTotal 3 100 w.1 w.2.1 0 [] [(0, .ref 1), (1, .int (nI 2))] w _
  refine zg_iload_n dX3_mountedTotal_0 rfl ?_
  refine zg_tabIn (off := 57) (tgt := 58) dX3_mountedTotal_1 (by decide) (by decide) (by decide) (by decide) ?_
  refine zg_aload_n dX3_mountedTotal_58 rfl ?_
  refine zg_vrt (M := zm_X3_mountedTotal) E (ci := 3) dX3_mountedTotal_59 (ct_freeSet E HX) wd_X3_144 rfl (congrArg Prod.fst (zl_at HX (k := 1) (t := (3, 7)) rfl (by decide) (by decide))) (by decide) (zl_lt HX (by decide)) rfl dh_X3_freeSet dn_X3_freeSet (Nat.le_of_ble_eq_true rfl) (Nat.le_of_ble_eq_true rfl) (Nat.le_of_ble_eq_true rfl) (zl_cap HX) rfl (fun w59 g59 => ?_)
  subst w59
  refine zg_sret (M := zm_X3_mountedTotal) E dX3_mountedTotal_62 (ct_bitCount E (zk_fs (zw_i w))) wd_X3_167 dh_J13_bitCount_95d88 dn_J13_bitCount_95d88 (Nat.le_of_ble_eq_true rfl) (Nat.le_of_ble_eq_true rfl) (Nat.le_of_ble_eq_true rfl) (zl_cap HX) rfl (fun w62 g62 => ?_)
  subst w62
  refine zg_v (x' := nI (za_pc f 48)) (zk_free hX.2.2.2.1 hX.2.2.2.2.1 hX.2.2.2.2.2 wL wS wC hf) ?_
  exact zg_iret rfl dX3_mountedTotal_65 ⟨rfl, rfl⟩
set_option maxHeartbeats 4000000 in
set_option maxRecDepth 100000 in
theorem kt_mt3 {V : zv_V} (E : zv_OK V) {w : zw_W} (HX : zl_X w) {D : Nat → Nat → Nat} {H : za_H} {b : Bool} {L S : za_T} {C : za_C} (hX : zr_X (zw_i w) D H b L S C)  : zg_C V zm_X3_mountedTotal yX3_mountedTotal 3 100 [.ref 1, .int (nI 3)] w (zq_p (.inl (some (.int (L.2.2)))) (· = w)) := by
  refine zg_of (by decide +kernel) rfl (Nat.le_of_ble_eq_true rfl) ?_
  show zg_G V zm_X3_mountedTotal 3 100 w.1 w.2.1 0 [] [(0, .ref 1), (1, .int (nI 3))] w _
  refine zg_iload_n dX3_mountedTotal_0 rfl ?_
  refine zg_tabIn (off := 65) (tgt := 66) dX3_mountedTotal_1 (by decide) (by decide) (by decide) (by decide) ?_
  refine zg_aload_n dX3_mountedTotal_66 rfl ?_
  refine zg_getR E (ci := 3) (j := 2) (r := 131) dX3_mountedTotal_67 rfl (congrArg Prod.fst (zl_at HX (k := 1) (t := (3, 7)) rfl (by decide) (by decide))) (by decide) (zl_lt HX (by decide)) (by decide) fl_X3_24 rfl (zl_rf HX rfl (by decide) (by decide)) ?_
  refine zg_getI E (ci := 2) (j := 2) dX3_mountedTotal_70 rfl (congrArg Prod.fst (zl_at HX (k := 131) (t := (2, 3)) rfl (by decide) (by decide))) (by decide) (zl_lt HX (by decide)) (by decide) fl_X3_118 rfl ?_
  refine zg_v (x' := L.2.2) hX.2.2.2.1.2.2 ?_
  exact zg_iret rfl dX3_mountedTotal_73 ⟨rfl, rfl⟩
set_option maxHeartbeats 4000000 in
set_option maxRecDepth 100000 in
theorem kt_mt4 {V : zv_V} (E : zv_OK V) {w : zw_W} (HX : zl_X w) {D : Nat → Nat → Nat} {H : za_H} {b : Bool} {L S : za_T} {C : za_C} (hX : zr_X (zw_i w) D H b L S C)  : zg_C V zm_X3_mountedTotal yX3_mountedTotal 3 100 [.ref 1, .int (nI 4)] w (zq_p (.inl (some (.int (nI L.2.1)))) (· = w)) := by
  refine zg_of (by decide +kernel) rfl (Nat.le_of_ble_eq_true rfl) ?_
  show zg_G V zm_X3_mountedTotal 3 100 w.1 w.2.1 0 [] [(0, .ref 1), (1, .int (nI 4))] w _
  refine zg_iload_n dX3_mountedTotal_0 rfl ?_
  refine zg_tabIn (off := 73) (tgt := 74) dX3_mountedTotal_1 (by decide) (by decide) (by decide) (by decide) ?_
  refine zg_aload_n dX3_mountedTotal_74 rfl ?_
  refine zg_getR E (ci := 3) (j := 2) (r := 131) dX3_mountedTotal_75 rfl (congrArg Prod.fst (zl_at HX (k := 1) (t := (3, 7)) rfl (by decide) (by decide))) (by decide) (zl_lt HX (by decide)) (by decide) fl_X3_24 rfl (zl_rf HX rfl (by decide) (by decide)) ?_
  refine zg_getI E (ci := 2) (j := 1) dX3_mountedTotal_78 rfl (congrArg Prod.fst (zl_at HX (k := 131) (t := (2, 3)) rfl (by decide) (by decide))) (by decide) (zl_lt HX (by decide)) (by decide) fl_X3_173 rfl ?_
  refine zg_v (x' := nI L.2.1) hX.2.2.2.1.2.1 ?_
  exact zg_iret rfl dX3_mountedTotal_81 ⟨rfl, rfl⟩
set_option maxHeartbeats 4000000 in
set_option maxRecDepth 100000 in
theorem kt_mt5 {V : zv_V} (E : zv_OK V) {w : zw_W} (HX : zl_X w) {D : Nat → Nat → Nat} {H : za_H} {b : Bool} {L S : za_T} {C : za_C} (hX : zr_X (zw_i w) D H b L S C)  : zg_C V zm_X3_mountedTotal yX3_mountedTotal 3 100 [.ref 1, .int (nI 5)] w (zq_p (.inl (some (.int (S.2.2)))) (· = w)) := by
  refine zg_of (by decide +kernel) rfl (Nat.le_of_ble_eq_true rfl) ?_
  show zg_G V zm_X3_mountedTotal 3 100 w.1 w.2.1 0 [] [(0, .ref 1), (1, .int (nI 5))] w _
  refine zg_iload_n dX3_mountedTotal_0 rfl ?_
  refine zg_tabIn (off := 81) (tgt := 82) dX3_mountedTotal_1 (by decide) (by decide) (by decide) (by decide) ?_
  refine zg_aload_n dX3_mountedTotal_82 rfl ?_
  refine zg_getR E (ci := 3) (j := 3) (r := 133) dX3_mountedTotal_83 rfl (congrArg Prod.fst (zl_at HX (k := 1) (t := (3, 7)) rfl (by decide) (by decide))) (by decide) (zl_lt HX (by decide)) (by decide) fl_X3_28 rfl (zl_rf HX rfl (by decide) (by decide)) ?_
  refine zg_getI E (ci := 2) (j := 2) dX3_mountedTotal_86 rfl (congrArg Prod.fst (zl_at HX (k := 133) (t := (2, 3)) rfl (by decide) (by decide))) (by decide) (zl_lt HX (by decide)) (by decide) fl_X3_118 rfl ?_
  refine zg_v (x' := S.2.2) hX.2.2.2.2.1.2.2 ?_
  exact zg_iret rfl dX3_mountedTotal_89 ⟨rfl, rfl⟩
set_option maxHeartbeats 4000000 in
set_option maxRecDepth 100000 in
theorem kt_mt6 {V : zv_V} (E : zv_OK V) {w : zw_W} (HX : zl_X w) {D : Nat → Nat → Nat} {H : za_H} {b : Bool} {L S : za_T} {C : za_C} (hX : zr_X (zw_i w) D H b L S C)  : zg_C V zm_X3_mountedTotal yX3_mountedTotal 3 100 [.ref 1, .int (nI 6)] w (zq_p (.inl (some (.int (nI S.2.1)))) (· = w)) := by
  refine zg_of (by decide +kernel) rfl (Nat.le_of_ble_eq_true rfl) ?_
  show zg_G V zm_X3_mountedTotal 3 100 w.1 w.2.1 0 [] [(0, .ref 1), (1, .int (nI 6))] w _
  refine zg_iload_n dX3_mountedTotal_0 rfl ?_
  refine zg_tabOut (tgt := 90) dX3_mountedTotal_1 (by decide) (by decide) ?_
  refine zg_aload_n dX3_mountedTotal_90 rfl ?_
  refine zg_getR E (ci := 3) (j := 3) (r := 133) dX3_mountedTotal_91 rfl (congrArg Prod.fst (zl_at HX (k := 1) (t := (3, 7)) rfl (by decide) (by decide))) (by decide) (zl_lt HX (by decide)) (by decide) fl_X3_28 rfl (zl_rf HX rfl (by decide) (by decide)) ?_
  refine zg_getI E (ci := 2) (j := 1) dX3_mountedTotal_94 rfl (congrArg Prod.fst (zl_at HX (k := 133) (t := (2, 3)) rfl (by decide) (by decide))) (by decide) (zl_lt HX (by decide)) (by decide) fl_X3_173 rfl ?_
  refine zg_v (x' := nI S.2.1) hX.2.2.2.2.1.2.1 ?_
  exact zg_iret rfl dX3_mountedTotal_97 ⟨rfl, rfl⟩
set_option maxHeartbeats 4000000 in
set_option maxRecDepth 100000 in
theorem pt_1 {V : zv_V} (E : zv_OK V) {w : zw_W} (HX : zl_X w) {D : Nat → Nat → Nat} {H : za_H} {b : Bool} {L S : za_T} {C : za_C} (hX : zr_X (zw_i w) D H b L S C) (hH : za_WH H) {x : Int32} (hx : ∀ n, n < 8 → x ≠ nI n) : zg_C V zm_X3_total yX3_total 8 190 [.ref 1, .int x] w (zq_p (.inr 20) (zr_pub w D H b L S C)) := by
  refine zg_of (by decide +kernel) rfl (Nat.le_of_ble_eq_true rfl) ?_
  show zg_G V zm_X3_total 8 190 w.1 w.2.1 0 [] [(0, .ref 1), (1, .int x)] w _
  refine zg_iload_n dX3_total_0 rfl ?_
  refine zg_if_lt (tgt := 10) dX3_total_1 (by decide) (fun h1 => ?_) (fun h1 => ?_)
  · exact zg_throw (M := zm_X3_total) E 20 (text := "no such total") (by decide) rfl rfl dX3_total_10 dX3_total_13 dX3_total_14 dX3_total_16 dX3_total_19 (by decide +kernel) (by decide +kernel) (by decide +kernel) tw_20_83 (zt_cap HX).1 (zt_cap HX).2.1 (zt_cap HX).2.2 (Nat.le_of_ble_eq_true rfl) (Nat.le_of_ble_eq_true rfl) ⟨rfl, zp_nw HX hX hH⟩
  · refine zg_iload_n dX3_total_4 rfl ?_
    refine zg_bipush (v := nI 7) dX3_total_5 (by decide) ?_
    refine zg_icmp_le (tgt := 20) dX3_total_7 (by decide) (fun h7 => ?_) (fun h7 => ?_)
    · exact absurd (zn_no (n := 8) hx h1 (Int32.lt_of_le_of_lt h7 (by decide))) not_false
    · exact zg_throw (M := zm_X3_total) E 20 (text := "no such total") (by decide) rfl rfl dX3_total_10 dX3_total_13 dX3_total_14 dX3_total_16 dX3_total_19 (by decide +kernel) (by decide +kernel) (by decide +kernel) tw_20_83 (zt_cap HX).1 (zt_cap HX).2.1 (zt_cap HX).2.2 (Nat.le_of_ble_eq_true rfl) (Nat.le_of_ble_eq_true rfl) ⟨rfl, zp_nw HX hX hH⟩
set_option maxHeartbeats 4000000 in
set_option maxRecDepth 100000 in
theorem pt_2 {V : zv_V} (E : zv_OK V) {w : zw_W} (HX : zl_X w) {D : Nat → Nat → Nat} {H : za_H} {b : Bool} {L S : za_T} {C : za_C} (hX : zr_X (zw_i w) D H b L S C) (hH : za_WH H)  : zg_C V zm_X3_total yX3_total 8 190 [.ref 1, .int (nI 0)] w (zq_p (.inl (some (.int (nI H.1)))) (zr_pub w D H b L S C)) := by
  refine zg_of (by decide +kernel) rfl (Nat.le_of_ble_eq_true rfl) ?_
  show zg_G V zm_X3_total 8 190 w.1 w.2.1 0 [] [(0, .ref 1), (1, .int (nI 0))] w _
  refine zg_iload_n dX3_total_0 rfl ?_
  refine zg_if_lt (tgt := 10) dX3_total_1 (by decide) (fun h1 => ?_) (fun h1 => ?_)
  · exact absurd h1 (by decide)
  · refine zg_iload_n dX3_total_4 rfl ?_
    refine zg_bipush (v := nI 7) dX3_total_5 (by decide) ?_
    refine zg_icmp_le (tgt := 20) dX3_total_7 (by decide) (fun h7 => ?_) (fun h7 => ?_)
    · refine zg_iload_n dX3_total_20 rfl ?_
      refine zg_if_ne (tgt := 32) dX3_total_21 (by decide) (fun h21 => ?_) (fun h21 => ?_)
      · exact absurd rfl h21
      · refine zg_aload_n dX3_total_24 rfl ?_
        refine zg_getR E (ci := 3) (j := 1) (r := 51) dX3_total_25 rfl (congrArg Prod.fst (zl_at HX (k := 1) (t := (3, 7)) rfl (by decide) (by decide))) (by decide) (zl_lt HX (by decide)) (by decide) fl_X3_17 rfl (zl_rf HX rfl (by decide) (by decide)) ?_
        refine zg_getI E (ci := 1) (j := 2) dX3_total_28 rfl (congrArg Prod.fst (zl_at HX (k := 51) (t := (1, 3)) rfl (by decide) (by decide))) (by decide) (zl_lt HX (by decide)) (by decide) fl_X3_86 rfl ?_
        refine zg_v (x' := nI H.1) hX.2.1.1 ?_
        exact zg_iret rfl dX3_total_31 ⟨rfl, zp_same hX⟩
    · exact absurd (by decide) h7
set_option maxHeartbeats 4000000 in
set_option maxRecDepth 100000 in
theorem pt_3 {V : zv_V} (E : zv_OK V) {w : zw_W} (HX : zl_X w) {D : Nat → Nat → Nat} {H : za_H} {b : Bool} {L S : za_T} {C : za_C} (hX : zr_X (zw_i w) D H b L S C) (hH : za_WH H)  : zg_C V zm_X3_total yX3_total 8 190 [.ref 1, .int (nI 7)] w (zq_p (.inl (some (.int (za_bit b)))) (zr_pub w D H b L S C)) := by
  refine zg_of (by decide +kernel) rfl (Nat.le_of_ble_eq_true rfl) ?_
  show zg_G V zm_X3_total 8 190 w.1 w.2.1 0 [] [(0, .ref 1), (1, .int (nI 7))] w _
  refine zg_iload_n dX3_total_0 rfl ?_
  refine zg_if_lt (tgt := 10) dX3_total_1 (by decide) (fun h1 => ?_) (fun h1 => ?_)
  · exact absurd h1 (by decide)
  · refine zg_iload_n dX3_total_4 rfl ?_
    refine zg_bipush (v := nI 7) dX3_total_5 (by decide) ?_
    refine zg_icmp_le (tgt := 20) dX3_total_7 (by decide) (fun h7 => ?_) (fun h7 => ?_)
    · refine zg_iload_n dX3_total_20 rfl ?_
      refine zg_if_ne (tgt := 32) dX3_total_21 (by decide) (fun h21 => ?_) (fun h21 => ?_)
      · refine zg_iload_n dX3_total_32 rfl ?_
        refine zg_bipush (v := nI 7) dX3_total_33 (by decide) ?_
        refine zg_icmp_ne (tgt := 51) dX3_total_35 (by decide) (fun h35 => ?_) (fun h35 => ?_)
        · exact absurd rfl h35
        · refine zg_aload_n dX3_total_38 rfl ?_
          refine zg_getI E (ci := 3) (j := 6) dX3_total_39 rfl (congrArg Prod.fst (zl_at HX (k := 1) (t := (3, 7)) rfl (by decide) (by decide))) (by decide) (zl_lt HX (by decide)) (by decide) fl_X3_131 rfl ?_
          refine zg_v (x' := za_bit b) hX.2.2.1 ?_
          refine zg_if_eq (tgt := 49) dX3_total_42 (by decide) (fun h42 => ?_) (fun h42 => ?_)
          · have e := za_bit0 h42
            refine zg_iconst (v := nI 0) dX3_total_49 (by decide) ?_
            exact zg_iret rfl dX3_total_50 ⟨by rw [e]; rfl, zp_same hX⟩
          · have e := za_bit1 h42
            refine zg_iconst (v := nI 1) dX3_total_45 (by decide) ?_
            refine zg_goto (tgt := 50) dX3_total_46 (by decide) ?_
            exact zg_iret rfl dX3_total_50 ⟨by rw [e]; rfl, zp_same hX⟩
      · exact absurd h21 (by decide)
    · exact absurd (by decide) h7
set_option maxHeartbeats 4000000 in
set_option maxRecDepth 100000 in
theorem pt_4 {V : zv_V} (E : zv_OK V) {w : zw_W} (HX : zl_X w) {D : Nat → Nat → Nat} {H : za_H} {b : Bool} {L S : za_T} {C : za_C} (hX : zr_X (zw_i w) D H b L S C) (hH : za_WH H) {k : Nat} (h1 : 1 ≤ k) (h6 : k ≤ 6) (hb : b = true)  : zg_C V zm_X3_total yX3_total 8 190 [.ref 1, .int (nI k)] w (zq_p (.inl (some (.int (-1)))) (zr_pub w D H b L S C)) := by
  refine zg_of (by decide +kernel) rfl (Nat.le_of_ble_eq_true rfl) ?_
  show zg_G V zm_X3_total 8 190 w.1 w.2.1 0 [] [(0, .ref 1), (1, .int (nI k))] w _
  refine zg_iload_n dX3_total_0 rfl ?_
  refine zg_if_lt (tgt := 10) dX3_total_1 (by decide) (fun h1x => ?_) (fun h1x => ?_)
  · exact absurd h1x (nI_pos (by omega))
  · refine zg_iload_n dX3_total_4 rfl ?_
    refine zg_bipush (v := nI 7) dX3_total_5 (by decide) ?_
    refine zg_icmp_le (tgt := 20) dX3_total_7 (by decide) (fun h7 => ?_) (fun h7 => ?_)
    · refine zg_iload_n dX3_total_20 rfl ?_
      refine zg_if_ne (tgt := 32) dX3_total_21 (by decide) (fun h21 => ?_) (fun h21 => ?_)
      · refine zg_iload_n dX3_total_32 rfl ?_
        refine zg_bipush (v := nI 7) dX3_total_33 (by decide) ?_
        refine zg_icmp_ne (tgt := 51) dX3_total_35 (by decide) (fun h35 => ?_) (fun h35 => ?_)
        · refine zg_aload_n dX3_total_51 rfl ?_
          refine zg_getI E (ci := 3) (j := 6) dX3_total_52 rfl (congrArg Prod.fst (zl_at HX (k := 1) (t := (3, 7)) rfl (by decide) (by decide))) (by decide) (zl_lt HX (by decide)) (by decide) fl_X3_131 rfl ?_
          refine zg_v (x' := za_bit b) hX.2.2.1 ?_
          refine zg_if_eq (tgt := 62) dX3_total_55 (by decide) (fun h55 => ?_) (fun h55 => ?_)
          · exact absurd h55 (by rw [hb]; decide)
          · refine zg_iconst (v := (-1)) dX3_total_58 (by decide) ?_
            refine zg_goto (tgt := 67) dX3_total_59 (by decide) ?_
            exact zg_iret rfl dX3_total_67 ⟨rfl, zp_same hX⟩
        · exact absurd h35 (fun z => absurd ((nI_eq (by omega) (by decide)).mp z) (by omega))
      · exact absurd h21 (nI_ne0 (by omega) (by omega))
    · exact absurd (nI_le (by omega) (by decide) : nI k ≤ nI 7) h7
set_option maxHeartbeats 4000000 in
set_option maxRecDepth 100000 in
theorem pt_5 {V : zv_V} (E : zv_OK V) {w : zw_W} (HX : zl_X w) {D : Nat → Nat → Nat} {H : za_H} {b : Bool} {L S : za_T} {C : za_C} (hX : zr_X (zw_i w) D H b L S C) (hH : za_WH H) {k : Nat} (h1 : 1 ≤ k) (h6 : k ≤ 6) (hb : b = false) {v : Int32} (hc : zg_C V zm_X3_mountedTotal yX3_mountedTotal 3 100 [.ref 1, .int (nI k)] w (zq_p (.inl (some (.int v))) (· = w))) : zg_C V zm_X3_total yX3_total 8 190 [.ref 1, .int (nI k)] w (zq_p (.inl (some (.int v))) (zr_pub w D H b L S C)) := by
  refine zg_of (by decide +kernel) rfl (Nat.le_of_ble_eq_true rfl) ?_
  show zg_G V zm_X3_total 8 190 w.1 w.2.1 0 [] [(0, .ref 1), (1, .int (nI k))] w _
  refine zg_iload_n dX3_total_0 rfl ?_
  refine zg_if_lt (tgt := 10) dX3_total_1 (by decide) (fun h1x => ?_) (fun h1x => ?_)
  · exact absurd h1x (nI_pos (by omega))
  · refine zg_iload_n dX3_total_4 rfl ?_
    refine zg_bipush (v := nI 7) dX3_total_5 (by decide) ?_
    refine zg_icmp_le (tgt := 20) dX3_total_7 (by decide) (fun h7 => ?_) (fun h7 => ?_)
    · refine zg_iload_n dX3_total_20 rfl ?_
      refine zg_if_ne (tgt := 32) dX3_total_21 (by decide) (fun h21 => ?_) (fun h21 => ?_)
      · refine zg_iload_n dX3_total_32 rfl ?_
        refine zg_bipush (v := nI 7) dX3_total_33 (by decide) ?_
        refine zg_icmp_ne (tgt := 51) dX3_total_35 (by decide) (fun h35 => ?_) (fun h35 => ?_)
        · refine zg_aload_n dX3_total_51 rfl ?_
          refine zg_getI E (ci := 3) (j := 6) dX3_total_52 rfl (congrArg Prod.fst (zl_at HX (k := 1) (t := (3, 7)) rfl (by decide) (by decide))) (by decide) (zl_lt HX (by decide)) (by decide) fl_X3_131 rfl ?_
          refine zg_v (x' := za_bit b) hX.2.2.1 ?_
          refine zg_if_eq (tgt := 62) dX3_total_55 (by decide) (fun h55 => ?_) (fun h55 => ?_)
          · refine zg_aload_n dX3_total_62 rfl ?_
            refine zg_iload_n dX3_total_63 rfl ?_
            refine zg_vrt (M := zm_X3_total) E (ci := 3) dX3_total_64 hc wd_X3_160 rfl (congrArg Prod.fst (zl_at HX (k := 1) (t := (3, 7)) rfl (by decide) (by decide))) (by decide) (zl_lt HX (by decide)) rfl dh_X3_mountedTotal dn_X3_mountedTotal (Nat.le_of_ble_eq_true rfl) (Nat.le_of_ble_eq_true rfl) (Nat.le_of_ble_eq_true rfl) (zl_cap HX) rfl (fun w64 g64 => ?_)
            subst w64
            exact zg_iret rfl dX3_total_67 ⟨rfl, zp_same hX⟩
          · exact absurd (by rw [hb]; rfl) h55
        · exact absurd h35 (fun z => absurd ((nI_eq (by omega) (by decide)).mp z) (by omega))
      · exact absurd h21 (nI_ne0 (by omega) (by omega))
    · exact absurd (nI_le (by omega) (by decide) : nI k ≤ nI 7) h7
end
section
/-! The reference: what its cells hold; its small methods. -/
def zu_D (I : Nat → Nat → Int32) (D : Nat → Nat → Nat) : Prop := ∀ s, s < 48 → ∀ i, i < 16 → I 157 (16 * s + i) = nI (D s i)
def zu_H (I : Nat → Nat → Int32) (H : za_H) : Prop := I 156 14 = nI H.1 ∧ (∀ k, k < H.1 → I 163 k = nI (H.2.1 k)) ∧ ∀ k, k < H.1 → ∀ i, i < 16 → I 164 (16 * k + i) = nI (H.2.2 k i)
def zu_L (I : Nat → Nat → Int32) (L : za_T) : Prop := (∀ p, p < 16 → I 158 p = nI (L.1 p)) ∧ I 156 3 = nI L.2.1 ∧ I 156 5 = L.2.2
def zu_S (I : Nat → Nat → Int32) (L : za_T) : Prop := (∀ p, p < 16 → I 159 p = nI (L.1 p)) ∧ I 156 4 = nI L.2.1 ∧ I 156 6 = L.2.2
def zu_C (I : Nat → Nat → Int32) (C : za_C) : Prop := I 156 8 = za_bit (decide (0 < za_n C.1 16)) ∧ (0 < za_n C.1 16 → ∀ p, p < 16 → I 160 p = nI (C.1 p)) ∧ ∀ p, p < 16 → C.1 p ≠ 0 → (∀ i, i < 16 → I 162 (16 * p + i) = nI (C.2.1 p i)) ∧ I 161 p = za_bit (C.2.2 p)
def zu_X (I : Nat → Nat → Int32) (D : Nat → Nat → Nat) (H : za_H) (b : Bool) (L S : za_T) (C : za_C) (t : Bool) : Prop := zu_D I D ∧ zu_H I H ∧ I 156 7 = za_bit b ∧ zu_L I L ∧ zu_S I S ∧ zu_C I C ∧ I 156 15 = za_bit t
/-- nothing but the cells cs and the fields ss of the reference has changed -/
def zu_fr (cs ss : List Nat) (I J : Nat → Nat → Int32) : Prop := ∀ a i, a ∉ cs → (a ≠ 156 ∨ i ∉ ss) → J a i = I a i
theorem zu_fr0 (I : Nat → Nat → Int32) : zu_fr [] [] I I := fun _ _ _ _ => rfl
theorem zu_frT {c1 c2 s1 s2 : List Nat} {I J K : Nat → Nat → Int32} (f : zu_fr c1 s1 I J) (g : zu_fr c2 s2 J K) : zu_fr (c1 ++ c2) (s1 ++ s2) I K := fun a i h1 h2 =>
  (g a i (fun z => h1 (List.mem_append.mpr (Or.inr z))) (h2.imp id (fun z y => z (List.mem_append.mpr (Or.inr y))))).trans (f a i (fun z => h1 (List.mem_append.mpr (Or.inl z))) (h2.imp id (fun z y => z (List.mem_append.mpr (Or.inl y)))))
theorem zu_frS (I : Nat → Nat → Int32) (j : Nat) (x : Int32) : zu_fr [] [j] I (zw_up I 156 j x) := fun a i _ h => zw_up_n _ _ (h.imp id (fun z y => z (by rw [y]; exact List.mem_singleton.mpr rfl)))
theorem zu_frC (I : Nat → Nat → Int32) (k j : Nat) (x : Int32) : zu_fr [k] [] I (zw_up I k j x) := fun a i h _ => zw_up_n _ _ (Or.inl (fun y => h (by rw [y]; exact List.mem_singleton.mpr rfl)))
section ZUF
variable {I J : Nat → Nat → Int32} {D : Nat → Nat → Nat} {H : za_H} {b t : Bool} {L S : za_T} {C : za_C} {cs ss : List Nat}
theorem zu_fD (h : zu_D I D) (f : zu_fr cs ss I J) (c : 157 ∉ cs := by decide) : zu_D J D := fun s hs i hi => (f _ _ c (Or.inl (by decide))).trans (h s hs i hi)
theorem zu_fH (h : zu_H I H) (f : zu_fr cs ss I J) (c : 156 ∉ cs ∧ 163 ∉ cs ∧ 164 ∉ cs ∧ 14 ∉ ss := by decide) : zu_H J H := ⟨(f _ _ c.1 (Or.inr c.2.2.2)).trans h.1, fun k hk => (f _ _ c.2.1 (Or.inl (by decide))).trans (h.2.1 k hk), fun k hk i hi => (f _ _ c.2.2.1 (Or.inl (by decide))).trans (h.2.2 k hk i hi)⟩
theorem zu_fs {x : Int32} {j : Nat} (h : I 156 j = x) (f : zu_fr cs ss I J) (c : 156 ∉ cs ∧ j ∉ ss := by decide) : J 156 j = x := (f _ _ c.1 (Or.inr c.2)).trans h
theorem zu_fL (h : zu_L I L) (f : zu_fr cs ss I J) (c : 156 ∉ cs ∧ 158 ∉ cs ∧ 3 ∉ ss ∧ 5 ∉ ss := by decide) : zu_L J L := ⟨fun p hp => (f _ _ c.2.1 (Or.inl (by decide))).trans (h.1 p hp), zu_fs h.2.1 f ⟨c.1, c.2.2.1⟩, zu_fs h.2.2 f ⟨c.1, c.2.2.2⟩⟩
theorem zu_fS (h : zu_S I L) (f : zu_fr cs ss I J) (c : 156 ∉ cs ∧ 159 ∉ cs ∧ 4 ∉ ss ∧ 6 ∉ ss := by decide) : zu_S J L := ⟨fun p hp => (f _ _ c.2.1 (Or.inl (by decide))).trans (h.1 p hp), zu_fs h.2.1 f ⟨c.1, c.2.2.1⟩, zu_fs h.2.2 f ⟨c.1, c.2.2.2⟩⟩
theorem zu_fC (h : zu_C I C) (f : zu_fr cs ss I J) (c : 156 ∉ cs ∧ 160 ∉ cs ∧ 161 ∉ cs ∧ 162 ∉ cs ∧ 8 ∉ ss := by decide) : zu_C J C := ⟨zu_fs h.1 f ⟨c.1, c.2.2.2.2⟩, fun g p hp => (f _ _ c.2.1 (Or.inl (by decide))).trans (h.2.1 g p hp), fun p hp g => ⟨fun i hi => (f _ _ c.2.2.2.1 (Or.inl (by decide))).trans ((h.2.2 p hp g).1 i hi), (f _ _ c.2.2.1 (Or.inl (by decide))).trans (h.2.2 p hp g).2⟩⟩
end ZUF
def zu_to (w : zw_W) (cs ss : List Nat) (P : (Nat → Nat → Int32) → Prop) (w' : zw_W) : Prop := ∃ J, w' = zw_I w J ∧ P J ∧ zu_fr cs ss (zw_i w) J
set_option maxHeartbeats 4000000 in
set_option maxRecDepth 100000 in
theorem mt_thrown {V : zv_V} (E : zv_OK V) {w : zw_W} (HM : zl_M w)  : zg_C V zm_X4_thrown yX4_thrown 0 0 [.ref 156] w (zq_p (.inl (some (.int (zw_i w 156 16)))) (· = w)) := by
  refine zg_of (by decide +kernel) rfl (Nat.le_of_ble_eq_true rfl) ?_
  show zg_G V zm_X4_thrown 0 0 w.1 w.2.1 0 [] [(0, .ref 156)] w _
  refine zg_aload_n dX4_thrown_0 rfl ?_
  refine zg_getI E (ci := 4) (j := 16) dX4_thrown_1 rfl (congrArg Prod.fst (zl_Mat HM (k := 156) (t := (4, 17)) rfl (by decide) (by decide))) (by decide) (zl_Mlt HM (by decide)) (by decide) fl_X4_38 rfl ?_
  exact zg_iret rfl dX4_thrown_4 ⟨rfl, rfl⟩
set_option maxHeartbeats 4000000 in
set_option maxRecDepth 100000 in
theorem mt_within {V : zv_V} (E : zv_OK V) {w : zw_W} {v lo hi : Int32} {z : Bool} (hz : z = true ↔ lo ≤ v ∧ v ≤ hi) : zg_C V zm_X4_within yX4_within 0 0 [.int v, .int lo, .int hi] w (zq_p (.inl (some (.int (za_bit z)))) (· = w)) := by
  refine zg_of (by decide +kernel) rfl (Nat.le_of_ble_eq_true rfl) ?_
  show zg_G V zm_X4_within 0 0 w.1 w.2.1 0 [] [(0, .int v), (1, .int lo), (2, .int hi)] w _
  refine zg_iload_n dX4_within_0 rfl ?_
  refine zg_iload_n dX4_within_1 rfl ?_
  refine zg_icmp_lt (tgt := 14) dX4_within_2 (by decide) (fun h2 => ?_) (fun h2 => ?_)
  · have e : z = false := zb_ff hz (fun q => absurd q.1 (Int32.not_le.mpr h2))
    refine zg_iconst (v := nI 0) dX4_within_14 (by decide) ?_
    exact zg_zret rfl rfl dX4_within_15 ⟨by rw [e]; rfl, rfl⟩
  · refine zg_iload_n dX4_within_5 rfl ?_
    refine zg_iload_n dX4_within_6 rfl ?_
    refine zg_icmp_gt (tgt := 14) dX4_within_7 (by decide) (fun h7 => ?_) (fun h7 => ?_)
    · have e : z = false := zb_ff hz (fun q => absurd q.2 (Int32.not_le.mpr h7))
      refine zg_iconst (v := nI 0) dX4_within_14 (by decide) ?_
      exact zg_zret rfl rfl dX4_within_15 ⟨by rw [e]; rfl, rfl⟩
    · have e : z = true := hz.mpr ⟨Int32.not_lt.mp h2, Int32.not_lt.mp h7⟩
      refine zg_iconst (v := nI 1) dX4_within_10 (by decide) ?_
      refine zg_goto (tgt := 15) dX4_within_11 (by decide) ?_
      exact zg_zret rfl rfl dX4_within_15 ⟨by rw [e]; rfl, rfl⟩
set_option maxHeartbeats 4000000 in
set_option maxRecDepth 100000 in
theorem mt_fails {V : zv_V} (E : zv_OK V) {w : zw_W} (HM : zl_M w) {z : Bool} {k : Int32} : zg_C V zm_X4_fails yX4_fails 0 0 [.ref 156, .int (za_bit z), .int k] w (zq_p (.inl (some (.int (za_bit z)))) (· = zw_si w 156 16 (if z then k else nI 0))) := by
  refine zg_of (by decide +kernel) rfl (Nat.le_of_ble_eq_true rfl) ?_
  show zg_G V zm_X4_fails 0 0 w.1 w.2.1 0 [] [(0, .ref 156), (1, .int (za_bit z)), (2, .int k)] w _
  refine zg_aload_n dX4_fails_0 rfl ?_
  refine zg_iload_n dX4_fails_1 rfl ?_
  refine zg_if_eq (tgt := 9) dX4_fails_2 (by decide) (fun h2 => ?_) (fun h2 => ?_)
  · have e := za_bit0 h2
    refine zg_iconst (v := nI 0) dX4_fails_9 (by decide) ?_
    refine zg_putI E (ci := 4) (j := 16) dX4_fails_10 rfl (congrArg Prod.fst (zl_Mat HM (k := 156) (t := (4, 17)) rfl (by decide) (by decide))) (by decide) (zl_Mlt HM (by decide)) (by decide) fl_X4_38 rfl rfl rfl rfl ?_
    refine zg_iload_n dX4_fails_13 rfl ?_
    exact zg_zret rfl (za_bit_nar z) dX4_fails_14 ⟨rfl, by rw [e]; rfl⟩
  · have e := za_bit1 h2
    refine zg_iload_n dX4_fails_5 rfl ?_
    refine zg_goto (tgt := 10) dX4_fails_6 (by decide) ?_
    refine zg_putI E (ci := 4) (j := 16) dX4_fails_10 rfl (congrArg Prod.fst (zl_Mat HM (k := 156) (t := (4, 17)) rfl (by decide) (by decide))) (by decide) (zl_Mlt HM (by decide)) (by decide) fl_X4_38 rfl rfl rfl rfl ?_
    refine zg_iload_n dX4_fails_13 rfl ?_
    exact zg_zret rfl (za_bit_nar z) dX4_fails_14 ⟨rfl, by rw [e]; rfl⟩
theorem zu_ck {g : Nat → Nat} {i : Nat} (h : g i < 256) : nI (31 * za_ck g i) + nI (g i) = nI (31 * za_ck g i + g i) ∧ nI (31 * za_ck g i + g i) &&& 65535 = nI (za_ck g (i + 1)) := by
  have hc := za_ck_lt g i
  refine ⟨nI_add _ _, ?_⟩
  rw [pk_andN (by omega) 16 (by decide)]
  refine congrArg nI ?_
  show _ = (za_ck g i * 31 + g i) % 65536
  rw [Nat.mul_comm]
set_option maxHeartbeats 4000000 in
set_option maxRecDepth 100000 in
theorem lm_checkOf {V : zv_V} (E : zv_OK V) {w : zw_W} {n0 u0 : Nat} {Q : zg_O → zw_W → Prop} (HM : zl_M w) {k n q : Nat} {g : Nat → Nat} (ht : zw_t w k = (10, n)) (hk : 1 ≤ k) (hkn : k < w.1) (hn : n < 2 ^ 31) (hq1 : q + 14 ≤ n) (hg : ∀ i, i < 14 → zw_i w k (q + i) = nI (g i)) (hg2 : ∀ i, i < 14 → g i < 256) (hq : Q (.inl (some (.int (nI (za_ck g 14))))) w) : ∀ (n i : Nat) , i ≤ 14 → 14 + 1 ≤ i + n → zg_G V zm_X4_checkOf 0 0 n0 u0 5 [] [(4, .int (nI i)), (3, .int (nI (za_ck g i))), (0, .ref 156), (1, .ref k), (2, .int (nI q))] w Q := by
  intro n
  induction n with
  | zero =>
    intro i hi hn
    exact absurd hn (by omega)
  | succ n ih =>
    intro i hi hn 
    refine zg_iload dX4_checkOf_5 rfl ?_
    refine zg_bipush (v := nI 14) dX4_checkOf_7 (by decide) ?_
    refine zg_icmp_ge (tgt := 33) dX4_checkOf_9 (by decide) (fun h9 => ?_) (fun h9 => ?_)
    · obtain rfl : i = 14 := by have := zn_ge h9 (by omega) (by omega); omega
      refine zg_iload_n dX4_checkOf_33 rfl ?_
      exact zg_iret rfl dX4_checkOf_34 hq
    · have hlt : i < 14 := zn_lt h9 (by omega) (by omega)
      refine zg_bipush (v := nI 31) dX4_checkOf_12 (by decide) ?_
      refine zg_iload_n dX4_checkOf_14 rfl ?_
      refine zg_imul dX4_checkOf_15 ?_
      refine zg_v (x' := nI (31 * (za_ck g i))) (pk_mul _ _) ?_
      refine zg_aload_n dX4_checkOf_16 rfl ?_
      refine zg_iload_n dX4_checkOf_17 rfl ?_
      refine zg_iload dX4_checkOf_18 rfl ?_
      refine zg_iadd dX4_checkOf_20 ?_
      refine zg_v (x' := nI (q + i)) (nI_add _ _) ?_
      refine zg_iald E (j := q + i) dX4_checkOf_21 ht hk hkn rfl (by omega) (by omega) ?_
      refine zg_v (x' := nI (g i)) (hg i hlt) ?_
      refine zg_iadd dX4_checkOf_22 ?_
      refine zg_v (x' := nI ((31 * (za_ck g i)) + (g i))) (nI_add _ _) ?_
      refine zg_ldc E (v := 65535) dX4_checkOf_23 (by decide +kernel) ?_
      refine zg_iand dX4_checkOf_25 ?_
      refine zg_v (x' := nI (za_ck g (i + 1))) (zu_ck (hg2 i hlt)).2 ?_
      refine zg_istore_n (lv' := [(3, .int (nI (za_ck g (i + 1)))), (4, .int (nI i)), (0, .ref 156), (1, .ref k), (2, .int (nI q))]) dX4_checkOf_26 (by decide) rfl ?_
      refine zg_iinc (v := nI (i + 1)) (lv' := [(4, .int (nI (i + 1))), (3, .int (nI (za_ck g (i + 1)))), (0, .ref 156), (1, .ref k), (2, .int (nI q))]) dX4_checkOf_27 rfl (nI_1 i) (by decide) rfl ?_
      refine zg_goto (tgt := 5) dX4_checkOf_30 (by decide) ?_
      refine zg_l [0, 1, 2, 3, 4] rfl ?_
      exact zg_s rfl rfl rfl (ih (i + 1) (by omega) (by omega))
set_option maxHeartbeats 4000000 in
set_option maxRecDepth 100000 in
theorem mt_checkOf {V : zv_V} (E : zv_OK V) {w : zw_W} (HM : zl_M w) {k n q : Nat} {g : Nat → Nat} (ht : zw_t w k = (10, n)) (hk : 1 ≤ k) (hkn : k < w.1) (hn : n < 2 ^ 31) (hq1 : q + 14 ≤ n) (hg : ∀ i, i < 14 → zw_i w k (q + i) = nI (g i)) (hg2 : ∀ i, i < 14 → g i < 256)  : zg_C V zm_X4_checkOf yX4_checkOf 0 0 [.ref 156, .ref k, .int (nI q)] w (zq_p (.inl (some (.int (nI (za_ck g 14))))) (· = w)) := by
  refine zg_of (by decide +kernel) rfl (Nat.le_of_ble_eq_true rfl) ?_
  show zg_G V zm_X4_checkOf 0 0 w.1 w.2.1 0 [] [(0, .ref 156), (1, .ref k), (2, .int (nI q))] w _
  refine zg_iconst (v := nI 1) dX4_checkOf_0 (by decide) ?_
  refine zg_istore_n (lv' := [(3, .int (nI 1)), (0, .ref 156), (1, .ref k), (2, .int (nI q))]) dX4_checkOf_1 (by decide) rfl ?_
  refine zg_iconst (v := nI 0) dX4_checkOf_2 (by decide) ?_
  refine zg_istore (lv' := [(4, .int (nI 0)), (3, .int (nI 1)), (0, .ref 156), (1, .ref k), (2, .int (nI q))]) dX4_checkOf_3 (by decide) rfl ?_
  refine zg_l [0, 1, 2, 3, 4] rfl ?_
  exact zg_s rfl rfl rfl (lm_checkOf E HM ht hk hkn hn hq1 hg hg2 ⟨rfl, rfl⟩ 15 0 (by omega) (by omega))
set_option maxHeartbeats 4000000 in
set_option maxRecDepth 100000 in
theorem lm_changed {V : zv_V} (E : zv_OK V) {w : zw_W} {n0 u0 : Nat} {Q : zg_O → zw_W → Prop} (HM : zl_M w) {O : Nat → Nat} (hO : ∀ p, p < 16 → zw_i w 160 p = nI (O p)) (wO : ∀ p, p < 16 → O p < 48) (hq : Q (.inl (some (.int (nI (za_n O 16))))) w) : ∀ (n i : Nat) , i ≤ 16 → 16 + 1 ≤ i + n → zg_G V zm_X4_changed 0 0 n0 u0 4 [] [(2, .int (nI i)), (1, .int (nI (za_n O i))), (0, .ref 156)] w Q := by
  intro n
  induction n with
  | zero =>
    intro i hi hn
    exact absurd hn (by omega)
  | succ n ih =>
    intro i hi hn 
    refine zg_iload_n dX4_changed_4 rfl ?_
    refine zg_bipush (v := nI 16) dX4_changed_5 (by decide) ?_
    refine zg_icmp_ge (tgt := 33) dX4_changed_7 (by decide) (fun h7 => ?_) (fun h7 => ?_)
    · obtain rfl : i = 16 := by have := zn_ge h7 (by omega) (by omega); omega
      refine zg_iload_n dX4_changed_33 rfl ?_
      exact zg_iret rfl dX4_changed_34 hq
    · have hlt : i < 16 := zn_lt h7 (by omega) (by omega)
      refine zg_iload_n dX4_changed_10 rfl ?_
      refine zg_aload_n dX4_changed_11 rfl ?_
      refine zg_getR E (ci := 4) (j := 9) (r := 160) dX4_changed_12 rfl (congrArg Prod.fst (zl_Mat HM (k := 156) (t := (4, 17)) rfl (by decide) (by decide))) (by decide) (zl_Mlt HM (by decide)) (by decide) fl_X4_19 rfl (zl_Mrf HM rfl (by decide) (by decide)) ?_
      refine zg_iload_n dX4_changed_15 rfl ?_
      refine zg_iald E (j := i) dX4_changed_16 (zl_Mat HM (k := 160) (t := (10, 16)) rfl (by decide) (by decide)) (by decide) (zl_Mlt HM (by decide)) rfl (by omega) (by decide) ?_
      refine zg_v (x' := nI (O i)) (hO i hlt) ?_
      refine zg_if_le (tgt := 24) dX4_changed_17 (by decide) (fun h17 => ?_) (fun h17 => ?_)
      · have e : O i = 0 := Classical.byContradiction fun z => absurd h17 (nI_nle (by omega) (by have := wO i hlt; omega))
        refine zg_iconst (v := nI 0) dX4_changed_24 (by decide) ?_
        refine zg_iadd dX4_changed_25 ?_
        refine zg_v (x' := nI ((za_n O i) + 0)) (nI_add _ _) ?_
        refine zg_v (x' := nI (za_n O (i + 1))) (congrArg nI (show za_n O i + 0 = za_n O i + (if O i = 0 then 0 else 1) by rw [if_pos e])) ?_
        refine zg_istore_n (lv' := [(1, .int (nI (za_n O (i + 1)))), (2, .int (nI i)), (0, .ref 156)]) dX4_changed_26 (by decide) rfl ?_
        refine zg_iinc (v := nI (i + 1)) (lv' := [(2, .int (nI (i + 1))), (1, .int (nI (za_n O (i + 1)))), (0, .ref 156)]) dX4_changed_27 rfl (nI_1 i) (by decide) rfl ?_
        refine zg_goto (tgt := 4) dX4_changed_30 (by decide) ?_
        refine zg_l [0, 1, 2] rfl ?_
        exact zg_s rfl rfl rfl (ih (i + 1) (by omega) (by omega))
      · have e : O i ≠ 0 := fun z => h17 (by rw [z]; decide)
        refine zg_iconst (v := nI 1) dX4_changed_20 (by decide) ?_
        refine zg_goto (tgt := 25) dX4_changed_21 (by decide) ?_
        refine zg_iadd dX4_changed_25 ?_
        refine zg_v (x' := nI ((za_n O i) + 1)) (nI_add _ _) ?_
        refine zg_v (x' := nI (za_n O (i + 1))) (congrArg nI (show za_n O i + 1 = za_n O i + (if O i = 0 then 0 else 1) by rw [if_neg e])) ?_
        refine zg_istore_n (lv' := [(1, .int (nI (za_n O (i + 1)))), (2, .int (nI i)), (0, .ref 156)]) dX4_changed_26 (by decide) rfl ?_
        refine zg_iinc (v := nI (i + 1)) (lv' := [(2, .int (nI (i + 1))), (1, .int (nI (za_n O (i + 1)))), (0, .ref 156)]) dX4_changed_27 rfl (nI_1 i) (by decide) rfl ?_
        refine zg_goto (tgt := 4) dX4_changed_30 (by decide) ?_
        refine zg_l [0, 1, 2] rfl ?_
        exact zg_s rfl rfl rfl (ih (i + 1) (by omega) (by omega))
set_option maxHeartbeats 4000000 in
set_option maxRecDepth 100000 in
theorem mt_changed {V : zv_V} (E : zv_OK V) {w : zw_W} (HM : zl_M w) {O : Nat → Nat} (hO : ∀ p, p < 16 → zw_i w 160 p = nI (O p)) (wO : ∀ p, p < 16 → O p < 48)  : zg_C V zm_X4_changed yX4_changed 0 0 [.ref 156] w (zq_p (.inl (some (.int (nI (za_n O 16))))) (· = w)) := by
  refine zg_of (by decide +kernel) rfl (Nat.le_of_ble_eq_true rfl) ?_
  show zg_G V zm_X4_changed 0 0 w.1 w.2.1 0 [] [(0, .ref 156)] w _
  refine zg_iconst (v := nI 0) dX4_changed_0 (by decide) ?_
  refine zg_istore_n (lv' := [(1, .int (nI 0)), (0, .ref 156)]) dX4_changed_1 (by decide) rfl ?_
  refine zg_iconst (v := nI 0) dX4_changed_2 (by decide) ?_
  refine zg_istore_n (lv' := [(2, .int (nI 0)), (1, .int (nI 0)), (0, .ref 156)]) dX4_changed_3 (by decide) rfl ?_
  refine zg_l [0, 1, 2] rfl ?_
  exact zg_s rfl rfl rfl (lm_changed E HM hO wO ⟨rfl, rfl⟩ 17 0 (by omega) (by omega))
set_option maxHeartbeats 4000000 in
set_option maxRecDepth 100000 in
theorem lm_settle {V : zv_V} (E : zv_OK V) {w : zw_W} {n0 u0 : Nat} {Q : zg_O → zw_W → Prop} (HM : zl_M w) {D : Nat → Nat → Nat} {H : za_H} {b : Bool} {L S : za_T} {C : za_C} {t : Bool} {I : Nat → Nat → Int32} (hL : zu_L I L) (hq : ∀ J, zu_S J L → J 156 15 = nI 0 → zu_fr [159] [4, 6, 15] I J → Q (.inl none) (zw_I w J)) : ∀ (n i : Nat) (J : Nat → Nat → Int32), i ≤ 16 → 16 + 1 ≤ i + n → (∀ p, p < i → J 159 p = nI (L.1 p)) → J 156 4 = nI L.2.1 → J 156 6 = L.2.2 → zu_fr [159] [4, 6] I J → zg_G V zm_X4_settle 0 0 n0 u0 18 [] [(1, .int (nI i)), (0, .ref 156)] (zw_I w J) Q := by
  intro n
  induction n with
  | zero =>
    intro i J hi hn
    exact absurd hn (by omega)
  | succ n ih =>
    intro i J hi hn k0 k1 k2 k3
    refine zg_iload_n dX4_settle_18 rfl ?_
    refine zg_bipush (v := nI 16) dX4_settle_19 (by decide) ?_
    refine zg_icmp_ge (tgt := 42) dX4_settle_21 (by decide) (fun h21 => ?_) (fun h21 => ?_)
    · obtain rfl : i = 16 := by have := zn_ge h21 (by omega) (by omega); omega
      refine zg_aload_n dX4_settle_42 rfl ?_
      refine zg_iconst (v := nI 0) dX4_settle_43 (by decide) ?_
      refine zg_putI E (ci := 4) (j := 15) dX4_settle_44 rfl (congrArg Prod.fst (zl_Mat HM (k := 156) (t := (4, 17)) rfl (by decide) (by decide))) (by decide) (zl_Mlt HM (by decide)) (by decide) fl_X4_57 rfl rfl rfl rfl ?_
      exact zg_vret rfl dX4_settle_47 (hq _ ⟨fun p hp => (zw_up_n _ _ (Or.inl (by decide))).trans (k0 p hp), (zw_up_n _ _ (by decide)).trans k1, (zw_up_n _ _ (by decide)).trans k2⟩ (zw_up_s _ _ _ _) (zu_frT k3 (zu_frS J 15 _)))
    · have hlt : i < 16 := zn_lt h21 (by omega) (by omega)
      refine zg_aload_n dX4_settle_24 rfl ?_
      refine zg_getR E (ci := 4) (j := 2) (r := 159) dX4_settle_25 rfl (congrArg Prod.fst (zl_Mat HM (k := 156) (t := (4, 17)) rfl (by decide) (by decide))) (by decide) (zl_Mlt HM (by decide)) (by decide) fl_X4_16 rfl (zl_Mrf HM rfl (by decide) (by decide)) ?_
      refine zg_iload_n dX4_settle_28 rfl ?_
      refine zg_aload_n dX4_settle_29 rfl ?_
      refine zg_getR E (ci := 4) (j := 1) (r := 158) dX4_settle_30 rfl (congrArg Prod.fst (zl_Mat HM (k := 156) (t := (4, 17)) rfl (by decide) (by decide))) (by decide) (zl_Mlt HM (by decide)) (by decide) fl_X4_13 rfl (zl_Mrf HM rfl (by decide) (by decide)) ?_
      refine zg_iload_n dX4_settle_33 rfl ?_
      refine zg_iald E (j := i) dX4_settle_34 (zl_Mat HM (k := 158) (t := (10, 16)) rfl (by decide) (by decide)) (by decide) (zl_Mlt HM (by decide)) rfl (by omega) (by decide) ?_
      refine zg_v (x' := nI (L.1 i)) ((zu_fL hL k3).1 i hlt) ?_
      refine zg_iast E (j := i) dX4_settle_35 (zl_Mat HM (k := 159) (t := (10, 16)) rfl (by decide) (by decide)) (by decide) (zl_Mlt HM (by decide)) rfl (by omega) (by decide) ?_
      refine zg_iinc (v := nI (i + 1)) (lv' := [(1, .int (nI (i + 1))), (0, .ref 156)]) dX4_settle_36 rfl (nI_1 i) (by decide) rfl ?_
      refine zg_goto (tgt := 18) dX4_settle_39 (by decide) ?_
      refine zg_l [0, 1] rfl ?_
      exact zg_s rfl rfl rfl (ih (i + 1) _ (by omega) (by omega) (fun p hp => (Nat.lt_or_ge p i).elim (fun z => (zw_up_n _ _ (Or.inr (by omega))).trans (k0 p z)) (fun z => by have e : p = i := (by omega); subst e; exact zw_up_s _ _ _ _)) ((zw_up_n _ _ (Or.inl (by decide))).trans k1) ((zw_up_n _ _ (Or.inl (by decide))).trans k2) (fun a j h1 h2 => (zw_up_n _ _ (Or.inl (fun z => h1 (by rw [z]; exact List.mem_singleton.mpr rfl)))).trans (k3 a j h1 h2)))
set_option maxHeartbeats 4000000 in
set_option maxRecDepth 100000 in
theorem mt_settle {V : zv_V} (E : zv_OK V) {w : zw_W} (HM : zl_M w) {L : za_T} (hL : zu_L (zw_i w) L) : zg_C V zm_X4_settle yX4_settle 0 0 [.ref 156] w (zq_p (.inl none) (zu_to w [159] [4, 6, 15] (fun J => zu_S J L ∧ J 156 15 = nI 0))) := by
  refine zg_of (by decide +kernel) rfl (Nat.le_of_ble_eq_true rfl) ?_
  show zg_G V zm_X4_settle 0 0 w.1 w.2.1 0 [] [(0, .ref 156)] w _
  refine zg_aload_n dX4_settle_0 rfl ?_
  refine zg_aload_n dX4_settle_1 rfl ?_
  refine zg_getI E (ci := 4) (j := 3) dX4_settle_2 rfl (congrArg Prod.fst (zl_Mat HM (k := 156) (t := (4, 17)) rfl (by decide) (by decide))) (by decide) (zl_Mlt HM (by decide)) (by decide) fl_X4_71 rfl ?_
  refine zg_v (x' := nI L.2.1) hL.2.1 ?_
  refine zg_putI E (ci := 4) (j := 4) dX4_settle_5 rfl (congrArg Prod.fst (zl_Mat HM (k := 156) (t := (4, 17)) rfl (by decide) (by decide))) (by decide) (zl_Mlt HM (by decide)) (by decide) fl_X4_80 rfl rfl rfl rfl ?_
  refine zg_aload_n dX4_settle_8 rfl ?_
  refine zg_aload_n dX4_settle_9 rfl ?_
  refine zg_getI E (ci := 4) (j := 5) dX4_settle_10 rfl (congrArg Prod.fst (zl_Mat HM (k := 156) (t := (4, 17)) rfl (by decide) (by decide))) (by decide) (zl_Mlt HM (by decide)) (by decide) fl_X4_74 rfl ?_
  refine zg_v (x' := L.2.2) (show zw_up (zw_i w) 156 4 (nI L.2.1) 156 5 = L.2.2 from (zw_up_n _ _ (by decide)).trans hL.2.2) ?_
  refine zg_putI E (ci := 4) (j := 6) dX4_settle_13 rfl (congrArg Prod.fst (zl_Mat HM (k := 156) (t := (4, 17)) rfl (by decide) (by decide))) (by decide) (zl_Mlt HM (by decide)) (by decide) fl_X4_83 rfl rfl rfl rfl ?_
  refine zg_iconst (v := nI 0) dX4_settle_16 (by decide) ?_
  refine zg_istore_n (lv' := [(1, .int (nI 0)), (0, .ref 156)]) dX4_settle_17 (by decide) rfl ?_
  exact zg_s rfl rfl rfl (lm_settle (I := zw_i w) (D := fun _ _ => 0) (H := (0, fun _ => 0, fun _ _ => 0)) (b := false) (S := L) (C := za_C0) (t := false) E HM hL (fun J h1 h2 h3 => ⟨rfl, J, rfl, ⟨h1, h2⟩, h3⟩) 17 0 _ (by omega) (by omega) (fun p hp => absurd hp (Nat.not_lt_zero p)) ((zw_up_n _ _ (by decide)).trans (zw_up_s (zw_i w) 156 4 (nI L.2.1))) (zw_up_s _ _ _ _) (fun a j h1 h2 => zu_frT (zu_frS (zw_i w) 4 _) (zu_frS _ 6 _) a j (List.not_mem_nil) h2))
end
section
/-! The reference's free sectors, held writes, flush, master. -/
def za_ui (L S : za_T) (O : Nat → Nat) (s i : Nat) : Prop := s = 0 ∨ L.2.1 = s ∨ S.2.1 = s ∨ ∃ p, p < i ∧ (L.1 p = s ∨ S.1 p = s ∨ O p = s)
theorem za_ui_y {L S : za_T} {O : Nat → Nat} {s i : Nat} (h : L.1 i = s ∨ S.1 i = s ∨ O i = s) : za_ui L S O s (i + 1) := Or.inr (Or.inr (Or.inr ⟨i, Nat.lt_succ_self i, h⟩))
theorem za_ui_n {L S : za_T} {O : Nat → Nat} {s i : Nat} (h1 : L.1 i ≠ s) (h2 : S.1 i ≠ s) (h3 : O i = s → s = 0) : za_ui L S O s (i + 1) ↔ za_ui L S O s i := by
  constructor
  · rintro (a | a | a | ⟨p, hp, e⟩)
    · exact Or.inl a
    · exact Or.inr (Or.inl a)
    · exact Or.inr (Or.inr (Or.inl a))
    · rcases Nat.lt_or_ge p i with q | q
      · exact Or.inr (Or.inr (Or.inr ⟨p, q, e⟩))
      · obtain rfl : p = i := by omega
        rcases e with e | e | e
        · exact absurd e h1
        · exact absurd e h2
        · exact Or.inl (h3 e)
  · rintro (a | a | a | ⟨p, hp, e⟩)
    · exact Or.inl a
    · exact Or.inr (Or.inl a)
    · exact Or.inr (Or.inr (Or.inl a))
    · exact Or.inr (Or.inr (Or.inr ⟨p, by omega, e⟩))
theorem zb_tf {b : Bool} {P : Prop} (h : b = true ↔ ¬ P) (n : P) : b = false := zb_ff h (fun z => z n)
theorem za_n_z {O : Nat → Nat} (h : ¬ 0 < za_n O 16) {p : Nat} (hp : p < 16) : O p = 0 := Classical.byContradiction fun z => h (za_n_p hp z)
theorem za_ui_0 {L S : za_T} {O : Nat → Nat} {s : Nat} : za_ui L S O s 0 ↔ s = 0 ∨ L.2.1 = s ∨ S.2.1 = s := by
  constructor
  · rintro (a | a | a | ⟨p, hp, -⟩)
    · exact Or.inl a
    · exact Or.inr (Or.inl a)
    · exact Or.inr (Or.inr a)
    · exact absurd hp (Nat.not_lt_zero p)
  · rintro (a | a | a)
    · exact Or.inl a
    · exact Or.inr (Or.inl a)
    · exact Or.inr (Or.inr (Or.inl a))
theorem zb_no {P : Prop} (h : P) : false = true ↔ ¬ P := ⟨fun z => absurd z (by decide), fun z => absurd h z⟩
theorem zb_ye {P : Prop} (h : ¬ P) : true = true ↔ ¬ P := ⟨fun _ => h, fun _ => rfl⟩
set_option maxHeartbeats 4000000 in
set_option maxRecDepth 100000 in
theorem lm_isFree {V : zv_V} (E : zv_OK V) {w : zw_W} {n0 u0 : Nat} {Q : zg_O → zw_W → Prop} (HM : zl_M w) {D : Nat → Nat → Nat} {H : za_H} {b : Bool} {L S : za_T} {C : za_C} {t : Bool} (hM : zu_X (zw_i w) D H b L S C t) (wL : za_WT L) (wS : za_WT S) (wC : za_WC C) {s : Nat} (hs : s < 48) {z : Bool} (hz : z = true ↔ ¬ za_us L S C.1 s) (hq : Q (.inl (some (.int (za_bit z)))) w) : ∀ (n i : Nat) (y : Bool), i ≤ 16 → 16 + 1 ≤ i + n → (y = true ↔ ¬ za_ui L S C.1 s i) → zg_G V zm_X4_isFree 0 0 n0 u0 28 [] [(3, .int (nI i)), (2, .int (za_bit y)), (0, .ref 156), (1, .int (nI s))] w Q := by
  intro n
  induction n with
  | zero =>
    intro i y hi hn
    exact absurd hn (by omega)
  | succ n ih =>
    intro i y hi hn k0
    refine zg_iload_n dX4_isFree_28 rfl ?_
    refine zg_bipush (v := nI 16) dX4_isFree_29 (by decide) ?_
    refine zg_icmp_ge (tgt := 79) dX4_isFree_31 (by decide) (fun h31 => ?_) (fun h31 => ?_)
    · obtain rfl : i = 16 := by have := zn_ge h31 (by omega) (by omega); omega
      refine zg_iload_n dX4_isFree_79 rfl ?_
      exact zg_zret rfl (za_bit_nar y) dX4_isFree_80 ((zb_iff (k0.trans hz.symm) : y = z) ▸ hq)
    · have hlt : i < 16 := zn_lt h31 (by omega) (by omega)
      refine zg_aload_n dX4_isFree_34 rfl ?_
      refine zg_getR E (ci := 4) (j := 1) (r := 158) dX4_isFree_35 rfl (congrArg Prod.fst (zl_Mat HM (k := 156) (t := (4, 17)) rfl (by decide) (by decide))) (by decide) (zl_Mlt HM (by decide)) (by decide) fl_X4_13 rfl (zl_Mrf HM rfl (by decide) (by decide)) ?_
      refine zg_iload_n dX4_isFree_38 rfl ?_
      refine zg_iald E (j := i) dX4_isFree_39 (zl_Mat HM (k := 158) (t := (10, 16)) rfl (by decide) (by decide)) (by decide) (zl_Mlt HM (by decide)) rfl (by omega) (by decide) ?_
      refine zg_v (x' := nI (L.1 i)) (hM.2.2.2.1.1 i hlt) ?_
      refine zg_iload_n dX4_isFree_40 rfl ?_
      refine zg_icmp_eq (tgt := 71) dX4_isFree_41 (by decide) (fun h41 => ?_) (fun h41 => ?_)
      · have hu : za_ui L S C.1 s (i + 1) := za_ui_y (Or.inl ((nI_eq (by have := wL.1 i hlt; omega) (by omega)).mp h41))
        refine zg_iconst (v := nI 0) dX4_isFree_71 (by decide) ?_
        refine zg_istore_n (lv' := [(2, .int (nI 0)), (3, .int (nI i)), (0, .ref 156), (1, .int (nI s))]) dX4_isFree_72 (by decide) rfl ?_
        refine zg_iinc (v := nI (i + 1)) (lv' := [(3, .int (nI (i + 1))), (2, .int (nI 0)), (0, .ref 156), (1, .int (nI s))]) dX4_isFree_73 rfl (nI_1 i) (by decide) rfl ?_
        refine zg_goto (tgt := 28) dX4_isFree_76 (by decide) ?_
        refine zg_l [0, 1, 2, 3] rfl ?_
        exact zg_s rfl rfl rfl (ih (i + 1) false (by omega) (by omega) ⟨fun z => absurd z (by decide), fun z => absurd hu z⟩)
      · have e1 : L.1 i ≠ s := fun z => h41 (congrArg nI z)
        refine zg_aload_n dX4_isFree_44 rfl ?_
        refine zg_getR E (ci := 4) (j := 2) (r := 159) dX4_isFree_45 rfl (congrArg Prod.fst (zl_Mat HM (k := 156) (t := (4, 17)) rfl (by decide) (by decide))) (by decide) (zl_Mlt HM (by decide)) (by decide) fl_X4_16 rfl (zl_Mrf HM rfl (by decide) (by decide)) ?_
        refine zg_iload_n dX4_isFree_48 rfl ?_
        refine zg_iald E (j := i) dX4_isFree_49 (zl_Mat HM (k := 159) (t := (10, 16)) rfl (by decide) (by decide)) (by decide) (zl_Mlt HM (by decide)) rfl (by omega) (by decide) ?_
        refine zg_v (x' := nI (S.1 i)) (hM.2.2.2.2.1.1 i hlt) ?_
        refine zg_iload_n dX4_isFree_50 rfl ?_
        refine zg_icmp_eq (tgt := 71) dX4_isFree_51 (by decide) (fun h51 => ?_) (fun h51 => ?_)
        · have hu : za_ui L S C.1 s (i + 1) := za_ui_y (Or.inr (Or.inl ((nI_eq (by have := wS.1 i hlt; omega) (by omega)).mp h51)))
          refine zg_iconst (v := nI 0) dX4_isFree_71 (by decide) ?_
          refine zg_istore_n (lv' := [(2, .int (nI 0)), (3, .int (nI i)), (0, .ref 156), (1, .int (nI s))]) dX4_isFree_72 (by decide) rfl ?_
          refine zg_iinc (v := nI (i + 1)) (lv' := [(3, .int (nI (i + 1))), (2, .int (nI 0)), (0, .ref 156), (1, .int (nI s))]) dX4_isFree_73 rfl (nI_1 i) (by decide) rfl ?_
          refine zg_goto (tgt := 28) dX4_isFree_76 (by decide) ?_
          refine zg_l [0, 1, 2, 3] rfl ?_
          exact zg_s rfl rfl rfl (ih (i + 1) false (by omega) (by omega) ⟨fun z => absurd z (by decide), fun z => absurd hu z⟩)
        · have e2 : S.1 i ≠ s := fun z => h51 (congrArg nI z)
          refine zg_aload_n dX4_isFree_54 rfl ?_
          refine zg_getI E (ci := 4) (j := 8) dX4_isFree_55 rfl (congrArg Prod.fst (zl_Mat HM (k := 156) (t := (4, 17)) rfl (by decide) (by decide))) (by decide) (zl_Mlt HM (by decide)) (by decide) fl_X4_61 rfl ?_
          refine zg_v (x' := za_bit (decide (0 < za_n C.1 16))) hM.2.2.2.2.2.1.1 ?_
          refine zg_if_eq (tgt := 73) dX4_isFree_58 (by decide) (fun h58 => ?_) (fun h58 => ?_)
          · have e3 : C.1 i = s → s = 0 := fun z => z.symm.trans (za_n_z (of_decide_eq_false (za_bit0 h58)) hlt)
            refine zg_iinc (v := nI (i + 1)) (lv' := [(3, .int (nI (i + 1))), (2, .int (za_bit y)), (0, .ref 156), (1, .int (nI s))]) dX4_isFree_73 rfl (nI_1 i) (by decide) rfl ?_
            refine zg_goto (tgt := 28) dX4_isFree_76 (by decide) ?_
            refine zg_l [0, 1, 2, 3] rfl ?_
            exact zg_s rfl rfl rfl (ih (i + 1) y (by omega) (by omega) (k0.trans (not_congr (za_ui_n e1 e2 e3).symm)))
          · have ho := of_decide_eq_true (za_bit1 h58)
            refine zg_aload_n dX4_isFree_61 rfl ?_
            refine zg_getR E (ci := 4) (j := 9) (r := 160) dX4_isFree_62 rfl (congrArg Prod.fst (zl_Mat HM (k := 156) (t := (4, 17)) rfl (by decide) (by decide))) (by decide) (zl_Mlt HM (by decide)) (by decide) fl_X4_19 rfl (zl_Mrf HM rfl (by decide) (by decide)) ?_
            refine zg_iload_n dX4_isFree_65 rfl ?_
            refine zg_iald E (j := i) dX4_isFree_66 (zl_Mat HM (k := 160) (t := (10, 16)) rfl (by decide) (by decide)) (by decide) (zl_Mlt HM (by decide)) rfl (by omega) (by decide) ?_
            refine zg_v (x' := nI (C.1 i)) (hM.2.2.2.2.2.1.2.1 ho i hlt) ?_
            refine zg_iload_n dX4_isFree_67 rfl ?_
            refine zg_icmp_ne (tgt := 73) dX4_isFree_68 (by decide) (fun h68 => ?_) (fun h68 => ?_)
            · have e3 : C.1 i = s → s = 0 := fun z => absurd (congrArg nI z) h68
              refine zg_iinc (v := nI (i + 1)) (lv' := [(3, .int (nI (i + 1))), (2, .int (za_bit y)), (0, .ref 156), (1, .int (nI s))]) dX4_isFree_73 rfl (nI_1 i) (by decide) rfl ?_
              refine zg_goto (tgt := 28) dX4_isFree_76 (by decide) ?_
              refine zg_l [0, 1, 2, 3] rfl ?_
              exact zg_s rfl rfl rfl (ih (i + 1) y (by omega) (by omega) (k0.trans (not_congr (za_ui_n e1 e2 e3).symm)))
            · have hu : za_ui L S C.1 s (i + 1) := za_ui_y (Or.inr (Or.inr ((nI_eq (by have := wC.1 i hlt; omega) (by omega)).mp h68)))
              refine zg_iconst (v := nI 0) dX4_isFree_71 (by decide) ?_
              refine zg_istore_n (lv' := [(2, .int (nI 0)), (3, .int (nI i)), (0, .ref 156), (1, .int (nI s))]) dX4_isFree_72 (by decide) rfl ?_
              refine zg_iinc (v := nI (i + 1)) (lv' := [(3, .int (nI (i + 1))), (2, .int (nI 0)), (0, .ref 156), (1, .int (nI s))]) dX4_isFree_73 rfl (nI_1 i) (by decide) rfl ?_
              refine zg_goto (tgt := 28) dX4_isFree_76 (by decide) ?_
              refine zg_l [0, 1, 2, 3] rfl ?_
              exact zg_s rfl rfl rfl (ih (i + 1) false (by omega) (by omega) ⟨fun z => absurd z (by decide), fun z => absurd hu z⟩)
set_option maxHeartbeats 4000000 in
set_option maxRecDepth 100000 in
theorem mt_isFree {V : zv_V} (E : zv_OK V) {w : zw_W} (HM : zl_M w) {D : Nat → Nat → Nat} {H : za_H} {b : Bool} {L S : za_T} {C : za_C} {t : Bool} (hM : zu_X (zw_i w) D H b L S C t) (wL : za_WT L) (wS : za_WT S) (wC : za_WC C) {s : Nat} (hs : s < 48) {z : Bool} (hz : z = true ↔ ¬ za_us L S C.1 s) : zg_C V zm_X4_isFree yX4_isFree 0 0 [.ref 156, .int (nI s)] w (zq_p (.inl (some (.int (za_bit z)))) (· = w)) := by
  refine zg_of (by decide +kernel) rfl (Nat.le_of_ble_eq_true rfl) ?_
  show zg_G V zm_X4_isFree 0 0 w.1 w.2.1 0 [] [(0, .ref 156), (1, .int (nI s))] w _
  refine zg_iload_n dX4_isFree_0 rfl ?_
  refine zg_if_le (tgt := 24) dX4_isFree_1 (by decide) (fun h1 => ?_) (fun h1 => ?_)
  · have hy : false = true ↔ ¬ za_ui L S C.1 s 0 := zb_no (za_ui_0.mpr (Or.inl (Classical.byContradiction fun q => absurd h1 (nI_nle (by omega) (by omega)))))
    refine zg_iconst (v := nI 0) dX4_isFree_24 (by decide) ?_
    refine zg_istore_n (lv' := [(2, .int (nI 0)), (0, .ref 156), (1, .int (nI s))]) dX4_isFree_25 (by decide) rfl ?_
    refine zg_iconst (v := nI 0) dX4_isFree_26 (by decide) ?_
    refine zg_istore_n (lv' := [(3, .int (nI 0)), (2, .int (nI 0)), (0, .ref 156), (1, .int (nI s))]) dX4_isFree_27 (by decide) rfl ?_
    refine zg_l [0, 1, 2, 3] rfl ?_
    exact zg_s rfl rfl rfl (lm_isFree E HM hM wL wS wC hs hz ⟨rfl, rfl⟩ 17 0 false (by omega) (by omega) hy)
  · have g1 : s ≠ 0 := fun q => h1 (by rw [q]; decide)
    refine zg_iload_n dX4_isFree_4 rfl ?_
    refine zg_aload_n dX4_isFree_5 rfl ?_
    refine zg_getI E (ci := 4) (j := 3) dX4_isFree_6 rfl (congrArg Prod.fst (zl_Mat HM (k := 156) (t := (4, 17)) rfl (by decide) (by decide))) (by decide) (zl_Mlt HM (by decide)) (by decide) fl_X4_71 rfl ?_
    refine zg_v (x' := nI L.2.1) hM.2.2.2.1.2.1 ?_
    refine zg_icmp_eq (tgt := 24) dX4_isFree_9 (by decide) (fun h9 => ?_) (fun h9 => ?_)
    · have hy : false = true ↔ ¬ za_ui L S C.1 s 0 := zb_no (za_ui_0.mpr (Or.inr (Or.inl ((nI_eq (by omega) (by have := wL.2; omega)).mp h9).symm)))
      refine zg_iconst (v := nI 0) dX4_isFree_24 (by decide) ?_
      refine zg_istore_n (lv' := [(2, .int (nI 0)), (0, .ref 156), (1, .int (nI s))]) dX4_isFree_25 (by decide) rfl ?_
      refine zg_iconst (v := nI 0) dX4_isFree_26 (by decide) ?_
      refine zg_istore_n (lv' := [(3, .int (nI 0)), (2, .int (nI 0)), (0, .ref 156), (1, .int (nI s))]) dX4_isFree_27 (by decide) rfl ?_
      refine zg_l [0, 1, 2, 3] rfl ?_
      exact zg_s rfl rfl rfl (lm_isFree E HM hM wL wS wC hs hz ⟨rfl, rfl⟩ 17 0 false (by omega) (by omega) hy)
    · have g2 : L.2.1 ≠ s := fun q => h9 (congrArg nI q.symm)
      refine zg_iload_n dX4_isFree_12 rfl ?_
      refine zg_aload_n dX4_isFree_13 rfl ?_
      refine zg_getI E (ci := 4) (j := 4) dX4_isFree_14 rfl (congrArg Prod.fst (zl_Mat HM (k := 156) (t := (4, 17)) rfl (by decide) (by decide))) (by decide) (zl_Mlt HM (by decide)) (by decide) fl_X4_80 rfl ?_
      refine zg_v (x' := nI S.2.1) hM.2.2.2.2.1.2.1 ?_
      refine zg_icmp_eq (tgt := 24) dX4_isFree_17 (by decide) (fun h17 => ?_) (fun h17 => ?_)
      · have hy : false = true ↔ ¬ za_ui L S C.1 s 0 := zb_no (za_ui_0.mpr (Or.inr (Or.inr ((nI_eq (by omega) (by have := wS.2; omega)).mp h17).symm)))
        refine zg_iconst (v := nI 0) dX4_isFree_24 (by decide) ?_
        refine zg_istore_n (lv' := [(2, .int (nI 0)), (0, .ref 156), (1, .int (nI s))]) dX4_isFree_25 (by decide) rfl ?_
        refine zg_iconst (v := nI 0) dX4_isFree_26 (by decide) ?_
        refine zg_istore_n (lv' := [(3, .int (nI 0)), (2, .int (nI 0)), (0, .ref 156), (1, .int (nI s))]) dX4_isFree_27 (by decide) rfl ?_
        refine zg_l [0, 1, 2, 3] rfl ?_
        exact zg_s rfl rfl rfl (lm_isFree E HM hM wL wS wC hs hz ⟨rfl, rfl⟩ 17 0 false (by omega) (by omega) hy)
      · have hy : true = true ↔ ¬ za_ui L S C.1 s 0 := zb_ye (fun q => (za_ui_0.mp q).elim g1 (fun q => q.elim g2 (fun q => h17 (congrArg nI q.symm))))
        refine zg_iconst (v := nI 1) dX4_isFree_20 (by decide) ?_
        refine zg_goto (tgt := 25) dX4_isFree_21 (by decide) ?_
        refine zg_istore_n (lv' := [(2, .int (nI 1)), (0, .ref 156), (1, .int (nI s))]) dX4_isFree_25 (by decide) rfl ?_
        refine zg_iconst (v := nI 0) dX4_isFree_26 (by decide) ?_
        refine zg_istore_n (lv' := [(3, .int (nI 0)), (2, .int (nI 1)), (0, .ref 156), (1, .int (nI s))]) dX4_isFree_27 (by decide) rfl ?_
        refine zg_l [0, 1, 2, 3] rfl ?_
        exact zg_s rfl rfl rfl (lm_isFree E HM hM wL wS wC hs hz ⟨rfl, rfl⟩ 17 0 true (by omega) (by omega) hy)
set_option maxHeartbeats 4000000 in
set_option maxRecDepth 100000 in
theorem lm_firstFree {V : zv_V} (E : zv_OK V) {w : zw_W} {n0 u0 : Nat} {Q : zg_O → zw_W → Prop} (HM : zl_M w) {D : Nat → Nat → Nat} {H : za_H} {b : Bool} {L S : za_T} {C : za_C} {t : Bool} (hM : zu_X (zw_i w) D H b L S C t) (wL : za_WT L) (wS : za_WT S) (wC : za_WC C) {r : Int32} (hr : za_ff L S C.1 r) (hq : Q (.inl (some (.int r))) w) : ∀ (n i : Nat) , i ≤ 48 → 48 + 1 ≤ i + n → 1 ≤ i → (∀ q, q < i → za_us L S C.1 q) → zg_G V zm_X4_firstFree 1 30 n0 u0 2 [] [(1, .int (nI i)), (0, .ref 156)] w Q := by
  intro n
  induction n with
  | zero =>
    intro i hi hn
    exact absurd hn (by omega)
  | succ n ih =>
    intro i hi hn k0 k1
    refine zg_iload_n dX4_firstFree_2 rfl ?_
    refine zg_bipush (v := nI 48) dX4_firstFree_3 (by decide) ?_
    refine zg_icmp_ge (tgt := 22) dX4_firstFree_5 (by decide) (fun h5 => ?_) (fun h5 => ?_)
    · obtain rfl : i = 48 := by have := zn_ge h5 (by omega) (by omega); omega
      have hr0 : (-1) = r := za_ff_n hr k1
      refine zg_iload_n dX4_firstFree_22 rfl ?_
      refine zg_bipush (v := nI 48) dX4_firstFree_23 (by decide) ?_
      refine zg_icmp_ne (tgt := 32) dX4_firstFree_25 (by decide) (fun h25 => absurd rfl h25) (fun _ => ?_)
      refine zg_iconst (v := (-1)) dX4_firstFree_28 (by decide) ?_
      refine zg_goto (tgt := 33) dX4_firstFree_29 (by decide) ?_
      exact zg_iret rfl dX4_firstFree_33 (hr0 ▸ hq)
    · have hlt : i < 48 := zn_lt h5 (by omega) (by omega)
      obtain ⟨z, hz⟩ := zb_ex (¬ za_us L S C.1 i)
      refine zg_aload_n dX4_firstFree_8 rfl ?_
      refine zg_iload_n dX4_firstFree_9 rfl ?_
      refine zg_vrt (M := zm_X4_firstFree) E (ci := 4) dX4_firstFree_10 (mt_isFree E HM hM wL wS wC hlt hz) wd_X4_86 rfl (congrArg Prod.fst (zl_Mat HM (k := 156) (t := (4, 17)) rfl (by decide) (by decide))) (by decide) (zl_Mlt HM (by decide)) rfl dh_X4_isFree dn_X4_isFree (Nat.le_of_ble_eq_true rfl) (Nat.le_of_ble_eq_true rfl) (Nat.le_of_ble_eq_true rfl) (zl_capM HM) rfl (fun w10 g10 => ?_)
      subst w10
      refine zg_if_ne (tgt := 22) dX4_firstFree_13 (by decide) (fun h13 => ?_) (fun h13 => ?_)
      · have hr1 : nI i = r := za_ff_y hr hlt (hz.mp (za_bit1 h13)) k1
        refine zg_iload_n dX4_firstFree_22 rfl ?_
        refine zg_bipush (v := nI 48) dX4_firstFree_23 (by decide) ?_
        refine zg_icmp_ne (tgt := 32) dX4_firstFree_25 (by decide) (fun _ => ?_) (fun h25 => absurd ((nI_eq (by omega) (by decide)).mp h25) (by omega))
        refine zg_iload_n dX4_firstFree_32 rfl ?_
        exact zg_iret rfl dX4_firstFree_33 (hr1 ▸ hq)
      · have hu : za_us L S C.1 i := Classical.byContradiction fun q => absurd (hz.mpr q) (by rw [za_bit0 h13]; decide)
        refine zg_iinc (v := nI (i + 1)) (lv' := [(1, .int (nI (i + 1))), (0, .ref 156)]) dX4_firstFree_16 rfl (nI_1 i) (by decide) rfl ?_
        refine zg_goto (tgt := 2) dX4_firstFree_19 (by decide) ?_
        refine zg_l [0, 1] rfl ?_
        exact zg_s rfl rfl rfl (ih (i + 1) (by omega) (by omega) (by omega) (fun q hq => (Nat.lt_or_ge q i).elim (k1 q) (fun z => (show q = i by omega) ▸ hu)))
set_option maxHeartbeats 4000000 in
set_option maxRecDepth 100000 in
theorem mt_firstFree {V : zv_V} (E : zv_OK V) {w : zw_W} (HM : zl_M w) {D : Nat → Nat → Nat} {H : za_H} {b : Bool} {L S : za_T} {C : za_C} {t : Bool} (hM : zu_X (zw_i w) D H b L S C t) (wL : za_WT L) (wS : za_WT S) (wC : za_WC C) {r : Int32} (hr : za_ff L S C.1 r) : zg_C V zm_X4_firstFree yX4_firstFree 1 30 [.ref 156] w (zq_p (.inl (some (.int r))) (· = w)) := by
  refine zg_of (by decide +kernel) rfl (Nat.le_of_ble_eq_true rfl) ?_
  show zg_G V zm_X4_firstFree 1 30 w.1 w.2.1 0 [] [(0, .ref 156)] w _
  refine zg_iconst (v := nI 1) dX4_firstFree_0 (by decide) ?_
  refine zg_istore_n (lv' := [(1, .int (nI 1)), (0, .ref 156)]) dX4_firstFree_1 (by decide) rfl ?_
  exact zg_s rfl rfl rfl (lm_firstFree E HM hM wL wS wC hr ⟨rfl, rfl⟩ 48 1 (by omega) (by omega) (by omega) (fun q hq => (show q = 0 by omega) ▸ Or.inl rfl))
theorem zu_wr {I J : Nat → Nat → Int32} {D : Nat → Nat → Nat} {s : Nat} {f : Nat → Nat} (h : zu_D I D) (h1 : ∀ i, i < 16 → J 157 (16 * s + i) = nI (f i)) (h2 : ∀ j, (j < 16 * s ∨ 16 * s + 16 ≤ j) → J 157 j = I 157 j) : zu_D J (zw_ro D s f) := by
  intro q hq i hi
  by_cases e : q = s
  · rw [e, zw_ro_s]
    exact h1 i hi
  · rw [zw_ro_n _ _ e, h2 _ (by omega)]
    exact h q hq i hi
theorem zu_frn {I : Nat → Nat → Int32} (cs ss : List Nat) : zu_fr cs ss I I := fun _ _ _ _ => rfl
theorem zu_frW {c c' s s' : List Nat} {I J : Nat → Nat → Int32} (h : zu_fr c s I J) (hc : ∀ x, x ∈ c → x ∈ c' := by decide) (hs : ∀ x, x ∈ s → x ∈ s' := by decide) : zu_fr c' s' I J := fun a i h1 h2 => h a i (fun z => h1 (hc a z)) (h2.imp id (fun z y => z (hs i y)))
set_option maxHeartbeats 4000000 in
set_option maxRecDepth 100000 in
theorem lm_writes {V : zv_V} (E : zv_OK V) {w : zw_W} {n0 u0 : Nat} {Q : zg_O → zw_W → Prop} (HM : zl_M w) {D : Nat → Nat → Nat} {H : za_H} (hD : zu_D (zw_i w) D) (hH : zu_H (zw_i w) H) {k : Nat} (hk : k < H.1) (hW : za_WH H) (hq : ∀ J, zu_D J (zw_ro D (H.2.1 k) (H.2.2 k)) → zu_fr [157] [] (zw_i w) J → Q (.inl none) (zw_I w J)) : ∀ (n i : Nat) (J : Nat → Nat → Int32), i ≤ 16 → 16 + 1 ≤ i + n → (∀ j, j < i → J 157 (16 * H.2.1 k + j) = nI (H.2.2 k j)) → (∀ j, (j < 16 * H.2.1 k ∨ 16 * H.2.1 k + 16 ≤ j) → J 157 j = zw_i w 157 j) → zu_fr [157] [] (zw_i w) J → zg_G V zm_X4_writes 0 0 n0 u0 2 [] [(2, .int (nI i)), (0, .ref 156), (1, .int (nI k))] (zw_I w J) Q := by
  intro n
  induction n with
  | zero =>
    intro i J hi hn
    exact absurd hn (by omega)
  | succ n ih =>
    intro i J hi hn k0 k1 k2
    have hHJ : zu_H J H := zu_fH hH k2
    have h77 := hW.1
    have h48 := hW.2.1 k hk
    refine zg_iload_n dX4_writes_2 rfl ?_
    refine zg_bipush (v := nI 16) dX4_writes_3 (by decide) ?_
    refine zg_icmp_ge (tgt := 41) dX4_writes_5 (by decide) (fun h5 => ?_) (fun h5 => ?_)
    · obtain rfl : i = 16 := by have := zn_ge h5 (by omega) (by omega); omega
      exact zg_vret rfl dX4_writes_41 (hq J (zu_wr hD k0 k1) k2)
    · have hlt : i < 16 := zn_lt h5 (by omega) (by omega)
      refine zg_aload_n dX4_writes_8 rfl ?_
      refine zg_getR E (ci := 4) (j := 0) (r := 157) dX4_writes_9 rfl (congrArg Prod.fst (zl_Mat HM (k := 156) (t := (4, 17)) rfl (by decide) (by decide))) (by decide) (zl_Mlt HM (by decide)) (by decide) fl_X4_7 rfl (zl_Mrf HM rfl (by decide) (by decide)) ?_
      refine zg_bipush (v := nI 16) dX4_writes_12 (by decide) ?_
      refine zg_aload_n dX4_writes_14 rfl ?_
      refine zg_getR E (ci := 4) (j := 12) (r := 163) dX4_writes_15 rfl (congrArg Prod.fst (zl_Mat HM (k := 156) (t := (4, 17)) rfl (by decide) (by decide))) (by decide) (zl_Mlt HM (by decide)) (by decide) fl_X4_29 rfl (zl_Mrf HM rfl (by decide) (by decide)) ?_
      refine zg_iload_n dX4_writes_18 rfl ?_
      refine zg_iald E (j := k) dX4_writes_19 (zl_Mat HM (k := 163) (t := (10, 100)) rfl (by decide) (by decide)) (by decide) (zl_Mlt HM (by decide)) rfl (by omega) (by decide) ?_
      refine zg_v (x' := nI (H.2.1 k)) (hHJ.2.1 k hk) ?_
      refine zg_imul dX4_writes_20 ?_
      refine zg_v (x' := nI (16 * (H.2.1 k))) (pk_mul _ _) ?_
      refine zg_iload_n dX4_writes_21 rfl ?_
      refine zg_iadd dX4_writes_22 ?_
      refine zg_v (x' := nI ((16 * (H.2.1 k)) + i)) (nI_add _ _) ?_
      refine zg_aload_n dX4_writes_23 rfl ?_
      refine zg_getR E (ci := 4) (j := 13) (r := 164) dX4_writes_24 rfl (congrArg Prod.fst (zl_Mat HM (k := 156) (t := (4, 17)) rfl (by decide) (by decide))) (by decide) (zl_Mlt HM (by decide)) (by decide) fl_X4_32 rfl (zl_Mrf HM rfl (by decide) (by decide)) ?_
      refine zg_bipush (v := nI 16) dX4_writes_27 (by decide) ?_
      refine zg_iload_n dX4_writes_29 rfl ?_
      refine zg_imul dX4_writes_30 ?_
      refine zg_v (x' := nI (16 * k)) (pk_mul _ _) ?_
      refine zg_iload_n dX4_writes_31 rfl ?_
      refine zg_iadd dX4_writes_32 ?_
      refine zg_v (x' := nI ((16 * k) + i)) (nI_add _ _) ?_
      refine zg_iald E (j := (16 * k) + i) dX4_writes_33 (zl_Mat HM (k := 164) (t := (10, 1600)) rfl (by decide) (by decide)) (by decide) (zl_Mlt HM (by decide)) rfl (by omega) (by decide) ?_
      refine zg_v (x' := nI (H.2.2 k i)) (hHJ.2.2 k hk i hlt) ?_
      refine zg_iast E (j := (16 * (H.2.1 k)) + i) dX4_writes_34 (zl_Mat HM (k := 157) (t := (10, 768)) rfl (by decide) (by decide)) (by decide) (zl_Mlt HM (by decide)) rfl (by omega) (by decide) ?_
      refine zg_iinc (v := nI (i + 1)) (lv' := [(2, .int (nI (i + 1))), (0, .ref 156), (1, .int (nI k))]) dX4_writes_35 rfl (nI_1 i) (by decide) rfl ?_
      refine zg_goto (tgt := 2) dX4_writes_38 (by decide) ?_
      refine zg_l [0, 1, 2] rfl ?_
      exact zg_s rfl rfl rfl (ih (i + 1) _ (by omega) (by omega) (fun j hj => (Nat.lt_or_ge j i).elim (fun z => (zw_up_n _ _ (Or.inr (by omega))).trans (k0 j z)) (fun z => by have e : j = i := (by omega); subst e; exact zw_up_s _ _ _ _)) (fun j hj => (zw_up_n _ _ (Or.inr (by omega))).trans (k1 j hj)) (fun a j h1 h2 => (zw_up_n _ _ (Or.inl (fun z => h1 (by rw [z]; exact List.mem_singleton.mpr rfl)))).trans (k2 a j h1 h2)))
set_option maxHeartbeats 4000000 in
set_option maxRecDepth 100000 in
theorem mt_writes {V : zv_V} (E : zv_OK V) {w : zw_W} (HM : zl_M w) {D : Nat → Nat → Nat} {H : za_H} (hD : zu_D (zw_i w) D) (hH : zu_H (zw_i w) H) {k : Nat} (hk : k < H.1) (hW : za_WH H)  : zg_C V zm_X4_writes yX4_writes 0 0 [.ref 156, .int (nI k)] w (zq_p (.inl none) (zu_to w [157] [] (zu_D · (zw_ro D (H.2.1 k) (H.2.2 k))))) := by
  refine zg_of (by decide +kernel) rfl (Nat.le_of_ble_eq_true rfl) ?_
  show zg_G V zm_X4_writes 0 0 w.1 w.2.1 0 [] [(0, .ref 156), (1, .int (nI k))] w _
  refine zg_iconst (v := nI 0) dX4_writes_0 (by decide) ?_
  refine zg_istore_n (lv' := [(2, .int (nI 0)), (0, .ref 156), (1, .int (nI k))]) dX4_writes_1 (by decide) rfl ?_
  exact zg_s rfl rfl rfl (lm_writes E HM hD hH hk hW (fun J h1 h2 => ⟨rfl, J, rfl, h1, h2⟩) 17 0 (zw_i w) (by omega) (by omega) (fun j hj => absurd hj (Nat.not_lt_zero j)) (fun _ _ => rfl) (zu_frn [157] []))
set_option maxHeartbeats 4000000 in
set_option maxRecDepth 100000 in
theorem lm_flushed {V : zv_V} (E : zv_OK V) {w : zw_W} {n0 u0 : Nat} {Q : zg_O → zw_W → Prop} (HM : zl_M w) {D : Nat → Nat → Nat} {H : za_H} {b : Bool} {L S : za_T} {C : za_C} {t : Bool} (hW : za_WH H) (hq : ∀ J, zu_X J (za_car D H za_all H.1) (0, H.2) b L (if t then L else S) C false → zu_fr [157, 159] [4, 6, 14, 15] (zw_i w) J → Q (.inl (some (.int (nI H.1)))) (zw_I w J))  : ∀ (n i : Nat) (J : Nat → Nat → Int32), i ≤ H.1 → H.1 + 1 ≤ i + n → zu_X J (za_car D H za_all i) H b L S C t → zu_fr [157] [] (zw_i w) J → zg_G V zm_X4_flushed 1 30 n0 u0 7 [] [(2, .int (nI i)), (1, .int (nI H.1)), (0, .ref 156)] (zw_I w J) Q := by
  intro n
  induction n with
  | zero =>
    intro i J hi hn
    exact absurd hn (by omega)
  | succ n ih =>
    intro i J hi hn k0 k1
    have h77 := hW.1
    refine zg_iload_n dX4_flushed_7 rfl ?_
    refine zg_iload_n dX4_flushed_8 rfl ?_
    refine zg_icmp_ge (tgt := 23) dX4_flushed_9 (by decide) (fun h9 => ?_) (fun h9 => ?_)
    · obtain rfl : i = H.1 := by have := zn_ge h9 (by omega) (by omega); omega
      refine zg_aload_n dX4_flushed_23 rfl ?_
      refine zg_iconst (v := nI 0) dX4_flushed_24 (by decide) ?_
      refine zg_putI E (ci := 4) (j := 14) dX4_flushed_25 rfl (congrArg Prod.fst (zl_Mat HM (k := 156) (t := (4, 17)) rfl (by decide) (by decide))) (by decide) (zl_Mlt HM (by decide)) (by decide) fl_X4_54 rfl rfl rfl rfl ?_
      have f2 : zu_fr [] [14] J (zw_up J 156 14 (nI 0)) := zu_frS J 14 _
      have r2 : zu_X (zw_up J 156 14 (nI 0)) (za_car D H za_all H.1) (0, H.2) b L S C t := ⟨zu_fD k0.1 f2, ⟨zw_up_s _ _ _ _, fun k hk => absurd hk (Nat.not_lt_zero k), fun k hk => absurd hk (Nat.not_lt_zero k)⟩, zu_fs k0.2.2.1 f2, zu_fL k0.2.2.2.1 f2, zu_fS k0.2.2.2.2.1 f2, zu_fC k0.2.2.2.2.2.1 f2, zu_fs k0.2.2.2.2.2.2 f2⟩
      have f3 := zu_frT k1 f2
      obtain ⟨J2, e2⟩ : ∃ J2, J2 = zw_up J 156 14 (nI 0) := ⟨_, rfl⟩
      refine zg_w (w' := zw_I w J2) (by rw [e2]) ?_
      rw [← e2] at r2 f2 f3
      refine zg_aload_n dX4_flushed_28 rfl ?_
      refine zg_getI E (ci := 4) (j := 15) dX4_flushed_29 rfl (congrArg Prod.fst (zl_Mat HM (k := 156) (t := (4, 17)) rfl (by decide) (by decide))) (by decide) (zl_Mlt HM (by decide)) (by decide) fl_X4_57 rfl ?_
      refine zg_v (x' := za_bit t) r2.2.2.2.2.2.2 ?_
      refine zg_if_eq (tgt := 39) dX4_flushed_32 (by decide) (fun h32 => ?_) (fun h32 => ?_)
      · have ht := za_bit0 h32
        subst ht
        refine zg_iload_n dX4_flushed_39 rfl ?_
        exact zg_iret rfl dX4_flushed_40 (hq J2 r2 (zu_frW f3))
      · have ht := za_bit1 h32
        subst ht
        refine zg_aload_n dX4_flushed_35 rfl ?_
        refine zg_vrt (M := zm_X4_flushed) E (ci := 4) dX4_flushed_36 (mt_settle (w := zw_I w J2) E HM r2.2.2.2.1) wd_X4_77 rfl (congrArg Prod.fst (zl_Mat HM (k := 156) (t := (4, 17)) rfl (by decide) (by decide))) (by decide) (zl_Mlt HM (by decide)) rfl dh_X4_settle dn_X4_settle (Nat.le_of_ble_eq_true rfl) (Nat.le_of_ble_eq_true rfl) (Nat.le_of_ble_eq_true rfl) (zl_capM HM) rfl (fun w36 g36 => ?_)
        obtain ⟨J4, rfl, r4, f4⟩ := g36
        refine zg_w (w' := zw_I w J4) rfl ?_
        refine zg_iload_n dX4_flushed_39 rfl ?_
        exact zg_iret rfl dX4_flushed_40 (hq J4 ⟨zu_fD r2.1 f4, zu_fH r2.2.1 f4, zu_fs r2.2.2.1 f4, zu_fL r2.2.2.2.1 f4, r4.1, zu_fC r2.2.2.2.2.2.1 f4, r4.2⟩ (zu_frW (zu_frT f3 f4)))
    · have hlt : i < H.1 := zn_lt h9 (by omega) (by omega)
      refine zg_aload_n dX4_flushed_12 rfl ?_
      refine zg_iload_n dX4_flushed_13 rfl ?_
      refine zg_vrt (M := zm_X4_flushed) E (ci := 4) dX4_flushed_14 (mt_writes (w := zw_I w J) E HM k0.1 k0.2.1 hlt hW) wd_X4_90 rfl (congrArg Prod.fst (zl_Mat HM (k := 156) (t := (4, 17)) rfl (by decide) (by decide))) (by decide) (zl_Mlt HM (by decide)) rfl dh_X4_writes dn_X4_writes (Nat.le_of_ble_eq_true rfl) (Nat.le_of_ble_eq_true rfl) (Nat.le_of_ble_eq_true rfl) (zl_capM HM) rfl (fun w14 g14 => ?_)
      obtain ⟨J1, rfl, r1, f1⟩ := g14
      refine zg_w (w' := zw_I w J1) rfl ?_
      refine zg_iinc (v := nI (i + 1)) (lv' := [(2, .int (nI (i + 1))), (1, .int (nI H.1)), (0, .ref 156)]) dX4_flushed_17 rfl (nI_1 i) (by decide) rfl ?_
      refine zg_goto (tgt := 7) dX4_flushed_20 (by decide) ?_
      refine zg_l [0, 1, 2] rfl ?_
      exact zg_s rfl rfl rfl (ih (i + 1) J1 (by omega) (by omega) ⟨r1, zu_fH k0.2.1 f1, zu_fs k0.2.2.1 f1, zu_fL k0.2.2.2.1 f1, zu_fS k0.2.2.2.2.1 f1, zu_fC k0.2.2.2.2.2.1 f1, zu_fs k0.2.2.2.2.2.2 f1⟩ (zu_frW (zu_frT k1 f1)))
set_option maxHeartbeats 4000000 in
set_option maxRecDepth 100000 in
theorem mt_flushed {V : zv_V} (E : zv_OK V) {w : zw_W} (HM : zl_M w) {D : Nat → Nat → Nat} {H : za_H} {b : Bool} {L S : za_T} {C : za_C} {t : Bool} (hM : zu_X (zw_i w) D H b L S C t) (hW : za_WH H) : zg_C V zm_X4_flushed yX4_flushed 1 30 [.ref 156] w (zq_p (.inl (some (.int (nI H.1)))) (zu_to w [157, 159] [4, 6, 14, 15] (zu_X · (za_car D H za_all H.1) (0, H.2) b L (if t then L else S) C false))) := by
  refine zg_of (by decide +kernel) rfl (Nat.le_of_ble_eq_true rfl) ?_
  show zg_G V zm_X4_flushed 1 30 w.1 w.2.1 0 [] [(0, .ref 156)] w _
  refine zg_aload_n dX4_flushed_0 rfl ?_
  refine zg_getI E (ci := 4) (j := 14) dX4_flushed_1 rfl (congrArg Prod.fst (zl_Mat HM (k := 156) (t := (4, 17)) rfl (by decide) (by decide))) (by decide) (zl_Mlt HM (by decide)) (by decide) fl_X4_54 rfl ?_
  refine zg_v (x' := nI H.1) hM.2.1.1 ?_
  refine zg_istore_n (lv' := [(1, .int (nI H.1)), (0, .ref 156)]) dX4_flushed_4 (by decide) rfl ?_
  refine zg_iconst (v := nI 0) dX4_flushed_5 (by decide) ?_
  refine zg_istore_n (lv' := [(2, .int (nI 0)), (1, .int (nI H.1)), (0, .ref 156)]) dX4_flushed_6 (by decide) rfl ?_
  refine zg_l [0, 1, 2] rfl ?_
  exact zg_s rfl rfl rfl (lm_flushed E HM hW (fun J h1 h2 => ⟨rfl, J, rfl, h1, h2⟩) (H.1 + 1) 0 (zw_i w) (by omega) (by omega) hM (zu_frn [157] []))
end
section
theorem zz_try : (1 : Nat) = 1 := rfl
end

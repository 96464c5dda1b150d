/-! The light judgement: throws, catches, contracts, calls, System.arraycopy. -/
def zg_cw (M : zg_M) (y : MethodName) : Cond := if M.2.2.2.2.isEmpty then .code y M.2.1 M.2.2.1 M.2.2.2.1 else .codeWith y M.2.1 M.2.2.1 M.2.2.2.1 M.2.2.2.2
/-- a method's contract: from the world w, called with args, it ends with Q; it needs fr frames, lc words of the stack -/
def zg_C (V : zv_V) (M : zg_M) (y : MethodName) (fr lc : Nat) (args : List Value) (w : zw_W) (Q : zg_O → zw_W → Prop) : Prop :=
  ∀ rm : Room, fr ≤ rm.frames → lc ≤ rm.locals → zc_cn ≤ w.1 + rm.cells → zc_cs ≤ w.2.1 + rm.slots →
    MetFree (zv_l V) y (headSpec [zg_cw M y] rm) (fun a s => a = (args.map (zv_cv V)).toArray ∧ (zv_s V).WarmedH s.vm ∧ zw_P V w s.heap) (fun _ _ _ _ _ => True) (fun _ s o t => zg_F V s w.1 w.2.1 Q o t)
theorem zg_cw_spec {M : zg_M} {y : MethodName} {args : Array Value} {s : State} {m : MethodId} (h : (zg_cw M y).before args s = true) (hn : s.methodNamed? y = some m) :
    ∃ meth c, s.vm.method? m = some meth ∧ meth.code = some c ∧ c.code = M.2.1 ∧ c.maxLocals = M.2.2.1 ∧ meth.sig.returnType = M.2.2.2.1 ∧ meth.locks = false ∧ c.exceptionTable.toList = tableOf M.2.2.2.2 := by
  unfold zg_cw at h
  split at h
  · rename_i hh
    obtain ⟨meth, c, h1, h2, h3, h4, h5, h6, h7, -⟩ := Cond.code_spec hn h
    have e : M.2.2.2.2 = [] := List.isEmpty_iff.mp hh
    refine ⟨meth, c, h1, h2, h3, h4, h5, h6, ?_⟩
    rw [e, Array.isEmpty_iff.mp h7]
    rfl
  · obtain ⟨m9, meth, c, hn9, h1, h2, h3, h4, h6, h7, h8, -⟩ := Cond.codeWith_spec h
    cases hn.symm.trans hn9
    refine ⟨meth, c, h1, h2, h3, h4, h7, h8, ?_⟩
    rw [← h6, table_eq]
theorem zg_args (V : zv_V) : ∀ (vs : List Value) (i : Nat), lv_args i (vs.map (zv_cv V)) = (lv_args i vs).map (zv_lp V)
  | [], _ => rfl
  | v :: vs, i => by
    show (i, zv_cv V v) :: lv_args _ (vs.map (zv_cv V)) = zv_lp V (i, v) :: (lv_args _ vs).map (zv_lp V)
    rw [zg_args V vs, zv_cat]
    rfl
theorem zg_sls (V : zv_V) : ∀ (vs : List Value), (lg_sl (vs.map (zv_cv V))).length = (lg_sl vs).length
  | [] => rfl
  | v :: vs => by
    have ih := zg_sls V vs
    unfold lg_sl at ih ⊢
    rw [List.map_cons, List.flatMap_cons, List.flatMap_cons, List.length_append, List.length_append, ih, zv_cat]
    split <;> rfl
/-- a contract out of the walk of the body -/
theorem zg_of {V : zv_V} {M : zg_M} {y : MethodName} {fr lc : Nat} {args : List Value} {w : zw_W} {Q : zg_O → zw_W → Prop} (hy : plainName y.cls = true) (hM : y.cls = M.1) (ha : (lg_sl args).length ≤ M.2.2.1) (hG : zg_G V M fr lc w.1 w.2.1 0 [] (lv_args 0 args) w Q) : zg_C V M y fr lc args w Q := by
  intro rm r1 r2 r3 r4
  refine MetFree.of_bodyS (code := M.2.1) (maxLocals := M.2.2.1) (ret := M.2.2.2.1) hy ?_ ?_
  · intro a s m h hn
    obtain ⟨meth, c, h1, h2, h3, h4, h5, h6, -⟩ := zg_cw_spec (atoms_spec (ws := [zg_cw M y]) h _ List.mem_cons_self) hn
    exact ⟨meth, c, h1, h2, h3, h4, h5, h6⟩
  · intro p e s m a below meth c s₁ B hml hP _
    obtain ⟨rfl, hW, hw⟩ := hP
    obtain ⟨meth', c', h1, h2, h3, h4, h5, h6, h7⟩ := zg_cw_spec (atoms_spec (ws := [zg_cw M y]) B.pre _ List.mem_cons_self) B.named
    cases h1.symm.trans B.method
    cases h2.symm.trans (Stand.of_body B).code
    have hown : s.vm.findClass M.1 = some m.cls := by rw [← hM]; exact findClass_of_methodNamed B.named
    have hh0 : s₁.heap = s.heap := by rw [B.state]; rfl
    have hl := lv_entry (args.map (zv_cv V)) (n := M.2.2.1) (by rw [zg_sls]; exact ha)
    rw [zg_args] at hl
    have hs := hw.1
    have hpos : 1 ≤ w.1 ∨ w.1 = 0 := by omega
    have g := hG p e rm s m (args.map (zv_cv V)).toArray below meth c s.heap [] 0 0 _ ⟨⟨B.exec, B.bytes, B.returns, hml, hown, B.notSynchronized, h7, hW, hw.2.1, ?_⟩, ⟨r1, r2, r3, r4⟩, rfl, rfl, hw, ⟨(fun _ h => nomatch h), hs⟩, hl⟩ s₁ hh0 (Stand.of_body B)
    · obtain ⟨t, a1, o, b1, b2, b3⟩ := g
      refine ⟨t, o, ?_, b1, b2, b3⟩
      rw [lg_entry_eq]
      exact a1
    · rcases Nat.lt_or_ge s.heap.size (zv_S V) with h | h
      · exfalso
        have h9 := hw.2.1 s.heap.size h
        rw [Array.getElem?_eq_getElem h] at h9
        simp at h9
      · exact h
/-- words that a step which only resolves can't change -/
def zx_fc (w : Cond) : Bool := w.onTables && w.keepsFace
theorem zx_face {args a' : Array Value} {s U : State} {w : Cond} (hW : s.WarmedH U.vm) (hg : zx_fc w = true) (h : w.before args s = true) : w.before a' U = true := by
  unfold zx_fc at hg
  rw [Bool.and_eq_true] at hg
  exact va_tabs hg.1 (rfl : (s.setVm U.vm).vm = U.vm) (Cond.before_shiftedFace (State.Shifted.of_warmed hW) _ hg.2 h)
section ZCA
variable {V : zv_V} {M : zg_M} {fr lc n0 u0 pc : Nat} {st : List Value} {lv : List (Nat × Value)} {w : zw_W} {Q : zg_O → zw_W → Prop}
/-- the kinds of exceptions are classes of no fields of ours: nothing is told of their cells -/
theorem zw_exc {V : zv_V} {k : Nat} (hk : 14 ≤ k) (n : Nat) (r : Nat → Option Nat) (i : Nat → Int32) (lo : Nat → Int64) (a : Nat) (H : Heap) : zw_cell V (k, n) r i lo a H := by
  unfold zw_cell
  have h1 : ¬ (k, n).1 < 5 := by show ¬ k < 5; omega
  have h2 : ¬ (k, n).1 = 10 := by show ¬ k = 10; omega
  have h3 : ¬ (k, n).1 = 11 := by show ¬ k = 11; omega
  have h4 : ¬ (k, n).1 = 12 := by show ¬ k = 12; omega
  have h5 : ¬ (k, n).1 = 13 := by show ¬ k = 13; omega
  rw [if_neg h1, if_neg h2, if_neg h3, if_neg h4, if_neg h5]
  trivial
theorem zg_throw (E : zv_OK V) (k : Nat) {ik is ic : Nat} {text : String} (hkk : k = 20 ∨ k = 21) (hM : M.1 = "FlipPages") (hh : M.2.2.2.2 = []) (d0 : decode M.2.1 pc = .ok (.new ik, 3)) (d3 : decode M.2.1 (pc + 3) = .ok (.dup, 1)) (d4 : decode M.2.1 (pc + 4) = .ok (.ldc is, 2)) (d6 : decode M.2.1 (pc + 6) = .ok (.invokespecial ic, 3)) (d9 : decode M.2.1 (pc + 9) = .ok (.athrow, 1))
    (htx : (is, text) ∈ zc_tx) (hw1 : Cond.classLink "FlipPages" ik (zc_ex k) ∈ lw_tbl) (hw2 : Cond.initialized (zc_ex k) ∈ lw_tbl) (hw3 : ∀ x ∈ vx_atS "FlipPages" ic (zc_ex k) ["java/lang/RuntimeException", "java/lang/Exception"], x ∈ lw_tbl ∧ zx_fc x = true)
    (h1 : 1 ≤ w.1) (hcn : w.1 + 1 ≤ zc_cn) (hcs : w.2.1 + 6 ≤ zc_cs) (hfr : 6 ≤ fr) (hst : (st.map fun v => v.category).sum + 82 ≤ lc) (hq : Q (.inr k) (zw_nw w (k, 6))) : zg_G V M fr lc n0 u0 pc st lv w Q := by
  intro p e R s m args below meth c H locs cells slots ls K T hT X
  have hr := K.2.1
  have hc1 := K.2.2.1
  have hc2 := K.2.2.2.1
  have hP := K.2.2.2.2.1
  have hal := K.1.2.2.2.2.2.2.2.1.alike
  obtain ⟨sa, hsa⟩ := E.2.2.2.2.2.2.2.2.2.2.2.1 (is, text) htx
  have hfits : Bundle.fit (zc_ex k) = true := by
    rcases hkk with rfl | rfl <;> decide +kernel
  have hold : ∀ a : Nat, a < (zv_s V).heap.size → ¬ (fun q => zv_S V ≤ q) a → T.heap[a]? = (zv_s V).heap[a]? := fun a ha _ => by rw [hT]; exact hP.2.1 a ha
  have hcat : (((st.map (zv_cv V)).map fun v => v.category).sum) = (st.map fun v => v.category).sum := by
    rw [List.map_map]
    exact congrArg List.sum (List.map_congr_left fun v _ => zv_cat V v)
  obtain ⟨U, a1, a2, a3, a4, a5, a6, a7, ce, a8, a9, a10⟩ := zz_throwS (cc := M.2.1) (pc := pc) (ls := ls) (rest := st.map (zv_cv V)) (own := "FlipPages") (cls := zc_ex k) (names := ["java/lang/RuntimeException", "java/lang/Exception"]) (ik := ik) (is := is) (ic := ic) (text := text) (sa := sa) (A := fun q => zv_S V ≤ q) X K.1.1 K.1.2.1 E.1 (by rw [← hM]; exact K.1.2.2.2.2.1) hfits (by decide +kernel)
    (zx_w E K.1 hw1 rfl args) (zx_w E K.1 hw2 rfl args) (vk_R.warm K.1.2.2.2.2.2.2.2.1 hsa) (fun x hx => zx_face K.1.2.2.2.2.2.2.2.1 (hw3 x hx).2 (E.2.1 x (hw3 x hx).1))
    (fun x hx => by
      have hgx : x.onTables = true := by
        rcases List.mem_cons.mp hx with rfl | hx
        · rfl
        · rcases List.mem_cons.mp hx with rfl | hx
          · rfl
          · have h9 := (hw3 x hx).2
            unfold zx_fc at h9
            rw [Bool.and_eq_true] at h9
            exact h9.1
      show (x.onTables || goodWord x) = true
      rw [hgx, Bool.true_or])
    (vx_Zq.moved hal (E.2.2.2.2.2.2.2.2.2.1.kept hold)) (vx_Zq.moved hal (E.2.2.2.2.2.2.2.2.2.2.1.kept hold)) (K.2.2.2.2.2.2.1.trans K.1.2.2.2.1.symm) d0 d3 d4 d6 d9
    (fun x hx => by rw [K.1.2.2.2.2.2.2.1, hh] at hx; exact nomatch hx) (by show 2 + 3 < R.frames; omega) (by rw [hcat]; show _ + (13 * (2 + 1) + 43) ≤ _; omega) (by omega) (by omega) K.1.2.2.2.2.2.1
  rw [hT] at a3 a6 a7 a8
  have had := zw_adn hP h1
  refine ⟨U, a1, .threw H.size, a2, a3, .inr k, zw_nw w (k, 6), locs, ⟨w.1, ce, by rw [had], by rw [had]; exact a8, a9, by rw [← hal.findClass]; exact a10⟩, ?_, hq, by show n0 ≤ w.1 + 1; omega, by show u0 ≤ w.2.1 + 6; omega, a4, ?_, K.2.2.2.2.2.1.1⟩
  · exact zw_push hP h1 rfl a6 a7 zw_rest_n (by
      show zw_cell V (zw_ro (zw_t w) w.1 (k, 6) w.1) _ _ _ _ _
      rw [zw_ro_s]
      exact zw_exc (by omega) _ _ _ _ _ _)
  · show s.sameButNew _ locs (w.1 + 1 - n0) (w.2.1 + 6 - u0)
    rw [show w.1 + 1 - n0 = cells + 1 by omega, show w.2.1 + 6 - u0 = slots + 6 by omega]
    exact a5
/-- no handlers here: the exception leaves the method -/
theorem zg_out {k : Nat} (hh : M.2.2.2.2 = []) (hq : Q (.inr k) w) : zg_T V M fr lc n0 u0 pc k lv w Q := by
  intro p e R s m args below meth c H locs cells slots ls rest kx ce K hce hcv hcl T hT X
  have hc1 := K.2.2.1
  have hc2 := K.2.2.2.1
  obtain ⟨st1, hrun, hend, hW, hsm⟩ := X.leaveThrown (zv_ad V kx) (g := F0 m pc ls rest) rfl rfl rfl (fun x hx => by rw [K.1.2.2.2.2.2.2.1, hh] at hx; exact nomatch hx) K.1.2.2.2.2.2.1
  refine ⟨_, st1, .threw (zv_ad V kx), hrun, hend, .inr k, w, locs, ⟨kx, ce, rfl, ?_, hcv, ?_⟩, ?_, hq, by omega, by omega, hW, ?_, K.2.2.2.2.2.1.1⟩
  · show T.heap[zv_ad V kx]? = some ce
    rw [hT]
    exact hce
  · rw [← K.1.2.2.2.2.2.2.2.1.alike.findClass]
    exact hcl
  · show zw_P V w T.heap
    rw [hT]
    exact K.2.2.2.2.1
  · rw [show w.1 - n0 = cells by omega, show w.2.1 - u0 = slots by omega]
    exact hsm
theorem zg_catch (E : zv_OK V) {k : Nat} {pre suf : List ExceptionTableEntry} {x : ExceptionTableEntry} (hs : tableOf M.2.2.2.2 = pre ++ x :: suf) (hp : ∀ z ∈ pre, covers z pc = false ∨ (z.catchType ≠ 0 ∧ ∃ nm : String, Cond.classLink M.1 z.catchType nm ∈ lw_tbl ∧ va_Nc (zc_ex k) nm (zv_s V))) (hx : covers x pc = true) (h0 : x.catchType ≠ 0)
    (hl : Cond.classLink M.1 x.catchType (zc_ex k) ∈ lw_tbl) (hca : Cond.castable (zc_ex k) (zc_ex k) ∈ lw_tbl) (kk : ∀ kx, zg_G V M fr lc n0 u0 x.handlerPc [.ref kx] lv w Q) : zg_T V M fr lc n0 u0 pc k lv w Q := by
  intro p e R s m args below meth c H locs cells slots ls rest kx ce K hce hcv hcl
  have hal := K.1.2.2.2.2.2.2.2.1
  refine zz_catch K.1.2.2.2.2.1 pre x suf (by rw [K.1.2.2.2.2.2.2.1]; exact hs) (fun z hz => ?_) hx h0 (zx_w E K.1 hl rfl args) (va_Nw.use rfl (va_Nw.warmC hal (va_Nw.of rfl (E.2.1 _ hca)))) hce hcv hcl (kk kx p e R s m args below meth c H locs cells slots ls K)
  rcases hp z hz with h | ⟨h, nm, h1, h2⟩
  · exact Or.inl h
  · exact Or.inr ⟨h, nm, zx_w E K.1 h1 rfl args, h2.moved hal.alike⟩
end ZCA

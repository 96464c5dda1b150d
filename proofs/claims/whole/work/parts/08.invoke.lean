/-! The light judgement: calls and System.arraycopy. -/
section ZDA
variable {V : zv_V} {M : zg_M} {fr lc n0 u0 pc : Nat} {st : List Value} {lv : List (Nat × Value)} {w : zw_W} {Q : zg_O → zw_W → Prop}
theorem zv_cats (V : zv_V) (st : List Value) : (((st.map (zv_cv V)).map fun v => v.category).sum) = (st.map fun v => v.category).sum := by
  rw [List.map_map]
  exact congrArg List.sum (List.map_congr_left fun v _ => zv_cat V v)
/-- the callee's run, once its frame is to be laid -/
theorem zg_into {p : Program} {e : Env} {R : Room} {s : State} {m : MethodId} {args : Array Value} {below : List Frame} {meth : Method} {c : Code} {H : Heap} {locs : List Loc} {cells slots : Nat} {ls : Array Slot} {U : State} {M' : zg_M} {y : MethodName} {fr' lc' : Nat} {av : List Value} {Qc : zg_O → zw_W → Prop} {ig : Instr} {mk : MethodId}
    (E : zv_OK V) (K : zg_K V M fr lc n0 u0 lv w p R s m meth c H locs cells slots ls) (hU : U.heap = H) (X : Stand p (zv_l V) e R s m args below meth c U locs cells slots) (hC : zg_C V M' y fr' lc' av w Qc) (hfr : fr' + 1 ≤ fr) (hlc : 19 + M'.2.2.1 + lc' ≤ lc) (hst : (st.map fun v => v.category).sum ≤ 8) (hcn : w.1 ≤ zc_cn) (hcs : w.2.1 ≤ zc_cs)
    (hd : decode M.2.1 pc = .ok (ig, 3)) (hmk : U.methodNamed? y = some mk) (hwc : zg_cw M' y ∈ lw_tbl) (hwg : goodWord (zg_cw M' y) = true) (hwi : Cond.initialized y.cls ∈ lw_tbl)
    (kr : ∀ v w', Qc (.inl v) w' → zg_G V M fr lc n0 u0 (pc + 3) (v.toList ++ st) lv w' Q) (kt : ∀ k w', Qc (.inr k) w' → zg_T V M fr lc n0 u0 pc k lv w' Q) :
    ∃ t, Steps p.tables e below (doInvoke e (U.setTop (F0 m pc ls (st.map (zv_cv V)))) [] mk (av.map (zv_cv V)).toArray).1 t ∧ zg_E V below s n0 u0 Q t := by
  have hr := K.2.1
  have hc1 := K.2.2.1
  have hc2 := K.2.2.2.1
  have hP := K.2.2.2.2.1
  have hWU : (zv_s V).WarmedH U.vm := State.WarmedH.trans K.1.2.2.2.2.2.2.2.1 X.warmed
  have hword : ∀ a : Array Value, (zg_cw M' y).before a U = true := fun a => word_at hWU (good_of_word hwg) (E.2.1 _ hwc)
  have hini : ∀ a : Array Value, (Cond.initialized y.cls).before a U = true := fun a => word_at hWU (good_of_word rfl) (E.2.1 _ hwi)
  obtain ⟨methY, cY, hmY, hcY, -, hlY, -⟩ := zg_cw_spec (hword #[]) hmk
  obtain ⟨o, t, hq, hb⟩ := zb_back (S := headSpec [zg_cw M' y] { frames := fr', cells := zc_cn - w.1, slots := zc_cs - w.2.1, locals := lc' }) (W9 := 8) (g := F0 m pc ls (st.map (zv_cv V))) (ig := ig) (len := 3) (a := (av.map (zv_cv V)).toArray) (hC { frames := fr', cells := zc_cn - w.1, slots := zc_cs - w.2.1, locals := lc' } (Nat.le_refl _) (Nat.le_refl _) (by show zc_cn ≤ w.1 + (zc_cn - w.1); omega) (by show zc_cs ≤ w.2.1 + (zc_cs - w.2.1); omega)) X rfl (K.2.2.2.2.2.2.1.trans K.1.2.2.2.1.symm) (by rw [K.1.2.1]; exact hd) (by show 2 * 0 + ((st.map (zv_cv V)).map fun v => v.category).sum ≤ 8; rw [zv_cats]; omega) hmk hmY hcY hlY (hini _)
    (by show fr' + 1 ≤ R.frames; omega) (by show 8 + (M'.2.2.1 + 11) + lc' ≤ R.locals; omega) (by show cells + (zc_cn - w.1) ≤ R.cells; omega) (by show slots + (zc_cs - w.2.1) ≤ R.slots; omega) (atoms_intro fun x hx => by rw [List.mem_singleton.mp hx]; exact hword _) ⟨rfl, hWU, by show zw_P V w U.heap; rw [hU]; exact hP⟩
  obtain ⟨o', w', L, q1, q2, q3, q4, q5, q6, q7, q8⟩ := hq
  obtain ⟨U', e1, e2, X', sr, sx⟩ := hb L _ _ q6 q7
  have K' : zg_K V M fr lc n0 u0 lv w' p R s m meth c U'.heap (locs ++ L) (cells + (w'.1 - w.1)) (slots + (w'.2.1 - w.2.1)) ls := by
    refine ⟨K.1, K.2.1, by omega, by omega, by rw [e1]; exact q2, ⟨fun q hq => ?_, K.2.2.2.2.2.1.2⟩, K.2.2.2.2.2.2⟩
    rcases List.mem_append.mp hq with h | h
    · exact K.2.2.2.2.2.1.1 q h
    · exact q8 q h
  match o', q1, q3 with
  | .inl v, q1, q3 =>
    have q1 : o = .returned (v.map (zv_cv V)) := q1
    obtain ⟨t2, a1, b1⟩ := kr v w' q3 p e R s m args below meth c U'.heap _ _ _ ls K' U' rfl X'
    refine ⟨t2, (sr _ q1).trans ?_, b1⟩
    have es : (v.map (zv_cv V)).toList ++ st.map (zv_cv V) = (v.toList ++ st).map (zv_cv V) := by
      cases v <;> simp
    show Steps p.tables e below (U'.setTop (F0 m (pc + 3) ls ((v.map (zv_cv V)).toList ++ st.map (zv_cv V)))) t2
    rw [es]
    exact a1
  | .inr k, q1, q3 =>
    obtain ⟨kx, ce, g1, g2, g3, g4⟩ := q1
    obtain ⟨t2, a1, b1⟩ := kt k w' q3 p e R s m args below meth c U'.heap _ _ _ ls (st.map (zv_cv V)) kx ce K' (by rw [e1]; exact g2) g3 (by rw [K.1.2.2.2.2.2.2.2.1.alike.findClass]; exact g4) U' rfl X'
    exact ⟨t2, (sx _ g1).trans a1, b1⟩
theorem zg_len {y : MethodName} {n : Nat} (h : (parseMethodDescriptor y.desc).map (fun d => d.parameters.length) = some n) : ∀ sig, parseMethodDescriptor y.desc = some sig → n = sig.parameters.length := fun sig hs => by
  rw [hs] at h
  exact (Option.some.inj h).symm
theorem zg_invS (E : zv_OK V) {M' : zg_M} {y : MethodName} {fr' lc' i : Nat} {av : List Value} {Qc : zg_O → zw_W → Prop} (hd : decode M.2.1 pc = .ok (.invokestatic i, 3)) (hC : zg_C V M' y fr' lc' av w Qc) (hw : [Cond.methodLink M.1 i y, Cond.static y, Cond.initialized y.cls, zg_cw M' y].all (fun x => decide (x ∈ lw_tbl) && goodWord x) = true)
    (hy : y.cls ≠ "java/lang/invoke/MethodHandle" ∧ y.cls ≠ "java/lang/invoke/VarHandle") (hn : (parseMethodDescriptor y.desc).map (fun d => d.parameters.length) = some av.length) (hfr : fr' + 1 ≤ fr) (hlc : 19 + M'.2.2.1 + lc' ≤ lc) (hst : (st.map fun v => v.category).sum ≤ 8) (hcn : w.1 ≤ zc_cn) (hcs : w.2.1 ≤ zc_cs)
    {st0 : List Value} (h0 : st0 = av.reverse ++ st) (kr : ∀ v w', Qc (.inl v) w' → zg_G V M fr lc n0 u0 (pc + 3) (v.toList ++ st) lv w' Q) (kt : ∀ k w', Qc (.inr k) w' → zg_T V M fr lc n0 u0 pc k lv w' Q) : zg_G V M fr lc n0 u0 pc st0 lv w Q := by
  subst h0
  simp only [List.all_cons, List.all_nil, Bool.and_true, Bool.and_eq_true, decide_eq_true_eq] at hw
  obtain ⟨⟨h1, g1⟩, ⟨h2, g2⟩, ⟨h3, g3⟩, ⟨h4, g4⟩⟩ := hw
  intro p e R s m args below meth c H locs cells slots ls K T hT X
  have hstat := zx_w E K.1 h2 g2 args
  have hcw := zx_w E K.1 h4 g4 args
  obtain ⟨mk, hnamed⟩ : ∃ mk, s.methodNamed? y = some mk := by
    unfold zg_cw at hcw
    split at hcw
    · exact Cond.code_named hcw
    · obtain ⟨m9, _, _, hn9, _⟩ := Cond.codeWith_spec hcw
      exact ⟨m9, hn9⟩
  obtain ⟨methM, cM, hmethM, -⟩ := zg_cw_spec hcw hnamed
  have hstatic : methM.isStatic = true := Cond.static_spec hnamed hmethM hstat
  obtain ⟨kP, hkP, -⟩ := className_of_methodNamed hnamed
  have hinitP : kP.init = .initialized := Cond.initialized_spec (findClass_of_methodNamed hnamed) hkP (zx_w E K.1 h3 g3 args)
  have hsig : (av.map (zv_cv V)).length = methM.sig.parameters.length := by
    rw [List.length_map]
    have hp : parseMethodDescriptor y.desc = some methM.sig := by
      unfold zg_cw at hcw
      split at hcw
      · obtain ⟨m2, _, g2, _, _, _, _, _, _, g9⟩ := Cond.code_spec hnamed hcw
        cases hmethM.symm.trans g2
        exact g9
      · obtain ⟨m9, m2, _, hn9, g2, _, _, _, _, _, _, g9⟩ := Cond.codeWith_spec hcw
        cases hnamed.symm.trans hn9
        cases hmethM.symm.trans g2
        exact g9
    exact zg_len hn _ hp
  obtain ⟨vm₁, X₁, hstep₁⟩ := X.invokestatic K.1.1 K.1.2.2.2.2.1 (zx_w E K.1 h1 g1 args) hnamed hmethM hstatic hkP hinitP hy (g := F0 m pc ls ((av.reverse ++ st).map (zv_cv V))) rfl (argsL := av.map (zv_cv V)) (rest := st.map (zv_cv V)) hsig (by show (av.reverse ++ st).map (zv_cv V) = _; rw [List.map_append, List.map_reverse]) (by rw [K.1.2.1]; exact hd)
  obtain ⟨t, a1, b1⟩ := zg_into (U := T.setVm vm₁) E K hT X₁ hC hfr hlc hst hcn hcs hd (X₁.named hnamed) h4 g4 h3 kr kt
  exact ⟨t, hstep₁ _ fun acts => by rw [doInvoke_state]; exact a1, b1⟩
theorem zg_invV (E : zv_OK V) {M' : zg_M} {y : MethodName} {fr' lc' i k ci : Nat} {q : vw_C} {av : List Value} {Qc : zg_O → zw_W → Prop} (hd : decode M.2.1 pc = .ok (.invokevirtual i, 3)) (hC : zg_C V M' y fr' lc' (.ref k :: av) w Qc) (hw : [Cond.methodLink M.1 i y, Cond.instanceMethod y, Cond.selects q.1 y y, Cond.initialized y.cls, zg_cw M' y].all (fun x => decide (x ∈ lw_tbl) && goodWord x) = true)
    (hc : zc_cl[ci]? = some q) (ht : (zw_t w k).1 = ci) (hk : 1 ≤ k) (hkn : k < w.1) (hh : M'.2.2.2.2 = []) (hy : y.cls ≠ "java/lang/invoke/MethodHandle" ∧ y.cls ≠ "java/lang/invoke/VarHandle") (hn : (parseMethodDescriptor y.desc).map (fun d => d.parameters.length) = some av.length) (hfr : fr' + 1 ≤ fr) (hlc : 19 + M'.2.2.1 + lc' ≤ lc) (hst : (st.map fun v => v.category).sum ≤ 8) (hcn : w.1 ≤ zc_cn) (hcs : w.2.1 ≤ zc_cs)
    {st0 : List Value} (h0 : st0 = av.reverse ++ .ref k :: st) (kr : ∀ v w', Qc (.inl v) w' → zg_G V M fr lc n0 u0 (pc + 3) (v.toList ++ st) lv w' Q) (kt : ∀ k w', Qc (.inr k) w' → zg_T V M fr lc n0 u0 pc k lv w' Q) : zg_G V M fr lc n0 u0 pc st0 lv w Q := by
  subst h0
  simp only [List.all_cons, List.all_nil, Bool.and_true, Bool.and_eq_true, decide_eq_true_eq] at hw
  obtain ⟨⟨h1, g1⟩, ⟨h2, g2⟩, ⟨h5, g5⟩, ⟨h3, g3⟩, ⟨h4, g4⟩⟩ := hw
  intro p e R s m args below meth c H locs cells slots ls K T hT X
  have hinst := zx_w E K.1 h2 g2 args
  have hsel := zx_w E K.1 h5 g5 args
  have hcw := zx_w E K.1 h4 g4 args
  have hcode : (Cond.code y M'.2.1 M'.2.2.1 M'.2.2.2.1).before args s = true := by
    unfold zg_cw at hcw
    rw [hh] at hcw
    exact hcw
  obtain ⟨mk, methM, hnamed, hmethM, hstM, habM⟩ := Cond.instanceMethod_spec hinst
  obtain ⟨methM', cM, hmethM', -, -, -, -, -, -, hsigM⟩ := Cond.code_spec hnamed hcode
  cases hmethM.symm.trans hmethM'
  obtain ⟨-, cellB, b1, b2, b3, -⟩ := zw_obj K.2.2.2.2.1 hk hkn hc ht
  have hfc : s.vm.findClass q.1 = some cellB.cls := by
    rw [b2]
    exact (u_Kn_moved K.1.2.2.2.2.2.2.2.1.alike (E.2.2.2.2.1 ci q hc)).2.1
  obtain ⟨c2, r2, m2, q1, q2, q3, q4, kP, hkP, hkPi⟩ := Cond.selects_spec hsel
  cases hfc.symm.trans q1
  cases (State.methodFound?_of_named hnamed hy).symm.trans q2
  cases hnamed.symm.trans q3
  have hselP : selectMethod e.platform s.vm cellB.cls mk = .method mk := by rw [Launch.admits_selectMethod X.admits]; exact q4
  obtain ⟨vm₁, X₁, hstep₁⟩ := X.invokevirtual K.1.1 K.1.2.2.2.2.1 (zx_w E K.1 h1 g1 args) hnamed hmethM hstM hkP hkPi hy (a := zv_ad V k) (cell := cellB) (by rw [hT]; exact b1)
    (fun z h => by rw [b3] at h; cases h) hselP hmethM habM hkP hkPi (g := F0 m pc ls ((av.reverse ++ .ref k :: st).map (zv_cv V))) rfl (argsL := av.map (zv_cv V)) (rest := st.map (zv_cv V)) (by rw [List.length_map]; exact zg_len hn _ hsigM) (by show (av.reverse ++ .ref k :: st).map (zv_cv V) = _; rw [List.map_append, List.map_reverse, List.map_cons]; rfl) (by rw [K.1.2.1]; exact hd)
  obtain ⟨t, a1, b1⟩ := zg_into (U := T.setVm vm₁) E K hT X₁ hC hfr hlc hst hcn hcs hd (X₁.named hnamed) h4 g4 h3 kr kt
  exact ⟨t, hstep₁ _ fun acts => by rw [doInvoke_state]; exact a1, b1⟩
/-- a constructor; nest: of a nest mate's class -/
theorem zg_invI (E : zv_OK V) (nest : Bool) {M' : zg_M} {y : MethodName} {fr' lc' i k : Nat} {av : List Value} {Qc : zg_O → zw_W → Prop} (hd : decode M.2.1 pc = .ok (.invokespecial i, 3)) (hC : zg_C V M' y fr' lc' (.ref k :: av) w Qc) (hw : [Cond.instanceMethod y, Cond.initialized y.cls, zg_cw M' y].all (fun x => decide (x ∈ lw_tbl) && goodWord x) = true)
    (hl : if nest then Cond.methodLinkNest M.1 i y "FlipPages" ∈ lw_tbl else Cond.methodLink M.1 i y ∈ lw_tbl) (hy1 : y.name = "<init>") (hh : M'.2.2.2.2 = []) (hr : M'.2.2.2.1 = none) (hy : y.cls ≠ "java/lang/invoke/MethodHandle" ∧ y.cls ≠ "java/lang/invoke/VarHandle") (hn : (parseMethodDescriptor y.desc).map (fun d => d.parameters.length) = some av.length) (hfr : fr' + 1 ≤ fr) (hlc : 19 + M'.2.2.1 + lc' ≤ lc) (hst : (st.map fun v => v.category).sum ≤ 8) (hcn : w.1 ≤ zc_cn) (hcs : w.2.1 ≤ zc_cs)
    {st0 : List Value} (h0 : st0 = av.reverse ++ .ref k :: st) (kr : ∀ v w', Qc (.inl v) w' → zg_G V M fr lc n0 u0 (pc + 3) (v.toList ++ st) lv w' Q) (kt : ∀ k w', Qc (.inr k) w' → zg_T V M fr lc n0 u0 pc k lv w' Q) : zg_G V M fr lc n0 u0 pc st0 lv w Q := by
  subst h0
  simp only [List.all_cons, List.all_nil, Bool.and_true, Bool.and_eq_true, decide_eq_true_eq] at hw
  obtain ⟨⟨h2, g2⟩, ⟨h3, g3⟩, ⟨h4, g4⟩⟩ := hw
  intro p e R s m args below meth c H locs cells slots ls K T hT X
  have hinst := zx_w E K.1 h2 g2 args
  have hcw := zx_w E K.1 h4 g4 args
  have hcode : (Cond.code y M'.2.1 M'.2.2.1 none).before args s = true := by
    unfold zg_cw at hcw
    rw [hh, hr] at hcw
    exact hcw
  have hpl : e.platform.magicAccessors = ({} : Platform).magicAccessors := by rw [X.admits.platform]
  have hstk : (F0 m pc ls ((av.reverse ++ .ref k :: st).map (zv_cv V))).stack = (av.map (zv_cv V)).reverse ++ .ref (zv_ad V k) :: st.map (zv_cv V) := by
    show (av.reverse ++ .ref k :: st).map (zv_cv V) = _
    rw [List.map_append, List.map_reverse, List.map_cons]
    rfl
  have hlen : ∀ sig, parseMethodDescriptor y.desc = some sig → (av.map (zv_cv V)).length = sig.parameters.length := fun sig h => by
    rw [List.length_map]
    exact zg_len hn _ h
  have key : ∃ tm vm', s.methodNamed? y = some tm ∧ s.WarmedH vm' ∧ ∀ target, (∀ acts, Steps p.tables e below (doInvoke e ((T.setVm vm').setTop (F0 m pc ls (st.map (zv_cv V)))) acts tm (.ref (zv_ad V k) :: av.map (zv_cv V)).toArray).1 target) → Steps p.tables e below (T.setTop (F0 m pc ls ((av.reverse ++ .ref k :: st).map (zv_cv V)))) target := by
    cases nest
    · obtain ⟨tm, _, _, _, vm', z1, -, -, -, -, -, -, -, z2, z3⟩ := Steps.initColdArgs (e := e) X.here K.1.1 X.warmed hpl K.1.2.2.2.2.1 hy1 hy (zx_w E K.1 hl rfl args) hinst hcode (f := F0 m pc ls ((av.reverse ++ .ref k :: st).map (zv_cv V))) rfl hlen hstk (by rw [K.1.2.1]; exact hd)
      exact ⟨tm, vm', z1, z2, z3⟩
    · have hl9 : (Cond.methodLinkNest M.1 i y "FlipPages").before args s = true := va_Nw.use rfl (va_Nw.warmM K.1.2.2.2.2.2.2.2.1 (va_Nw.of rfl (E.2.1 _ hl)))
      obtain ⟨tm, _, _, _, vm', z1, -, -, -, -, -, -, -, z2, z3⟩ := Steps.initColdArgsNest (e := e) X.here K.1.1 X.warmed hpl K.1.2.2.2.2.1 hy1 hy hl9 hinst hcode (f := F0 m pc ls ((av.reverse ++ .ref k :: st).map (zv_cv V))) rfl hlen hstk (by rw [K.1.2.1]; exact hd)
      exact ⟨tm, vm', z1, z2, z3⟩
  obtain ⟨tm, vm', z1, z2, z3⟩ := key
  have X₁ := X.noted z2
  obtain ⟨t, a1, b1⟩ := zg_into (U := T.setVm vm') E K hT X₁ hC hfr hlc hst hcn hcs hd (X₁.named z1) h4 g4 h3 kr kt
  exact ⟨t, z3 _ fun acts => by rw [doInvoke_state]; exact a1, b1⟩
theorem zg_obj0 (E : zv_OK V) {i k : Nat} (hd : decode M.2.1 pc = .ok (.invokespecial i, 3)) (hl : Cond.methodLink M.1 i objectInit ∈ lw_tbl) (hfr : 1 ≤ fr) (hlc : (st.map fun v => v.category).sum + 12 ≤ lc) (kk : zg_G V M fr lc n0 u0 (pc + 3) st lv w Q) : zg_G V M fr lc n0 u0 pc (.ref k :: st) lv w Q := by
  intro p e R s m args below meth c H locs cells slots ls K
  have hr := K.2.1
  exact W.objInit K.1.1 K.1.2.1 K.1.2.2.2.2.1 (zx_w E K.1 hl rfl args) (zx_w E K.1 (by decide +kernel : Cond.instanceMethod objectInit ∈ lw_tbl) rfl args) (zx_w E K.1 (by decide +kernel : Cond.code objectInit ⟨#[0xb1]⟩ 1 none ∈ lw_tbl) rfl args) rfl (K.2.2.2.2.2.2.1.trans K.1.2.2.2.1.symm) rfl hd (by omega) (by show 2 * 0 + _ + 12 ≤ _; rw [zv_cats]; omega) (kk p e R s m args below meth c H locs cells slots ls K)
/-- System.arraycopy(a, 0, b, 0, n) between two int arrays -/
theorem zg_copy (E : zv_OK V) {i k0 k1 m0 m1 n : Nat} {x y z : Int32} (hd : decode M.2.1 pc = .ok (.invokestatic i, 3)) (hl : Cond.methodLink M.1 i arraycopyName ∈ lw_tbl) (ht0 : zw_t w k0 = (10, m0)) (ht1 : zw_t w k1 = (10, m1)) (h0 : 1 ≤ k0) (h0n : k0 < w.1) (h1 : 1 ≤ k1) (h1n : k1 < w.1) (hx : x = nI n) (hy : y = 0) (hz : z = 0) (hn0 : n ≤ m0) (hn1 : n ≤ m1) (hm : m0 < 2 ^ 31) (hm1 : m1 < 2 ^ 31)
    (hfr : 1 ≤ fr) (hlc : (st.map fun v => v.category).sum + 100 ≤ lc) (kk : zg_G V M fr lc n0 u0 (pc + 3) st lv (zw_sa w k1 (fun j => if j < n then zw_i w k0 j else zw_i w k1 j)) Q) : zg_G V M fr lc n0 u0 pc (.int x :: .int y :: .ref k1 :: .int z :: .ref k0 :: st) lv w Q := by
  subst hx
  subst hy
  subst hz
  intro p e R s m args below meth c H locs cells slots ls K T hT X
  have hr := K.2.1
  have hP := K.2.2.2.2.1
  have hal := K.1.2.2.2.2.2.2.2.1.alike
  have hA := arrOfT_moved hal E.2.2.2.2.2.1.1
  have hc0 := zw_aI hP h0 h0n ht0
  have hc1 := zw_aI hP h1 h1n ht1
  obtain ⟨-, q0, hk0, cm0, hkk0⟩ := hA m0 (fun j => .int (zw_i w k0 j))
  obtain ⟨-, q1, hk1, cm1, hkk1⟩ := hA m1 (fun j => .int (zw_i w k1 j))
  have en : (nI n).toNatClampNeg = n := nI_clamp (by omega)
  have et : (nI n).toInt = (n : Int) := nI_toInt (by omega)
  have e0 : (0 : Int32).toNatClampNeg = 0 := rfl
  have hfw : nativeFrameWords "java/lang/System" "arraycopy" 5 + 11 ≤ 100 := by decide +kernel
  obtain ⟨vm', X', step⟩ := X.arraycopy K.1.1 K.1.2.2.2.2.1 (zx_w E K.1 hl rfl args) (zx_w E K.1 (by decide +kernel : Cond.native arraycopyName ∈ lw_tbl) rfl args) (zx_w E K.1 (by decide +kernel : Cond.static arraycopyName ∈ lw_tbl) rfl args) (zx_w E K.1 (by decide +kernel : Cond.initialized "java/lang/System" ∈ lw_tbl) rfl args) (src := zv_ad V k0) (dst := zv_ad V k1) (cs := arrV (zv_A V 0) m0 (fun j => .int (zw_i w k0 j))) (cd := arrV (zv_A V 0) m1 (fun j => .int (zw_i w k1 j))) (srcPos := 0) (destPos := 0) (n := nI n) (by rw [hT]; exact hc0) (by rw [hT]; exact hc1)
    (fun _ h => by cases h) (fun _ h => by cases h) (fun h => by cases h) (fun h => by cases h) hk0 hk1 hkk0 hkk1 (by rfl) (by decide) (by decide) (nI_pos (by omega))
    (by rw [et, arrV_size]; show ¬ (0 : Int) + _ > _; omega) (by rw [et, arrV_size]; show ¬ (0 : Int) + _ > _; omega)
    (fun vm₁ _ j hj => by
      have ej : (arrV (zv_A V 0) m0 (fun j => .int (zw_i w k0 j))).slots.getD ((0 : Int32).toNatClampNeg + j) .null = .int (zw_i w k0 j) := by
        rw [en] at hj
        rw [e0, Nat.zero_add, Array.getD_eq_getD_getElem?, arrV_read _ _ (by omega)]
        rfl
      refine ⟨?_, ?_⟩
      · rw [ej]
        rfl
      · rw [ej]
        exact trivial)
    (g := F0 m pc ls ((.int (nI n) :: .int 0 :: .ref k1 :: .int 0 :: .ref k0 :: st).map (zv_cv V))) rfl (K.2.2.2.2.2.2.1.trans K.1.2.2.2.1.symm) (rest := st.map (zv_cv V)) rfl (by rw [K.1.2.1]; exact hd) (by omega) (by show 2 * 0 + ((st.map (zv_cv V)).map fun v => v.category).sum + _ ≤ _; rw [zv_cats]; omega)
  have e1 : copied (arrV (zv_A V 0) m0 (fun j => .int (zw_i w k0 j))) (arrV (zv_A V 0) m1 (fun j => .int (zw_i w k1 j))) 0 0 (nI n) = arrV (zv_A V 0) m1 (fun j => .int (if j < n then zw_i w k0 j else zw_i w k1 j)) := by
    have h9 := va_copied (n0 := m0) (n1 := m1) (sp := (0 : Int32).toNatClampNeg) (dp := (0 : Int32).toNatClampNeg) (n := (nI n).toNatClampNeg) (fun z : Int32 => Value.int z) (zv_A V 0) (zv_A V 0) (zw_i w k0) (zw_i w k1) (by rw [e0, en]; omega)
    refine Eq.trans h9 ?_
    rw [e0, en]
    refine congrArg (arrV (zv_A V 0) m1) (funext fun j => ?_)
    unfold va_cpy
    by_cases hj : j < n
    · rw [if_pos ⟨Nat.zero_le _, by omega⟩, if_pos hj, Nat.zero_add, Nat.sub_zero]
    · rw [if_neg (by omega), if_neg hj]
  rw [e1] at X' step
  have hl2 : zv_ad V k1 < H.size := (Array.getElem?_eq_some_iff.mp hc1).1
  have hheap : ((T.setVm vm').setCell (zv_ad V k1) (arrV (zv_A V 0) m1 (fun j => .int (if j < n then zw_i w k0 j else zw_i w k1 j)))).heap = H.setIfInBounds (zv_ad V k1) (arrV (zv_A V 0) m1 (fun j => .int (if j < n then zw_i w k0 j else zw_i w k1 j))) := by rw [← hT]; rfl
  have hW : zw_P V (zw_sa w k1 (fun j => if j < n then zw_i w k0 j else zw_i w k1 j)) (H.setIfInBounds (zv_ad V k1) (arrV (zv_A V 0) m1 (fun j => .int (if j < n then zw_i w k0 j else zw_i w k1 j)))) := by
    refine zw_put hP rfl h1 (by simp) (fun q hq => by simp [Array.getElem?_setIfInBounds, Ne.symm hq]) (fun a ha => ⟨rfl, rfl, zw_ro_n _ _ ha, rfl⟩) ?_
    show zw_cell V (zw_t w k1) (zw_r w k1) (zw_ro (zw_i w) k1 _ k1) (zw_l w k1) _ _
    rw [ht1, zw_ro_s]
    show (H.setIfInBounds (zv_ad V k1) _)[zv_ad V k1]? = some _
    simp [Array.getElem?_setIfInBounds, hl2]
  obtain ⟨t, a1, b1⟩ := kk p e R s m args below meth c _ _ cells slots ls ⟨K.1, K.2.1, K.2.2.1, K.2.2.2.1, hW, ⟨fun q hq => by
    rcases List.mem_append.mp hq with h | h
    · exact K.2.2.2.2.2.1.1 q h
    · obtain ⟨z, -, hz⟩ := List.mem_map.mp h
      rw [← hz]
      show zv_S V ≤ zv_ad V k1
      rw [zv_ad_1 V h1]
      omega, K.2.2.2.2.2.1.2⟩, K.2.2.2.2.2.2⟩ _ hheap X'
  exact ⟨t, step t a1, b1⟩
end ZDA

/-! Constructors. -/
def zh_G (V : zv_V) (M : zg_M) (fr lc n0 u0 : Nat) (pc : Nat) (st : List Value) (lv : List (Nat × Value)) (w : zw_W) (Q : zg_O → zw_W → Prop) : Prop :=
  ∀ (p : Program) (e : Env) (R : Room) (s : State) (m : MethodId) (args : Array Value) (below : List Frame) (meth : Method) (c : Code) (H : Heap) (locs : List Loc) (cells slots : Nat) (ls : Array Slot),
    meth.name = "<init>" → zg_K V M fr lc n0 u0 lv w p R s m meth c H locs cells slots ls → W p (zv_l V) e R s m args below meth c H locs cells slots (zg_E V below s n0 u0 Q) (F0 m pc ls (st.map (zv_cv V)))
section ZHG
variable {V : zv_V} {M : zg_M} {fr lc n0 u0 pc : Nat} {st : List Value} {lv : List (Nat × Value)} {w : zw_W} {Q : zg_O → zw_W → Prop}
theorem zh_as (k : zg_G V M fr lc n0 u0 pc st lv w Q) : zh_G V M fr lc n0 u0 pc st lv w Q := fun p e R s m args below meth c H locs cells slots ls _ K => k p e R s m args below meth c H locs cells slots ls K
theorem zh_w {w' : zw_W} (h : w' = w) (k : zh_G V M fr lc n0 u0 pc st lv w' Q) : zh_G V M fr lc n0 u0 pc st lv w Q := h ▸ k
theorem zh_bipush {n : Int} {v : Int32} (hd : decode M.2.1 pc = .ok (.bipush n, 2)) (hv : (Int8.ofInt n).toInt32 = v) (k : zh_G V M fr lc n0 u0 (pc + 2) (.int v :: st) lv w Q) : zh_G V M fr lc n0 u0 pc (st) lv w Q := fun p e R s m args below meth c H locs cells slots ls hnm K => lv_bipush K.1.1 K.1.2.1 hd hv (k p e R s m args below meth c H locs cells slots ls hnm K)
theorem zh_sipush {n : Int} {v : Int32} (hd : decode M.2.1 pc = .ok (.sipush n, 3)) (hv : (Int16.ofInt n).toInt32 = v) (k : zh_G V M fr lc n0 u0 (pc + 3) (.int v :: st) lv w Q) : zh_G V M fr lc n0 u0 pc (st) lv w Q := fun p e R s m args below meth c H locs cells slots ls hnm K => lv_sipush K.1.1 K.1.2.1 hd hv (k p e R s m args below meth c H locs cells slots ls hnm K)
theorem zh_aload_n {j : Fin 4} {x : Nat} (hd : decode M.2.1 pc = .ok (.aload_n j, 1)) (hl : zg_lk lv j = some (.ref x)) (k : zh_G V M fr lc n0 u0 (pc + 1) (.ref x :: st) lv w Q) : zh_G V M fr lc n0 u0 pc (st) lv w Q := fun p e R s m args below meth c H locs cells slots ls hnm K => lv_aload_n K.1.1 K.1.2.1 hd rfl (zg_lk_at K.2.2.2.2.2.2 hl) (k p e R s m args below meth c H locs cells slots ls hnm K)
theorem zh_dup {v : Value} (hd : decode M.2.1 pc = .ok (.dup, 1)) (hv : v.category = 1) (k : zh_G V M fr lc n0 u0 (pc + 1) (v :: v :: st) lv w Q) : zh_G V M fr lc n0 u0 pc (v :: st) lv w Q := fun p e R s m args below meth c H locs cells slots ls hnm K => lv_dup K.1.1 K.1.2.1 hd (by rw [zv_cat]; exact hv) (k p e R s m args below meth c H locs cells slots ls hnm K)
theorem zh_new (E : zv_OK V) {ci i : Nat} {q : vw_C} (hd : decode M.2.1 pc = .ok (.new i, 3)) (hc : zc_cl[ci]? = some q) (h1 : 1 ≤ w.1) (hl : Cond.classLink M.1 i q.1 ∈ lw_tbl) (hin : Cond.instantiable q.1 q.2.2 ∈ lw_tbl) (hini : Cond.initialized q.1 ∈ lw_tbl) (hcn : w.1 + 1 ≤ zc_cn) (hcs : w.2.1 + q.2.2 ≤ zc_cs)
    (kk : zh_G V M fr lc n0 u0 (pc + 3) (.ref w.1 :: st) lv (zw_nw w (ci, q.2.2)) Q) : zh_G V M fr lc n0 u0 pc st lv w Q := by
  intro p e R s m args below meth c H locs cells slots ls hnm K
  have hal := K.1.2.2.2.2.2.2.2.1.alike
  have hKn := u_Kn_moved hal (E.2.2.2.2.1 ci q hc)
  have hts : ∀ x ∈ u_ws q.1 q.2.1 q.2.2, x.before args s = true := fun x hx => zx_w E K.1 (zc_lay ci q hc x hx).1 (zc_lay ci q hc x hx).2 args
  have hr := K.2.1
  have hc1 := K.2.2.1
  have hc2 := K.2.2.2.1
  refine W.newcK K.1.1 K.1.2.1 K.1.2.2.2.2.1 (zx_w E K.1 hl rfl args) (zx_w E K.1 hin rfl args) (zx_w E K.1 hini rfl args) rfl hd (by omega) (by omega) hKn.2.1 rfl fun H1 kC hkC e1 z1 o1 => ?_
  have hP := K.2.2.2.2.1
  have g := kk p e R s m args below meth c H1 locs (cells + 1) (slots + q.2.2) ls hnm ⟨K.1, K.2.1, by show n0 + (cells + 1) = w.1 + 1; omega, by show u0 + (slots + q.2.2) = w.2.1 + q.2.2; omega, zw_push hP h1 rfl z1 o1 zw_rest_n ?_, K.2.2.2.2.2.1, K.2.2.2.2.2.2⟩
  · have e2 : zv_cv V (.ref w.1) = .ref H.size := by show Value.ref (zv_ad V w.1) = _; rw [zw_adn hP h1]
    rw [List.map_cons, e2] at g
    exact g
  · show zw_cell V (zw_ro (zw_t w) w.1 (ci, q.2.2) w.1) (zw_ro (zw_r w) w.1 (fun _ => none) w.1) (zw_ro (zw_i w) w.1 (fun _ => 0) w.1) (zw_ro (zw_l w) w.1 (fun _ => 0) w.1) _ _
    rw [zw_ro_s, zw_ro_s, zw_ro_s, zw_ro_s]
    unfold zw_cell
    rw [if_pos (zc_num ci q hc).1]
    exact ⟨(zc_num ci q hc).2, (u_born (zc_ty ci) hts (fun _ h => h) hKn hkC e1 (zc_tyok ci q hc).1).to (zc_dflt ci q hc)⟩
theorem zh_newA (E : zv_OK V) {kd n : Nat} {i : Int32} {at_ : ArrayType} {ty : FieldType} {ca : Nat} (hd : decode M.2.1 pc = .ok (.newarray at_, 2)) (hty : newarray.typeOf at_ = ty) (h1 : 1 ≤ w.1) (hl : Cond.arrayClass ty ∈ lw_tbl) (hi : i = nI n) (hn : n < 100000) (hcn : w.1 + 1 ≤ zc_cn) (hcs : w.2.1 + n ≤ zc_cs)
    (hb : componentBytes ty ≤ 8) (hcl : (zv_s V).vm.findClass ("[" ++ ty.toString) = some (zv_A V ca)) (hce : ∀ H1 : Heap, H1[zv_ad V w.1]? = some (arrV (zv_A V ca) n (fun _ => defaultValue ty)) → zw_cell V (kd, n) (fun _ => none) (fun _ => 0) (fun _ => 0) (zv_ad V w.1) H1)
    (kk : zh_G V M fr lc n0 u0 (pc + 2) (.ref w.1 :: st) lv (zw_nw w (kd, n)) Q) : zh_G V M fr lc n0 u0 pc (.int i :: st) lv w Q := by
  subst hty
  intro p e R s m args below meth c H locs cells slots ls hnm K
  have hr := K.2.1
  have hc1 := K.2.2.1
  have hc2 := K.2.2.2.1
  have hP := K.2.2.2.2.1
  refine va_newaK (N := n) K.1.1 K.1.2.1 (zx_w E K.1 hl rfl args) rfl hd rfl (by rw [hi]; exact nI_pos (by omega)) (by rw [hi]; exact nI_clamp (by omega)) (by have := Nat.mul_le_mul_left n hb; omega) (by omega) (by omega) rfl fun H1 cA e1 z1 o1 _ hNm => ?_
  have ecA : cA = zv_A V ca := by
    have h9 := hNm
    rw [K.1.2.2.2.2.2.2.2.1.alike.findClass, hcl] at h9
    exact (Option.some.inj h9).symm
  subst ecA
  have g := kk p e R s m args below meth c H1 locs (cells + 1) (slots + n) ls hnm ⟨K.1, K.2.1, by show n0 + (cells + 1) = w.1 + 1; omega, by show u0 + (slots + n) = w.2.1 + n; omega, zw_push hP h1 rfl z1 o1 zw_rest_n ?_, K.2.2.2.2.2.1, K.2.2.2.2.2.2⟩
  · have e2 : zv_cv V (.ref w.1) = .ref H.size := by show Value.ref (zv_ad V w.1) = _; rw [zw_adn hP h1]
    rw [List.map_cons, e2] at g
    exact g
  · show zw_cell V (zw_ro (zw_t w) w.1 (kd, n) w.1) (zw_ro (zw_r w) w.1 (fun _ => none) w.1) (zw_ro (zw_i w) w.1 (fun _ => 0) w.1) (zw_ro (zw_l w) w.1 (fun _ => 0) w.1) _ _
    rw [zw_ro_s, zw_ro_s, zw_ro_s, zw_ro_s, ← zw_adn hP h1]
    refine hce H1 ?_
    rw [zw_adn hP h1]
    exact e1
theorem zh_newI (E : zv_OK V) {n : Nat} {i : Int32} (hd : decode M.2.1 pc = .ok (.newarray .int, 2)) (h1 : 1 ≤ w.1) (hi : i = nI n) (hn : n < 100000) (hcn : w.1 + 1 ≤ zc_cn) (hcs : w.2.1 + n ≤ zc_cs) (kk : zh_G V M fr lc n0 u0 (pc + 2) (.ref w.1 :: st) lv (zw_nw w (10, n)) Q) : zh_G V M fr lc n0 u0 pc (.int i :: st) lv w Q :=
  zh_newA E (kd := 10) (ca := 0) hd rfl h1 (by decide +kernel) hi hn hcn hcs (by decide) E.2.2.2.2.2.1.2 (fun _ h => h) kk
theorem zh_newZ (E : zv_OK V) {n : Nat} {i : Int32} (hd : decode M.2.1 pc = .ok (.newarray .boolean, 2)) (h1 : 1 ≤ w.1) (hi : i = nI n) (hn : n < 100000) (hcn : w.1 + 1 ≤ zc_cn) (hcs : w.2.1 + n ≤ zc_cs) (kk : zh_G V M fr lc n0 u0 (pc + 2) (.ref w.1 :: st) lv (zw_nw w (11, n)) Q) : zh_G V M fr lc n0 u0 pc (.int i :: st) lv w Q :=
  zh_newA E (kd := 11) (ca := 1) hd rfl h1 (by decide +kernel) hi hn hcn hcs (by decide) E.2.2.2.2.2.2.1.2 (fun _ h => h) kk
theorem zh_multi (E : zv_OK V) {i n k : Nat} {x y : Int32} (hd : decode M.2.1 pc = .ok (.multianewarray i 2, 4)) (h1 : 1 ≤ w.1) (hl : Cond.classLink M.1 i "[[I" ∈ lw_tbl) (hx : x = nI n) (hy : y = nI k) (hn : n < 100000) (hk : k < 100000) (hcn : w.1 + 1 + n ≤ zc_cn) (hcs : w.2.1 + n + n * k ≤ zc_cs)
    (kk : zh_G V M fr lc n0 u0 (pc + 4) (.ref w.1 :: st) lv (zw_mm w n k) Q) : zh_G V M fr lc n0 u0 pc (.int y :: .int x :: st) lv w Q := by
  intro p e R s m args below meth c H locs cells slots ls hnm K T hT X
  have hr := K.2.1
  have hc1 := K.2.2.1
  have hc2 := K.2.2.2.1
  have hP := K.2.2.2.2.1
  have hal := K.1.2.2.2.2.2.2.2.1.alike
  have hov : ∃ comp c k, s.vm.findClass "[I" = some comp ∧ s.vm.classes[c]? = some k ∧ k.kind = .array comp (.array .int) ∧ s.vm.findClass "[[I" = some c := by
    obtain ⟨c1, c2, k2, g1, g2, g3, g4⟩ := zz_overA (o := none) (first := zv_s V) (idx := []) (E.2.1 (Cond.arrayOver (.array .int)) (by decide +kernel))
    obtain ⟨k3, g5, g6⟩ := hal.2.2 _ _ g2
    exact ⟨c1, c2, k3, by rw [hal.findClass]; exact g1, g5, by rw [g6]; exact g3, by rw [hal.findClass]; exact g4⟩
  obtain ⟨vm₁, cA, comp, fA, fC, -, X', step⟩ := zz_multi X K.1.1 K.1.2.2.2.2.1 (zx_w E K.1 hl rfl args) hov (zx_w E K.1 (by decide +kernel : Cond.arrayClass .int ∈ lw_tbl) rfl args)
    (g := F0 m pc ls ((.int y :: .int x :: st).map (zv_cv V))) rfl (by rw [K.1.2.1]; exact hd) (n := x) (k := y) (N := n) (K := k) (rest := st.map (zv_cv V)) rfl (by rw [hx]; exact nI_pos (by omega)) (by rw [hy]; exact nI_pos (by omega)) (by rw [hx]; exact nI_clamp (by omega)) (by rw [hy]; exact nI_clamp (by omega)) (by omega) (by omega) (by omega) (by omega)
  have ecA : cA = zv_A V 3 := by
    rw [hal.findClass, E.2.2.2.2.2.2.2.2.1.2] at fA
    exact (Option.some.inj fA).symm
  have ecC : comp = zv_A V 0 := by
    rw [hal.findClass, E.2.2.2.2.2.1.2] at fC
    exact (Option.some.inj fC).symm
  subst ecA
  subst ecC
  have hTh : (T.setVm vm₁).heap = H := hT
  obtain ⟨f1, f2, -, -⟩ := zz_f_facts (T.setVm vm₁) (zv_A V 3) (zv_A V 0) n k n
  have fo : ∀ a : Nat, a < H.size → (zz_f (T.setVm vm₁) (zv_A V 3) (zv_A V 0) n k n).heap[a]? = H[a]? := fun a ha => by
    have h9 := zz_f_old (T.setVm vm₁) (zv_A V 3) (zv_A V 0) n k (a := a) (by rw [hTh]; exact ha) n
    rw [hTh] at h9
    exact h9
  have fr9 := zz_f_row (T.setVm vm₁) (zv_A V 3) (zv_A V 0) n k n
  rw [hTh] at f1 f2 fr9
  generalize zz_f (T.setVm vm₁) (zv_A V 3) (zv_A V 0) n k n = F at X' step f1 f2 fo fr9
  have hs := hP.1
  have had := zw_adn hP h1
  have hW : zw_P V (zw_mm w n k) F.heap := by
    refine ⟨by show F.heap.size + 1 = zv_S V + (w.1 + 1 + n); omega, fun q hq => by rw [fo q (by omega)]; exact hP.2.1 q hq, fun a ha hb => ?_⟩
    have hb' : a < w.1 + 1 + n := hb
    show zw_cell V (if a = w.1 then (13, n) else if w.1 < a ∧ a < w.1 + 1 + n then (10, k) else zw_t w a) ((if a = w.1 then (fun j => if j < n then some (w.1 + 1 + j) else none) else zw_r w a)) (if w.1 < a ∧ a < w.1 + 1 + n then (fun _ => 0) else zw_i w a) (zw_l w a) _ _
    by_cases e1 : a = w.1
    · subst e1
      rw [if_pos rfl, if_pos rfl]
      show F.heap[zv_ad V w.1]? = some (arrV _ _ _)
      rw [had, f2]
      unfold zz_o
      refine congrArg (fun f => some (arrV (zv_A V 3) n f)) (funext fun j => ?_)
      show _ = zv_rf V (if j < n then some (w.1 + 1 + j) else none)
      by_cases hj : j < n
      · rw [if_pos hj, if_pos hj]
        show Value.ref _ = Value.ref (zv_ad V (w.1 + 1 + j))
        rw [zv_ad_1 V (by omega)]
        exact congrArg Value.ref (show H.size + 1 + j = zv_S V + (w.1 + 1 + j - 1) by omega)
      · rw [if_neg hj, if_neg hj]
        rfl
    · rw [if_neg e1, if_neg e1]
      by_cases e3 : w.1 < a ∧ a < w.1 + 1 + n
      · rw [if_pos e3, if_pos e3]
        show F.heap[zv_ad V a]? = some (arrV _ _ _)
        have h9 := fr9 (a - w.1 - 1) (by omega)
        rw [zv_ad_1 V ha, show zv_S V + (a - 1) = H.size + 1 + (a - w.1 - 1) by omega, h9]
        rfl
      · rw [if_neg e3, if_neg e3]
        have hlt : a < w.1 := by omega
        exact zw_cell_kept (hP.2.2 a ha hlt) (fo _ (by rw [zv_ad_1 V ha]; omega))
  have hL : ∀ q ∈ locs ++ (List.range n).map (fun j => (⟨T.heap.size, j⟩ : Loc)), zv_S V ≤ q.base := by
    intro q hq
    rcases List.mem_append.mp hq with h | h
    · exact K.2.2.2.2.2.1.1 q h
    · obtain ⟨j, -, rfl⟩ := List.mem_map.mp h
      show zv_S V ≤ T.heap.size
      rw [hT]
      omega
  obtain ⟨t, a1, b1⟩ := kk p e R s m args below meth c F.heap _ (cells + 1 + n) (slots + n + n * k) ls hnm ⟨K.1, K.2.1, by show n0 + (cells + 1 + n) = w.1 + 1 + n; omega, by show u0 + (slots + n + n * k) = w.2.1 + n + n * k; omega, hW, ⟨hL, K.2.2.2.2.2.1.2⟩, K.2.2.2.2.2.2⟩ F rfl X'
  refine ⟨t, step t ?_, b1⟩
  have e2 : zv_cv V (.ref w.1) = .ref T.heap.size := by show Value.ref (zv_ad V w.1) = _; rw [had, hT]
  rw [List.map_cons, e2] at a1
  exact a1
theorem zh_into {p : Program} {e : Env} {R : Room} {s : State} {m : MethodId} {args : Array Value} {below : List Frame} {meth : Method} {c : Code} {H : Heap} {locs : List Loc} {cells slots : Nat} {ls : Array Slot} {U : State} {M' : zg_M} {y : MethodName} {fr' lc' : Nat} {av : List Value} {Qc : zg_O → zw_W → Prop} {ig : Instr} {mk : MethodId}
    (E : zv_OK V) (hnm : meth.name = "<init>") (K : zg_K V M fr lc n0 u0 lv w p R s m meth c H locs cells slots ls) (hU : U.heap = H) (X : Stand p (zv_l V) e R s m args below meth c U locs cells slots) (hC : zg_C V M' y fr' lc' av w Qc) (hfr : fr' + 1 ≤ fr) (hlc : 19 + M'.2.2.1 + lc' ≤ lc) (hst : (st.map fun v => v.category).sum ≤ 8) (hcn : w.1 ≤ zc_cn) (hcs : w.2.1 ≤ zc_cs)
    (hd : decode M.2.1 pc = .ok (ig, 3)) (hmk : U.methodNamed? y = some mk) (hwc : zg_cw M' y ∈ lw_tbl) (hwg : goodWord (zg_cw M' y) = true) (hwi : Cond.initialized y.cls ∈ lw_tbl)
    (kr : ∀ v w', Qc (.inl v) w' → zh_G V M fr lc n0 u0 (pc + 3) (v.toList ++ st) lv w' Q) (kt : ∀ k w', Qc (.inr k) w' → zg_T V M fr lc n0 u0 pc k lv w' Q) :
    ∃ t, Steps p.tables e below (doInvoke e (U.setTop (F0 m pc ls (st.map (zv_cv V)))) [] mk (av.map (zv_cv V)).toArray).1 t ∧ zg_E V below s n0 u0 Q t := by
  have hr := K.2.1
  have hc1 := K.2.2.1
  have hc2 := K.2.2.2.1
  have hP := K.2.2.2.2.1
  have hWU : (zv_s V).WarmedH U.vm := State.WarmedH.trans K.1.2.2.2.2.2.2.2.1 X.warmed
  have hword : ∀ a : Array Value, (zg_cw M' y).before a U = true := fun a => word_at hWU (good_of_word hwg) (E.2.1 _ hwc)
  have hini : ∀ a : Array Value, (Cond.initialized y.cls).before a U = true := fun a => word_at hWU (good_of_word rfl) (E.2.1 _ hwi)
  obtain ⟨methY, cY, hmY, hcY, -, hlY, -⟩ := zg_cw_spec (hword #[]) hmk
  obtain ⟨o, t, hq, hb⟩ := zb_back (S := headSpec [zg_cw M' y] { frames := fr', cells := zc_cn - w.1, slots := zc_cs - w.2.1, locals := lc' }) (W9 := 8) (g := F0 m pc ls (st.map (zv_cv V))) (ig := ig) (len := 3) (a := (av.map (zv_cv V)).toArray) (hC { frames := fr', cells := zc_cn - w.1, slots := zc_cs - w.2.1, locals := lc' } (Nat.le_refl _) (Nat.le_refl _) (by show zc_cn ≤ w.1 + (zc_cn - w.1); omega) (by show zc_cs ≤ w.2.1 + (zc_cs - w.2.1); omega)) X rfl (K.2.2.2.2.2.2.1.trans K.1.2.2.2.1.symm) (by rw [K.1.2.1]; exact hd) (by show 2 * 0 + ((st.map (zv_cv V)).map fun v => v.category).sum ≤ 8; rw [zv_cats]; omega) hmk hmY hcY hlY (hini _)
    (by show fr' + 1 ≤ R.frames; omega) (by show 8 + (M'.2.2.1 + 11) + lc' ≤ R.locals; omega) (by show cells + (zc_cn - w.1) ≤ R.cells; omega) (by show slots + (zc_cs - w.2.1) ≤ R.slots; omega) (atoms_intro fun x hx => by rw [List.mem_singleton.mp hx]; exact hword _) ⟨rfl, hWU, by show zw_P V w U.heap; rw [hU]; exact hP⟩
  obtain ⟨o', w', L, q1, q2, q3, q4, q5, q6, q7, q8⟩ := hq
  obtain ⟨U', e1, e2, X', sr, sx⟩ := hb L _ _ q6 q7
  have K' : zg_K V M fr lc n0 u0 lv w' p R s m meth c U'.heap (locs ++ L) (cells + (w'.1 - w.1)) (slots + (w'.2.1 - w.2.1)) ls := by
    refine ⟨K.1, K.2.1, by omega, by omega, by rw [e1]; exact q2, ⟨fun q hq => ?_, K.2.2.2.2.2.1.2⟩, K.2.2.2.2.2.2⟩
    rcases List.mem_append.mp hq with h | h
    · exact K.2.2.2.2.2.1.1 q h
    · exact q8 q h
  match o', q1, q3 with
  | .inl v, q1, q3 =>
    have q1 : o = .returned (v.map (zv_cv V)) := q1
    obtain ⟨t2, a1, b1⟩ := kr v w' q3 p e R s m args below meth c U'.heap _ _ _ ls hnm K' U' rfl X'
    refine ⟨t2, (sr _ q1).trans ?_, b1⟩
    have es : (v.map (zv_cv V)).toList ++ st.map (zv_cv V) = (v.toList ++ st).map (zv_cv V) := by
      cases v <;> simp
    show Steps p.tables e below (U'.setTop (F0 m (pc + 3) ls ((v.map (zv_cv V)).toList ++ st.map (zv_cv V)))) t2
    rw [es]
    exact a1
  | .inr k, q1, q3 =>
    obtain ⟨kx, ce, g1, g2, g3, g4⟩ := q1
    obtain ⟨t2, a1, b1⟩ := kt k w' q3 p e R s m args below meth c U'.heap _ _ _ ls (st.map (zv_cv V)) kx ce K' (by rw [e1]; exact g2) g3 (by rw [K.1.2.2.2.2.2.2.2.1.alike.findClass]; exact g4) U' rfl X'
    exact ⟨t2, (sx _ g1).trans a1, b1⟩
theorem zh_invV (E : zv_OK V) {M' : zg_M} {y : MethodName} {fr' lc' i k ci : Nat} {q : vw_C} {av : List Value} {Qc : zg_O → zw_W → Prop} (hd : decode M.2.1 pc = .ok (.invokevirtual i, 3)) (hC : zg_C V M' y fr' lc' (.ref k :: av) w Qc) (hw : [Cond.methodLink M.1 i y, Cond.instanceMethod y, Cond.selects q.1 y y, Cond.initialized y.cls, zg_cw M' y].all (fun x => decide (x ∈ lw_tbl) && goodWord x) = true)
    (hc : zc_cl[ci]? = some q) (ht : (zw_t w k).1 = ci) (hk : 1 ≤ k) (hkn : k < w.1) (hh : M'.2.2.2.2 = []) (hy : y.cls ≠ "java/lang/invoke/MethodHandle" ∧ y.cls ≠ "java/lang/invoke/VarHandle") (hn : (parseMethodDescriptor y.desc).map (fun d => d.parameters.length) = some av.length) (hfr : fr' + 1 ≤ fr) (hlc : 19 + M'.2.2.1 + lc' ≤ lc) (hst : (st.map fun v => v.category).sum ≤ 8) (hcn : w.1 ≤ zc_cn) (hcs : w.2.1 ≤ zc_cs)
    {st0 : List Value} (h0 : st0 = av.reverse ++ .ref k :: st) (kr : ∀ v w', Qc (.inl v) w' → zh_G V M fr lc n0 u0 (pc + 3) (v.toList ++ st) lv w' Q) (kt : ∀ k w', Qc (.inr k) w' → zg_T V M fr lc n0 u0 pc k lv w' Q) : zh_G V M fr lc n0 u0 pc st0 lv w Q := by
  subst h0
  simp only [List.all_cons, List.all_nil, Bool.and_true, Bool.and_eq_true, decide_eq_true_eq] at hw
  obtain ⟨⟨h1, g1⟩, ⟨h2, g2⟩, ⟨h5, g5⟩, ⟨h3, g3⟩, ⟨h4, g4⟩⟩ := hw
  intro p e R s m args below meth c H locs cells slots ls hnm K T hT X
  have hinst := zx_w E K.1 h2 g2 args
  have hsel := zx_w E K.1 h5 g5 args
  have hcw := zx_w E K.1 h4 g4 args
  have hcode : (Cond.code y M'.2.1 M'.2.2.1 M'.2.2.2.1).before args s = true := by
    unfold zg_cw at hcw
    rw [hh] at hcw
    exact hcw
  obtain ⟨mk, methM, hnamed, hmethM, hstM, habM⟩ := Cond.instanceMethod_spec hinst
  obtain ⟨methM', cM, hmethM', -, -, -, -, -, -, hsigM⟩ := Cond.code_spec hnamed hcode
  cases hmethM.symm.trans hmethM'
  obtain ⟨-, cellB, b1, b2, b3, -⟩ := zw_obj K.2.2.2.2.1 hk hkn hc ht
  have hfc : s.vm.findClass q.1 = some cellB.cls := by
    rw [b2]
    exact (u_Kn_moved K.1.2.2.2.2.2.2.2.1.alike (E.2.2.2.2.1 ci q hc)).2.1
  obtain ⟨c2, r2, m2, q1, q2, q3, q4, kP, hkP, hkPi⟩ := Cond.selects_spec hsel
  cases hfc.symm.trans q1
  cases (State.methodFound?_of_named hnamed hy).symm.trans q2
  cases hnamed.symm.trans q3
  have hselP : selectMethod e.platform s.vm cellB.cls mk = .method mk := by rw [Launch.admits_selectMethod X.admits]; exact q4
  obtain ⟨vm₁, X₁, hstep₁⟩ := X.invokevirtual K.1.1 K.1.2.2.2.2.1 (zx_w E K.1 h1 g1 args) hnamed hmethM hstM hkP hkPi hy (a := zv_ad V k) (cell := cellB) (by rw [hT]; exact b1)
    (fun z h => by rw [b3] at h; cases h) hselP hmethM habM hkP hkPi (g := F0 m pc ls ((av.reverse ++ .ref k :: st).map (zv_cv V))) rfl (argsL := av.map (zv_cv V)) (rest := st.map (zv_cv V)) (by rw [List.length_map]; exact zg_len hn _ hsigM) (by show (av.reverse ++ .ref k :: st).map (zv_cv V) = _; rw [List.map_append, List.map_reverse, List.map_cons]; rfl) (by rw [K.1.2.1]; exact hd)
  obtain ⟨t, a1, b1⟩ := zh_into (U := T.setVm vm₁) E hnm K hT X₁ hC hfr hlc hst hcn hcs hd (X₁.named hnamed) h4 g4 h3 kr kt
  exact ⟨t, hstep₁ _ fun acts => by rw [doInvoke_state]; exact a1, b1⟩
theorem zh_invI (E : zv_OK V) (nest : Bool) {M' : zg_M} {y : MethodName} {fr' lc' i k : Nat} {av : List Value} {Qc : zg_O → zw_W → Prop} (hd : decode M.2.1 pc = .ok (.invokespecial i, 3)) (hC : zg_C V M' y fr' lc' (.ref k :: av) w Qc) (hw : [Cond.instanceMethod y, Cond.initialized y.cls, zg_cw M' y].all (fun x => decide (x ∈ lw_tbl) && goodWord x) = true)
    (hl : if nest then Cond.methodLinkNest M.1 i y "FlipPages" ∈ lw_tbl else Cond.methodLink M.1 i y ∈ lw_tbl) (hy1 : y.name = "<init>") (hh : M'.2.2.2.2 = []) (hr : M'.2.2.2.1 = none) (hy : y.cls ≠ "java/lang/invoke/MethodHandle" ∧ y.cls ≠ "java/lang/invoke/VarHandle") (hn : (parseMethodDescriptor y.desc).map (fun d => d.parameters.length) = some av.length) (hfr : fr' + 1 ≤ fr) (hlc : 19 + M'.2.2.1 + lc' ≤ lc) (hst : (st.map fun v => v.category).sum ≤ 8) (hcn : w.1 ≤ zc_cn) (hcs : w.2.1 ≤ zc_cs)
    {st0 : List Value} (h0 : st0 = av.reverse ++ .ref k :: st) (kr : ∀ v w', Qc (.inl v) w' → zh_G V M fr lc n0 u0 (pc + 3) (v.toList ++ st) lv w' Q) (kt : ∀ k w', Qc (.inr k) w' → zg_T V M fr lc n0 u0 pc k lv w' Q) : zh_G V M fr lc n0 u0 pc st0 lv w Q := by
  subst h0
  simp only [List.all_cons, List.all_nil, Bool.and_true, Bool.and_eq_true, decide_eq_true_eq] at hw
  obtain ⟨⟨h2, g2⟩, ⟨h3, g3⟩, ⟨h4, g4⟩⟩ := hw
  intro p e R s m args below meth c H locs cells slots ls hnm K T hT X
  have hinst := zx_w E K.1 h2 g2 args
  have hcw := zx_w E K.1 h4 g4 args
  have hcode : (Cond.code y M'.2.1 M'.2.2.1 none).before args s = true := by
    unfold zg_cw at hcw
    rw [hh, hr] at hcw
    exact hcw
  have hpl : e.platform.magicAccessors = ({} : Platform).magicAccessors := by rw [X.admits.platform]
  have hstk : (F0 m pc ls ((av.reverse ++ .ref k :: st).map (zv_cv V))).stack = (av.map (zv_cv V)).reverse ++ .ref (zv_ad V k) :: st.map (zv_cv V) := by
    show (av.reverse ++ .ref k :: st).map (zv_cv V) = _
    rw [List.map_append, List.map_reverse, List.map_cons]
    rfl
  have hlen : ∀ sig, parseMethodDescriptor y.desc = some sig → (av.map (zv_cv V)).length = sig.parameters.length := fun sig h => by
    rw [List.length_map]
    exact zg_len hn _ h
  have key : ∃ tm vm', s.methodNamed? y = some tm ∧ s.WarmedH vm' ∧ ∀ target, (∀ acts, Steps p.tables e below (doInvoke e ((T.setVm vm').setTop (F0 m pc ls (st.map (zv_cv V)))) acts tm (.ref (zv_ad V k) :: av.map (zv_cv V)).toArray).1 target) → Steps p.tables e below (T.setTop (F0 m pc ls ((av.reverse ++ .ref k :: st).map (zv_cv V)))) target := by
    cases nest
    · obtain ⟨tm, _, _, _, vm', z1, -, -, -, -, -, -, -, z2, z3⟩ := Steps.initColdArgs (e := e) X.here K.1.1 X.warmed hpl K.1.2.2.2.2.1 hy1 hy (zx_w E K.1 hl rfl args) hinst hcode (f := F0 m pc ls ((av.reverse ++ .ref k :: st).map (zv_cv V))) rfl hlen hstk (by rw [K.1.2.1]; exact hd)
      exact ⟨tm, vm', z1, z2, z3⟩
    · have hl9 : (Cond.methodLinkNest M.1 i y "FlipPages").before args s = true := va_Nw.use rfl (va_Nw.warmM K.1.2.2.2.2.2.2.2.1 (va_Nw.of rfl (E.2.1 _ hl)))
      obtain ⟨tm, _, _, _, vm', z1, -, -, -, -, -, -, -, z2, z3⟩ := Steps.initColdArgsNest (e := e) X.here K.1.1 X.warmed hpl K.1.2.2.2.2.1 hy1 hy hl9 hinst hcode (f := F0 m pc ls ((av.reverse ++ .ref k :: st).map (zv_cv V))) rfl hlen hstk (by rw [K.1.2.1]; exact hd)
      exact ⟨tm, vm', z1, z2, z3⟩
  obtain ⟨tm, vm', z1, z2, z3⟩ := key
  have X₁ := X.noted z2
  obtain ⟨t, a1, b1⟩ := zh_into (U := T.setVm vm') E hnm K hT X₁ hC hfr hlc hst hcn hcs hd (X₁.named z1) h4 g4 h3 kr kt
  exact ⟨t, z3 _ fun acts => by rw [doInvoke_state]; exact a1, b1⟩
theorem zh_obj0 (E : zv_OK V) {i k : Nat} (hd : decode M.2.1 pc = .ok (.invokespecial i, 3)) (hl : Cond.methodLink M.1 i objectInit ∈ lw_tbl) (hfr : 1 ≤ fr) (hlc : (st.map fun v => v.category).sum + 12 ≤ lc) (kk : zh_G V M fr lc n0 u0 (pc + 3) st lv w Q) : zh_G V M fr lc n0 u0 pc (.ref k :: st) lv w Q := by
  intro p e R s m args below meth c H locs cells slots ls hnm K
  have hr := K.2.1
  exact W.objInit K.1.1 K.1.2.1 K.1.2.2.2.2.1 (zx_w E K.1 hl rfl args) (zx_w E K.1 (by decide +kernel : Cond.instanceMethod objectInit ∈ lw_tbl) rfl args) (zx_w E K.1 (by decide +kernel : Cond.code objectInit ⟨#[0xb1]⟩ 1 none ∈ lw_tbl) rfl args) rfl (K.2.2.2.2.2.2.1.trans K.1.2.2.2.1.symm) rfl hd (by omega) (by show 2 * 0 + _ + 12 ≤ _; rw [zv_cats]; omega) (kk p e R s m args below meth c H locs cells slots ls hnm K)
theorem zh_vrt (E : zv_OK V) {M' : zg_M} {y : MethodName} {fr' lc' i k ci : Nat} {q : vw_C} {av : List Value} {v : Option Value} {P : zw_W → Prop} (hd : decode M.2.1 pc = .ok (.invokevirtual i, 3)) (hC : zg_C V M' y fr' lc' (.ref k :: av) w (zq_p (.inl v) P)) (hw : [Cond.methodLink M.1 i y, Cond.instanceMethod y, Cond.selects q.1 y y, Cond.initialized y.cls, zg_cw M' y].all (fun x => decide (x ∈ lw_tbl) && goodWord x) = true)
    (hc : zc_cl[ci]? = some q) (ht : (zw_t w k).1 = ci) (hk : 1 ≤ k) (hkn : k < w.1) (hh : M'.2.2.2.2 = []) (hy : y.cls ≠ "java/lang/invoke/MethodHandle" ∧ y.cls ≠ "java/lang/invoke/VarHandle") (hn : (parseMethodDescriptor y.desc).map (fun d => d.parameters.length) = some av.length) (hfr : fr' + 1 ≤ fr) (hlc : 19 + M'.2.2.1 + lc' ≤ lc) (hst : (st.map fun v => v.category).sum ≤ 8) (hcn : w.1 ≤ zc_cn ∧ w.2.1 ≤ zc_cs)
    {st0 : List Value} (h0 : st0 = av.reverse ++ .ref k :: st) (kr : ∀ w', P w' → zh_G V M fr lc n0 u0 (pc + 3) (v.toList ++ st) lv w' Q) : zh_G V M fr lc n0 u0 pc st0 lv w Q :=
  zh_invV E hd hC hw hc ht hk hkn hh hy hn hfr hlc hst hcn.1 hcn.2 h0 (fun v' w' h => by obtain ⟨h1, h2⟩ := h; cases h1; exact kr w' h2) (fun k w' h => by cases h.1)
theorem zh_irt (E : zv_OK V) (nest : Bool) {M' : zg_M} {y : MethodName} {fr' lc' i k : Nat} {av : List Value} {P : zw_W → Prop} (hd : decode M.2.1 pc = .ok (.invokespecial i, 3)) (hC : zg_C V M' y fr' lc' (.ref k :: av) w (zq_p (.inl none) P)) (hw : [Cond.instanceMethod y, Cond.initialized y.cls, zg_cw M' y].all (fun x => decide (x ∈ lw_tbl) && goodWord x) = true)
    (hl : if nest then Cond.methodLinkNest M.1 i y "FlipPages" ∈ lw_tbl else Cond.methodLink M.1 i y ∈ lw_tbl) (hy1 : y.name = "<init>") (hh : M'.2.2.2.2 = []) (hr : M'.2.2.2.1 = none) (hy : y.cls ≠ "java/lang/invoke/MethodHandle" ∧ y.cls ≠ "java/lang/invoke/VarHandle") (hn : (parseMethodDescriptor y.desc).map (fun d => d.parameters.length) = some av.length) (hfr : fr' + 1 ≤ fr) (hlc : 19 + M'.2.2.1 + lc' ≤ lc) (hst : (st.map fun v => v.category).sum ≤ 8) (hcn : w.1 ≤ zc_cn ∧ w.2.1 ≤ zc_cs)
    {st0 : List Value} (h0 : st0 = av.reverse ++ .ref k :: st) (kr : ∀ w', P w' → zh_G V M fr lc n0 u0 (pc + 3) st lv w' Q) : zh_G V M fr lc n0 u0 pc st0 lv w Q :=
  zh_invI E nest hd hC hw hl hy1 hh hr hy hn hfr hlc hst hcn.1 hcn.2 h0 (fun v' w' h => by obtain ⟨h1, h2⟩ := h; cases h1; exact kr w' h2) (fun k w' h => by cases h.1)
theorem zh_of {V : zv_V} {M : zg_M} {y : MethodName} {fr lc : Nat} {args : List Value} {w : zw_W} {Q : zg_O → zw_W → Prop} (hy : plainName y.cls = true) (hM : y.cls = M.1) (ha : (lg_sl args).length ≤ M.2.2.1) (hin : y.name = "<init>") (hG : zh_G V M fr lc w.1 w.2.1 0 [] (lv_args 0 args) w Q) : zg_C V M y fr lc args w Q := by
  intro rm r1 r2 r3 r4
  refine MetFree.of_bodyS (code := M.2.1) (maxLocals := M.2.2.1) (ret := M.2.2.2.1) hy ?_ ?_
  · intro a s m h hn
    obtain ⟨meth, c, h1, h2, h3, h4, h5, h6, -⟩ := zg_cw_spec (atoms_spec (ws := [zg_cw M y]) h _ List.mem_cons_self) hn
    exact ⟨meth, c, h1, h2, h3, h4, h5, h6⟩
  · intro p e s m a below meth c s₁ B hml hP _
    obtain ⟨rfl, hW, hw⟩ := hP
    obtain ⟨meth', c', h1, h2, h3, h4, h5, h6, h7⟩ := zg_cw_spec (atoms_spec (ws := [zg_cw M y]) B.pre _ List.mem_cons_self) B.named
    cases h1.symm.trans B.method
    cases h2.symm.trans (Stand.of_body B).code
    have hown : s.vm.findClass M.1 = some m.cls := by rw [← hM]; exact findClass_of_methodNamed B.named
    have hh0 : s₁.heap = s.heap := by rw [B.state]; rfl
    have hl := lv_entry (args.map (zv_cv V)) (n := M.2.2.1) (by rw [zg_sls]; exact ha)
    rw [zg_args] at hl
    have hs := hw.1
    have hpos : 1 ≤ w.1 ∨ w.1 = 0 := by omega
    have g := hG p e rm s m (args.map (zv_cv V)).toArray below meth c s.heap [] 0 0 _ (by rw [(name_of_methodNamed B.named B.method).1]; exact hin) ⟨⟨B.exec, B.bytes, B.returns, hml, hown, B.notSynchronized, h7, hW, hw.2.1, ?_⟩, ⟨r1, r2, r3, r4⟩, rfl, rfl, hw, ⟨(fun _ h => nomatch h), hs⟩, hl⟩ s₁ hh0 (Stand.of_body B)
    · obtain ⟨t, a1, o, b1, b2, b3⟩ := g
      refine ⟨t, o, ?_, b1, b2, b3⟩
      rw [lg_entry_eq]
      exact a1
    · rcases Nat.lt_or_ge s.heap.size (zv_S V) with h | h
      · exfalso
        have h9 := hw.2.1 s.heap.size h
        rw [Array.getElem?_eq_getElem h] at h9
        simp at h9
      · exact h
theorem zh_putR (E : zv_OK V) {k ci j i r : Nat} {q : vw_C} (hd : decode M.2.1 pc = .ok (.putfield i, 3)) (hc : zc_cl[ci]? = some q) (ht : (zw_t w k).1 = ci) (hk : 1 ≤ k) (hn : k < w.1) (hj : j < q.2.2) (hl : Cond.fieldLink M.1 i q.1 (q.2.1 j).2.1 (q.2.1 j).2.2.1 ∈ lw_tbl)
    (hr : zc_rf ci j = true) (hf : (q.2.1 j).2.2.2 = true) (hdecl : (q.2.1 j).1 = M.1) (hx : ∀ a, narrow (zc_ty ci j) (.ref a) = .ref a) (hfit : ∀ a, fits (zc_ty ci j) (.ref a) = true) (kk : zh_G V M fr lc n0 u0 (pc + 3) st lv (zw_sr w k j (some r)) Q) : zh_G V M fr lc n0 u0 pc (.ref r :: .ref k :: st) lv w Q := by
  intro p e R s m args below meth c H locs cells slots ls hnm K
  obtain ⟨hN, cell, q1, q2, q3, q4⟩ := zw_obj K.2.2.2.2.1 hk hn hc ht
  have hal := K.1.2.2.2.2.2.2.2.1.alike
  have hKn := u_Kn_moved hal (E.2.2.2.2.1 ci q hc)
  obtain ⟨hS, hfc, kC, hkC, hkind⟩ := hKn
  obtain ⟨cf, kf, fi, f, hi, hsl⟩ := hS j hj
  have hts : ∀ x ∈ u_ws q.1 q.2.1 q.2.2, x.before args s = true := fun x hx => zx_w E K.1 (zc_lay ci q hc x hx).1 (zc_lay ci q hc x hx).2 args
  have hty := zc_tyok ci q hc
  have hap : ∀ a, a < q.2.2 → ∀ b, b < q.2.2 → a ≠ b → zv_I V ci a ≠ zv_I V ci b := by
    intro a ha b hb hne
    obtain ⟨_, _, _, fa, hia, ea⟩ := hS a ha
    obtain ⟨_, _, _, fb, hib, eb⟩ := hS b hb
    rw [← ea, ← eb]
    refine u_apart (u_lays hts (fun _ h => h) ha) (u_lays hts (fun _ h => h) hb) hia hib ?_
    rw [(State.fieldFound?_type hia (hty.1 a ha)).1, (State.fieldFound?_type hib (hty.1 b hb)).1]
    exact hty.2.1 a ha b hb hne
  have hlay := hts _ (u_in_lay hj)
  unfold u_lay at hlay
  rw [if_pos hf] at hlay
  have hst := (u_facts hfc hkC (u_lays hts (fun _ h => h) hj) hi).1
  have hcf : m.cls = cf := by
    obtain ⟨_, _, c', _, _, _, -, -, hf', -, -, -, hown2, -⟩ := Cond.laysFinal_spec hlay
    have e1 : c' = cf := by have := hi.symm.trans hf'; simp at this; exact this.1.symm
    rw [hdecl] at hown2
    rw [← e1]; exact Option.some.inj (K.1.2.2.2.2.1.symm.trans hown2)
  have h6 := u_fits hfc hkC hkind (Or.inr hlay) hi (hty.1 j hj) (hx (zv_ad V r)) (hfit (zv_ad V r))
  have hi' := hi
  rw [hty.2.2 j hj] at hi'
  refine W.putFinK K.1.1 K.1.2.1 K.1.2.2.2.2.1 (zx_w E K.1 hl rfl args) hi' hst hcf hnm (by rw [q2]; exact h6) q1 q3 (by rw [hsl]; exact k2_hasslot (q4 j hj)) rfl rfl hd fun H' e1 e2 e3 => ?_
  rw [hsl] at e1
  refine kk p e R s m args below meth c H' _ cells slots ls hnm ⟨K.1, K.2.1, K.2.2.1, K.2.2.2.1, zw_put K.2.2.2.2.1 rfl hk e2 e3 zw_rest_r ?_, ⟨zg_locs hk K.2.2.2.2.2.1.1, K.2.2.2.2.2.1.2⟩, K.2.2.2.2.2.2⟩
  have h5 := zc_num ci q hc
  unfold zw_cell
  show if (zw_t w k).1 < 5 then _ else _
  rw [ht, if_pos h5.1]
  refine ⟨by show (zw_t w k).2 = _; rw [hN]; exact h5.2, ?_⟩
  show t_OB _ _ (zw_t w k).2 _ _ _
  rw [hN]
  refine t_OB.to (V := updV (fun j => if zc_rf ci j = true then zv_rf V (zw_r w k j) else .int (zw_i w k j)) j (.ref (zv_ad V r))) ⟨_, e1, q2, q3, t_set q4 (fun a b ha hb => hap a ha b hb) hj _⟩ (fun a _ => ?_)
  by_cases e : a = j
  · subst e
    show updV _ a _ a = if zc_rf ci a = true then zv_rf V (zw_up (zw_r w) k a (some r) k a) else _
    rw [zw_up_s, hr]
    simp [updV, zv_rf]
  · show updV _ j _ a = if zc_rf ci a = true then zv_rf V (zw_up (zw_r w) k j (some r) k a) else _
    rw [zw_up_n _ _ (Or.inr e)]
    simp only [updV, if_neg e]
end ZHG

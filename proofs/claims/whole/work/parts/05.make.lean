/-! The light judgement's rows for what is made, for System.arraycopy, for the ends of a method and its throws. -/
section ZGN
variable {V : zv_V} {M : zg_M} {fr lc n0 u0 pc : Nat} {st : List Value} {lv : List (Nat × Value)} {w : zw_W} {Q : zg_O → zw_W → Prop}
theorem zg_new (E : zv_OK V) {ci i : Nat} {q : vw_C} (hd : decode M.2.1 pc = .ok (.new i, 3)) (hc : zc_cl[ci]? = some q) (h1 : 1 ≤ w.1) (hl : Cond.classLink M.1 i q.1 ∈ lw_tbl) (hin : Cond.instantiable q.1 q.2.2 ∈ lw_tbl) (hini : Cond.initialized q.1 ∈ lw_tbl) (hcn : w.1 + 1 ≤ zc_cn) (hcs : w.2.1 + q.2.2 ≤ zc_cs)
    (kk : zg_G V M fr lc n0 u0 (pc + 3) (.ref w.1 :: st) lv (zw_nw w (ci, q.2.2)) Q) : zg_G V M fr lc n0 u0 pc st lv w Q := by
  intro p e R s m args below meth c H locs cells slots ls K
  have hal := K.1.2.2.2.2.2.2.2.1.alike
  have hKn := u_Kn_moved hal (E.2.2.2.2.1 ci q hc)
  have hts : ∀ x ∈ u_ws q.1 q.2.1 q.2.2, x.before args s = true := fun x hx => zx_w E K.1 (zc_lay ci q hc x hx).1 (zc_lay ci q hc x hx).2 args
  have hr := K.2.1
  have hc1 := K.2.2.1
  have hc2 := K.2.2.2.1
  refine W.newcK K.1.1 K.1.2.1 K.1.2.2.2.2.1 (zx_w E K.1 hl rfl args) (zx_w E K.1 hin rfl args) (zx_w E K.1 hini rfl args) rfl hd (by omega) (by omega) hKn.2.1 rfl fun H1 kC hkC e1 z1 o1 => ?_
  have hP := K.2.2.2.2.1
  have g := kk p e R s m args below meth c H1 locs (cells + 1) (slots + q.2.2) ls ⟨K.1, K.2.1, by show n0 + (cells + 1) = w.1 + 1; omega, by show u0 + (slots + q.2.2) = w.2.1 + q.2.2; omega, zw_push hP h1 rfl z1 o1 zw_rest_n ?_, K.2.2.2.2.2.1, K.2.2.2.2.2.2⟩
  · have e2 : zv_cv V (.ref w.1) = .ref H.size := by show Value.ref (zv_ad V w.1) = _; rw [zw_adn hP h1]
    rw [List.map_cons, e2] at g
    exact g
  · show zw_cell V (zw_ro (zw_t w) w.1 (ci, q.2.2) w.1) (zw_ro (zw_r w) w.1 (fun _ => none) w.1) (zw_ro (zw_i w) w.1 (fun _ => 0) w.1) (zw_ro (zw_l w) w.1 (fun _ => 0) w.1) _ _
    rw [zw_ro_s, zw_ro_s, zw_ro_s, zw_ro_s]
    unfold zw_cell
    rw [if_pos (zc_num ci q hc).1]
    exact ⟨(zc_num ci q hc).2, (u_born (zc_ty ci) hts (fun _ h => h) hKn hkC e1 (zc_tyok ci q hc).1).to (zc_dflt ci q hc)⟩
theorem zg_newA (E : zv_OK V) {kd n : Nat} {i : Int32} {at_ : ArrayType} {ty : FieldType} {ca : Nat} (hd : decode M.2.1 pc = .ok (.newarray at_, 2)) (hty : newarray.typeOf at_ = ty) (h1 : 1 ≤ w.1) (hl : Cond.arrayClass ty ∈ lw_tbl) (hi : i = nI n) (hn : n < 100000) (hcn : w.1 + 1 ≤ zc_cn) (hcs : w.2.1 + n ≤ zc_cs)
    (hb : componentBytes ty ≤ 8) (hcl : (zv_s V).vm.findClass ("[" ++ ty.toString) = some (zv_A V ca)) (hce : ∀ H1 : Heap, H1[zv_ad V w.1]? = some (arrV (zv_A V ca) n (fun _ => defaultValue ty)) → zw_cell V (kd, n) (fun _ => none) (fun _ => 0) (fun _ => 0) (zv_ad V w.1) H1)
    (kk : zg_G V M fr lc n0 u0 (pc + 2) (.ref w.1 :: st) lv (zw_nw w (kd, n)) Q) : zg_G V M fr lc n0 u0 pc (.int i :: st) lv w Q := by
  subst hty
  intro p e R s m args below meth c H locs cells slots ls K
  have hr := K.2.1
  have hc1 := K.2.2.1
  have hc2 := K.2.2.2.1
  have hP := K.2.2.2.2.1
  refine va_newaK (N := n) K.1.1 K.1.2.1 (zx_w E K.1 hl rfl args) rfl hd rfl (by rw [hi]; exact nI_pos (by omega)) (by rw [hi]; exact nI_clamp (by omega)) (by have := Nat.mul_le_mul_left n hb; omega) (by omega) (by omega) rfl fun H1 cA e1 z1 o1 _ hNm => ?_
  have ecA : cA = zv_A V ca := by
    have h9 := hNm
    rw [K.1.2.2.2.2.2.2.2.1.alike.findClass, hcl] at h9
    exact (Option.some.inj h9).symm
  subst ecA
  have g := kk p e R s m args below meth c H1 locs (cells + 1) (slots + n) ls ⟨K.1, K.2.1, by show n0 + (cells + 1) = w.1 + 1; omega, by show u0 + (slots + n) = w.2.1 + n; omega, zw_push hP h1 rfl z1 o1 zw_rest_n ?_, K.2.2.2.2.2.1, K.2.2.2.2.2.2⟩
  · have e2 : zv_cv V (.ref w.1) = .ref H.size := by show Value.ref (zv_ad V w.1) = _; rw [zw_adn hP h1]
    rw [List.map_cons, e2] at g
    exact g
  · show zw_cell V (zw_ro (zw_t w) w.1 (kd, n) w.1) (zw_ro (zw_r w) w.1 (fun _ => none) w.1) (zw_ro (zw_i w) w.1 (fun _ => 0) w.1) (zw_ro (zw_l w) w.1 (fun _ => 0) w.1) _ _
    rw [zw_ro_s, zw_ro_s, zw_ro_s, zw_ro_s, ← zw_adn hP h1]
    refine hce H1 ?_
    rw [zw_adn hP h1]
    exact e1
theorem zg_newI (E : zv_OK V) {n : Nat} {i : Int32} (hd : decode M.2.1 pc = .ok (.newarray .int, 2)) (h1 : 1 ≤ w.1) (hi : i = nI n) (hn : n < 100000) (hcn : w.1 + 1 ≤ zc_cn) (hcs : w.2.1 + n ≤ zc_cs) (kk : zg_G V M fr lc n0 u0 (pc + 2) (.ref w.1 :: st) lv (zw_nw w (10, n)) Q) : zg_G V M fr lc n0 u0 pc (.int i :: st) lv w Q :=
  zg_newA E (kd := 10) (ca := 0) hd rfl h1 (by decide +kernel) hi hn hcn hcs (by decide) E.2.2.2.2.2.1.2 (fun _ h => h) kk
theorem zg_newZ (E : zv_OK V) {n : Nat} {i : Int32} (hd : decode M.2.1 pc = .ok (.newarray .boolean, 2)) (h1 : 1 ≤ w.1) (hi : i = nI n) (hn : n < 100000) (hcn : w.1 + 1 ≤ zc_cn) (hcs : w.2.1 + n ≤ zc_cs) (kk : zg_G V M fr lc n0 u0 (pc + 2) (.ref w.1 :: st) lv (zw_nw w (11, n)) Q) : zg_G V M fr lc n0 u0 pc (.int i :: st) lv w Q :=
  zg_newA E (kd := 11) (ca := 1) hd rfl h1 (by decide +kernel) hi hn hcn hcs (by decide) E.2.2.2.2.2.2.1.2 (fun _ h => h) kk
theorem zg_newL (E : zv_OK V) {n : Nat} {i : Int32} (hd : decode M.2.1 pc = .ok (.newarray .long, 2)) (h1 : 1 ≤ w.1) (hi : i = nI n) (hn : n < 100000) (hcn : w.1 + 1 ≤ zc_cn) (hcs : w.2.1 + n ≤ zc_cs) (kk : zg_G V M fr lc n0 u0 (pc + 2) (.ref w.1 :: st) lv (zw_nw w (12, n)) Q) : zg_G V M fr lc n0 u0 pc (.int i :: st) lv w Q :=
  zg_newA E (kd := 12) (ca := 2) hd rfl h1 (by decide +kernel) hi hn hcn hcs (by decide) E.2.2.2.2.2.2.2.1.2 (fun _ h => h) kk
/-- new int[n][k] -/
abbrev zw_mm (w : zw_W) (n k : Nat) : zw_W := (w.1 + 1 + n, w.2.1 + n + n * k, (fun a => if a = w.1 then (13, n) else if w.1 < a ∧ a < w.1 + 1 + n then (10, k) else zw_t w a), (fun a => if a = w.1 then (fun j => if j < n then some (w.1 + 1 + j) else none) else zw_r w a), (fun a => if w.1 < a ∧ a < w.1 + 1 + n then (fun _ => 0) else zw_i w a), zw_l w)
theorem zg_multi (E : zv_OK V) {i n k : Nat} {x y : Int32} (hd : decode M.2.1 pc = .ok (.multianewarray i 2, 4)) (h1 : 1 ≤ w.1) (hl : Cond.classLink M.1 i "[[I" ∈ lw_tbl) (hx : x = nI n) (hy : y = nI k) (hn : n < 100000) (hk : k < 100000) (hcn : w.1 + 1 + n ≤ zc_cn) (hcs : w.2.1 + n + n * k ≤ zc_cs)
    (kk : zg_G V M fr lc n0 u0 (pc + 4) (.ref w.1 :: st) lv (zw_mm w n k) Q) : zg_G V M fr lc n0 u0 pc (.int y :: .int x :: st) lv w Q := by
  intro p e R s m args below meth c H locs cells slots ls K T hT X
  have hr := K.2.1
  have hc1 := K.2.2.1
  have hc2 := K.2.2.2.1
  have hP := K.2.2.2.2.1
  have hal := K.1.2.2.2.2.2.2.2.1.alike
  have hov : ∃ comp c k, s.vm.findClass "[I" = some comp ∧ s.vm.classes[c]? = some k ∧ k.kind = .array comp (.array .int) ∧ s.vm.findClass "[[I" = some c := by
    obtain ⟨c1, c2, k2, g1, g2, g3, g4⟩ := zz_overA (o := none) (first := zv_s V) (idx := []) (E.2.1 (Cond.arrayOver (.array .int)) (by decide +kernel))
    obtain ⟨k3, g5, g6⟩ := hal.2.2 _ _ g2
    exact ⟨c1, c2, k3, by rw [hal.findClass]; exact g1, g5, by rw [g6]; exact g3, by rw [hal.findClass]; exact g4⟩
  obtain ⟨vm₁, cA, comp, fA, fC, -, X', step⟩ := zz_multi X K.1.1 K.1.2.2.2.2.1 (zx_w E K.1 hl rfl args) hov (zx_w E K.1 (by decide +kernel : Cond.arrayClass .int ∈ lw_tbl) rfl args)
    (g := F0 m pc ls ((.int y :: .int x :: st).map (zv_cv V))) rfl (by rw [K.1.2.1]; exact hd) (n := x) (k := y) (N := n) (K := k) (rest := st.map (zv_cv V)) rfl (by rw [hx]; exact nI_pos (by omega)) (by rw [hy]; exact nI_pos (by omega)) (by rw [hx]; exact nI_clamp (by omega)) (by rw [hy]; exact nI_clamp (by omega)) (by omega) (by omega) (by omega) (by omega)
  have ecA : cA = zv_A V 3 := by
    rw [hal.findClass, E.2.2.2.2.2.2.2.2.1.2] at fA
    exact (Option.some.inj fA).symm
  have ecC : comp = zv_A V 0 := by
    rw [hal.findClass, E.2.2.2.2.2.1.2] at fC
    exact (Option.some.inj fC).symm
  subst ecA
  subst ecC
  have hTh : (T.setVm vm₁).heap = H := hT
  obtain ⟨f1, f2, -, -⟩ := zz_f_facts (T.setVm vm₁) (zv_A V 3) (zv_A V 0) n k n
  have fo : ∀ a : Nat, a < H.size → (zz_f (T.setVm vm₁) (zv_A V 3) (zv_A V 0) n k n).heap[a]? = H[a]? := fun a ha => by
    have h9 := zz_f_old (T.setVm vm₁) (zv_A V 3) (zv_A V 0) n k (a := a) (by rw [hTh]; exact ha) n
    rw [hTh] at h9
    exact h9
  have fr9 := zz_f_row (T.setVm vm₁) (zv_A V 3) (zv_A V 0) n k n
  rw [hTh] at f1 f2 fr9
  generalize zz_f (T.setVm vm₁) (zv_A V 3) (zv_A V 0) n k n = F at X' step f1 f2 fo fr9
  have hs := hP.1
  have had := zw_adn hP h1
  have hW : zw_P V (zw_mm w n k) F.heap := by
    refine ⟨by show F.heap.size + 1 = zv_S V + (w.1 + 1 + n); omega, fun q hq => by rw [fo q (by omega)]; exact hP.2.1 q hq, fun a ha hb => ?_⟩
    have hb' : a < w.1 + 1 + n := hb
    show zw_cell V (if a = w.1 then (13, n) else if w.1 < a ∧ a < w.1 + 1 + n then (10, k) else zw_t w a) ((if a = w.1 then (fun j => if j < n then some (w.1 + 1 + j) else none) else zw_r w a)) (if w.1 < a ∧ a < w.1 + 1 + n then (fun _ => 0) else zw_i w a) (zw_l w a) _ _
    by_cases e1 : a = w.1
    · subst e1
      rw [if_pos rfl, if_pos rfl]
      show F.heap[zv_ad V w.1]? = some (arrV _ _ _)
      rw [had, f2]
      unfold zz_o
      refine congrArg (fun f => some (arrV (zv_A V 3) n f)) (funext fun j => ?_)
      show _ = zv_rf V (if j < n then some (w.1 + 1 + j) else none)
      by_cases hj : j < n
      · rw [if_pos hj, if_pos hj]
        show Value.ref _ = Value.ref (zv_ad V (w.1 + 1 + j))
        rw [zv_ad_1 V (by omega)]
        exact congrArg Value.ref (show H.size + 1 + j = zv_S V + (w.1 + 1 + j - 1) by omega)
      · rw [if_neg hj, if_neg hj]
        rfl
    · rw [if_neg e1, if_neg e1]
      by_cases e3 : w.1 < a ∧ a < w.1 + 1 + n
      · rw [if_pos e3, if_pos e3]
        show F.heap[zv_ad V a]? = some (arrV _ _ _)
        have h9 := fr9 (a - w.1 - 1) (by omega)
        rw [zv_ad_1 V ha, show zv_S V + (a - 1) = H.size + 1 + (a - w.1 - 1) by omega, h9]
        rfl
      · rw [if_neg e3, if_neg e3]
        have hlt : a < w.1 := by omega
        exact zw_cell_kept (hP.2.2 a ha hlt) (fo _ (by rw [zv_ad_1 V ha]; omega))
  have hL : ∀ q ∈ locs ++ (List.range n).map (fun j => (⟨T.heap.size, j⟩ : Loc)), zv_S V ≤ q.base := by
    intro q hq
    rcases List.mem_append.mp hq with h | h
    · exact K.2.2.2.2.2.1.1 q h
    · obtain ⟨j, -, rfl⟩ := List.mem_map.mp h
      show zv_S V ≤ T.heap.size
      rw [hT]
      omega
  obtain ⟨t, a1, b1⟩ := kk p e R s m args below meth c F.heap _ (cells + 1 + n) (slots + n + n * k) ls ⟨K.1, K.2.1, by show n0 + (cells + 1 + n) = w.1 + 1 + n; omega, by show u0 + (slots + n + n * k) = w.2.1 + n + n * k; omega, hW, ⟨hL, K.2.2.2.2.2.1.2⟩, K.2.2.2.2.2.2⟩ F rfl X'
  refine ⟨t, step t ?_, b1⟩
  have e2 : zv_cv V (.ref w.1) = .ref T.heap.size := by show Value.ref (zv_ad V w.1) = _; rw [had, hT]
  rw [List.map_cons, e2] at a1
  exact a1
end ZGN

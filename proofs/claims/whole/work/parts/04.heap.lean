/-! The light judgement's rows for the heap. -/
theorem zx_w {V : zv_V} {M : zg_M} {p : Program} {s : State} {m : MethodId} {meth : Method} {c : Code} (E : zv_OK V) (X : zg_X V M p s m meth c) {w : Cond} (h : w ∈ lw_tbl) (hg : goodWord w = true) (args : Array Value) : w.before args s = true :=
  word_at X.2.2.2.2.2.2.2.1 (good_of_word hg) (E.2.1 w h)
theorem zc_lay : ∀ (k : Nat) (q : vw_C), zc_cl[k]? = some q → ∀ w ∈ u_ws q.1 q.2.1 q.2.2, w ∈ lw_tbl ∧ goodWord w = true := by
  intro k q h
  match k, h with
  | 0, h => cases h; decide +kernel
  | 1, h => cases h; decide +kernel
  | 2, h => cases h; decide +kernel
  | 3, h => cases h; decide +kernel
  | 4, h => cases h; decide +kernel
  | k + 5, h => simp [zc_cl] at h
theorem zc_num : ∀ (k : Nat) (q : vw_C), zc_cl[k]? = some q → k < 5 ∧ q.2.2 = zc_nf k := by
  intro k q h
  match k, h with
  | 0, h => cases h; decide
  | 1, h => cases h; decide
  | 2, h => cases h; decide
  | 3, h => cases h; decide
  | 4, h => cases h; decide
  | k + 5, h => simp [zc_cl] at h
/-- the fields' types -/
def zc_ty (k : Nat) : Nat → FieldType := if k = 0 then tyX0 else if k = 1 then tyX1 else if k = 2 then tyX2 else if k = 3 then tyX3 else tyX4
theorem zc_tyok : ∀ (k : Nat) (q : vw_C), zc_cl[k]? = some q → (∀ j, j < q.2.2 → parseFieldDescriptor (q.2.1 j).2.2.1 = some (zc_ty k j)) ∧ (∀ a, a < q.2.2 → ∀ b, b < q.2.2 → a ≠ b → (q.2.1 a).2.1 ≠ (q.2.1 b).2.1) ∧ (∀ j, j < q.2.2 → (q.2.1 j).1 = q.1) := by
  intro k q h
  match k, h with
  | 0, h => cases h; exact ⟨tyX0_ok, nmX0, by decide +kernel⟩
  | 1, h => cases h; exact ⟨tyX1_ok, nmX1, by decide +kernel⟩
  | 2, h => cases h; exact ⟨tyX2_ok, nmX2, by decide +kernel⟩
  | 3, h => cases h; exact ⟨tyX3_ok, nmX3, by decide +kernel⟩
  | 4, h => cases h; exact ⟨tyX4_ok, nmX4, by decide +kernel⟩
  | k + 5, h => simp [zc_cl] at h
theorem zc_dflt : ∀ (k : Nat) (q : vw_C), zc_cl[k]? = some q → ∀ j, j < q.2.2 → defaultValue (zc_ty k j) = if zc_rf k j = true then .null else .int 0 := by
  intro k q h
  match k, h with
  | 0, h => cases h; decide +kernel
  | 1, h => cases h; decide +kernel
  | 2, h => cases h; decide +kernel
  | 3, h => cases h; decide +kernel
  | 4, h => cases h; decide +kernel
  | k + 5, h => simp [zc_cl] at h
/-- a cell changes, the others stay -/
theorem zw_put {V : zv_V} {w w' : zw_W} {H H1 : Heap} {k : Nat} (hP : zw_P V w H) (hn : w'.1 = w.1) (hk : 1 ≤ k) (hz : H1.size = H.size) (ho : ∀ q, q ≠ zv_ad V k → H1[q]? = H[q]?)
    (hr : ∀ a, a ≠ k → zw_t w' a = zw_t w a ∧ zw_r w' a = zw_r w a ∧ zw_i w' a = zw_i w a ∧ zw_l w' a = zw_l w a) (hc : zw_cell V (zw_t w' k) (zw_r w' k) (zw_i w' k) (zw_l w' k) (zv_ad V k) H1) : zw_P V w' H1 := by
  refine ⟨by rw [hz, hn]; exact hP.1, fun q hq => ?_, fun a ha hb => ?_⟩
  · rw [ho q (by rw [zv_ad_1 V hk]; omega)]
    exact hP.2.1 q hq
  · by_cases e : a = k
    · subst e
      exact hc
    · obtain ⟨e1, e2, e3, e4⟩ := hr a e
      rw [e1, e2, e3, e4]
      exact zw_cell_kept (hP.2.2 a ha (by rw [← hn]; exact hb)) (ho _ (zv_ad_ne V ha hk e))
/-- a cell comes -/
theorem zw_push {V : zv_V} {w w' : zw_W} {H H1 : Heap} (hP : zw_P V w H) (h1 : 1 ≤ w.1) (hn : w'.1 = w.1 + 1) (hz : H1.size = H.size + 1) (ho : ∀ q, q < H.size → H1[q]? = H[q]?)
    (hr : ∀ a, a < w.1 → zw_t w' a = zw_t w a ∧ zw_r w' a = zw_r w a ∧ zw_i w' a = zw_i w a ∧ zw_l w' a = zw_l w a) (hc : zw_cell V (zw_t w' w.1) (zw_r w' w.1) (zw_i w' w.1) (zw_l w' w.1) H.size H1) : zw_P V w' H1 := by
  have hs := hP.1
  refine ⟨by rw [hz, hn]; omega, fun q hq => ?_, fun a ha hb => ?_⟩
  · rw [ho q (by omega)]
    exact hP.2.1 q hq
  · by_cases e : a = w.1
    · subst e
      rw [show zv_ad V w.1 = H.size by rw [zv_ad_1 V ha]; omega]
      exact hc
    · have hlt : a < w.1 := by omega
      obtain ⟨e1, e2, e3, e4⟩ := hr a hlt
      rw [e1, e2, e3, e4]
      exact zw_cell_kept (hP.2.2 a ha hlt) (ho _ (by rw [zv_ad_1 V ha]; omega))
theorem zw_adn {V : zv_V} {w : zw_W} {H : Heap} (hP : zw_P V w H) (h1 : 1 ≤ w.1) : zv_ad V w.1 = H.size := by
  have hs := hP.1
  rw [zv_ad_1 V h1]
  omega
theorem zw_obj {V : zv_V} {w : zw_W} {H : Heap} {k ci : Nat} {q : vw_C} (hP : zw_P V w H) (hk : 1 ≤ k) (hn : k < w.1) (hc : zc_cl[ci]? = some q) (ht : (zw_t w k).1 = ci) :
    (zw_t w k).2 = q.2.2 ∧ t_OB (zv_ad V k) (zv_C V ci) q.2.2 (zv_I V ci) H (fun j => if zc_rf ci j = true then zv_rf V (zw_r w k j) else .int (zw_i w k j)) := by
  have h := hP.2.2 k hk hn
  obtain ⟨h5, hN⟩ := zc_num ci q hc
  unfold zw_cell at h
  rw [ht, if_pos h5] at h
  rw [hN]
  exact ⟨h.1, by rw [← h.1]; exact h.2⟩
theorem zw_aI {V : zv_V} {w : zw_W} {H : Heap} {k n : Nat} (hP : zw_P V w H) (hk : 1 ≤ k) (hn : k < w.1) (ht : zw_t w k = (10, n)) : H[zv_ad V k]? = some (arrV (zv_A V 0) n (fun j => .int (zw_i w k j))) := by
  have h := hP.2.2 k hk hn
  rw [ht] at h
  exact h
theorem zw_aZ {V : zv_V} {w : zw_W} {H : Heap} {k n : Nat} (hP : zw_P V w H) (hk : 1 ≤ k) (hn : k < w.1) (ht : zw_t w k = (11, n)) : H[zv_ad V k]? = some (arrV (zv_A V 1) n (fun j => .int (zw_i w k j))) := by
  have h := hP.2.2 k hk hn
  rw [ht] at h
  exact h
theorem zw_aL {V : zv_V} {w : zw_W} {H : Heap} {k n : Nat} (hP : zw_P V w H) (hk : 1 ≤ k) (hn : k < w.1) (ht : zw_t w k = (12, n)) : H[zv_ad V k]? = some (arrV (zv_A V 2) n (fun j => .long (zw_l w k j))) := by
  have h := hP.2.2 k hk hn
  rw [ht] at h
  exact h
theorem zw_aR {V : zv_V} {w : zw_W} {H : Heap} {k n : Nat} (hP : zw_P V w H) (hk : 1 ≤ k) (hn : k < w.1) (ht : zw_t w k = (13, n)) : H[zv_ad V k]? = some (arrV (zv_A V 3) n (fun j => zv_rf V (zw_r w k j))) := by
  have h := hP.2.2 k hk hn
  rw [ht] at h
  exact h
abbrev zw_si (w : zw_W) (k j : Nat) (x : Int32) : zw_W := (w.1, w.2.1, zw_t w, zw_r w, zw_up (zw_i w) k j x, zw_l w)
abbrev zw_sl (w : zw_W) (k j : Nat) (x : Int64) : zw_W := (w.1, w.2.1, zw_t w, zw_r w, zw_i w, zw_up (zw_l w) k j x)
abbrev zw_sr (w : zw_W) (k j : Nat) (x : Option Nat) : zw_W := (w.1, w.2.1, zw_t w, zw_up (zw_r w) k j x, zw_i w, zw_l w)
abbrev zw_sa (w : zw_W) (k : Nat) (f : Nat → Int32) : zw_W := (w.1, w.2.1, zw_t w, zw_r w, zw_ro (zw_i w) k f, zw_l w)
/-- a new cell of the tag t -/
abbrev zw_nw (w : zw_W) (t : Nat × Nat) : zw_W := (w.1 + 1, w.2.1 + t.2, zw_ro (zw_t w) w.1 t, zw_ro (zw_r w) w.1 (fun _ => none), zw_ro (zw_i w) w.1 (fun _ => 0), zw_ro (zw_l w) w.1 (fun _ => 0))
theorem zw_rest_i {w : zw_W} {k j : Nat} {x : Int32} : ∀ a, a ≠ k → zw_t (zw_si w k j x) a = zw_t w a ∧ zw_r (zw_si w k j x) a = zw_r w a ∧ zw_i (zw_si w k j x) a = zw_i w a ∧ zw_l (zw_si w k j x) a = zw_l w a := fun a h => ⟨rfl, rfl, zw_up_row _ _ _ h, rfl⟩
theorem zw_rest_l {w : zw_W} {k j : Nat} {x : Int64} : ∀ a, a ≠ k → zw_t (zw_sl w k j x) a = zw_t w a ∧ zw_r (zw_sl w k j x) a = zw_r w a ∧ zw_i (zw_sl w k j x) a = zw_i w a ∧ zw_l (zw_sl w k j x) a = zw_l w a := fun a h => ⟨rfl, rfl, rfl, zw_up_row _ _ _ h⟩
theorem zw_rest_r {w : zw_W} {k j : Nat} {x : Option Nat} : ∀ a, a ≠ k → zw_t (zw_sr w k j x) a = zw_t w a ∧ zw_r (zw_sr w k j x) a = zw_r w a ∧ zw_i (zw_sr w k j x) a = zw_i w a ∧ zw_l (zw_sr w k j x) a = zw_l w a := fun a h => ⟨rfl, zw_up_row _ _ _ h, rfl, rfl⟩
theorem zw_rest_n {w : zw_W} {t : Nat × Nat} : ∀ a, a < w.1 → zw_t (zw_nw w t) a = zw_t w a ∧ zw_r (zw_nw w t) a = zw_r w a ∧ zw_i (zw_nw w t) a = zw_i w a ∧ zw_l (zw_nw w t) a = zw_l w a := fun a h => ⟨zw_ro_n _ _ (Nat.ne_of_lt h), zw_ro_n _ _ (Nat.ne_of_lt h), zw_ro_n _ _ (Nat.ne_of_lt h), zw_ro_n _ _ (Nat.ne_of_lt h)⟩
theorem zx_in {i : Int32} {j n : Nat} (hi : i = nI j) (hj : j < n) (hn : n < 2 ^ 31) : ¬ (i < 0 ∨ n ≤ i.toNatClampNeg) := by
  rw [hi]
  exact nI_in hj hn
theorem zx_cl {i : Int32} {j n : Nat} (hi : i = nI j) (hj : j < n) (hn : n < 2 ^ 31) : i.toNatClampNeg = j := by
  rw [hi]
  exact nI_clamp (by omega)
section ZGH
variable {V : zv_V} {M : zg_M} {fr lc n0 u0 pc : Nat} {st : List Value} {lv : List (Nat × Value)} {w : zw_W} {Q : zg_O → zw_W → Prop}
theorem zg_ldc (E : zv_OK V) {i : Nat} {v : Int32} (hd : decode M.2.1 pc = .ok (.ldc i, 2)) (hw : Cond.constant M.1 i v ∈ lw_tbl) (k : zg_G V M fr lc n0 u0 (pc + 2) (.int v :: st) lv w Q) : zg_G V M fr lc n0 u0 pc st lv w Q :=
  fun p e R s m args below meth c H locs cells slots ls K => lv_ldc K.1.1 K.1.2.1 K.1.2.2.2.2.1 (zx_w E K.1 hw rfl args) hd (k p e R s m args below meth c H locs cells slots ls K)
theorem zg_ldc2 (E : zv_OK V) {i : Nat} {v : Int64} (hd : decode M.2.1 pc = .ok (.ldc2_w i, 3)) (hw : Cond.constantLong M.1 i v ∈ lw_tbl) (k : zg_G V M fr lc n0 u0 (pc + 3) (.long v :: st) lv w Q) : zg_G V M fr lc n0 u0 pc st lv w Q :=
  fun p e R s m args below meth c H locs cells slots ls K => lv_ldc2 K.1.1 K.1.2.1 K.1.2.2.2.2.1 (zx_w E K.1 hw rfl args) hd (k p e R s m args below meth c H locs cells slots ls K)
theorem zg_getV (E : zv_OK V) {k ci j i : Nat} {q : vw_C} (hd : decode M.2.1 pc = .ok (.getfield i, 3)) (hc : zc_cl[ci]? = some q) (ht : (zw_t w k).1 = ci) (hk : 1 ≤ k) (hn : k < w.1) (hj : j < q.2.2) (hl : Cond.fieldLink M.1 i q.1 (q.2.1 j).2.1 (q.2.1 j).2.2.1 ∈ lw_tbl)
    {v : Value} (hv : (if zc_rf ci j = true then zv_rf V (zw_r w k j) else .int (zw_i w k j)) = zv_cv V v) (kk : zg_G V M fr lc n0 u0 (pc + 3) (v :: st) lv w Q) : zg_G V M fr lc n0 u0 pc (.ref k :: st) lv w Q := by
  intro p e R s m args below meth c H locs cells slots ls K
  obtain ⟨-, cell, q1, q2, q3, q4⟩ := zw_obj K.2.2.2.2.1 hk hn hc ht
  have hal := K.1.2.2.2.2.2.2.2.1.alike
  obtain ⟨hS, hfc, kC, hkC, hkind⟩ := u_Kn_moved hal (E.2.2.2.2.1 ci q hc)
  obtain ⟨cf, kf, fi, f, hi, hsl⟩ := hS j hj
  have hts : ∀ x ∈ u_ws q.1 q.2.1 q.2.2, x.before args s = true := fun x hx => zx_w E K.1 (zc_lay ci q hc x hx).1 (zc_lay ci q hc x hx).2 args
  refine W.getf K.1.1 K.1.2.1 K.1.2.2.2.2.1 (zx_w E K.1 hl rfl args) (by rw [(zc_tyok ci q hc).2.2 j hj] at hi; exact hi) (u_facts hfc hkC (u_lays hts (fun _ h => h) hj) hi).1 q1 (by rw [q3]; exact fun h => by cases h) (v := zv_cv V v) ?_ rfl rfl hd (kk p e R s m args below meth c H locs cells slots ls K)
  rw [hsl, q4 j hj]
  exact congrArg some hv
theorem zg_getI (E : zv_OK V) {k ci j i : Nat} {q : vw_C} (hd : decode M.2.1 pc = .ok (.getfield i, 3)) (hc : zc_cl[ci]? = some q) (ht : (zw_t w k).1 = ci) (hk : 1 ≤ k) (hn : k < w.1) (hj : j < q.2.2) (hl : Cond.fieldLink M.1 i q.1 (q.2.1 j).2.1 (q.2.1 j).2.2.1 ∈ lw_tbl)
    (hr : zc_rf ci j = false) (kk : zg_G V M fr lc n0 u0 (pc + 3) (.int (zw_i w k j) :: st) lv w Q) : zg_G V M fr lc n0 u0 pc (.ref k :: st) lv w Q :=
  zg_getV E hd hc ht hk hn hj hl (by rw [hr]; rfl) kk
theorem zg_getR (E : zv_OK V) {k ci j i r : Nat} {q : vw_C} (hd : decode M.2.1 pc = .ok (.getfield i, 3)) (hc : zc_cl[ci]? = some q) (ht : (zw_t w k).1 = ci) (hk : 1 ≤ k) (hn : k < w.1) (hj : j < q.2.2) (hl : Cond.fieldLink M.1 i q.1 (q.2.1 j).2.1 (q.2.1 j).2.2.1 ∈ lw_tbl)
    (hr : zc_rf ci j = true) (hv : zw_r w k j = some r) (kk : zg_G V M fr lc n0 u0 (pc + 3) (.ref r :: st) lv w Q) : zg_G V M fr lc n0 u0 pc (.ref k :: st) lv w Q :=
  zg_getV E hd hc ht hk hn hj hl (v := .ref r) (by rw [hr, hv]; rfl) kk
theorem zg_locs {V : zv_V} {locs : List Loc} {k j : Nat} (hk : 1 ≤ k) (h : ∀ q ∈ locs, zv_S V ≤ q.base) : ∀ q ∈ locs ++ [(⟨zv_ad V k, j⟩ : Loc)], zv_S V ≤ q.base := by
  intro q hq
  rcases List.mem_append.mp hq with h1 | h1
  · exact h q h1
  · rw [List.mem_singleton.mp h1]
    show zv_S V ≤ zv_ad V k
    rw [zv_ad_1 V hk]
    omega
/-- a field that isn't final; b: the field's type is boolean -/
theorem zg_putI (E : zv_OK V) {k ci j i : Nat} {q : vw_C} {x : Int32} (hd : decode M.2.1 pc = .ok (.putfield i, 3)) (hc : zc_cl[ci]? = some q) (ht : (zw_t w k).1 = ci) (hk : 1 ≤ k) (hn : k < w.1) (hj : j < q.2.2) (hl : Cond.fieldLink M.1 i q.1 (q.2.1 j).2.1 (q.2.1 j).2.2.1 ∈ lw_tbl)
    (hr : zc_rf ci j = false) (hf : (q.2.1 j).2.2.2 = false) (hx : narrow (zc_ty ci j) (.int x) = .int x) (hfit : fits (zc_ty ci j) (.int x) = true) (kk : zg_G V M fr lc n0 u0 (pc + 3) st lv (zw_si w k j x) Q) : zg_G V M fr lc n0 u0 pc (.int x :: .ref k :: st) lv w Q := by
  intro p e R s m args below meth c H locs cells slots ls K
  obtain ⟨hN, cell, q1, q2, q3, q4⟩ := zw_obj K.2.2.2.2.1 hk hn hc ht
  have hal := K.1.2.2.2.2.2.2.2.1.alike
  have hKn := u_Kn_moved hal (E.2.2.2.2.1 ci q hc)
  obtain ⟨hS, hfc, kC, hkC, hkind⟩ := hKn
  obtain ⟨cf, kf, fi, f, hi, hsl⟩ := hS j hj
  have hts : ∀ x ∈ u_ws q.1 q.2.1 q.2.2, x.before args s = true := fun x hx => zx_w E K.1 (zc_lay ci q hc x hx).1 (zc_lay ci q hc x hx).2 args
  have hty := zc_tyok ci q hc
  have hap : ∀ a, a < q.2.2 → ∀ b, b < q.2.2 → a ≠ b → zv_I V ci a ≠ zv_I V ci b := by
    intro a ha b hb hne
    obtain ⟨_, _, _, fa, hia, ea⟩ := hS a ha
    obtain ⟨_, _, _, fb, hib, eb⟩ := hS b hb
    rw [← ea, ← eb]
    refine u_apart (u_lays hts (fun _ h => h) ha) (u_lays hts (fun _ h => h) hb) hia hib ?_
    rw [(State.fieldFound?_type hia (hty.1 a ha)).1, (State.fieldFound?_type hib (hty.1 b hb)).1]
    exact hty.2.1 a ha b hb hne
  have hlay := hts _ (u_in_lay hj)
  unfold u_lay at hlay
  rw [if_neg (by rw [hf]; decide)] at hlay
  have hst := (u_facts hfc hkC (u_lays hts (fun _ h => h) hj) hi).1
  have h6 := u_store hfc hkC hkind hlay hi (hty.1 j hj) hx hfit
  have hi' := hi
  rw [hty.2.2 j hj] at hi'
  refine W.putK K.1.1 K.1.2.1 (f := f) ⟨K.1.2.2.2.2.1, zx_w E K.1 hl rfl args, ⟨_, _, _, hi'⟩, hst⟩ (by rw [q2]; exact h6) q1 q3 (by rw [hsl]; exact k2_hasslot (q4 j hj)) rfl rfl hd fun H' e1 e2 e3 => ?_
  rw [hsl] at e1
  refine kk p e R s m args below meth c H' _ cells slots ls ⟨K.1, K.2.1, K.2.2.1, K.2.2.2.1, zw_put K.2.2.2.2.1 rfl hk e2 e3 zw_rest_i ?_, ⟨zg_locs hk K.2.2.2.2.2.1.1, K.2.2.2.2.2.1.2⟩, K.2.2.2.2.2.2⟩
  have h5 := zc_num ci q hc
  unfold zw_cell
  show if (zw_t w k).1 < 5 then _ else _
  rw [ht, if_pos h5.1]
  refine ⟨by show (zw_t w k).2 = _; rw [hN]; exact h5.2, ?_⟩
  show t_OB _ _ (zw_t w k).2 _ _ _
  rw [hN]
  refine t_OB.to (V := updV (fun j => if zc_rf ci j = true then zv_rf V (zw_r w k j) else .int (zw_i w k j)) j (.int x)) ⟨_, e1, q2, q3, t_set q4 (fun a b ha hb => hap a ha b hb) hj _⟩ (fun a _ => ?_)
  by_cases e : a = j
  · subst e
    show updV _ a _ a = if zc_rf ci a = true then _ else Value.int (zw_up (zw_i w) k a x k a)
    rw [zw_up_s, hr]
    simp [updV]
  · show updV _ j _ a = if zc_rf ci a = true then _ else Value.int (zw_up (zw_i w) k j x k a)
    rw [zw_up_n _ _ (Or.inr e)]
    simp only [updV, if_neg e]
theorem zg_iald (E : zv_OK V) {k j n : Nat} {i : Int32} (hd : decode M.2.1 pc = .ok (.iaload, 1)) (ht : zw_t w k = (10, n)) (hk : 1 ≤ k) (hn : k < w.1) (hi : i = nI j) (hj : j < n) (hn2 : n < 2 ^ 31) (kk : zg_G V M fr lc n0 u0 (pc + 1) (.int (zw_i w k j) :: st) lv w Q) : zg_G V M fr lc n0 u0 pc (.int i :: .ref k :: st) lv w Q := by
  intro p e R s m args below meth c H locs cells slots ls K
  exact W.iald (v := .int (zw_i w k j)) K.1.1 K.1.2.1 (zw_aI K.2.2.2.2.1 hk hn ht) (arrOfT_moved K.1.2.2.2.2.2.2.2.1.alike E.2.2.2.2.2.1.1 n _) (fun h => by cases h) (by rw [arrV_size]; exact zx_in hi hj hn2) (by rw [zx_cl hi hj hn2, arrV_read _ _ hj]) rfl rfl hd (kk p e R s m args below meth c H locs cells slots ls K)
theorem zg_zald (E : zv_OK V) {k j n : Nat} {i : Int32} (hd : decode M.2.1 pc = .ok (.baload, 1)) (ht : zw_t w k = (11, n)) (hk : 1 ≤ k) (hn : k < w.1) (hi : i = nI j) (hj : j < n) (hn2 : n < 2 ^ 31) (kk : zg_G V M fr lc n0 u0 (pc + 1) (.int (zw_i w k j) :: st) lv w Q) : zg_G V M fr lc n0 u0 pc (.int i :: .ref k :: st) lv w Q := by
  intro p e R s m args below meth c H locs cells slots ls K
  exact W.zald (v := .int (zw_i w k j)) K.1.1 K.1.2.1 (zw_aZ K.2.2.2.2.1 hk hn ht) (arrOfT_moved K.1.2.2.2.2.2.2.2.1.alike E.2.2.2.2.2.2.1.1 n _) (fun h => by cases h) (by rw [arrV_size]; exact zx_in hi hj hn2) (by rw [zx_cl hi hj hn2, arrV_read _ _ hj]) rfl rfl hd (kk p e R s m args below meth c H locs cells slots ls K)
theorem zg_lald (E : zv_OK V) {k j n : Nat} {i : Int32} (hd : decode M.2.1 pc = .ok (.laload, 1)) (ht : zw_t w k = (12, n)) (hk : 1 ≤ k) (hn : k < w.1) (hi : i = nI j) (hj : j < n) (hn2 : n < 2 ^ 31) (kk : zg_G V M fr lc n0 u0 (pc + 1) (.long (zw_l w k j) :: st) lv w Q) : zg_G V M fr lc n0 u0 pc (.int i :: .ref k :: st) lv w Q := by
  intro p e R s m args below meth c H locs cells slots ls K
  exact W.lald (v := .long (zw_l w k j)) K.1.1 K.1.2.1 (zw_aL K.2.2.2.2.1 hk hn ht) (arrOfT_moved K.1.2.2.2.2.2.2.2.1.alike E.2.2.2.2.2.2.2.1.1 n _) (fun h => by cases h) (by rw [arrV_size]; exact zx_in hi hj hn2) (by rw [zx_cl hi hj hn2, arrV_read _ _ hj]) rfl rfl hd (kk p e R s m args below meth c H locs cells slots ls K)
theorem zg_aald (E : zv_OK V) {k j n r : Nat} {i : Int32} (hd : decode M.2.1 pc = .ok (.aaload, 1)) (ht : zw_t w k = (13, n)) (hk : 1 ≤ k) (hn : k < w.1) (hi : i = nI j) (hj : j < n) (hn2 : n < 2 ^ 31) (hr : zw_r w k j = some r) (kk : zg_G V M fr lc n0 u0 (pc + 1) (.ref r :: st) lv w Q) : zg_G V M fr lc n0 u0 pc (.int i :: .ref k :: st) lv w Q := by
  intro p e R s m args below meth c H locs cells slots ls K
  exact W.aald (v := zv_cv V (.ref r)) (ty := .array .int) K.1.1 K.1.2.1 (zw_aR K.2.2.2.2.1 hk hn ht) (arrOfT_moved K.1.2.2.2.2.2.2.2.1.alike E.2.2.2.2.2.2.2.2.1.1 n _) rfl (fun h => by cases h) (by rw [arrV_size]; exact zx_in hi hj hn2) (by rw [zx_cl hi hj hn2, arrV_read _ _ hj, hr]; rfl) rfl rfl hd (kk p e R s m args below meth c H locs cells slots ls K)
theorem zg_iast (E : zv_OK V) {k j n : Nat} {i x : Int32} (hd : decode M.2.1 pc = .ok (.iastore, 1)) (ht : zw_t w k = (10, n)) (hk : 1 ≤ k) (hn : k < w.1) (hi : i = nI j) (hj : j < n) (hn2 : n < 2 ^ 31) (kk : zg_G V M fr lc n0 u0 (pc + 1) st lv (zw_si w k j x) Q) : zg_G V M fr lc n0 u0 pc (.int x :: .int i :: .ref k :: st) lv w Q := by
  intro p e R s m args below meth c H locs cells slots ls K
  refine W.iast K.1.1 K.1.2.1 (zw_aI K.2.2.2.2.1 hk hn ht) (arrOfT_moved K.1.2.2.2.2.2.2.2.1.alike E.2.2.2.2.2.1.1 n _) (fun h => by cases h) (by rw [arrV_size]; exact zx_in hi hj hn2) rfl rfl hd fun H1 e1 z1 o1 => ?_
  refine kk p e R s m args below meth c H1 _ cells slots ls ⟨K.1, K.2.1, K.2.2.1, K.2.2.2.1, zw_put K.2.2.2.2.1 rfl hk z1 o1 zw_rest_i ?_, ⟨zg_locs hk K.2.2.2.2.2.1.1, K.2.2.2.2.2.1.2⟩, K.2.2.2.2.2.2⟩
  show zw_cell V (zw_t w k) _ _ _ _ _
  rw [ht]
  show H1[zv_ad V k]? = some (arrV _ _ _)
  rw [e1, zx_cl hi hj hn2, arrV_store]
  refine congrArg (fun f => some (arrV (zv_A V 0) n f)) (funext fun a => ?_)
  by_cases h : a = j
  · subst h
    show updV _ a _ a = Value.int (zw_up (zw_i w) k a x k a)
    rw [zw_up_s]
    simp [updV]
  · show updV _ j _ a = Value.int (zw_up (zw_i w) k j x k a)
    rw [zw_up_n _ _ (Or.inr h)]
    simp [updV, h]
theorem zg_zast (E : zv_OK V) {k j n : Nat} {i x y : Int32} (hd : decode M.2.1 pc = .ok (.bastore, 1)) (ht : zw_t w k = (11, n)) (hk : 1 ≤ k) (hn : k < w.1) (hi : i = nI j) (hj : j < n) (hn2 : n < 2 ^ 31) (hx : narrow .boolean (.int x) = .int y) (kk : zg_G V M fr lc n0 u0 (pc + 1) st lv (zw_si w k j y) Q) : zg_G V M fr lc n0 u0 pc (.int x :: .int i :: .ref k :: st) lv w Q := by
  intro p e R s m args below meth c H locs cells slots ls K
  refine W.zast K.1.1 K.1.2.1 (zw_aZ K.2.2.2.2.1 hk hn ht) (arrOfT_moved K.1.2.2.2.2.2.2.2.1.alike E.2.2.2.2.2.2.1.1 n _) (fun h => by cases h) (by rw [arrV_size]; exact zx_in hi hj hn2) rfl rfl hd fun H1 e1 z1 o1 => ?_
  refine kk p e R s m args below meth c H1 _ cells slots ls ⟨K.1, K.2.1, K.2.2.1, K.2.2.2.1, zw_put K.2.2.2.2.1 rfl hk z1 o1 zw_rest_i ?_, ⟨zg_locs hk K.2.2.2.2.2.1.1, K.2.2.2.2.2.1.2⟩, K.2.2.2.2.2.2⟩
  show zw_cell V (zw_t w k) _ _ _ _ _
  rw [ht]
  show H1[zv_ad V k]? = some (arrV _ _ _)
  rw [e1, zx_cl hi hj hn2, hx, arrV_store]
  refine congrArg (fun f => some (arrV (zv_A V 1) n f)) (funext fun a => ?_)
  by_cases h : a = j
  · subst h
    show updV _ a _ a = Value.int (zw_up (zw_i w) k a y k a)
    rw [zw_up_s]
    simp [updV]
  · show updV _ j _ a = Value.int (zw_up (zw_i w) k j y k a)
    rw [zw_up_n _ _ (Or.inr h)]
    simp [updV, h]
theorem zg_last (E : zv_OK V) {k j n : Nat} {i : Int32} {x : Int64} (hd : decode M.2.1 pc = .ok (.lastore, 1)) (ht : zw_t w k = (12, n)) (hk : 1 ≤ k) (hn : k < w.1) (hi : i = nI j) (hj : j < n) (hn2 : n < 2 ^ 31) (kk : zg_G V M fr lc n0 u0 (pc + 1) st lv (zw_sl w k j x) Q) : zg_G V M fr lc n0 u0 pc (.long x :: .int i :: .ref k :: st) lv w Q := by
  intro p e R s m args below meth c H locs cells slots ls K
  refine W.last K.1.1 K.1.2.1 (zw_aL K.2.2.2.2.1 hk hn ht) (arrOfT_moved K.1.2.2.2.2.2.2.2.1.alike E.2.2.2.2.2.2.2.1.1 n _) (fun h => by cases h) (by rw [arrV_size]; exact zx_in hi hj hn2) rfl rfl hd fun H1 e1 z1 o1 => ?_
  refine kk p e R s m args below meth c H1 _ cells slots ls ⟨K.1, K.2.1, K.2.2.1, K.2.2.2.1, zw_put K.2.2.2.2.1 rfl hk z1 o1 zw_rest_l ?_, ⟨zg_locs hk K.2.2.2.2.2.1.1, K.2.2.2.2.2.1.2⟩, K.2.2.2.2.2.2⟩
  show zw_cell V (zw_t w k) _ _ _ _ _
  rw [ht]
  show H1[zv_ad V k]? = some (arrV _ _ _)
  rw [e1, zx_cl hi hj hn2, arrV_store]
  refine congrArg (fun f => some (arrV (zv_A V 2) n f)) (funext fun a => ?_)
  by_cases h : a = j
  · subst h
    show updV _ a _ a = Value.long (zw_up (zw_l w) k a x k a)
    rw [zw_up_s]
    simp [updV]
  · show updV _ j _ a = Value.long (zw_up (zw_l w) k j x k a)
    rw [zw_up_n _ _ (Or.inr h)]
    simp [updV, h]
theorem zg_alenI (E : zv_OK V) {k n : Nat} (hd : decode M.2.1 pc = .ok (.arraylength, 1)) (ht : zw_t w k = (10, n)) (hk : 1 ≤ k) (hn : k < w.1) (kk : zg_G V M fr lc n0 u0 (pc + 1) (.int (nI n) :: st) lv w Q) : zg_G V M fr lc n0 u0 pc (.ref k :: st) lv w Q := by
  intro p e R s m args below meth c H locs cells slots ls K
  exact W.alen (n := nI n) K.1.1 K.1.2.1 (zw_aI K.2.2.2.2.1 hk hn ht) (arrOfT_moved K.1.2.2.2.2.2.2.2.1.alike E.2.2.2.2.2.1.1 n _) (by rw [arrV_size]; rfl) rfl rfl hd (kk p e R s m args below meth c H locs cells slots ls K)
/-- the script -/
theorem zg_sld (E : zv_OK V) {j : Nat} {i : Int32} (hd : decode M.2.1 pc = .ok (.iaload, 1)) (hi : i = nI j) (hj : j < zv_L V) (hn2 : zv_L V < 2 ^ 31) (kk : zg_G V M fr lc n0 u0 (pc + 1) (.int (zv_x V j) :: st) lv w Q) : zg_G V M fr lc n0 u0 pc (.int i :: .ref 0 :: st) lv w Q := by
  intro p e R s m args below meth c H locs cells slots ls K
  obtain ⟨scr, h1, h2, h3, h4, h5⟩ := va_X.moved K.1.2.2.2.2.2.2.2.1.alike E.2.2.1
  exact W.iald (a := zv_b V) (v := .int (zv_x V j)) K.1.1 K.1.2.1 (by rw [K.2.2.2.2.1.2.1 _ E.2.2.2.1]; exact h1) h2 h3 (by rw [h4]; exact zx_in hi hj hn2) (by rw [zx_cl hi hj hn2]; exact h5 j hj) rfl rfl hd (kk p e R s m args below meth c H locs cells slots ls K)
theorem zg_slen (E : zv_OK V) (hd : decode M.2.1 pc = .ok (.arraylength, 1)) (kk : zg_G V M fr lc n0 u0 (pc + 1) (.int (nI (zv_L V)) :: st) lv w Q) : zg_G V M fr lc n0 u0 pc (.ref 0 :: st) lv w Q := by
  intro p e R s m args below meth c H locs cells slots ls K
  obtain ⟨scr, h1, h2, h3, h4, h5⟩ := va_X.moved K.1.2.2.2.2.2.2.2.1.alike E.2.2.1
  exact W.alen (a := zv_b V) (n := nI (zv_L V)) K.1.1 K.1.2.1 (by rw [K.2.2.2.2.1.2.1 _ E.2.2.2.1]; exact h1) h2 (by rw [h4]; rfl) rfl rfl hd (kk p e R s m args below meth c H locs cells slots ls K)
end ZGH

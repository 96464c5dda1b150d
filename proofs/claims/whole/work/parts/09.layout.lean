/-! Calls with a told outcome; final references put by constructors; where the cells lie. -/
/-- the method ends with o, in a world of which P holds -/
def zq_p (o : zg_O) (P : zw_W → Prop) : zg_O → zw_W → Prop := fun o' w' => o' = o ∧ P w'
section ZEA
variable {V : zv_V} {M : zg_M} {fr lc n0 u0 pc : Nat} {st : List Value} {lv : List (Nat × Value)} {w : zw_W} {Q : zg_O → zw_W → Prop}
theorem zg_sret (E : zv_OK V) {M' : zg_M} {y : MethodName} {fr' lc' i : Nat} {av : List Value} {v : Option Value} {P : zw_W → Prop} (hd : decode M.2.1 pc = .ok (.invokestatic i, 3)) (hC : zg_C V M' y fr' lc' av w (zq_p (.inl v) P)) (hw : [Cond.methodLink M.1 i y, Cond.static y, Cond.initialized y.cls, zg_cw M' y].all (fun x => decide (x ∈ lw_tbl) && goodWord x) = true)
    (hy : y.cls ≠ "java/lang/invoke/MethodHandle" ∧ y.cls ≠ "java/lang/invoke/VarHandle") (hn : (parseMethodDescriptor y.desc).map (fun d => d.parameters.length) = some av.length) (hfr : fr' + 1 ≤ fr) (hlc : 19 + M'.2.2.1 + lc' ≤ lc) (hst : (st.map fun v => v.category).sum ≤ 8) (hcn : w.1 ≤ zc_cn ∧ w.2.1 ≤ zc_cs)
    {st0 : List Value} (h0 : st0 = av.reverse ++ st) (kr : ∀ w', P w' → zg_G V M fr lc n0 u0 (pc + 3) (v.toList ++ st) lv w' Q) : zg_G V M fr lc n0 u0 pc st0 lv w Q :=
  zg_invS E hd hC hw hy hn hfr hlc hst hcn.1 hcn.2 h0 (fun v' w' h => by obtain ⟨h1, h2⟩ := h; cases h1; exact kr w' h2) (fun k w' h => by cases h.1)
theorem zg_sthr (E : zv_OK V) {M' : zg_M} {y : MethodName} {fr' lc' i k : Nat} {av : List Value} {P : zw_W → Prop} (hd : decode M.2.1 pc = .ok (.invokestatic i, 3)) (hC : zg_C V M' y fr' lc' av w (zq_p (.inr k) P)) (hw : [Cond.methodLink M.1 i y, Cond.static y, Cond.initialized y.cls, zg_cw M' y].all (fun x => decide (x ∈ lw_tbl) && goodWord x) = true)
    (hy : y.cls ≠ "java/lang/invoke/MethodHandle" ∧ y.cls ≠ "java/lang/invoke/VarHandle") (hn : (parseMethodDescriptor y.desc).map (fun d => d.parameters.length) = some av.length) (hfr : fr' + 1 ≤ fr) (hlc : 19 + M'.2.2.1 + lc' ≤ lc) (hst : (st.map fun v => v.category).sum ≤ 8) (hcn : w.1 ≤ zc_cn ∧ w.2.1 ≤ zc_cs)
    {st0 : List Value} (h0 : st0 = av.reverse ++ st) (kt : ∀ w', P w' → zg_T V M fr lc n0 u0 pc k lv w' Q) : zg_G V M fr lc n0 u0 pc st0 lv w Q :=
  zg_invS E hd hC hw hy hn hfr hlc hst hcn.1 hcn.2 h0 (fun v' w' h => by cases h.1) (fun k' w' h => by obtain ⟨h1, h2⟩ := h; cases h1; exact kt w' h2)
theorem zg_vrt (E : zv_OK V) {M' : zg_M} {y : MethodName} {fr' lc' i k ci : Nat} {q : vw_C} {av : List Value} {v : Option Value} {P : zw_W → Prop} (hd : decode M.2.1 pc = .ok (.invokevirtual i, 3)) (hC : zg_C V M' y fr' lc' (.ref k :: av) w (zq_p (.inl v) P)) (hw : [Cond.methodLink M.1 i y, Cond.instanceMethod y, Cond.selects q.1 y y, Cond.initialized y.cls, zg_cw M' y].all (fun x => decide (x ∈ lw_tbl) && goodWord x) = true)
    (hc : zc_cl[ci]? = some q) (ht : (zw_t w k).1 = ci) (hk : 1 ≤ k) (hkn : k < w.1) (hh : M'.2.2.2.2 = []) (hy : y.cls ≠ "java/lang/invoke/MethodHandle" ∧ y.cls ≠ "java/lang/invoke/VarHandle") (hn : (parseMethodDescriptor y.desc).map (fun d => d.parameters.length) = some av.length) (hfr : fr' + 1 ≤ fr) (hlc : 19 + M'.2.2.1 + lc' ≤ lc) (hst : (st.map fun v => v.category).sum ≤ 8) (hcn : w.1 ≤ zc_cn ∧ w.2.1 ≤ zc_cs)
    {st0 : List Value} (h0 : st0 = av.reverse ++ .ref k :: st) (kr : ∀ w', P w' → zg_G V M fr lc n0 u0 (pc + 3) (v.toList ++ st) lv w' Q) : zg_G V M fr lc n0 u0 pc st0 lv w Q :=
  zg_invV E hd hC hw hc ht hk hkn hh hy hn hfr hlc hst hcn.1 hcn.2 h0 (fun v' w' h => by obtain ⟨h1, h2⟩ := h; cases h1; exact kr w' h2) (fun k w' h => by cases h.1)
theorem zg_vth (E : zv_OK V) {M' : zg_M} {y : MethodName} {fr' lc' i k ci x : Nat} {q : vw_C} {av : List Value} {P : zw_W → Prop} (hd : decode M.2.1 pc = .ok (.invokevirtual i, 3)) (hC : zg_C V M' y fr' lc' (.ref k :: av) w (zq_p (.inr x) P)) (hw : [Cond.methodLink M.1 i y, Cond.instanceMethod y, Cond.selects q.1 y y, Cond.initialized y.cls, zg_cw M' y].all (fun x => decide (x ∈ lw_tbl) && goodWord x) = true)
    (hc : zc_cl[ci]? = some q) (ht : (zw_t w k).1 = ci) (hk : 1 ≤ k) (hkn : k < w.1) (hh : M'.2.2.2.2 = []) (hy : y.cls ≠ "java/lang/invoke/MethodHandle" ∧ y.cls ≠ "java/lang/invoke/VarHandle") (hn : (parseMethodDescriptor y.desc).map (fun d => d.parameters.length) = some av.length) (hfr : fr' + 1 ≤ fr) (hlc : 19 + M'.2.2.1 + lc' ≤ lc) (hst : (st.map fun v => v.category).sum ≤ 8) (hcn : w.1 ≤ zc_cn ∧ w.2.1 ≤ zc_cs)
    {st0 : List Value} (h0 : st0 = av.reverse ++ .ref k :: st) (kt : ∀ w', P w' → zg_T V M fr lc n0 u0 pc x lv w' Q) : zg_G V M fr lc n0 u0 pc st0 lv w Q :=
  zg_invV E hd hC hw hc ht hk hkn hh hy hn hfr hlc hst hcn.1 hcn.2 h0 (fun v' w' h => by cases h.1) (fun k' w' h => by obtain ⟨h1, h2⟩ := h; cases h1; exact kt w' h2)
theorem zg_irt (E : zv_OK V) (nest : Bool) {M' : zg_M} {y : MethodName} {fr' lc' i k : Nat} {av : List Value} {P : zw_W → Prop} (hd : decode M.2.1 pc = .ok (.invokespecial i, 3)) (hC : zg_C V M' y fr' lc' (.ref k :: av) w (zq_p (.inl none) P)) (hw : [Cond.instanceMethod y, Cond.initialized y.cls, zg_cw M' y].all (fun x => decide (x ∈ lw_tbl) && goodWord x) = true)
    (hl : if nest then Cond.methodLinkNest M.1 i y "FlipPages" ∈ lw_tbl else Cond.methodLink M.1 i y ∈ lw_tbl) (hy1 : y.name = "<init>") (hh : M'.2.2.2.2 = []) (hr : M'.2.2.2.1 = none) (hy : y.cls ≠ "java/lang/invoke/MethodHandle" ∧ y.cls ≠ "java/lang/invoke/VarHandle") (hn : (parseMethodDescriptor y.desc).map (fun d => d.parameters.length) = some av.length) (hfr : fr' + 1 ≤ fr) (hlc : 19 + M'.2.2.1 + lc' ≤ lc) (hst : (st.map fun v => v.category).sum ≤ 8) (hcn : w.1 ≤ zc_cn ∧ w.2.1 ≤ zc_cs)
    {st0 : List Value} (h0 : st0 = av.reverse ++ .ref k :: st) (kr : ∀ w', P w' → zg_G V M fr lc n0 u0 (pc + 3) st lv w' Q) : zg_G V M fr lc n0 u0 pc st0 lv w Q :=
  zg_invI E nest hd hC hw hl hy1 hh hr hy hn hfr hlc hst hcn.1 hcn.2 h0 (fun v' w' h => by obtain ⟨h1, h2⟩ := h; cases h1; exact kr w' h2) (fun k w' h => by cases h.1)
end ZEA
/-- where things lie: the tags of cells 1 .. 165 -/
def zl_t (k : Nat) : Nat × Nat :=
  if k = 1 then (3, 7) else if k = 2 then (13, 48) else if k < 51 then (10, 16) else if k = 51 then (1, 3) else if k = 52 then (10, 77) else if k = 53 then (13, 77) else if k < 131 then (10, 16) else
  if k = 131 then (2, 3) else if k = 132 then (10, 16) else if k = 133 then (2, 3) else if k = 134 then (10, 16) else if k = 135 then (0, 4) else if k = 136 then (10, 16) else if k = 137 then (13, 16) else if k < 154 then (10, 16) else
  if k = 154 then (11, 16) else if k = 155 then (10, 16) else if k = 156 then (4, 17) else if k = 157 then (10, 768) else if k < 161 then (10, 16) else if k = 161 then (11, 16) else if k = 162 then (10, 256) else if k = 163 then (10, 100) else if k = 164 then (10, 1600) else (12, 1)
/-- .. and their references -/
def zl_r (k j : Nat) : Option Nat :=
  if k = 1 then (if j = 0 then some 2 else if j = 1 then some 51 else if j = 2 then some 131 else if j = 3 then some 133 else if j = 4 then some 135 else if j = 5 then some 155 else none) else
  if k = 2 then (if j < 48 then some (3 + j) else none) else
  if k = 51 then (if j = 0 then some 52 else if j = 1 then some 53 else none) else
  if k = 53 then (if j < 77 then some (54 + j) else none) else
  if k = 131 then (if j = 0 then some 132 else none) else if k = 133 then (if j = 0 then some 134 else none) else
  if k = 135 then (if j = 0 then some 136 else if j = 1 then some 137 else if j = 2 then some 154 else none) else
  if k = 137 then (if j < 16 then some (138 + j) else none) else
  if k = 156 then (if j = 0 then some 157 else if j = 1 then some 158 else if j = 2 then some 159 else if j = 9 then some 160 else if j = 10 then some 161 else if j = 11 then some 162 else if j = 12 then some 163 else if j = 13 then some 164 else none) else none
/-- the class's cells stand; there is room for what comes -/
def zl_X (w : zw_W) : Prop := 156 ≤ w.1 ∧ (∀ k, 1 ≤ k → k < 156 → zw_t w k = zl_t k ∧ ∀ j r, zl_r k j = some r → zw_r w k j = some r) ∧ w.1 + 2000 ≤ zc_cn ∧ w.2.1 + 20000 ≤ zc_cs
/-- the reference's cells stand -/
def zl_M (w : zw_W) : Prop := 165 ≤ w.1 ∧ (∀ k, 156 ≤ k → k < 165 → zw_t w k = zl_t k ∧ ∀ j r, zl_r k j = some r → zw_r w k j = some r) ∧ w.1 + 2000 ≤ zc_cn ∧ w.2.1 + 20000 ≤ zc_cs
theorem zl_cap {w : zw_W} (h : zl_X w) : w.1 ≤ zc_cn ∧ w.2.1 ≤ zc_cs := ⟨by have := h.2.2.1; omega, by have := h.2.2.2; omega⟩
theorem zl_capM {w : zw_W} (h : zl_M w) : w.1 ≤ zc_cn ∧ w.2.1 ≤ zc_cs := ⟨by have := h.2.2.1; omega, by have := h.2.2.2; omega⟩
theorem zl_at {w : zw_W} (h : zl_X w) {k : Nat} {t : Nat × Nat} (ht : zl_t k = t) (h1 : 1 ≤ k) (h2 : k < 156) : zw_t w k = t := (h.2.1 k h1 h2).1.trans ht
theorem zl_lt {w : zw_W} (h : zl_X w) {k : Nat} (h2 : k < 156) : k < w.1 := Nat.lt_of_lt_of_le h2 h.1
theorem zl_rf {w : zw_W} (h : zl_X w) {k j r : Nat} (hr : zl_r k j = some r) (h1 : 1 ≤ k) (h2 : k < 156) : zw_r w k j = some r := (h.2.1 k h1 h2).2 j r hr
theorem zl_Mat {w : zw_W} (h : zl_M w) {k : Nat} {t : Nat × Nat} (ht : zl_t k = t) (h1 : 156 ≤ k) (h2 : k < 165) : zw_t w k = t := (h.2.1 k h1 h2).1.trans ht
theorem zl_Mlt {w : zw_W} (h : zl_M w) {k : Nat} (h2 : k < 165) : k < w.1 := Nat.lt_of_lt_of_le h2 h.1
theorem zl_Mrf {w : zw_W} (h : zl_M w) {k j r : Nat} (hr : zl_r k j = some r) (h1 : 156 ≤ k) (h2 : k < 165) : zw_r w k j = some r := (h.2.1 k h1 h2).2 j r hr
/-- a sector's array, a held write's, a changed page's -/
theorem zl_sec {s : Nat} (h : s < 48) : zl_t (3 + s) = (10, 16) ∧ zl_r 2 s = some (3 + s) := by
  unfold zl_t zl_r
  rw [if_neg (by omega), if_neg (by omega), if_pos (by omega), if_neg (by omega), if_pos rfl, if_pos h]
  exact ⟨rfl, rfl⟩
theorem zl_row {s : Nat} (h : s < 77) : zl_t (54 + s) = (10, 16) ∧ zl_r 53 s = some (54 + s) := by
  unfold zl_t zl_r
  rw [if_neg (by omega), if_neg (by omega), if_neg (by omega), if_neg (by omega), if_neg (by omega), if_neg (by omega), if_pos (by omega)]
  exact ⟨rfl, by simp [h]⟩
theorem zl_pag {s : Nat} (h : s < 16) : zl_t (138 + s) = (10, 16) ∧ zl_r 137 s = some (138 + s) := by
  unfold zl_t zl_r
  rw [if_neg (by omega), if_neg (by omega), if_neg (by omega), if_neg (by omega), if_neg (by omega), if_neg (by omega), if_neg (by omega), if_neg (by omega), if_neg (by omega), if_neg (by omega), if_neg (by omega), if_neg (by omega), if_neg (by omega), if_neg (by omega), if_pos (by omega)]
  exact ⟨rfl, by simp [h]⟩
/-- small numbers in branches -/
theorem zn_lt {i n : Nat} (h : ¬ nI n ≤ nI i) (hi : i < 2 ^ 31) (hn : n < 2 ^ 31) : i < n := by
  rcases Nat.lt_or_ge i n with g | g
  · exact g
  · exact absurd ((nI_leI hn hi).mpr g) h
theorem zn_ge {i n : Nat} (h : nI n ≤ nI i) (hi : i < 2 ^ 31) (hn : n < 2 ^ 31) : n ≤ i := (nI_leI hn hi).mp h

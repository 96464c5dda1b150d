/-! The class's leaves: pure words first. -/
theorem zg_w {V : zv_V} {M : zg_M} {fr lc n0 u0 pc : Nat} {st : List Value} {lv : List (Nat × Value)} {w w' : zw_W} {Q : zg_O → zw_W → Prop} (h : w' = w) (k : zg_G V M fr lc n0 u0 pc st lv w' Q) : zg_G V M fr lc n0 u0 pc st lv w Q := h ▸ k
theorem zg_s {V : zv_V} {M : zg_M} {fr lc n0 u0 pc : Nat} {st st' : List Value} {lv lv' : List (Nat × Value)} {w w' : zw_W} {Q : zg_O → zw_W → Prop} (h1 : st' = st) (h2 : lv' = lv) (h : w' = w) (k : zg_G V M fr lc n0 u0 pc st' lv' w' Q) : zg_G V M fr lc n0 u0 pc st lv w Q := h1 ▸ h2 ▸ h ▸ k
theorem zg_l {V : zv_V} {M : zg_M} {fr lc n0 u0 pc : Nat} {st : List Value} {lv lv' : List (Nat × Value)} {w : zw_W} {Q : zg_O → zw_W → Prop} (ks : List Nat) (h : lv_pick lv ks = lv') (k : zg_G V M fr lc n0 u0 pc st lv' w Q) : zg_G V M fr lc n0 u0 pc st lv w Q := by
  subst h
  intro p e R s m args below meth c H locs cells slots ls K
  refine k p e R s m args below meth c H locs cells slots ls ⟨K.1, K.2.1, K.2.2.1, K.2.2.2.1, K.2.2.2.2.1, K.2.2.2.2.2.1, K.2.2.2.2.2.2.1, K.2.2.2.2.2.2.2.1, fun q hq => ?_⟩
  obtain ⟨q', hq', rfl⟩ := List.mem_map.mp hq
  obtain ⟨i, -, hi⟩ := List.mem_filterMap.mp hq'
  exact K.2.2.2.2.2.2.2.2 _ (List.mem_map.mpr ⟨q', List.mem_of_getElem? hi, rfl⟩)
theorem zn_no {x : Int32} {n : Nat} (hn : ∀ j, j < n → x ≠ nI j) (h0 : ¬ x < 0) (h1 : x < nI n) (hb : n < 2 ^ 31 := by decide) : False := by
  rcases pk_ix x hb with h | h | ⟨j, hj, e⟩
  · exact h0 h
  · exact absurd h1 (Int32.not_lt.mpr h)
  · exact hn j hj e
theorem zw_ext {w w' : zw_W} (h1 : w.1 = w'.1) (h2 : w.2.1 = w'.2.1) (h3 : zw_t w = zw_t w') (h4 : zw_r w = zw_r w') (h5 : zw_i w = zw_i w') (h6 : zw_l w = zw_l w') : w = w' := by
  obtain ⟨a, b, c, d, e, f⟩ := w
  obtain ⟨a', b', c', d', e', f'⟩ := w'
  cases h1; cases h2; cases h3; cases h4; cases h5; cases h6
  rfl
theorem zw_sa_0 (w : zw_W) (k : Nat) {f : Nat → Int32} (h : f = zw_i w k) : zw_sa w k f = w := by
  subst h
  refine zw_ext rfl rfl rfl rfl (funext fun a => ?_) rfl
  show zw_ro (zw_i w) k (zw_i w k) a = zw_i w a
  by_cases e : a = k
  · subst e
    exact zw_ro_s _ _ _
  · exact zw_ro_n _ _ e
theorem zw_si_sa (w : zw_W) (k j : Nat) (f : Nat → Int32) (x : Int32) : zw_si (zw_sa w k f) k j x = zw_sa w k (zw_ro f j x) := by
  refine zw_ext rfl rfl rfl rfl (funext fun a => funext fun b => ?_) rfl
  show zw_up (zw_ro (zw_i w) k f) k j x a b = zw_ro (zw_i w) k (zw_ro f j x) a b
  by_cases e : a = k
  · subst e
    rw [zw_ro_s]
    by_cases e2 : b = j
    · subst e2
      rw [zw_up_s, zw_ro_s]
    · rw [zw_up_n _ _ (Or.inr e2), zw_ro_s, zw_ro_n _ _ e2]
  · rw [zw_up_n _ _ (Or.inl e), zw_ro_n _ _ e, zw_ro_n _ _ e]
theorem zw_i_sa (w : zw_W) (k : Nat) (f : Nat → Int32) : zw_i (zw_sa w k f) k = f := zw_ro_s _ _ _
theorem zw_i_sn (w : zw_W) {k a : Nat} (f : Nat → Int32) (h : a ≠ k) : zw_i (zw_sa w k f) a = zw_i w a := zw_ro_n _ _ h
/-- an array that is being written from its beginning on -/
def zs_w (g o : Nat → Int32) (i : Nat) : Nat → Int32 := fun j => if j < i then g j else o j
theorem zs_w0 (g o : Nat → Int32) : zs_w g o 0 = o := funext fun j => if_neg (Nat.not_lt_zero j)
theorem zs_ws (g o : Nat → Int32) (i : Nat) : zw_ro (zs_w g o i) i (g i) = zs_w g o (i + 1) := by
  funext j
  unfold zw_ro zs_w
  by_cases e : j = i
  · subst e
    simp
  · by_cases h : j < i
    · simp [e, h, Nat.lt_succ_of_lt h]
    · simp [e, h, show ¬ j < i + 1 by omega]
theorem zs_win (g o : Nat → Int32) {i j : Nat} (h : j < i) : zs_w g o i j = g j := if_pos h
theorem zs_wout (g o : Nat → Int32) {i j : Nat} (h : i ≤ j) : zs_w g o i j = o j := if_neg (by omega)
/-- the master's check over the first n bytes -/
theorem zs_cmp {x : Int64} (h : lg_cmp x 0 = 0) : x = 0 := by
  unfold lg_cmp at h
  split at h
  · exact absurd h (by decide)
  · split at h
    · assumption
    · exact absurd h (by decide)
theorem zs_cmp0 {x : Int64} (h : ¬ lg_cmp x 0 = 0) : ¬ x = 0 := fun e => h (by rw [e]; decide)
def zs_ck (f : Nat → Int32) : Nat → Int32
  | 0 => 1
  | n + 1 => (zs_ck f n * 31 + f n) &&& 65535
/-- a set of sectors, bit by bit -/
def zs_us (f : Nat → Int32) (u : Int64) : Nat → Int64
  | 0 => u
  | n + 1 => zs_us f u n ||| ((1 : Int64) <<< ((f n).toInt64 &&& 63))

set_option maxHeartbeats 4000000 in
set_option maxRecDepth 100000 in
theorem ct_checkPage_ok {V : zv_V} (E : zv_OK V) {w : zw_W} (HX : zl_X w) {n : Nat} (hn : n < 16) : zg_C V zm_X3_checkPage yX3_checkPage 0 0 [.int (nI n)] w (zq_p (.inl none) (· = w)) := by
  refine zg_of (by decide +kernel) rfl (Nat.le_of_ble_eq_true rfl) ?_
  show zg_G V zm_X3_checkPage 0 0 w.1 w.2.1 0 [] [(0, .int (nI n))] w _
  refine zg_iload_n dX3_checkPage_0 rfl ?_
  refine zg_if_lt (tgt := 10) dX3_checkPage_1 (by decide) (fun h1 => ?_) (fun h1 => ?_)
  · exact absurd h1 (nI_pos (by omega))
  · refine zg_iload_n dX3_checkPage_4 rfl ?_
    refine zg_bipush (v := nI 16) dX3_checkPage_5 (by decide) ?_
    refine zg_icmp_lt (tgt := 20) dX3_checkPage_7 (by decide) (fun h7 => ?_) (fun h7 => ?_)
    · exact zg_vret rfl dX3_checkPage_20 ⟨rfl, rfl⟩
    · exact absurd (nI_lt hn (by decide)) h7
set_option maxHeartbeats 4000000 in
set_option maxRecDepth 100000 in
theorem ct_checkPage_no {V : zv_V} (E : zv_OK V) {w : zw_W} (HX : zl_X w) {x : Int32} (hn : ∀ n, n < 16 → x ≠ nI n) : zg_C V zm_X3_checkPage yX3_checkPage 6 82 [.int x] w (zq_p (.inr 20) (· = zw_nw w (20, 6))) := by
  refine zg_of (by decide +kernel) rfl (Nat.le_of_ble_eq_true rfl) ?_
  show zg_G V zm_X3_checkPage 6 82 w.1 w.2.1 0 [] [(0, .int x)] w _
  refine zg_iload_n dX3_checkPage_0 rfl ?_
  refine zg_if_lt (tgt := 10) dX3_checkPage_1 (by decide) (fun h1 => ?_) (fun h1 => ?_)
  · exact zg_throw (M := zm_X3_checkPage) E 20 (text := "no such page") (by decide) rfl rfl dX3_checkPage_10 dX3_checkPage_13 dX3_checkPage_14 dX3_checkPage_16 dX3_checkPage_19 (by decide +kernel) (by decide +kernel) (by decide +kernel) tw_20_83 (zt_cap HX).1 (zt_cap HX).2.1 (zt_cap HX).2.2 (Nat.le_of_ble_eq_true rfl) (Nat.le_of_ble_eq_true rfl) ⟨rfl, rfl⟩
  · refine zg_iload_n dX3_checkPage_4 rfl ?_
    refine zg_bipush (v := nI 16) dX3_checkPage_5 (by decide) ?_
    refine zg_icmp_lt (tgt := 20) dX3_checkPage_7 (by decide) (fun h7 => ?_) (fun h7 => ?_)
    · exact absurd (zn_no hn h1 h7) not_false
    · exact zg_throw (M := zm_X3_checkPage) E 20 (text := "no such page") (by decide) rfl rfl dX3_checkPage_10 dX3_checkPage_13 dX3_checkPage_14 dX3_checkPage_16 dX3_checkPage_19 (by decide +kernel) (by decide +kernel) (by decide +kernel) tw_20_83 (zt_cap HX).1 (zt_cap HX).2.1 (zt_cap HX).2.2 (Nat.le_of_ble_eq_true rfl) (Nat.le_of_ble_eq_true rfl) ⟨rfl, rfl⟩
set_option maxHeartbeats 4000000 in
set_option maxRecDepth 100000 in
theorem ct_checkSector_ok {V : zv_V} (E : zv_OK V) {w : zw_W} (HX : zl_X w) {n : Nat} (hn : n < 48) : zg_C V zm_X3_checkSector yX3_checkSector 0 0 [.int (nI n)] w (zq_p (.inl none) (· = w)) := by
  refine zg_of (by decide +kernel) rfl (Nat.le_of_ble_eq_true rfl) ?_
  show zg_G V zm_X3_checkSector 0 0 w.1 w.2.1 0 [] [(0, .int (nI n))] w _
  refine zg_iload_n dX3_checkSector_0 rfl ?_
  refine zg_if_lt (tgt := 10) dX3_checkSector_1 (by decide) (fun h1 => ?_) (fun h1 => ?_)
  · exact absurd h1 (nI_pos (by omega))
  · refine zg_iload_n dX3_checkSector_4 rfl ?_
    refine zg_bipush (v := nI 48) dX3_checkSector_5 (by decide) ?_
    refine zg_icmp_lt (tgt := 20) dX3_checkSector_7 (by decide) (fun h7 => ?_) (fun h7 => ?_)
    · exact zg_vret rfl dX3_checkSector_20 ⟨rfl, rfl⟩
    · exact absurd (nI_lt hn (by decide)) h7
set_option maxHeartbeats 4000000 in
set_option maxRecDepth 100000 in
theorem ct_checkSector_no {V : zv_V} (E : zv_OK V) {w : zw_W} (HX : zl_X w) {x : Int32} (hn : ∀ n, n < 48 → x ≠ nI n) : zg_C V zm_X3_checkSector yX3_checkSector 6 82 [.int x] w (zq_p (.inr 20) (· = zw_nw w (20, 6))) := by
  refine zg_of (by decide +kernel) rfl (Nat.le_of_ble_eq_true rfl) ?_
  show zg_G V zm_X3_checkSector 6 82 w.1 w.2.1 0 [] [(0, .int x)] w _
  refine zg_iload_n dX3_checkSector_0 rfl ?_
  refine zg_if_lt (tgt := 10) dX3_checkSector_1 (by decide) (fun h1 => ?_) (fun h1 => ?_)
  · exact zg_throw (M := zm_X3_checkSector) E 20 (text := "no such sector") (by decide) rfl rfl dX3_checkSector_10 dX3_checkSector_13 dX3_checkSector_14 dX3_checkSector_16 dX3_checkSector_19 (by decide +kernel) (by decide +kernel) (by decide +kernel) tw_20_83 (zt_cap HX).1 (zt_cap HX).2.1 (zt_cap HX).2.2 (Nat.le_of_ble_eq_true rfl) (Nat.le_of_ble_eq_true rfl) ⟨rfl, rfl⟩
  · refine zg_iload_n dX3_checkSector_4 rfl ?_
    refine zg_bipush (v := nI 48) dX3_checkSector_5 (by decide) ?_
    refine zg_icmp_lt (tgt := 20) dX3_checkSector_7 (by decide) (fun h7 => ?_) (fun h7 => ?_)
    · exact absurd (zn_no hn h1 h7) not_false
    · exact zg_throw (M := zm_X3_checkSector) E 20 (text := "no such sector") (by decide) rfl rfl dX3_checkSector_10 dX3_checkSector_13 dX3_checkSector_14 dX3_checkSector_16 dX3_checkSector_19 (by decide +kernel) (by decide +kernel) (by decide +kernel) tw_20_83 (zt_cap HX).1 (zt_cap HX).2.1 (zt_cap HX).2.2 (Nat.le_of_ble_eq_true rfl) (Nat.le_of_ble_eq_true rfl) ⟨rfl, rfl⟩
set_option maxHeartbeats 4000000 in
set_option maxRecDepth 100000 in
theorem ct_checkIndex_ok {V : zv_V} (E : zv_OK V) {w : zw_W} (HX : zl_X w) {n : Nat} (hn : n < 16) : zg_C V zm_X3_checkIndex yX3_checkIndex 0 0 [.int (nI n)] w (zq_p (.inl none) (· = w)) := by
  refine zg_of (by decide +kernel) rfl (Nat.le_of_ble_eq_true rfl) ?_
  show zg_G V zm_X3_checkIndex 0 0 w.1 w.2.1 0 [] [(0, .int (nI n))] w _
  refine zg_iload_n dX3_checkIndex_0 rfl ?_
  refine zg_if_lt (tgt := 10) dX3_checkIndex_1 (by decide) (fun h1 => ?_) (fun h1 => ?_)
  · exact absurd h1 (nI_pos (by omega))
  · refine zg_iload_n dX3_checkIndex_4 rfl ?_
    refine zg_bipush (v := nI 16) dX3_checkIndex_5 (by decide) ?_
    refine zg_icmp_lt (tgt := 20) dX3_checkIndex_7 (by decide) (fun h7 => ?_) (fun h7 => ?_)
    · exact zg_vret rfl dX3_checkIndex_20 ⟨rfl, rfl⟩
    · exact absurd (nI_lt hn (by decide)) h7
set_option maxHeartbeats 4000000 in
set_option maxRecDepth 100000 in
theorem ct_checkIndex_no {V : zv_V} (E : zv_OK V) {w : zw_W} (HX : zl_X w) {x : Int32} (hn : ∀ n, n < 16 → x ≠ nI n) : zg_C V zm_X3_checkIndex yX3_checkIndex 6 82 [.int x] w (zq_p (.inr 20) (· = zw_nw w (20, 6))) := by
  refine zg_of (by decide +kernel) rfl (Nat.le_of_ble_eq_true rfl) ?_
  show zg_G V zm_X3_checkIndex 6 82 w.1 w.2.1 0 [] [(0, .int x)] w _
  refine zg_iload_n dX3_checkIndex_0 rfl ?_
  refine zg_if_lt (tgt := 10) dX3_checkIndex_1 (by decide) (fun h1 => ?_) (fun h1 => ?_)
  · exact zg_throw (M := zm_X3_checkIndex) E 20 (text := "no such byte") (by decide) rfl rfl dX3_checkIndex_10 dX3_checkIndex_13 dX3_checkIndex_14 dX3_checkIndex_16 dX3_checkIndex_19 (by decide +kernel) (by decide +kernel) (by decide +kernel) tw_20_83 (zt_cap HX).1 (zt_cap HX).2.1 (zt_cap HX).2.2 (Nat.le_of_ble_eq_true rfl) (Nat.le_of_ble_eq_true rfl) ⟨rfl, rfl⟩
  · refine zg_iload_n dX3_checkIndex_4 rfl ?_
    refine zg_bipush (v := nI 16) dX3_checkIndex_5 (by decide) ?_
    refine zg_icmp_lt (tgt := 20) dX3_checkIndex_7 (by decide) (fun h7 => ?_) (fun h7 => ?_)
    · exact absurd (zn_no hn h1 h7) not_false
    · exact zg_throw (M := zm_X3_checkIndex) E 20 (text := "no such byte") (by decide) rfl rfl dX3_checkIndex_10 dX3_checkIndex_13 dX3_checkIndex_14 dX3_checkIndex_16 dX3_checkIndex_19 (by decide +kernel) (by decide +kernel) (by decide +kernel) tw_20_83 (zt_cap HX).1 (zt_cap HX).2.1 (zt_cap HX).2.2 (Nat.le_of_ble_eq_true rfl) (Nat.le_of_ble_eq_true rfl) ⟨rfl, rfl⟩
set_option maxHeartbeats 4000000 in
set_option maxRecDepth 100000 in
theorem ct_checkByte_ok {V : zv_V} (E : zv_OK V) {w : zw_W} (HX : zl_X w) {n : Nat} (hn : n < 256) : zg_C V zm_X3_checkByte yX3_checkByte 0 0 [.int (nI n)] w (zq_p (.inl none) (· = w)) := by
  refine zg_of (by decide +kernel) rfl (Nat.le_of_ble_eq_true rfl) ?_
  show zg_G V zm_X3_checkByte 0 0 w.1 w.2.1 0 [] [(0, .int (nI n))] w _
  refine zg_iload_n dX3_checkByte_0 rfl ?_
  refine zg_if_lt (tgt := 11) dX3_checkByte_1 (by decide) (fun h1 => ?_) (fun h1 => ?_)
  · exact absurd h1 (nI_pos (by omega))
  · refine zg_iload_n dX3_checkByte_4 rfl ?_
    refine zg_sipush (v := nI 255) dX3_checkByte_5 (by decide) ?_
    refine zg_icmp_le (tgt := 21) dX3_checkByte_8 (by decide) (fun h8 => ?_) (fun h8 => ?_)
    · exact zg_vret rfl dX3_checkByte_21 ⟨rfl, rfl⟩
    · exact absurd (nI_le (by omega) (by decide) : nI n ≤ nI 255) h8
set_option maxHeartbeats 4000000 in
set_option maxRecDepth 100000 in
theorem ct_checkByte_no {V : zv_V} (E : zv_OK V) {w : zw_W} (HX : zl_X w) {x : Int32} (hn : ∀ n, n < 256 → x ≠ nI n) : zg_C V zm_X3_checkByte yX3_checkByte 6 82 [.int x] w (zq_p (.inr 20) (· = zw_nw w (20, 6))) := by
  refine zg_of (by decide +kernel) rfl (Nat.le_of_ble_eq_true rfl) ?_
  show zg_G V zm_X3_checkByte 6 82 w.1 w.2.1 0 [] [(0, .int x)] w _
  refine zg_iload_n dX3_checkByte_0 rfl ?_
  refine zg_if_lt (tgt := 11) dX3_checkByte_1 (by decide) (fun h1 => ?_) (fun h1 => ?_)
  · exact zg_throw (M := zm_X3_checkByte) E 20 (text := "not the number of a byte") (by decide) rfl rfl dX3_checkByte_11 dX3_checkByte_14 dX3_checkByte_15 dX3_checkByte_17 dX3_checkByte_20 (by decide +kernel) (by decide +kernel) (by decide +kernel) tw_20_83 (zt_cap HX).1 (zt_cap HX).2.1 (zt_cap HX).2.2 (Nat.le_of_ble_eq_true rfl) (Nat.le_of_ble_eq_true rfl) ⟨rfl, rfl⟩
  · refine zg_iload_n dX3_checkByte_4 rfl ?_
    refine zg_sipush (v := nI 255) dX3_checkByte_5 (by decide) ?_
    refine zg_icmp_le (tgt := 21) dX3_checkByte_8 (by decide) (fun h8 => ?_) (fun h8 => ?_)
    · exact absurd (zn_no (n := 256) hn h1 (Int32.lt_of_le_of_lt h8 (by decide))) not_false
    · exact zg_throw (M := zm_X3_checkByte) E 20 (text := "not the number of a byte") (by decide) rfl rfl dX3_checkByte_11 dX3_checkByte_14 dX3_checkByte_15 dX3_checkByte_17 dX3_checkByte_20 (by decide +kernel) (by decide +kernel) (by decide +kernel) tw_20_83 (zt_cap HX).1 (zt_cap HX).2.1 (zt_cap HX).2.2 (Nat.le_of_ble_eq_true rfl) (Nat.le_of_ble_eq_true rfl) ⟨rfl, rfl⟩
set_option maxHeartbeats 4000000 in
set_option maxRecDepth 100000 in
theorem lp_fill {V : zv_V} (E : zv_OK V) {w : zw_W} {n0 u0 : Nat} {Q : zg_O → zw_W → Prop} {k m : Nat} {x : Int32} (ht : zw_t w k = (10, m)) (hk : 1 ≤ k) (hkn : k < w.1) (hm : m < 2 ^ 31) (hq : Q (.inl none) (zw_sa w k (zs_w (fun _ => x) (zw_i w k) m))) : ∀ (n i : Nat) , i ≤ m → m + 1 ≤ i + n → zg_G V zm_J7_fill_53178 0 0 n0 u0 5 [] [(3, .int (nI m)), (2, .int (nI i)), (0, .ref k), (1, .int x)] (zw_sa w k (zs_w (fun _ => x) (zw_i w k) i)) Q := by
  intro n
  induction n with
  | zero =>
    intro i hi hn
    exact absurd hn (by omega)
  | succ n ih =>
    intro i hi hn 
    refine zg_iload_n dJ7_fill_53178_5 rfl ?_
    refine zg_iload_n dJ7_fill_53178_6 rfl ?_
    refine zg_icmp_ge (tgt := 20) dJ7_fill_53178_7 (by decide) (fun h7 => ?_) (fun h7 => ?_)
    · obtain rfl : i = m := by have := zn_ge h7 (by omega) (by omega); omega
      exact zg_vret rfl dJ7_fill_53178_20 hq
    · have hlt : i < m := zn_lt h7 (by omega) (by omega)
      refine zg_aload_n dJ7_fill_53178_10 rfl ?_
      refine zg_iload_n dJ7_fill_53178_11 rfl ?_
      refine zg_iload_n dJ7_fill_53178_12 rfl ?_
      refine zg_iast E (j := i) dJ7_fill_53178_13 ht hk hkn rfl hlt (by omega) ?_
      refine zg_iinc (v := nI (i + 1)) (lv' := [(2, .int (nI (i + 1))), (3, .int (nI m)), (0, .ref k), (1, .int x)]) dJ7_fill_53178_14 rfl (nI_1 i) (by decide) rfl ?_
      refine zg_goto (tgt := 5) dJ7_fill_53178_17 (by decide) ?_
      refine zg_w ((zw_si_sa w k i _ x).trans (congrArg (zw_sa w k) (zs_ws (fun _ => x) (zw_i w k) i))).symm ?_
      refine zg_l [1, 0, 2, 3] rfl ?_
      exact zg_s rfl rfl rfl (ih (i + 1) (by omega) (by omega))
set_option maxHeartbeats 4000000 in
set_option maxRecDepth 100000 in
theorem ct_fill {V : zv_V} (E : zv_OK V) {w : zw_W} {k m : Nat} {x : Int32} (ht : zw_t w k = (10, m)) (hk : 1 ≤ k) (hkn : k < w.1) (hm : m < 2 ^ 31) : zg_C V zm_J7_fill_53178 yJ7_fill_53178 0 0 [.ref k, .int x] w (zq_p (.inl none) (· = zw_sa w k (zs_w (fun _ => x) (zw_i w k) m))) := by
  refine zg_of (by decide +kernel) rfl (Nat.le_of_ble_eq_true rfl) ?_
  show zg_G V zm_J7_fill_53178 0 0 w.1 w.2.1 0 [] [(0, .ref k), (1, .int x)] w _
  refine zg_iconst (v := nI 0) dJ7_fill_53178_0 (by decide) ?_
  refine zg_istore_n (lv' := [(2, .int (nI 0)), (0, .ref k), (1, .int x)]) dJ7_fill_53178_1 (by decide) rfl ?_
  refine zg_aload_n dJ7_fill_53178_2 rfl ?_
  refine zg_alenI E dJ7_fill_53178_3 ht hk hkn ?_
  refine zg_istore_n (lv' := [(3, .int (nI m)), (2, .int (nI 0)), (0, .ref k), (1, .int x)]) dJ7_fill_53178_4 (by decide) rfl ?_
  refine zg_w (zw_sa_0 w k (zs_w0 (fun _ => x) (zw_i w k))) ?_
  exact zg_s rfl rfl rfl (lp_fill E ht hk hkn hm ⟨rfl, rfl⟩ (m + 1) 0 (by omega) (by omega))
set_option maxHeartbeats 4000000 in
set_option maxRecDepth 100000 in
theorem ct_holds {V : zv_V} (E : zv_OK V) {w : zw_W} (b : Int64) (s : Int32) : zg_C V zm_X3_holds yX3_holds 0 0 [.long b, .int s] w (zq_p (.inl (some (.int (if (b.toUInt64 >>> (s.toInt64.toUInt64 &&& Int64.toUInt64 63)).toInt64 &&& 1 = 0 then nI 0 else nI 1)))) (· = w)) := by
  refine zg_of (by decide +kernel) rfl (Nat.le_of_ble_eq_true rfl) ?_
  show zg_G V zm_X3_holds 0 0 w.1 w.2.1 0 [] [(0, .long b), (2, .int s)] w _
  refine zg_lload_n dX3_holds_0 rfl ?_
  refine zg_iload_n dX3_holds_1 rfl ?_
  refine zg_lushr dX3_holds_2 ?_
  refine zg_lconst (v := 1) dX3_holds_3 (by decide) ?_
  refine zg_land dX3_holds_4 ?_
  refine zg_lconst (v := 0) dX3_holds_5 (by decide) ?_
  refine zg_lcmp dX3_holds_6 ?_
  refine zg_if_eq (tgt := 14) dX3_holds_7 (by decide) (fun h7 => ?_) (fun h7 => ?_)
  · refine zg_iconst (v := nI 0) dX3_holds_14 (by decide) ?_
    exact zg_zret rfl rfl dX3_holds_15 ⟨by rw [if_pos (zs_cmp h7)], rfl⟩
  · refine zg_iconst (v := nI 1) dX3_holds_10 (by decide) ?_
    refine zg_goto (tgt := 15) dX3_holds_11 (by decide) ?_
    exact zg_zret rfl rfl dX3_holds_15 ⟨by rw [if_neg (zs_cmp0 h7)], rfl⟩
set_option maxHeartbeats 4000000 in
set_option maxRecDepth 100000 in
theorem lp_checkOf {V : zv_V} (E : zv_OK V) {w : zw_W} {n0 u0 : Nat} {Q : zg_O → zw_W → Prop} {k : Nat} (ht : zw_t w k = (10, 16)) (hk : 1 ≤ k) (hkn : k < w.1) (hq : Q (.inl (some (.int (zs_ck (zw_i w k) 14)))) w) : ∀ (n i : Nat) , i ≤ 14 → 14 + 1 ≤ i + n → zg_G V zm_X3_checkOf 0 0 n0 u0 4 [] [(2, .int (nI i)), (1, .int (zs_ck (zw_i w k) i)), (0, .ref k)] w Q := by
  intro n
  induction n with
  | zero =>
    intro i hi hn
    exact absurd hn (by omega)
  | succ n ih =>
    intro i hi hn 
    refine zg_iload_n dX3_checkOf_4 rfl ?_
    refine zg_bipush (v := nI 14) dX3_checkOf_5 (by decide) ?_
    refine zg_icmp_ge (tgt := 28) dX3_checkOf_7 (by decide) (fun h7 => ?_) (fun h7 => ?_)
    · obtain rfl : i = 14 := by have := zn_ge h7 (by omega) (by omega); omega
      refine zg_iload_n dX3_checkOf_28 rfl ?_
      exact zg_iret rfl dX3_checkOf_29 hq
    · have hlt : i < 14 := zn_lt h7 (by omega) (by omega)
      refine zg_iload_n dX3_checkOf_10 rfl ?_
      refine zg_bipush (v := nI 31) dX3_checkOf_11 (by decide) ?_
      refine zg_imul dX3_checkOf_13 ?_
      refine zg_aload_n dX3_checkOf_14 rfl ?_
      refine zg_iload_n dX3_checkOf_15 rfl ?_
      refine zg_iald E (j := i) dX3_checkOf_16 ht hk hkn rfl (by omega) (by decide) ?_
      refine zg_iadd dX3_checkOf_17 ?_
      refine zg_ldc E (v := 65535) dX3_checkOf_18 (by decide +kernel) ?_
      refine zg_iand dX3_checkOf_20 ?_
      refine zg_istore_n (lv' := [(1, .int ((((zs_ck (zw_i w k) i) * (nI 31)) + (zw_i w k i)) &&& 65535)), (2, .int (nI i)), (0, .ref k)]) dX3_checkOf_21 (by decide) rfl ?_
      refine zg_iinc (v := nI (i + 1)) (lv' := [(2, .int (nI (i + 1))), (1, .int ((((zs_ck (zw_i w k) i) * (nI 31)) + (zw_i w k i)) &&& 65535)), (0, .ref k)]) dX3_checkOf_22 rfl (nI_1 i) (by decide) rfl ?_
      refine zg_goto (tgt := 4) dX3_checkOf_25 (by decide) ?_
      refine zg_l [0, 1, 2] rfl ?_
      exact zg_s rfl rfl rfl (ih (i + 1) (by omega) (by omega))
set_option maxHeartbeats 4000000 in
set_option maxRecDepth 100000 in
theorem ct_checkOf {V : zv_V} (E : zv_OK V) {w : zw_W} {k : Nat} (ht : zw_t w k = (10, 16)) (hk : 1 ≤ k) (hkn : k < w.1) : zg_C V zm_X3_checkOf yX3_checkOf 0 0 [.ref k] w (zq_p (.inl (some (.int (zs_ck (zw_i w k) 14)))) (· = w)) := by
  refine zg_of (by decide +kernel) rfl (Nat.le_of_ble_eq_true rfl) ?_
  show zg_G V zm_X3_checkOf 0 0 w.1 w.2.1 0 [] [(0, .ref k)] w _
  refine zg_iconst (v := nI 1) dX3_checkOf_0 (by decide) ?_
  refine zg_istore_n (lv' := [(1, .int (nI 1)), (0, .ref k)]) dX3_checkOf_1 (by decide) rfl ?_
  refine zg_iconst (v := nI 0) dX3_checkOf_2 (by decide) ?_
  refine zg_istore_n (lv' := [(2, .int (nI 0)), (1, .int (nI 1)), (0, .ref k)]) dX3_checkOf_3 (by decide) rfl ?_
  exact zg_s rfl rfl rfl (lp_checkOf E ht hk hkn ⟨rfl, rfl⟩ 15 0 (by omega) (by omega))
set_option maxHeartbeats 4000000 in
set_option maxRecDepth 100000 in
theorem lp_usedSetL {V : zv_V} (E : zv_OK V) {w : zw_W} {n0 u0 : Nat} {Q : zg_O → zw_W → Prop} (HX : zl_X w) (hq : Q (.inl (some (.long (zs_us (zw_i w 132) ((1 : Int64) <<< ((zw_i w 131 1).toInt64 &&& 63)) 16)))) w) : ∀ (n i : Nat) , i ≤ 16 → 16 + 1 ≤ i + n → zg_G V zm_X2_usedSet 0 0 n0 u0 9 [] [(3, .int (nI i)), (1, .long (zs_us (zw_i w 132) ((1 : Int64) <<< ((zw_i w 131 1).toInt64 &&& 63)) i)), (0, .ref 131)] w Q := by
  intro n
  induction n with
  | zero =>
    intro i hi hn
    exact absurd hn (by omega)
  | succ n ih =>
    intro i hi hn 
    refine zg_iload_n dX2_usedSet_9 rfl ?_
    refine zg_bipush (v := nI 16) dX2_usedSet_10 (by decide) ?_
    refine zg_icmp_ge (tgt := 32) dX2_usedSet_12 (by decide) (fun h12 => ?_) (fun h12 => ?_)
    · obtain rfl : i = 16 := by have := zn_ge h12 (by omega) (by omega); omega
      refine zg_lload_n dX2_usedSet_32 rfl ?_
      exact zg_lret rfl dX2_usedSet_33 hq
    · have hlt : i < 16 := zn_lt h12 (by omega) (by omega)
      refine zg_lload_n dX2_usedSet_15 rfl ?_
      refine zg_lconst (v := 1) dX2_usedSet_16 (by decide) ?_
      refine zg_aload_n dX2_usedSet_17 rfl ?_
      refine zg_getR E (ci := 2) (j := 0) (r := 132) dX2_usedSet_18 rfl (congrArg Prod.fst (zl_at HX (k := 131) (t := (2, 3)) rfl (by decide) (by decide))) (by decide) (zl_lt HX (by decide)) (by decide) fl_X2_9 rfl (zl_rf HX rfl (by decide) (by decide)) ?_
      refine zg_iload_n dX2_usedSet_21 rfl ?_
      refine zg_iald E (j := i) dX2_usedSet_22 (zl_at HX (k := 132) (t := (10, 16)) rfl (by decide) (by decide)) (by decide) (zl_lt HX (by decide)) rfl (by omega) (by decide) ?_
      refine zg_lshl dX2_usedSet_23 ?_
      refine zg_lor dX2_usedSet_24 ?_
      refine zg_lstore_n (lv' := [(1, .long ((zs_us (zw_i w 132) ((1 : Int64) <<< ((zw_i w 131 1).toInt64 &&& 63)) i) ||| (((1)) <<< ((zw_i w 132 i).toInt64 &&& 63)))), (3, .int (nI i)), (0, .ref 131)]) dX2_usedSet_25 (by decide) rfl ?_
      refine zg_iinc (v := nI (i + 1)) (lv' := [(3, .int (nI (i + 1))), (1, .long ((zs_us (zw_i w 132) ((1 : Int64) <<< ((zw_i w 131 1).toInt64 &&& 63)) i) ||| (((1)) <<< ((zw_i w 132 i).toInt64 &&& 63)))), (0, .ref 131)]) dX2_usedSet_26 rfl (nI_1 i) (by decide) rfl ?_
      refine zg_goto (tgt := 9) dX2_usedSet_29 (by decide) ?_
      refine zg_l [0, 1, 2] rfl ?_
      exact zg_s rfl rfl rfl (ih (i + 1) (by omega) (by omega))
set_option maxHeartbeats 4000000 in
set_option maxRecDepth 100000 in
theorem ct_usedSetL {V : zv_V} (E : zv_OK V) {w : zw_W} (HX : zl_X w)  : zg_C V zm_X2_usedSet yX2_usedSet 0 0 [.ref 131] w (zq_p (.inl (some (.long (zs_us (zw_i w 132) ((1 : Int64) <<< ((zw_i w 131 1).toInt64 &&& 63)) 16)))) (· = w)) := by
  refine zg_of (by decide +kernel) rfl (Nat.le_of_ble_eq_true rfl) ?_
  show zg_G V zm_X2_usedSet 0 0 w.1 w.2.1 0 [] [(0, .ref 131)] w _
  refine zg_lconst (v := 1) dX2_usedSet_0 (by decide) ?_
  refine zg_aload_n dX2_usedSet_1 rfl ?_
  refine zg_getI E (ci := 2) (j := 1) dX2_usedSet_2 rfl (congrArg Prod.fst (zl_at HX (k := 131) (t := (2, 3)) rfl (by decide) (by decide))) (by decide) (zl_lt HX (by decide)) (by decide) fl_X2_21 rfl ?_
  refine zg_lshl dX2_usedSet_5 ?_
  refine zg_lstore_n (lv' := [(1, .long (((1)) <<< ((zw_i w 131 1).toInt64 &&& 63))), (0, .ref 131)]) dX2_usedSet_6 (by decide) rfl ?_
  refine zg_iconst (v := nI 0) dX2_usedSet_7 (by decide) ?_
  refine zg_istore_n (lv' := [(3, .int (nI 0)), (1, .long (((1)) <<< ((zw_i w 131 1).toInt64 &&& 63))), (0, .ref 131)]) dX2_usedSet_8 (by decide) rfl ?_
  exact zg_s rfl rfl rfl (lp_usedSetL E HX ⟨rfl, rfl⟩ 17 0 (by omega) (by omega))
set_option maxHeartbeats 4000000 in
set_option maxRecDepth 100000 in
theorem lp_usedSetS {V : zv_V} (E : zv_OK V) {w : zw_W} {n0 u0 : Nat} {Q : zg_O → zw_W → Prop} (HX : zl_X w) (hq : Q (.inl (some (.long (zs_us (zw_i w 134) ((1 : Int64) <<< ((zw_i w 133 1).toInt64 &&& 63)) 16)))) w) : ∀ (n i : Nat) , i ≤ 16 → 16 + 1 ≤ i + n → zg_G V zm_X2_usedSet 0 0 n0 u0 9 [] [(3, .int (nI i)), (1, .long (zs_us (zw_i w 134) ((1 : Int64) <<< ((zw_i w 133 1).toInt64 &&& 63)) i)), (0, .ref 133)] w Q := by
  intro n
  induction n with
  | zero =>
    intro i hi hn
    exact absurd hn (by omega)
  | succ n ih =>
    intro i hi hn 
    refine zg_iload_n dX2_usedSet_9 rfl ?_
    refine zg_bipush (v := nI 16) dX2_usedSet_10 (by decide) ?_
    refine zg_icmp_ge (tgt := 32) dX2_usedSet_12 (by decide) (fun h12 => ?_) (fun h12 => ?_)
    · obtain rfl : i = 16 := by have := zn_ge h12 (by omega) (by omega); omega
      refine zg_lload_n dX2_usedSet_32 rfl ?_
      exact zg_lret rfl dX2_usedSet_33 hq
    · have hlt : i < 16 := zn_lt h12 (by omega) (by omega)
      refine zg_lload_n dX2_usedSet_15 rfl ?_
      refine zg_lconst (v := 1) dX2_usedSet_16 (by decide) ?_
      refine zg_aload_n dX2_usedSet_17 rfl ?_
      refine zg_getR E (ci := 2) (j := 0) (r := 134) dX2_usedSet_18 rfl (congrArg Prod.fst (zl_at HX (k := 133) (t := (2, 3)) rfl (by decide) (by decide))) (by decide) (zl_lt HX (by decide)) (by decide) fl_X2_9 rfl (zl_rf HX rfl (by decide) (by decide)) ?_
      refine zg_iload_n dX2_usedSet_21 rfl ?_
      refine zg_iald E (j := i) dX2_usedSet_22 (zl_at HX (k := 134) (t := (10, 16)) rfl (by decide) (by decide)) (by decide) (zl_lt HX (by decide)) rfl (by omega) (by decide) ?_
      refine zg_lshl dX2_usedSet_23 ?_
      refine zg_lor dX2_usedSet_24 ?_
      refine zg_lstore_n (lv' := [(1, .long ((zs_us (zw_i w 134) ((1 : Int64) <<< ((zw_i w 133 1).toInt64 &&& 63)) i) ||| (((1)) <<< ((zw_i w 134 i).toInt64 &&& 63)))), (3, .int (nI i)), (0, .ref 133)]) dX2_usedSet_25 (by decide) rfl ?_
      refine zg_iinc (v := nI (i + 1)) (lv' := [(3, .int (nI (i + 1))), (1, .long ((zs_us (zw_i w 134) ((1 : Int64) <<< ((zw_i w 133 1).toInt64 &&& 63)) i) ||| (((1)) <<< ((zw_i w 134 i).toInt64 &&& 63)))), (0, .ref 133)]) dX2_usedSet_26 rfl (nI_1 i) (by decide) rfl ?_
      refine zg_goto (tgt := 9) dX2_usedSet_29 (by decide) ?_
      refine zg_l [0, 1, 2] rfl ?_
      exact zg_s rfl rfl rfl (ih (i + 1) (by omega) (by omega))
set_option maxHeartbeats 4000000 in
set_option maxRecDepth 100000 in
theorem ct_usedSetS {V : zv_V} (E : zv_OK V) {w : zw_W} (HX : zl_X w)  : zg_C V zm_X2_usedSet yX2_usedSet 0 0 [.ref 133] w (zq_p (.inl (some (.long (zs_us (zw_i w 134) ((1 : Int64) <<< ((zw_i w 133 1).toInt64 &&& 63)) 16)))) (· = w)) := by
  refine zg_of (by decide +kernel) rfl (Nat.le_of_ble_eq_true rfl) ?_
  show zg_G V zm_X2_usedSet 0 0 w.1 w.2.1 0 [] [(0, .ref 133)] w _
  refine zg_lconst (v := 1) dX2_usedSet_0 (by decide) ?_
  refine zg_aload_n dX2_usedSet_1 rfl ?_
  refine zg_getI E (ci := 2) (j := 1) dX2_usedSet_2 rfl (congrArg Prod.fst (zl_at HX (k := 133) (t := (2, 3)) rfl (by decide) (by decide))) (by decide) (zl_lt HX (by decide)) (by decide) fl_X2_21 rfl ?_
  refine zg_lshl dX2_usedSet_5 ?_
  refine zg_lstore_n (lv' := [(1, .long (((1)) <<< ((zw_i w 133 1).toInt64 &&& 63))), (0, .ref 133)]) dX2_usedSet_6 (by decide) rfl ?_
  refine zg_iconst (v := nI 0) dX2_usedSet_7 (by decide) ?_
  refine zg_istore_n (lv' := [(3, .int (nI 0)), (1, .long (((1)) <<< ((zw_i w 133 1).toInt64 &&& 63))), (0, .ref 133)]) dX2_usedSet_8 (by decide) rfl ?_
  exact zg_s rfl rfl rfl (lp_usedSetS E HX ⟨rfl, rfl⟩ 17 0 (by omega) (by omega))

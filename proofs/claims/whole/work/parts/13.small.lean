/-! The class's small methods. -/
set_option maxHeartbeats 4000000 in
set_option maxRecDepth 100000 in
theorem ct_isOpen_y {V : zv_V} (E : zv_OK V) {w : zw_W} (HX : zl_X w) (h : 0 < zw_i w 135 3) : zg_C V zm_X0_isOpen yX0_isOpen 0 0 [.ref 135] w (zq_p (.inl (some (.int (nI 1)))) (· = w)) := by
  refine zg_of (by decide +kernel) rfl (Nat.le_of_ble_eq_true rfl) ?_
  show zg_G V zm_X0_isOpen 0 0 w.1 w.2.1 0 [] [(0, .ref 135)] w _
  refine zg_aload_n dX0_isOpen_0 rfl ?_
  refine zg_getI E (ci := 0) (j := 3) dX0_isOpen_1 rfl (congrArg Prod.fst (zl_at HX (k := 135) (t := (0, 4)) rfl (by decide) (by decide))) (by decide) (zl_lt HX (by decide)) (by decide) fl_X0_24 rfl ?_
  refine zg_if_le (tgt := 11) dX0_isOpen_4 (by decide) (fun h4 => ?_) (fun h4 => ?_)
  · exact absurd h4 (Int32.not_le.mpr h)
  · refine zg_iconst (v := nI 1) dX0_isOpen_7 (by decide) ?_
    refine zg_goto (tgt := 12) dX0_isOpen_8 (by decide) ?_
    exact zg_zret rfl rfl dX0_isOpen_12 ⟨rfl, rfl⟩
set_option maxHeartbeats 4000000 in
set_option maxRecDepth 100000 in
theorem ct_isOpen_n {V : zv_V} (E : zv_OK V) {w : zw_W} (HX : zl_X w) (h : ¬ 0 < zw_i w 135 3) : zg_C V zm_X0_isOpen yX0_isOpen 0 0 [.ref 135] w (zq_p (.inl (some (.int (nI 0)))) (· = w)) := by
  refine zg_of (by decide +kernel) rfl (Nat.le_of_ble_eq_true rfl) ?_
  show zg_G V zm_X0_isOpen 0 0 w.1 w.2.1 0 [] [(0, .ref 135)] w _
  refine zg_aload_n dX0_isOpen_0 rfl ?_
  refine zg_getI E (ci := 0) (j := 3) dX0_isOpen_1 rfl (congrArg Prod.fst (zl_at HX (k := 135) (t := (0, 4)) rfl (by decide) (by decide))) (by decide) (zl_lt HX (by decide)) (by decide) fl_X0_24 rfl ?_
  refine zg_if_le (tgt := 11) dX0_isOpen_4 (by decide) (fun h4 => ?_) (fun h4 => ?_)
  · refine zg_iconst (v := nI 0) dX0_isOpen_11 (by decide) ?_
    exact zg_zret rfl rfl dX0_isOpen_12 ⟨rfl, rfl⟩
  · exact absurd (Int32.not_lt.mp h) h4
set_option maxHeartbeats 4000000 in
set_option maxRecDepth 100000 in
theorem ct_has_y {V : zv_V} (E : zv_OK V) {w : zw_W} (HX : zl_X w) {p : Nat} (hp : p < 16) (h : zw_i w 136 p ≠ nI 0) : zg_C V zm_X0_has yX0_has 0 0 [.ref 135, .int (nI p)] w (zq_p (.inl (some (.int (nI 1)))) (· = w)) := by
  refine zg_of (by decide +kernel) rfl (Nat.le_of_ble_eq_true rfl) ?_
  show zg_G V zm_X0_has 0 0 w.1 w.2.1 0 [] [(0, .ref 135), (1, .int (nI p))] w _
  refine zg_aload_n dX0_has_0 rfl ?_
  refine zg_getR E (ci := 0) (j := 0) (r := 136) dX0_has_1 rfl (congrArg Prod.fst (zl_at HX (k := 135) (t := (0, 4)) rfl (by decide) (by decide))) (by decide) (zl_lt HX (by decide)) (by decide) fl_X0_9 rfl (zl_rf HX rfl (by decide) (by decide)) ?_
  refine zg_iload_n dX0_has_4 rfl ?_
  refine zg_iald E (j := p) dX0_has_5 (zl_at HX (k := 136) (t := (10, 16)) rfl (by decide) (by decide)) (by decide) (zl_lt HX (by decide)) rfl (by omega) (by decide) ?_
  refine zg_if_eq (tgt := 13) dX0_has_6 (by decide) (fun h6 => ?_) (fun h6 => ?_)
  · exact absurd h6 h
  · refine zg_iconst (v := nI 1) dX0_has_9 (by decide) ?_
    refine zg_goto (tgt := 14) dX0_has_10 (by decide) ?_
    exact zg_zret rfl rfl dX0_has_14 ⟨rfl, rfl⟩
set_option maxHeartbeats 4000000 in
set_option maxRecDepth 100000 in
theorem ct_has_n {V : zv_V} (E : zv_OK V) {w : zw_W} (HX : zl_X w) {p : Nat} (hp : p < 16) (h : zw_i w 136 p = nI 0) : zg_C V zm_X0_has yX0_has 0 0 [.ref 135, .int (nI p)] w (zq_p (.inl (some (.int (nI 0)))) (· = w)) := by
  refine zg_of (by decide +kernel) rfl (Nat.le_of_ble_eq_true rfl) ?_
  show zg_G V zm_X0_has 0 0 w.1 w.2.1 0 [] [(0, .ref 135), (1, .int (nI p))] w _
  refine zg_aload_n dX0_has_0 rfl ?_
  refine zg_getR E (ci := 0) (j := 0) (r := 136) dX0_has_1 rfl (congrArg Prod.fst (zl_at HX (k := 135) (t := (0, 4)) rfl (by decide) (by decide))) (by decide) (zl_lt HX (by decide)) (by decide) fl_X0_9 rfl (zl_rf HX rfl (by decide) (by decide)) ?_
  refine zg_iload_n dX0_has_4 rfl ?_
  refine zg_iald E (j := p) dX0_has_5 (zl_at HX (k := 136) (t := (10, 16)) rfl (by decide) (by decide)) (by decide) (zl_lt HX (by decide)) rfl (by omega) (by decide) ?_
  refine zg_if_eq (tgt := 13) dX0_has_6 (by decide) (fun h6 => ?_) (fun h6 => ?_)
  · refine zg_iconst (v := nI 0) dX0_has_13 (by decide) ?_
    exact zg_zret rfl rfl dX0_has_14 ⟨rfl, rfl⟩
  · exact absurd h h6
set_option maxHeartbeats 4000000 in
set_option maxRecDepth 100000 in
theorem ct_add {V : zv_V} (E : zv_OK V) {w : zw_W} (HX : zl_X w) {p : Nat} (hp : p < 16) {x : Int32} : zg_C V zm_X0_add yX0_add 0 0 [.ref 135, .int (nI p), .int x] w (zq_p (.inl none) (· = zw_si (zw_si w 136 p x) 135 3 (zw_i w 135 3 + nI 1))) := by
  refine zg_of (by decide +kernel) rfl (Nat.le_of_ble_eq_true rfl) ?_
  show zg_G V zm_X0_add 0 0 w.1 w.2.1 0 [] [(0, .ref 135), (1, .int (nI p)), (2, .int x)] w _
  refine zg_aload_n dX0_add_0 rfl ?_
  refine zg_getR E (ci := 0) (j := 0) (r := 136) dX0_add_1 rfl (congrArg Prod.fst (zl_at HX (k := 135) (t := (0, 4)) rfl (by decide) (by decide))) (by decide) (zl_lt HX (by decide)) (by decide) fl_X0_9 rfl (zl_rf HX rfl (by decide) (by decide)) ?_
  refine zg_iload_n dX0_add_4 rfl ?_
  refine zg_iload_n dX0_add_5 rfl ?_
  refine zg_iast E (j := p) dX0_add_6 (zl_at HX (k := 136) (t := (10, 16)) rfl (by decide) (by decide)) (by decide) (zl_lt HX (by decide)) rfl (by omega) (by decide) ?_
  refine zg_aload_n dX0_add_7 rfl ?_
  refine zg_dup dX0_add_8 rfl ?_
  refine zg_getI E (ci := 0) (j := 3) dX0_add_9 rfl (congrArg Prod.fst (zl_at HX (k := 135) (t := (0, 4)) rfl (by decide) (by decide))) (by decide) (zl_lt HX (by decide)) (by decide) fl_X0_24 rfl ?_
  refine zg_iconst (v := nI 1) dX0_add_12 (by decide) ?_
  refine zg_iadd dX0_add_13 ?_
  refine zg_putI E (ci := 0) (j := 3) dX0_add_14 rfl (congrArg Prod.fst (zl_at HX (k := 135) (t := (0, 4)) rfl (by decide) (by decide))) (by decide) (zl_lt HX (by decide)) (by decide) fl_X0_24 rfl rfl rfl rfl ?_
  exact zg_vret rfl dX0_add_17 ⟨rfl, rfl⟩
set_option maxHeartbeats 4000000 in
set_option maxRecDepth 100000 in
theorem ct_close {V : zv_V} (E : zv_OK V) {w : zw_W} (HX : zl_X w)  : zg_C V zm_X0_close yX0_close 1 23 [.ref 135] w (zq_p (.inl none) (· = zw_si (zw_sa w 136 (zs_w (fun _ => nI 0) (zw_i w 136) 16)) 135 3 (nI 0))) := by
  refine zg_of (by decide +kernel) rfl (Nat.le_of_ble_eq_true rfl) ?_
  show zg_G V zm_X0_close 1 23 w.1 w.2.1 0 [] [(0, .ref 135)] w _
  refine zg_aload_n dX0_close_0 rfl ?_
  refine zg_getR E (ci := 0) (j := 0) (r := 136) dX0_close_1 rfl (congrArg Prod.fst (zl_at HX (k := 135) (t := (0, 4)) rfl (by decide) (by decide))) (by decide) (zl_lt HX (by decide)) (by decide) fl_X0_9 rfl (zl_rf HX rfl (by decide) (by decide)) ?_
  refine zg_iconst (v := nI 0) dX0_close_4 (by decide) ?_
  refine zg_sret (M := zm_X0_close) E dX0_close_5 (ct_fill E (zl_at HX (k := 136) (t := (10, 16)) rfl (by decide) (by decide)) (by decide) (zl_lt HX (by decide)) (by decide)) wd_X0_28 dh_J7_fill_53178 dn_J7_fill_53178 (Nat.le_of_ble_eq_true rfl) (Nat.le_of_ble_eq_true rfl) (Nat.le_of_ble_eq_true rfl) (zl_cap HX) rfl (fun w5 g5 => ?_)
  subst g5
  refine zg_aload_n dX0_close_8 rfl ?_
  refine zg_iconst (v := nI 0) dX0_close_9 (by decide) ?_
  refine zg_putI E (ci := 0) (j := 3) dX0_close_10 rfl (congrArg Prod.fst (zl_at HX (k := 135) (t := (0, 4)) rfl (by decide) (by decide))) (by decide) (zl_lt HX (by decide)) (by decide) fl_X0_24 rfl rfl rfl rfl ?_
  exact zg_vret rfl dX0_close_13 ⟨rfl, rfl⟩
set_option maxHeartbeats 4000000 in
set_option maxRecDepth 100000 in
theorem ct_become {V : zv_V} (E : zv_OK V) {w : zw_W} (HX : zl_X w)  : zg_C V zm_X2_become yX2_become 1 100 [.ref 133, .ref 131] w (zq_p (.inl none) (· = zw_si (zw_si (zw_sa w 134 (zs_w (zw_i w 132) (zw_i w 134) 16)) 133 1 (zw_i w 131 1)) 133 2 (zw_i w 131 2))) := by
  refine zg_of (by decide +kernel) rfl (Nat.le_of_ble_eq_true rfl) ?_
  show zg_G V zm_X2_become 1 100 w.1 w.2.1 0 [] [(0, .ref 133), (1, .ref 131)] w _
  refine zg_aload_n dX2_become_0 rfl ?_
  refine zg_getR E (ci := 2) (j := 0) (r := 132) dX2_become_1 rfl (congrArg Prod.fst (zl_at HX (k := 131) (t := (2, 3)) rfl (by decide) (by decide))) (by decide) (zl_lt HX (by decide)) (by decide) fl_X2_9 rfl (zl_rf HX rfl (by decide) (by decide)) ?_
  refine zg_iconst (v := nI 0) dX2_become_4 (by decide) ?_
  refine zg_aload_n dX2_become_5 rfl ?_
  refine zg_getR E (ci := 2) (j := 0) (r := 134) dX2_become_6 rfl (congrArg Prod.fst (zl_at HX (k := 133) (t := (2, 3)) rfl (by decide) (by decide))) (by decide) (zl_lt HX (by decide)) (by decide) fl_X2_9 rfl (zl_rf HX rfl (by decide) (by decide)) ?_
  refine zg_iconst (v := nI 0) dX2_become_9 (by decide) ?_
  refine zg_bipush (v := nI 16) dX2_become_10 (by decide) ?_
  refine zg_copy E (n := 16) dX2_become_12 (by decide +kernel) (zl_at HX (k := 132) (t := (10, 16)) rfl (by decide) (by decide)) (zl_at HX (k := 134) (t := (10, 16)) rfl (by decide) (by decide)) (by decide) (zl_lt HX (by decide)) (by decide) (zl_lt HX (by decide)) rfl rfl rfl (by decide) (by decide) (by decide) (by decide) (Nat.le_of_ble_eq_true rfl) (Nat.le_of_ble_eq_true rfl) ?_
  refine zg_aload_n dX2_become_15 rfl ?_
  refine zg_aload_n dX2_become_16 rfl ?_
  refine zg_getI E (ci := 2) (j := 1) dX2_become_17 rfl (congrArg Prod.fst (zl_at HX (k := 131) (t := (2, 3)) rfl (by decide) (by decide))) (by decide) (zl_lt HX (by decide)) (by decide) fl_X2_21 rfl ?_
  refine zg_putI E (ci := 2) (j := 1) dX2_become_20 rfl (congrArg Prod.fst (zl_at HX (k := 133) (t := (2, 3)) rfl (by decide) (by decide))) (by decide) (zl_lt HX (by decide)) (by decide) fl_X2_21 rfl rfl rfl rfl ?_
  refine zg_aload_n dX2_become_23 rfl ?_
  refine zg_aload_n dX2_become_24 rfl ?_
  refine zg_getI E (ci := 2) (j := 2) dX2_become_25 rfl (congrArg Prod.fst (zl_at HX (k := 131) (t := (2, 3)) rfl (by decide) (by decide))) (by decide) (zl_lt HX (by decide)) (by decide) fl_X2_25 rfl ?_
  refine zg_putI E (ci := 2) (j := 2) dX2_become_28 rfl (congrArg Prod.fst (zl_at HX (k := 133) (t := (2, 3)) rfl (by decide) (by decide))) (by decide) (zl_lt HX (by decide)) (by decide) fl_X2_25 rfl rfl rfl rfl ?_
  exact zg_vret rfl dX2_become_31 ⟨rfl, rfl⟩
set_option maxHeartbeats 4000000 in
set_option maxRecDepth 100000 in
theorem ct_rowadd {V : zv_V} (E : zv_OK V) {w : zw_W} (HX : zl_X w) {h k : Nat} {x : Int32} (hh : h < 77) (hz : zw_i w 51 2 = nI h) (ht : zw_t w k = (10, 16)) (hk : 1 ≤ k) (hkn : k < w.1) : zg_C V zm_X1_add yX1_add 1 100 [.ref 51, .int x, .ref k] w (zq_p (.inl none) (· = zw_si (zw_sa (zw_si w 52 h x) (54 + h) (zs_w (zw_i (zw_si w 52 h x) k) (zw_i (zw_si w 52 h x) (54 + h)) 16)) 51 2 (zw_i (zw_sa (zw_si w 52 h x) (54 + h) (zs_w (zw_i (zw_si w 52 h x) k) (zw_i (zw_si w 52 h x) (54 + h)) 16)) 51 2 + nI 1))) := by
  refine zg_of (by decide +kernel) rfl (Nat.le_of_ble_eq_true rfl) ?_
  show zg_G V zm_X1_add 1 100 w.1 w.2.1 0 [] [(0, .ref 51), (1, .int x), (2, .ref k)] w _
  refine zg_aload_n dX1_add_0 rfl ?_
  refine zg_getR E (ci := 1) (j := 0) (r := 52) dX1_add_1 rfl (congrArg Prod.fst (zl_at HX (k := 51) (t := (1, 3)) rfl (by decide) (by decide))) (by decide) (zl_lt HX (by decide)) (by decide) fl_X1_9 rfl (zl_rf HX rfl (by decide) (by decide)) ?_
  refine zg_aload_n dX1_add_4 rfl ?_
  refine zg_getI E (ci := 1) (j := 2) dX1_add_5 rfl (congrArg Prod.fst (zl_at HX (k := 51) (t := (1, 3)) rfl (by decide) (by decide))) (by decide) (zl_lt HX (by decide)) (by decide) fl_X1_20 rfl ?_
  refine zg_iload_n dX1_add_8 rfl ?_
  refine zg_iast E (j := h) dX1_add_9 (zl_at HX (k := 52) (t := (10, 77)) rfl (by decide) (by decide)) (by decide) (zl_lt HX (by decide)) hz hh (by decide) ?_
  refine zg_aload_n dX1_add_10 rfl ?_
  refine zg_iconst (v := nI 0) dX1_add_11 (by decide) ?_
  refine zg_aload_n dX1_add_12 rfl ?_
  refine zg_getR E (ci := 1) (j := 1) (r := 53) dX1_add_13 rfl (congrArg Prod.fst (zl_at HX (k := 51) (t := (1, 3)) rfl (by decide) (by decide))) (by decide) (zl_lt HX (by decide)) (by decide) fl_X1_17 rfl (zl_rf HX rfl (by decide) (by decide)) ?_
  refine zg_aload_n dX1_add_16 rfl ?_
  refine zg_getI E (ci := 1) (j := 2) dX1_add_17 rfl (congrArg Prod.fst (zl_at HX (k := 51) (t := (1, 3)) rfl (by decide) (by decide))) (by decide) (zl_lt HX (by decide)) (by decide) fl_X1_20 rfl ?_
  refine zg_aald E (j := h) (r := 54 + h) dX1_add_20 (zl_at HX (k := 53) (t := (13, 77)) rfl (by decide) (by decide)) (by decide) (zl_lt HX (by decide)) hz hh (by decide) (zl_rf HX (zl_row hh).2 (by decide) (by decide)) ?_
  refine zg_iconst (v := nI 0) dX1_add_21 (by decide) ?_
  refine zg_bipush (v := nI 16) dX1_add_22 (by decide) ?_
  refine zg_copy E (n := 16) dX1_add_24 (by decide +kernel) ht (zl_at HX (zl_row (by omega)).1 (by omega) (by omega)) hk hkn (by omega) (zl_lt HX (by omega)) rfl rfl rfl (by decide) (by decide) (by decide) (by decide) (Nat.le_of_ble_eq_true rfl) (Nat.le_of_ble_eq_true rfl) ?_
  refine zg_aload_n dX1_add_27 rfl ?_
  refine zg_dup dX1_add_28 rfl ?_
  refine zg_getI E (ci := 1) (j := 2) dX1_add_29 rfl (congrArg Prod.fst (zl_at HX (k := 51) (t := (1, 3)) rfl (by decide) (by decide))) (by decide) (zl_lt HX (by decide)) (by decide) fl_X1_20 rfl ?_
  refine zg_iconst (v := nI 1) dX1_add_32 (by decide) ?_
  refine zg_iadd dX1_add_33 ?_
  refine zg_putI E (ci := 1) (j := 2) dX1_add_34 rfl (congrArg Prod.fst (zl_at HX (k := 51) (t := (1, 3)) rfl (by decide) (by decide))) (by decide) (zl_lt HX (by decide)) (by decide) fl_X1_20 rfl rfl rfl rfl ?_
  exact zg_vret rfl dX1_add_37 ⟨rfl, rfl⟩
set_option maxHeartbeats 4000000 in
set_option maxRecDepth 100000 in
theorem ct_carry {V : zv_V} (E : zv_OK V) {w : zw_W} (HX : zl_X w) {k t : Nat} (hk : k < 77) (ht : t < 48) (hz : zw_i w 52 k = nI t) : zg_C V zm_X1_carryOut yX1_carryOut 1 100 [.ref 51, .int (nI k), .ref 2] w (zq_p (.inl none) (· = zw_sa w (3 + t) (zs_w (zw_i w (54 + k)) (zw_i w (3 + t)) 16))) := by
  refine zg_of (by decide +kernel) rfl (Nat.le_of_ble_eq_true rfl) ?_
  show zg_G V zm_X1_carryOut 1 100 w.1 w.2.1 0 [] [(0, .ref 51), (1, .int (nI k)), (2, .ref 2)] w _
  refine zg_aload_n dX1_carryOut_0 rfl ?_
  refine zg_getR E (ci := 1) (j := 1) (r := 53) dX1_carryOut_1 rfl (congrArg Prod.fst (zl_at HX (k := 51) (t := (1, 3)) rfl (by decide) (by decide))) (by decide) (zl_lt HX (by decide)) (by decide) fl_X1_17 rfl (zl_rf HX rfl (by decide) (by decide)) ?_
  refine zg_iload_n dX1_carryOut_4 rfl ?_
  refine zg_aald E (j := k) (r := 54 + k) dX1_carryOut_5 (zl_at HX (k := 53) (t := (13, 77)) rfl (by decide) (by decide)) (by decide) (zl_lt HX (by decide)) rfl (by omega) (by decide) (zl_rf HX (zl_row (by omega)).2 (by decide) (by decide)) ?_
  refine zg_iconst (v := nI 0) dX1_carryOut_6 (by decide) ?_
  refine zg_aload_n dX1_carryOut_7 rfl ?_
  refine zg_aload_n dX1_carryOut_8 rfl ?_
  refine zg_getR E (ci := 1) (j := 0) (r := 52) dX1_carryOut_9 rfl (congrArg Prod.fst (zl_at HX (k := 51) (t := (1, 3)) rfl (by decide) (by decide))) (by decide) (zl_lt HX (by decide)) (by decide) fl_X1_9 rfl (zl_rf HX rfl (by decide) (by decide)) ?_
  refine zg_iload_n dX1_carryOut_12 rfl ?_
  refine zg_iald E (j := k) dX1_carryOut_13 (zl_at HX (k := 52) (t := (10, 77)) rfl (by decide) (by decide)) (by decide) (zl_lt HX (by decide)) rfl (by omega) (by decide) ?_
  refine zg_aald E (j := t) (r := 3 + t) dX1_carryOut_14 (zl_at HX (k := 2) (t := (13, 48)) rfl (by decide) (by decide)) (by decide) (zl_lt HX (by decide)) hz ht (by decide) (zl_rf HX (zl_sec ht).2 (by decide) (by decide)) ?_
  refine zg_iconst (v := nI 0) dX1_carryOut_15 (by decide) ?_
  refine zg_bipush (v := nI 16) dX1_carryOut_16 (by decide) ?_
  refine zg_copy E (n := 16) dX1_carryOut_18 (by decide +kernel) (zl_at HX (zl_row (by omega)).1 (by omega) (by omega)) (zl_at HX (zl_sec (by omega)).1 (by omega) (by omega)) (by omega) (zl_lt HX (by omega)) (by omega) (zl_lt HX (by omega)) rfl rfl rfl (by decide) (by decide) (by decide) (by decide) (Nat.le_of_ble_eq_true rfl) (Nat.le_of_ble_eq_true rfl) ?_
  exact zg_vret rfl dX1_carryOut_21 ⟨rfl, rfl⟩
set_option maxHeartbeats 4000000 in
set_option maxRecDepth 100000 in
theorem ct_mounted_ok {V : zv_V} (E : zv_OK V) {w : zw_W} (HX : zl_X w) (h : zw_i w 1 6 = nI 0) : zg_C V zm_X3_checkMounted yX3_checkMounted 0 0 [.ref 1] w (zq_p (.inl none) (· = w)) := by
  refine zg_of (by decide +kernel) rfl (Nat.le_of_ble_eq_true rfl) ?_
  show zg_G V zm_X3_checkMounted 0 0 w.1 w.2.1 0 [] [(0, .ref 1)] w _
  refine zg_aload_n dX3_checkMounted_0 rfl ?_
  refine zg_getI E (ci := 3) (j := 6) dX3_checkMounted_1 rfl (congrArg Prod.fst (zl_at HX (k := 1) (t := (3, 7)) rfl (by decide) (by decide))) (by decide) (zl_lt HX (by decide)) (by decide) fl_X3_131 rfl ?_
  refine zg_if_eq (tgt := 17) dX3_checkMounted_4 (by decide) (fun h4 => ?_) (fun h4 => ?_)
  · exact zg_vret rfl dX3_checkMounted_17 ⟨rfl, rfl⟩
  · exact absurd h h4
set_option maxHeartbeats 4000000 in
set_option maxRecDepth 100000 in
theorem ct_mounted_no {V : zv_V} (E : zv_OK V) {w : zw_W} (HX : zl_X w) (h : zw_i w 1 6 ≠ nI 0) : zg_C V zm_X3_checkMounted yX3_checkMounted 6 82 [.ref 1] w (zq_p (.inr 21) (· = zw_nw w (21, 6))) := by
  refine zg_of (by decide +kernel) rfl (Nat.le_of_ble_eq_true rfl) ?_
  show zg_G V zm_X3_checkMounted 6 82 w.1 w.2.1 0 [] [(0, .ref 1)] w _
  refine zg_aload_n dX3_checkMounted_0 rfl ?_
  refine zg_getI E (ci := 3) (j := 6) dX3_checkMounted_1 rfl (congrArg Prod.fst (zl_at HX (k := 1) (t := (3, 7)) rfl (by decide) (by decide))) (by decide) (zl_lt HX (by decide)) (by decide) fl_X3_131 rfl ?_
  refine zg_if_eq (tgt := 17) dX3_checkMounted_4 (by decide) (fun h4 => ?_) (fun h4 => ?_)
  · exact absurd h4 h
  · exact zg_throw (M := zm_X3_checkMounted) E 21 (text := "the store is broken") (by decide) rfl rfl dX3_checkMounted_7 dX3_checkMounted_10 dX3_checkMounted_11 dX3_checkMounted_13 dX3_checkMounted_16 (by decide +kernel) (by decide +kernel) (by decide +kernel) tw_21_93 (zt_cap HX).1 (zt_cap HX).2.1 (zt_cap HX).2.2 (Nat.le_of_ble_eq_true rfl) (Nat.le_of_ble_eq_true rfl) ⟨rfl, rfl⟩
set_option maxHeartbeats 4000000 in
set_option maxRecDepth 100000 in
theorem ct_open_ok {V : zv_V} (E : zv_OK V) {w : zw_W} (HX : zl_X w) (h : 0 < zw_i w 135 3) : zg_C V zm_X3_checkOpen yX3_checkOpen 1 20 [.ref 1] w (zq_p (.inl none) (· = w)) := by
  refine zg_of (by decide +kernel) rfl (Nat.le_of_ble_eq_true rfl) ?_
  show zg_G V zm_X3_checkOpen 1 20 w.1 w.2.1 0 [] [(0, .ref 1)] w _
  refine zg_aload_n dX3_checkOpen_0 rfl ?_
  refine zg_getR E (ci := 3) (j := 4) (r := 135) dX3_checkOpen_1 rfl (congrArg Prod.fst (zl_at HX (k := 1) (t := (3, 7)) rfl (by decide) (by decide))) (by decide) (zl_lt HX (by decide)) (by decide) fl_X3_34 rfl (zl_rf HX rfl (by decide) (by decide)) ?_
  refine zg_vrt (M := zm_X3_checkOpen) E (ci := 0) dX3_checkOpen_4 (ct_isOpen_y E HX h) wd_X3_163 rfl (congrArg Prod.fst (zl_at HX (k := 135) (t := (0, 4)) rfl (by decide) (by decide))) (by decide) (zl_lt HX (by decide)) rfl dh_X0_isOpen dn_X0_isOpen (Nat.le_of_ble_eq_true rfl) (Nat.le_of_ble_eq_true rfl) (Nat.le_of_ble_eq_true rfl) (zl_cap HX) rfl (fun w4 g4 => ?_)
  subst g4
  refine zg_if_ne (tgt := 20) dX3_checkOpen_7 (by decide) (fun h7 => ?_) (fun h7 => ?_)
  · exact zg_vret rfl dX3_checkOpen_20 ⟨rfl, rfl⟩
  · exact absurd h7 (by decide)
set_option maxHeartbeats 4000000 in
set_option maxRecDepth 100000 in
theorem ct_open_no {V : zv_V} (E : zv_OK V) {w : zw_W} (HX : zl_X w) (h : ¬ 0 < zw_i w 135 3) : zg_C V zm_X3_checkOpen yX3_checkOpen 6 82 [.ref 1] w (zq_p (.inr 21) (· = zw_nw w (21, 6))) := by
  refine zg_of (by decide +kernel) rfl (Nat.le_of_ble_eq_true rfl) ?_
  show zg_G V zm_X3_checkOpen 6 82 w.1 w.2.1 0 [] [(0, .ref 1)] w _
  refine zg_aload_n dX3_checkOpen_0 rfl ?_
  refine zg_getR E (ci := 3) (j := 4) (r := 135) dX3_checkOpen_1 rfl (congrArg Prod.fst (zl_at HX (k := 1) (t := (3, 7)) rfl (by decide) (by decide))) (by decide) (zl_lt HX (by decide)) (by decide) fl_X3_34 rfl (zl_rf HX rfl (by decide) (by decide)) ?_
  refine zg_vrt (M := zm_X3_checkOpen) E (ci := 0) dX3_checkOpen_4 (ct_isOpen_n E HX h) wd_X3_163 rfl (congrArg Prod.fst (zl_at HX (k := 135) (t := (0, 4)) rfl (by decide) (by decide))) (by decide) (zl_lt HX (by decide)) rfl dh_X0_isOpen dn_X0_isOpen (Nat.le_of_ble_eq_true rfl) (Nat.le_of_ble_eq_true rfl) (Nat.le_of_ble_eq_true rfl) (zl_cap HX) rfl (fun w4 g4 => ?_)
  subst g4
  refine zg_if_ne (tgt := 20) dX3_checkOpen_7 (by decide) (fun h7 => ?_) (fun h7 => ?_)
  · exact absurd rfl h7
  · exact zg_throw (M := zm_X3_checkOpen) E 21 (text := "no change is open") (by decide) rfl rfl dX3_checkOpen_10 dX3_checkOpen_13 dX3_checkOpen_14 dX3_checkOpen_16 dX3_checkOpen_19 (by decide +kernel) (by decide +kernel) (by decide +kernel) tw_21_93 (zt_cap HX).1 (zt_cap HX).2.1 (zt_cap HX).2.2 (Nat.le_of_ble_eq_true rfl) (Nat.le_of_ble_eq_true rfl) ⟨rfl, rfl⟩
set_option maxHeartbeats 4000000 in
set_option maxRecDepth 100000 in
theorem ct_openPlace_y {V : zv_V} (E : zv_OK V) {w : zw_W} (HX : zl_X w) {p : Nat} (hp : p < 16) (h : zw_i w 136 p ≠ nI 0) : zg_C V zm_X3_openPlace yX3_openPlace 1 21 [.ref 1, .int (nI p)] w (zq_p (.inl (some (.int (zw_i w 136 p)))) (· = w)) := by
  refine zg_of (by decide +kernel) rfl (Nat.le_of_ble_eq_true rfl) ?_
  show zg_G V zm_X3_openPlace 1 21 w.1 w.2.1 0 [] [(0, .ref 1), (1, .int (nI p))] w _
  refine zg_aload_n dX3_openPlace_0 rfl ?_
  refine zg_getR E (ci := 3) (j := 4) (r := 135) dX3_openPlace_1 rfl (congrArg Prod.fst (zl_at HX (k := 1) (t := (3, 7)) rfl (by decide) (by decide))) (by decide) (zl_lt HX (by decide)) (by decide) fl_X3_34 rfl (zl_rf HX rfl (by decide) (by decide)) ?_
  refine zg_iload_n dX3_openPlace_4 rfl ?_
  refine zg_vrt (M := zm_X3_openPlace) E (ci := 0) dX3_openPlace_5 (ct_has_y E HX hp h) wd_X3_68 rfl (congrArg Prod.fst (zl_at HX (k := 135) (t := (0, 4)) rfl (by decide) (by decide))) (by decide) (zl_lt HX (by decide)) rfl dh_X0_has dn_X0_has (Nat.le_of_ble_eq_true rfl) (Nat.le_of_ble_eq_true rfl) (Nat.le_of_ble_eq_true rfl) (zl_cap HX) rfl (fun w5 g5 => ?_)
  subst g5
  refine zg_if_eq (tgt := 23) dX3_openPlace_8 (by decide) (fun h8 => ?_) (fun h8 => ?_)
  · exact absurd h8 (by decide)
  · refine zg_aload_n dX3_openPlace_11 rfl ?_
    refine zg_getR E (ci := 3) (j := 4) (r := 135) dX3_openPlace_12 rfl (congrArg Prod.fst (zl_at HX (k := 1) (t := (3, 7)) rfl (by decide) (by decide))) (by decide) (zl_lt HX (by decide)) (by decide) fl_X3_34 rfl (zl_rf HX rfl (by decide) (by decide)) ?_
    refine zg_getR E (ci := 0) (j := 0) (r := 136) dX3_openPlace_15 rfl (congrArg Prod.fst (zl_at HX (k := 135) (t := (0, 4)) rfl (by decide) (by decide))) (by decide) (zl_lt HX (by decide)) (by decide) fl_X3_222 rfl (zl_rf HX rfl (by decide) (by decide)) ?_
    refine zg_iload_n dX3_openPlace_18 rfl ?_
    refine zg_iald E (j := p) dX3_openPlace_19 (zl_at HX (k := 136) (t := (10, 16)) rfl (by decide) (by decide)) (by decide) (zl_lt HX (by decide)) rfl (by omega) (by decide) ?_
    refine zg_goto (tgt := 32) dX3_openPlace_20 (by decide) ?_
    exact zg_iret rfl dX3_openPlace_32 ⟨rfl, rfl⟩
set_option maxHeartbeats 4000000 in
set_option maxRecDepth 100000 in
theorem ct_openPlace_n {V : zv_V} (E : zv_OK V) {w : zw_W} (HX : zl_X w) {p : Nat} (hp : p < 16) (h : zw_i w 136 p = nI 0) : zg_C V zm_X3_openPlace yX3_openPlace 1 21 [.ref 1, .int (nI p)] w (zq_p (.inl (some (.int (zw_i w 132 p)))) (· = w)) := by
  refine zg_of (by decide +kernel) rfl (Nat.le_of_ble_eq_true rfl) ?_
  show zg_G V zm_X3_openPlace 1 21 w.1 w.2.1 0 [] [(0, .ref 1), (1, .int (nI p))] w _
  refine zg_aload_n dX3_openPlace_0 rfl ?_
  refine zg_getR E (ci := 3) (j := 4) (r := 135) dX3_openPlace_1 rfl (congrArg Prod.fst (zl_at HX (k := 1) (t := (3, 7)) rfl (by decide) (by decide))) (by decide) (zl_lt HX (by decide)) (by decide) fl_X3_34 rfl (zl_rf HX rfl (by decide) (by decide)) ?_
  refine zg_iload_n dX3_openPlace_4 rfl ?_
  refine zg_vrt (M := zm_X3_openPlace) E (ci := 0) dX3_openPlace_5 (ct_has_n E HX hp h) wd_X3_68 rfl (congrArg Prod.fst (zl_at HX (k := 135) (t := (0, 4)) rfl (by decide) (by decide))) (by decide) (zl_lt HX (by decide)) rfl dh_X0_has dn_X0_has (Nat.le_of_ble_eq_true rfl) (Nat.le_of_ble_eq_true rfl) (Nat.le_of_ble_eq_true rfl) (zl_cap HX) rfl (fun w5 g5 => ?_)
  subst g5
  refine zg_if_eq (tgt := 23) dX3_openPlace_8 (by decide) (fun h8 => ?_) (fun h8 => ?_)
  · refine zg_aload_n dX3_openPlace_23 rfl ?_
    refine zg_getR E (ci := 3) (j := 2) (r := 131) dX3_openPlace_24 rfl (congrArg Prod.fst (zl_at HX (k := 1) (t := (3, 7)) rfl (by decide) (by decide))) (by decide) (zl_lt HX (by decide)) (by decide) fl_X3_24 rfl (zl_rf HX rfl (by decide) (by decide)) ?_
    refine zg_getR E (ci := 2) (j := 0) (r := 132) dX3_openPlace_27 rfl (congrArg Prod.fst (zl_at HX (k := 131) (t := (2, 3)) rfl (by decide) (by decide))) (by decide) (zl_lt HX (by decide)) (by decide) fl_X3_72 rfl (zl_rf HX rfl (by decide) (by decide)) ?_
    refine zg_iload_n dX3_openPlace_30 rfl ?_
    refine zg_iald E (j := p) dX3_openPlace_31 (zl_at HX (k := 132) (t := (10, 16)) rfl (by decide) (by decide)) (by decide) (zl_lt HX (by decide)) rfl (by omega) (by decide) ?_
    exact zg_iret rfl dX3_openPlace_32 ⟨rfl, rfl⟩
  · exact absurd rfl h8

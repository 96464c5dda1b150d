/-! The constructors. -/
set_option maxHeartbeats 1000000 in
theorem ct_X2_init {V : zv_V} (E : zv_OK V) {w : zw_W} {k : Nat} (ht : (zw_t w k).1 = 2) (hk : 1 ≤ k) (hkn : k < w.1) (hcn : w.1 + 100 ≤ zc_cn) (hcs : w.2.1 + 2000 ≤ zc_cs) : zg_C V zm_X2_init yX2_init 2 60 [.ref k] w (zq_p (.inl none) (· = zw_sr (zw_nw w (10, 16)) k 0 (some w.1))) := by
  refine zh_of (by decide +kernel) rfl (Nat.le_of_ble_eq_true rfl) rfl ?_
  show zh_G V zm_X2_init 2 60 w.1 w.2.1 0 [] [(0, .ref k)] w _
  refine zh_aload_n dX2_init_0 rfl ?_
  refine zh_obj0 E dX2_init_1 (by decide +kernel) (Nat.le_of_ble_eq_true rfl) (Nat.le_of_ble_eq_true rfl) ?_
  refine zh_aload_n dX2_init_4 rfl ?_
  refine zh_bipush (v := nI 16) dX2_init_5 (by decide) ?_
  refine zh_newI E (n := 16) dX2_init_7 (by show 1 ≤ w.1; omega) rfl (by decide) (by show w.1 + 1 ≤ zc_cn; omega) (by show w.2.1 + 16 ≤ zc_cs; omega) ?_
  refine zh_putR E (ci := 2) (j := 0) (r := w.1) dX2_init_9 rfl (Eq.trans (congrArg Prod.fst (zw_ro_n _ _ (by show k ≠ w.1; omega))) ht) (by omega) (by show k < w.1 + 1; omega) (by decide) fl_X2_9 rfl rfl rfl (fun _ => rfl) (fun _ => rfl) ?_
  exact zh_as (zg_vret rfl dX2_init_12 ⟨rfl, rfl⟩)
set_option maxHeartbeats 1000000 in
theorem ct_X1_init {V : zv_V} (E : zv_OK V) {w : zw_W} {k : Nat} (ht : (zw_t w k).1 = 1) (hk : 1 ≤ k) (hkn : k < w.1) (hcn : w.1 + 100 ≤ zc_cn) (hcs : w.2.1 + 2000 ≤ zc_cs) : zg_C V zm_X1_init yX1_init 2 60 [.ref k] w (zq_p (.inl none) (· = zw_sr (zw_mm (zw_sr (zw_nw w (10, 77)) k 0 (some w.1)) 77 16) k 1 (some (w.1 + 1)))) := by
  refine zh_of (by decide +kernel) rfl (Nat.le_of_ble_eq_true rfl) rfl ?_
  show zh_G V zm_X1_init 2 60 w.1 w.2.1 0 [] [(0, .ref k)] w _
  refine zh_aload_n dX1_init_0 rfl ?_
  refine zh_obj0 E dX1_init_1 (by decide +kernel) (Nat.le_of_ble_eq_true rfl) (Nat.le_of_ble_eq_true rfl) ?_
  refine zh_aload_n dX1_init_4 rfl ?_
  refine zh_bipush (v := nI 77) dX1_init_5 (by decide) ?_
  refine zh_newI E (n := 77) dX1_init_7 (by show 1 ≤ w.1; omega) rfl (by decide) (by show w.1 + 1 ≤ zc_cn; omega) (by show w.2.1 + 77 ≤ zc_cs; omega) ?_
  refine zh_putR E (ci := 1) (j := 0) (r := w.1) dX1_init_9 rfl (Eq.trans (congrArg Prod.fst (zw_ro_n _ _ (by show k ≠ w.1; omega))) ht) (by omega) (by show k < w.1 + 1; omega) (by decide) fl_X1_9 rfl rfl rfl (fun _ => rfl) (fun _ => rfl) ?_
  refine zh_aload_n dX1_init_12 rfl ?_
  refine zh_bipush (v := nI 77) dX1_init_13 (by decide) ?_
  refine zh_bipush (v := nI 16) dX1_init_15 (by decide) ?_
  refine zh_multi E (n := 77) (k := 16) dX1_init_17 (by show 1 ≤ w.1 + 1; omega) (by decide +kernel) rfl rfl (by decide) (by decide) (by show w.1 + 1 + 1 + 77 ≤ zc_cn; omega) (by show w.2.1 + 77 + 77 + 77 * 16 ≤ zc_cs; omega) ?_
  refine zh_putR E (ci := 1) (j := 1) (r := w.1 + 1) dX1_init_21 rfl (Eq.trans (congrArg Prod.fst ((if_neg (by show ¬ k = w.1 + 1; omega)).trans (if_neg (by show ¬ (w.1 + 1 < k ∧ k < w.1 + 1 + 1 + 77); omega)))) (Eq.trans (congrArg Prod.fst (zw_ro_n _ _ (by show k ≠ w.1; omega))) ht)) (by omega) (by show k < w.1 + 79; omega) (by decide) fl_X1_17 rfl rfl rfl (fun _ => rfl) (fun _ => rfl) ?_
  exact zh_as (zg_vret rfl dX1_init_24 ⟨rfl, rfl⟩)
set_option maxHeartbeats 1000000 in
theorem ct_X0_init {V : zv_V} (E : zv_OK V) {w : zw_W} {k : Nat} (ht : (zw_t w k).1 = 0) (hk : 1 ≤ k) (hkn : k < w.1) (hcn : w.1 + 100 ≤ zc_cn) (hcs : w.2.1 + 2000 ≤ zc_cs) : zg_C V zm_X0_init yX0_init 2 60 [.ref k] w (zq_p (.inl none) (· = zw_sr (zw_nw (zw_sr (zw_mm (zw_sr (zw_nw w (10, 16)) k 0 (some w.1)) 16 16) k 1 (some (w.1 + 1))) (11, 16)) k 2 (some (w.1 + 18)))) := by
  refine zh_of (by decide +kernel) rfl (Nat.le_of_ble_eq_true rfl) rfl ?_
  show zh_G V zm_X0_init 2 60 w.1 w.2.1 0 [] [(0, .ref k)] w _
  refine zh_aload_n dX0_init_0 rfl ?_
  refine zh_obj0 E dX0_init_1 (by decide +kernel) (Nat.le_of_ble_eq_true rfl) (Nat.le_of_ble_eq_true rfl) ?_
  refine zh_aload_n dX0_init_4 rfl ?_
  refine zh_bipush (v := nI 16) dX0_init_5 (by decide) ?_
  refine zh_newI E (n := 16) dX0_init_7 (by show 1 ≤ w.1; omega) rfl (by decide) (by show w.1 + 1 ≤ zc_cn; omega) (by show w.2.1 + 16 ≤ zc_cs; omega) ?_
  refine zh_putR E (ci := 0) (j := 0) (r := w.1) dX0_init_9 rfl (Eq.trans (congrArg Prod.fst (zw_ro_n _ _ (by show k ≠ w.1; omega))) ht) (by omega) (by show k < w.1 + 1; omega) (by decide) fl_X0_9 rfl rfl rfl (fun _ => rfl) (fun _ => rfl) ?_
  refine zh_aload_n dX0_init_12 rfl ?_
  refine zh_bipush (v := nI 16) dX0_init_13 (by decide) ?_
  refine zh_bipush (v := nI 16) dX0_init_15 (by decide) ?_
  refine zh_multi E (n := 16) (k := 16) dX0_init_17 (by show 1 ≤ w.1 + 1; omega) (by decide +kernel) rfl rfl (by decide) (by decide) (by show w.1 + 1 + 1 + 16 ≤ zc_cn; omega) (by show w.2.1 + 16 + 16 + 16 * 16 ≤ zc_cs; omega) ?_
  refine zh_putR E (ci := 0) (j := 1) (r := w.1 + 1) dX0_init_21 rfl (Eq.trans (congrArg Prod.fst ((if_neg (by show ¬ k = w.1 + 1; omega)).trans (if_neg (by show ¬ (w.1 + 1 < k ∧ k < w.1 + 1 + 1 + 16); omega)))) (Eq.trans (congrArg Prod.fst (zw_ro_n _ _ (by show k ≠ w.1; omega))) ht)) (by omega) (by show k < w.1 + 18; omega) (by decide) fl_X0_17 rfl rfl rfl (fun _ => rfl) (fun _ => rfl) ?_
  refine zh_aload_n dX0_init_24 rfl ?_
  refine zh_bipush (v := nI 16) dX0_init_25 (by decide) ?_
  refine zh_newZ E (n := 16) dX0_init_27 (by show 1 ≤ w.1 + 18; omega) rfl (by decide) (by show w.1 + 18 + 1 ≤ zc_cn; omega) (by show w.2.1 + 288 + 16 ≤ zc_cs; omega) ?_
  refine zh_putR E (ci := 0) (j := 2) (r := w.1 + 18) dX0_init_29 rfl (Eq.trans (congrArg Prod.fst (zw_ro_n _ _ (by show k ≠ w.1 + 18; omega))) (Eq.trans (congrArg Prod.fst ((if_neg (by show ¬ k = w.1 + 1; omega)).trans (if_neg (by show ¬ (w.1 + 1 < k ∧ k < w.1 + 1 + 1 + 16); omega)))) (Eq.trans (congrArg Prod.fst (zw_ro_n _ _ (by show k ≠ w.1; omega))) ht))) (by omega) (by show k < w.1 + 19; omega) (by decide) fl_X0_20 rfl rfl rfl (fun _ => rfl) (fun _ => rfl) ?_
  exact zh_as (zg_vret rfl dX0_init_32 ⟨rfl, rfl⟩)

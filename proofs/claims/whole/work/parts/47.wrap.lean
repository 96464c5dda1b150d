/-! The law's wrappers. -/
set_option maxHeartbeats 4000000 in
set_option maxRecDepth 100000 in
theorem lr_write {V : zv_V} (E : zv_OK V) {w : zw_W} (HX : zl_X w) {x u v : Int32} {a : Int32} {P : zw_W → Prop} (hC : zg_C V zm_X3_write yX3_write 8 190 [.ref 1, .int x, .int u, .int v] w (zq_p (.inl (some (.int (a)))) P)) (hP : ∀ w1, P w1 → zw_t w1 165 = (12, 1) ∧ 165 < w1.1) : zg_C V zm_L_write yL_write 9 230 [.ref 1, .int x, .int u, .int v, .ref 165] w (zq_p (.inl (some (.int (nI 0)))) (fun w2 => ∃ w1, P w1 ∧ w2 = zw_sl w1 165 0 ((a).toInt64))) := by
  refine zg_of (by decide +kernel) rfl (Nat.le_of_ble_eq_true rfl) ?_
  show zg_G V zm_L_write 9 230 w.1 w.2.1 0 [] [(0, .ref 1), (1, .int x), (2, .int u), (3, .int v), (4, .ref 165)] w _
  refine zg_aload dL_write_0 rfl ?_
  refine zg_iconst (v := nI 0) dL_write_2 (by decide) ?_
  refine zg_aload_n dL_write_3 rfl ?_
  refine zg_iload_n dL_write_4 rfl ?_
  refine zg_iload_n dL_write_5 rfl ?_
  refine zg_iload_n dL_write_6 rfl ?_
  refine zg_vrt (M := zm_L_write) E (ci := 3) dL_write_7 hC wd_L_7 rfl (congrArg Prod.fst (zl_at HX (k := 1) (t := (3, 7)) rfl (by decide) (by decide))) (by decide) (zl_lt HX (by decide)) rfl dh_X3_write dn_X3_write (Nat.le_of_ble_eq_true rfl) (Nat.le_of_ble_eq_true rfl) (Nat.le_of_ble_eq_true rfl) (zl_cap HX) rfl (fun w7 g7 => ?_)
  refine zg_i2l dL_write_10 ?_
  refine zg_last E (j := 0) dL_write_11 (hP w7 g7).1 (by decide) (hP w7 g7).2 rfl (by omega) (by decide) ?_
  refine zg_goto (tgt := 23) dL_write_12 (by decide) ?_
  refine zg_iconst (v := nI 0) dL_write_23 (by decide) ?_
  exact zg_iret rfl dL_write_24 ⟨rfl, w7, g7, rfl⟩
set_option maxHeartbeats 4000000 in
set_option maxRecDepth 100000 in
theorem lt_write_20 {V : zv_V} (E : zv_OK V) {w : zw_W} (HX : zl_X w) {x u v : Int32} {P : zw_W → Prop} (hC : zg_C V zm_X3_write yX3_write 8 190 [.ref 1, .int x, .int u, .int v] w (zq_p (.inr 20) P)) : zg_C V zm_L_write yL_write 9 230 [.ref 1, .int x, .int u, .int v, .ref 165] w (zq_p (.inl (some (.int (nI 1)))) P) := by
  refine zg_of (by decide +kernel) rfl (Nat.le_of_ble_eq_true rfl) ?_
  show zg_G V zm_L_write 9 230 w.1 w.2.1 0 [] [(0, .ref 1), (1, .int x), (2, .int u), (3, .int v), (4, .ref 165)] w _
  refine zg_aload dL_write_0 rfl ?_
  refine zg_iconst (v := nI 0) dL_write_2 (by decide) ?_
  refine zg_aload_n dL_write_3 rfl ?_
  refine zg_iload_n dL_write_4 rfl ?_
  refine zg_iload_n dL_write_5 rfl ?_
  refine zg_iload_n dL_write_6 rfl ?_
  refine zg_vth (M := zm_L_write) E (ci := 3) dL_write_7 hC wd_L_7 rfl (congrArg Prod.fst (zl_at HX (k := 1) (t := (3, 7)) rfl (by decide) (by decide))) (by decide) (zl_lt HX (by decide)) rfl dh_X3_write dn_X3_write (Nat.le_of_ble_eq_true rfl) (Nat.le_of_ble_eq_true rfl) (Nat.le_of_ble_eq_true rfl) (zl_cap HX) rfl (fun w7 g7 => ?_)
  refine zg_catch (M := zm_L_write) E (k := 20) (pre := []) (x := ⟨0, 12, 15, 13⟩) (suf := [⟨0, 12, 19, 15⟩]) rfl (fun z hz => nomatch hz) (by decide) (by decide) (by decide +kernel) (by decide +kernel) (fun kx => ?_)
  show zg_G V zm_L_write 9 230 w.1 w.2.1 15 [.ref kx] [(0, .ref 1), (1, .int x), (2, .int u), (3, .int v), (4, .ref 165)] w7 _
  refine zg_astore (lv' := [(5, .ref kx), (0, .ref 1), (1, .int x), (2, .int u), (3, .int v), (4, .ref 165)]) dL_write_15 (by decide) rfl ?_
  refine zg_iconst (v := nI 1) dL_write_17 (by decide) ?_
  exact zg_iret rfl dL_write_18 ⟨rfl, g7⟩
set_option maxHeartbeats 4000000 in
set_option maxRecDepth 100000 in
theorem lt_write_21 {V : zv_V} (E : zv_OK V) {w : zw_W} (HX : zl_X w) {x u v : Int32} {P : zw_W → Prop} (hC : zg_C V zm_X3_write yX3_write 8 190 [.ref 1, .int x, .int u, .int v] w (zq_p (.inr 21) P)) : zg_C V zm_L_write yL_write 9 230 [.ref 1, .int x, .int u, .int v, .ref 165] w (zq_p (.inl (some (.int (nI 2)))) P) := by
  refine zg_of (by decide +kernel) rfl (Nat.le_of_ble_eq_true rfl) ?_
  show zg_G V zm_L_write 9 230 w.1 w.2.1 0 [] [(0, .ref 1), (1, .int x), (2, .int u), (3, .int v), (4, .ref 165)] w _
  refine zg_aload dL_write_0 rfl ?_
  refine zg_iconst (v := nI 0) dL_write_2 (by decide) ?_
  refine zg_aload_n dL_write_3 rfl ?_
  refine zg_iload_n dL_write_4 rfl ?_
  refine zg_iload_n dL_write_5 rfl ?_
  refine zg_iload_n dL_write_6 rfl ?_
  refine zg_vth (M := zm_L_write) E (ci := 3) dL_write_7 hC wd_L_7 rfl (congrArg Prod.fst (zl_at HX (k := 1) (t := (3, 7)) rfl (by decide) (by decide))) (by decide) (zl_lt HX (by decide)) rfl dh_X3_write dn_X3_write (Nat.le_of_ble_eq_true rfl) (Nat.le_of_ble_eq_true rfl) (Nat.le_of_ble_eq_true rfl) (zl_cap HX) rfl (fun w7 g7 => ?_)
  refine zg_catch (M := zm_L_write) E (k := 21) (pre := [⟨0, 12, 15, 13⟩]) (x := ⟨0, 12, 19, 15⟩) (suf := []) rfl (fun z hz => by rw [List.mem_singleton.mp hz]; exact Or.inr ⟨by decide, zc_ex 20, (by decide +kernel), E.2.2.2.2.2.2.2.2.2.2.2.2⟩) (by decide) (by decide) (by decide +kernel) (by decide +kernel) (fun kx => ?_)
  show zg_G V zm_L_write 9 230 w.1 w.2.1 19 [.ref kx] [(0, .ref 1), (1, .int x), (2, .int u), (3, .int v), (4, .ref 165)] w7 _
  refine zg_astore (lv' := [(5, .ref kx), (0, .ref 1), (1, .int x), (2, .int u), (3, .int v), (4, .ref 165)]) dL_write_19 (by decide) rfl ?_
  refine zg_iconst (v := nI 2) dL_write_21 (by decide) ?_
  exact zg_iret rfl dL_write_22 ⟨rfl, g7⟩
set_option maxHeartbeats 4000000 in
set_option maxRecDepth 100000 in
theorem lr_fill {V : zv_V} (E : zv_OK V) {w : zw_W} (HX : zl_X w) {x : Int32} {u v : Int64} {a : Int32} {P : zw_W → Prop} (hC : zg_C V zm_X3_fill yX3_fill 8 190 [.ref 1, .int x, .long u, .long v] w (zq_p (.inl (some (.int (a)))) P)) (hP : ∀ w1, P w1 → zw_t w1 165 = (12, 1) ∧ 165 < w1.1) : zg_C V zm_L_fill yL_fill 9 230 [.ref 1, .int x, .long u, .long v, .ref 165] w (zq_p (.inl (some (.int (nI 0)))) (fun w2 => ∃ w1, P w1 ∧ w2 = zw_sl w1 165 0 ((a).toInt64))) := by
  refine zg_of (by decide +kernel) rfl (Nat.le_of_ble_eq_true rfl) ?_
  show zg_G V zm_L_fill 9 230 w.1 w.2.1 0 [] [(0, .ref 1), (1, .int x), (2, .long u), (4, .long v), (6, .ref 165)] w _
  refine zg_aload dL_fill_0 rfl ?_
  refine zg_iconst (v := nI 0) dL_fill_2 (by decide) ?_
  refine zg_aload_n dL_fill_3 rfl ?_
  refine zg_iload_n dL_fill_4 rfl ?_
  refine zg_lload_n dL_fill_5 rfl ?_
  refine zg_lload dL_fill_6 rfl ?_
  refine zg_vrt (M := zm_L_fill) E (ci := 3) dL_fill_8 hC wd_L_17 rfl (congrArg Prod.fst (zl_at HX (k := 1) (t := (3, 7)) rfl (by decide) (by decide))) (by decide) (zl_lt HX (by decide)) rfl dh_X3_fill dn_X3_fill (Nat.le_of_ble_eq_true rfl) (Nat.le_of_ble_eq_true rfl) (Nat.le_of_ble_eq_true rfl) (zl_cap HX) rfl (fun w8 g8 => ?_)
  refine zg_i2l dL_fill_11 ?_
  refine zg_last E (j := 0) dL_fill_12 (hP w8 g8).1 (by decide) (hP w8 g8).2 rfl (by omega) (by decide) ?_
  refine zg_goto (tgt := 24) dL_fill_13 (by decide) ?_
  refine zg_iconst (v := nI 0) dL_fill_24 (by decide) ?_
  exact zg_iret rfl dL_fill_25 ⟨rfl, w8, g8, rfl⟩
set_option maxHeartbeats 4000000 in
set_option maxRecDepth 100000 in
theorem lt_fill_20 {V : zv_V} (E : zv_OK V) {w : zw_W} (HX : zl_X w) {x : Int32} {u v : Int64} {P : zw_W → Prop} (hC : zg_C V zm_X3_fill yX3_fill 8 190 [.ref 1, .int x, .long u, .long v] w (zq_p (.inr 20) P)) : zg_C V zm_L_fill yL_fill 9 230 [.ref 1, .int x, .long u, .long v, .ref 165] w (zq_p (.inl (some (.int (nI 1)))) P) := by
  refine zg_of (by decide +kernel) rfl (Nat.le_of_ble_eq_true rfl) ?_
  show zg_G V zm_L_fill 9 230 w.1 w.2.1 0 [] [(0, .ref 1), (1, .int x), (2, .long u), (4, .long v), (6, .ref 165)] w _
  refine zg_aload dL_fill_0 rfl ?_
  refine zg_iconst (v := nI 0) dL_fill_2 (by decide) ?_
  refine zg_aload_n dL_fill_3 rfl ?_
  refine zg_iload_n dL_fill_4 rfl ?_
  refine zg_lload_n dL_fill_5 rfl ?_
  refine zg_lload dL_fill_6 rfl ?_
  refine zg_vth (M := zm_L_fill) E (ci := 3) dL_fill_8 hC wd_L_17 rfl (congrArg Prod.fst (zl_at HX (k := 1) (t := (3, 7)) rfl (by decide) (by decide))) (by decide) (zl_lt HX (by decide)) rfl dh_X3_fill dn_X3_fill (Nat.le_of_ble_eq_true rfl) (Nat.le_of_ble_eq_true rfl) (Nat.le_of_ble_eq_true rfl) (zl_cap HX) rfl (fun w8 g8 => ?_)
  refine zg_catch (M := zm_L_fill) E (k := 20) (pre := []) (x := ⟨0, 13, 16, 13⟩) (suf := [⟨0, 13, 20, 15⟩]) rfl (fun z hz => nomatch hz) (by decide) (by decide) (by decide +kernel) (by decide +kernel) (fun kx => ?_)
  show zg_G V zm_L_fill 9 230 w.1 w.2.1 16 [.ref kx] [(0, .ref 1), (1, .int x), (2, .long u), (4, .long v), (6, .ref 165)] w8 _
  refine zg_astore (lv' := [(7, .ref kx), (0, .ref 1), (1, .int x), (2, .long u), (4, .long v), (6, .ref 165)]) dL_fill_16 (by decide) rfl ?_
  refine zg_iconst (v := nI 1) dL_fill_18 (by decide) ?_
  exact zg_iret rfl dL_fill_19 ⟨rfl, g8⟩
set_option maxHeartbeats 4000000 in
set_option maxRecDepth 100000 in
theorem lt_fill_21 {V : zv_V} (E : zv_OK V) {w : zw_W} (HX : zl_X w) {x : Int32} {u v : Int64} {P : zw_W → Prop} (hC : zg_C V zm_X3_fill yX3_fill 8 190 [.ref 1, .int x, .long u, .long v] w (zq_p (.inr 21) P)) : zg_C V zm_L_fill yL_fill 9 230 [.ref 1, .int x, .long u, .long v, .ref 165] w (zq_p (.inl (some (.int (nI 2)))) P) := by
  refine zg_of (by decide +kernel) rfl (Nat.le_of_ble_eq_true rfl) ?_
  show zg_G V zm_L_fill 9 230 w.1 w.2.1 0 [] [(0, .ref 1), (1, .int x), (2, .long u), (4, .long v), (6, .ref 165)] w _
  refine zg_aload dL_fill_0 rfl ?_
  refine zg_iconst (v := nI 0) dL_fill_2 (by decide) ?_
  refine zg_aload_n dL_fill_3 rfl ?_
  refine zg_iload_n dL_fill_4 rfl ?_
  refine zg_lload_n dL_fill_5 rfl ?_
  refine zg_lload dL_fill_6 rfl ?_
  refine zg_vth (M := zm_L_fill) E (ci := 3) dL_fill_8 hC wd_L_17 rfl (congrArg Prod.fst (zl_at HX (k := 1) (t := (3, 7)) rfl (by decide) (by decide))) (by decide) (zl_lt HX (by decide)) rfl dh_X3_fill dn_X3_fill (Nat.le_of_ble_eq_true rfl) (Nat.le_of_ble_eq_true rfl) (Nat.le_of_ble_eq_true rfl) (zl_cap HX) rfl (fun w8 g8 => ?_)
  refine zg_catch (M := zm_L_fill) E (k := 21) (pre := [⟨0, 13, 16, 13⟩]) (x := ⟨0, 13, 20, 15⟩) (suf := []) rfl (fun z hz => by rw [List.mem_singleton.mp hz]; exact Or.inr ⟨by decide, zc_ex 20, (by decide +kernel), E.2.2.2.2.2.2.2.2.2.2.2.2⟩) (by decide) (by decide) (by decide +kernel) (by decide +kernel) (fun kx => ?_)
  show zg_G V zm_L_fill 9 230 w.1 w.2.1 20 [.ref kx] [(0, .ref 1), (1, .int x), (2, .long u), (4, .long v), (6, .ref 165)] w8 _
  refine zg_astore (lv' := [(7, .ref kx), (0, .ref 1), (1, .int x), (2, .long u), (4, .long v), (6, .ref 165)]) dL_fill_20 (by decide) rfl ?_
  refine zg_iconst (v := nI 2) dL_fill_22 (by decide) ?_
  exact zg_iret rfl dL_fill_23 ⟨rfl, g8⟩
set_option maxHeartbeats 4000000 in
set_option maxRecDepth 100000 in
theorem lr_read {V : zv_V} (E : zv_OK V) {w : zw_W} (HX : zl_X w) {x u v : Int32} {a : Int32} {P : zw_W → Prop} (hC : zg_C V zm_X3_read yX3_read 8 190 [.ref 1, .int x, .int u, .int v] w (zq_p (.inl (some (.int (a)))) P)) (hP : ∀ w1, P w1 → zw_t w1 165 = (12, 1) ∧ 165 < w1.1) : zg_C V zm_L_read yL_read 9 230 [.ref 1, .int x, .int u, .int v, .ref 165] w (zq_p (.inl (some (.int (nI 0)))) (fun w2 => ∃ w1, P w1 ∧ w2 = zw_sl w1 165 0 ((a).toInt64))) := by
  refine zg_of (by decide +kernel) rfl (Nat.le_of_ble_eq_true rfl) ?_
  show zg_G V zm_L_read 9 230 w.1 w.2.1 0 [] [(0, .ref 1), (1, .int x), (2, .int u), (3, .int v), (4, .ref 165)] w _
  refine zg_aload dL_read_0 rfl ?_
  refine zg_iconst (v := nI 0) dL_read_2 (by decide) ?_
  refine zg_aload_n dL_read_3 rfl ?_
  refine zg_iload_n dL_read_4 rfl ?_
  refine zg_iload_n dL_read_5 rfl ?_
  refine zg_iload_n dL_read_6 rfl ?_
  refine zg_vrt (M := zm_L_read) E (ci := 3) dL_read_7 hC wd_L_21 rfl (congrArg Prod.fst (zl_at HX (k := 1) (t := (3, 7)) rfl (by decide) (by decide))) (by decide) (zl_lt HX (by decide)) rfl dh_X3_read dn_X3_read (Nat.le_of_ble_eq_true rfl) (Nat.le_of_ble_eq_true rfl) (Nat.le_of_ble_eq_true rfl) (zl_cap HX) rfl (fun w7 g7 => ?_)
  refine zg_i2l dL_read_10 ?_
  refine zg_last E (j := 0) dL_read_11 (hP w7 g7).1 (by decide) (hP w7 g7).2 rfl (by omega) (by decide) ?_
  refine zg_goto (tgt := 23) dL_read_12 (by decide) ?_
  refine zg_iconst (v := nI 0) dL_read_23 (by decide) ?_
  exact zg_iret rfl dL_read_24 ⟨rfl, w7, g7, rfl⟩
set_option maxHeartbeats 4000000 in
set_option maxRecDepth 100000 in
theorem lt_read_20 {V : zv_V} (E : zv_OK V) {w : zw_W} (HX : zl_X w) {x u v : Int32} {P : zw_W → Prop} (hC : zg_C V zm_X3_read yX3_read 8 190 [.ref 1, .int x, .int u, .int v] w (zq_p (.inr 20) P)) : zg_C V zm_L_read yL_read 9 230 [.ref 1, .int x, .int u, .int v, .ref 165] w (zq_p (.inl (some (.int (nI 1)))) P) := by
  refine zg_of (by decide +kernel) rfl (Nat.le_of_ble_eq_true rfl) ?_
  show zg_G V zm_L_read 9 230 w.1 w.2.1 0 [] [(0, .ref 1), (1, .int x), (2, .int u), (3, .int v), (4, .ref 165)] w _
  refine zg_aload dL_read_0 rfl ?_
  refine zg_iconst (v := nI 0) dL_read_2 (by decide) ?_
  refine zg_aload_n dL_read_3 rfl ?_
  refine zg_iload_n dL_read_4 rfl ?_
  refine zg_iload_n dL_read_5 rfl ?_
  refine zg_iload_n dL_read_6 rfl ?_
  refine zg_vth (M := zm_L_read) E (ci := 3) dL_read_7 hC wd_L_21 rfl (congrArg Prod.fst (zl_at HX (k := 1) (t := (3, 7)) rfl (by decide) (by decide))) (by decide) (zl_lt HX (by decide)) rfl dh_X3_read dn_X3_read (Nat.le_of_ble_eq_true rfl) (Nat.le_of_ble_eq_true rfl) (Nat.le_of_ble_eq_true rfl) (zl_cap HX) rfl (fun w7 g7 => ?_)
  refine zg_catch (M := zm_L_read) E (k := 20) (pre := []) (x := ⟨0, 12, 15, 13⟩) (suf := [⟨0, 12, 19, 15⟩]) rfl (fun z hz => nomatch hz) (by decide) (by decide) (by decide +kernel) (by decide +kernel) (fun kx => ?_)
  show zg_G V zm_L_read 9 230 w.1 w.2.1 15 [.ref kx] [(0, .ref 1), (1, .int x), (2, .int u), (3, .int v), (4, .ref 165)] w7 _
  refine zg_astore (lv' := [(5, .ref kx), (0, .ref 1), (1, .int x), (2, .int u), (3, .int v), (4, .ref 165)]) dL_read_15 (by decide) rfl ?_
  refine zg_iconst (v := nI 1) dL_read_17 (by decide) ?_
  exact zg_iret rfl dL_read_18 ⟨rfl, g7⟩
set_option maxHeartbeats 4000000 in
set_option maxRecDepth 100000 in
theorem lt_read_21 {V : zv_V} (E : zv_OK V) {w : zw_W} (HX : zl_X w) {x u v : Int32} {P : zw_W → Prop} (hC : zg_C V zm_X3_read yX3_read 8 190 [.ref 1, .int x, .int u, .int v] w (zq_p (.inr 21) P)) : zg_C V zm_L_read yL_read 9 230 [.ref 1, .int x, .int u, .int v, .ref 165] w (zq_p (.inl (some (.int (nI 2)))) P) := by
  refine zg_of (by decide +kernel) rfl (Nat.le_of_ble_eq_true rfl) ?_
  show zg_G V zm_L_read 9 230 w.1 w.2.1 0 [] [(0, .ref 1), (1, .int x), (2, .int u), (3, .int v), (4, .ref 165)] w _
  refine zg_aload dL_read_0 rfl ?_
  refine zg_iconst (v := nI 0) dL_read_2 (by decide) ?_
  refine zg_aload_n dL_read_3 rfl ?_
  refine zg_iload_n dL_read_4 rfl ?_
  refine zg_iload_n dL_read_5 rfl ?_
  refine zg_iload_n dL_read_6 rfl ?_
  refine zg_vth (M := zm_L_read) E (ci := 3) dL_read_7 hC wd_L_21 rfl (congrArg Prod.fst (zl_at HX (k := 1) (t := (3, 7)) rfl (by decide) (by decide))) (by decide) (zl_lt HX (by decide)) rfl dh_X3_read dn_X3_read (Nat.le_of_ble_eq_true rfl) (Nat.le_of_ble_eq_true rfl) (Nat.le_of_ble_eq_true rfl) (zl_cap HX) rfl (fun w7 g7 => ?_)
  refine zg_catch (M := zm_L_read) E (k := 21) (pre := [⟨0, 12, 15, 13⟩]) (x := ⟨0, 12, 19, 15⟩) (suf := []) rfl (fun z hz => by rw [List.mem_singleton.mp hz]; exact Or.inr ⟨by decide, zc_ex 20, (by decide +kernel), E.2.2.2.2.2.2.2.2.2.2.2.2⟩) (by decide) (by decide) (by decide +kernel) (by decide +kernel) (fun kx => ?_)
  show zg_G V zm_L_read 9 230 w.1 w.2.1 19 [.ref kx] [(0, .ref 1), (1, .int x), (2, .int u), (3, .int v), (4, .ref 165)] w7 _
  refine zg_astore (lv' := [(5, .ref kx), (0, .ref 1), (1, .int x), (2, .int u), (3, .int v), (4, .ref 165)]) dL_read_19 (by decide) rfl ?_
  refine zg_iconst (v := nI 2) dL_read_21 (by decide) ?_
  exact zg_iret rfl dL_read_22 ⟨rfl, g7⟩
set_option maxHeartbeats 4000000 in
set_option maxRecDepth 100000 in
theorem lr_spill {V : zv_V} (E : zv_OK V) {w : zw_W} (HX : zl_X w) {x : Int32} {a : Int32} {P : zw_W → Prop} (hC : zg_C V zm_X3_spill yX3_spill 8 190 [.ref 1, .int x] w (zq_p (.inl (some (.int (a)))) P)) (hP : ∀ w1, P w1 → zw_t w1 165 = (12, 1) ∧ 165 < w1.1) : zg_C V zm_L_spill yL_spill 9 230 [.ref 1, .int x, .ref 165] w (zq_p (.inl (some (.int (nI 0)))) (fun w2 => ∃ w1, P w1 ∧ w2 = zw_sl w1 165 0 ((a).toInt64))) := by
  refine zg_of (by decide +kernel) rfl (Nat.le_of_ble_eq_true rfl) ?_
  show zg_G V zm_L_spill 9 230 w.1 w.2.1 0 [] [(0, .ref 1), (1, .int x), (2, .ref 165)] w _
  refine zg_aload_n dL_spill_0 rfl ?_
  refine zg_iconst (v := nI 0) dL_spill_1 (by decide) ?_
  refine zg_aload_n dL_spill_2 rfl ?_
  refine zg_iload_n dL_spill_3 rfl ?_
  refine zg_vrt (M := zm_L_spill) E (ci := 3) dL_spill_4 hC wd_L_25 rfl (congrArg Prod.fst (zl_at HX (k := 1) (t := (3, 7)) rfl (by decide) (by decide))) (by decide) (zl_lt HX (by decide)) rfl dh_X3_spill dn_X3_spill (Nat.le_of_ble_eq_true rfl) (Nat.le_of_ble_eq_true rfl) (Nat.le_of_ble_eq_true rfl) (zl_cap HX) rfl (fun w4 g4 => ?_)
  refine zg_i2l dL_spill_7 ?_
  refine zg_last E (j := 0) dL_spill_8 (hP w4 g4).1 (by decide) (hP w4 g4).2 rfl (by omega) (by decide) ?_
  refine zg_goto (tgt := 18) dL_spill_9 (by decide) ?_
  refine zg_iconst (v := nI 0) dL_spill_18 (by decide) ?_
  exact zg_iret rfl dL_spill_19 ⟨rfl, w4, g4, rfl⟩
set_option maxHeartbeats 4000000 in
set_option maxRecDepth 100000 in
theorem lt_spill_20 {V : zv_V} (E : zv_OK V) {w : zw_W} (HX : zl_X w) {x : Int32} {P : zw_W → Prop} (hC : zg_C V zm_X3_spill yX3_spill 8 190 [.ref 1, .int x] w (zq_p (.inr 20) P)) : zg_C V zm_L_spill yL_spill 9 230 [.ref 1, .int x, .ref 165] w (zq_p (.inl (some (.int (nI 1)))) P) := by
  refine zg_of (by decide +kernel) rfl (Nat.le_of_ble_eq_true rfl) ?_
  show zg_G V zm_L_spill 9 230 w.1 w.2.1 0 [] [(0, .ref 1), (1, .int x), (2, .ref 165)] w _
  refine zg_aload_n dL_spill_0 rfl ?_
  refine zg_iconst (v := nI 0) dL_spill_1 (by decide) ?_
  refine zg_aload_n dL_spill_2 rfl ?_
  refine zg_iload_n dL_spill_3 rfl ?_
  refine zg_vth (M := zm_L_spill) E (ci := 3) dL_spill_4 hC wd_L_25 rfl (congrArg Prod.fst (zl_at HX (k := 1) (t := (3, 7)) rfl (by decide) (by decide))) (by decide) (zl_lt HX (by decide)) rfl dh_X3_spill dn_X3_spill (Nat.le_of_ble_eq_true rfl) (Nat.le_of_ble_eq_true rfl) (Nat.le_of_ble_eq_true rfl) (zl_cap HX) rfl (fun w4 g4 => ?_)
  refine zg_catch (M := zm_L_spill) E (k := 20) (pre := []) (x := ⟨0, 9, 12, 13⟩) (suf := [⟨0, 9, 15, 15⟩]) rfl (fun z hz => nomatch hz) (by decide) (by decide) (by decide +kernel) (by decide +kernel) (fun kx => ?_)
  show zg_G V zm_L_spill 9 230 w.1 w.2.1 12 [.ref kx] [(0, .ref 1), (1, .int x), (2, .ref 165)] w4 _
  refine zg_astore_n (lv' := [(3, .ref kx), (0, .ref 1), (1, .int x), (2, .ref 165)]) dL_spill_12 (by decide) rfl ?_
  refine zg_iconst (v := nI 1) dL_spill_13 (by decide) ?_
  exact zg_iret rfl dL_spill_14 ⟨rfl, g4⟩
set_option maxHeartbeats 4000000 in
set_option maxRecDepth 100000 in
theorem lt_spill_21 {V : zv_V} (E : zv_OK V) {w : zw_W} (HX : zl_X w) {x : Int32} {P : zw_W → Prop} (hC : zg_C V zm_X3_spill yX3_spill 8 190 [.ref 1, .int x] w (zq_p (.inr 21) P)) : zg_C V zm_L_spill yL_spill 9 230 [.ref 1, .int x, .ref 165] w (zq_p (.inl (some (.int (nI 2)))) P) := by
  refine zg_of (by decide +kernel) rfl (Nat.le_of_ble_eq_true rfl) ?_
  show zg_G V zm_L_spill 9 230 w.1 w.2.1 0 [] [(0, .ref 1), (1, .int x), (2, .ref 165)] w _
  refine zg_aload_n dL_spill_0 rfl ?_
  refine zg_iconst (v := nI 0) dL_spill_1 (by decide) ?_
  refine zg_aload_n dL_spill_2 rfl ?_
  refine zg_iload_n dL_spill_3 rfl ?_
  refine zg_vth (M := zm_L_spill) E (ci := 3) dL_spill_4 hC wd_L_25 rfl (congrArg Prod.fst (zl_at HX (k := 1) (t := (3, 7)) rfl (by decide) (by decide))) (by decide) (zl_lt HX (by decide)) rfl dh_X3_spill dn_X3_spill (Nat.le_of_ble_eq_true rfl) (Nat.le_of_ble_eq_true rfl) (Nat.le_of_ble_eq_true rfl) (zl_cap HX) rfl (fun w4 g4 => ?_)
  refine zg_catch (M := zm_L_spill) E (k := 21) (pre := [⟨0, 9, 12, 13⟩]) (x := ⟨0, 9, 15, 15⟩) (suf := []) rfl (fun z hz => by rw [List.mem_singleton.mp hz]; exact Or.inr ⟨by decide, zc_ex 20, (by decide +kernel), E.2.2.2.2.2.2.2.2.2.2.2.2⟩) (by decide) (by decide) (by decide +kernel) (by decide +kernel) (fun kx => ?_)
  show zg_G V zm_L_spill 9 230 w.1 w.2.1 15 [.ref kx] [(0, .ref 1), (1, .int x), (2, .ref 165)] w4 _
  refine zg_astore_n (lv' := [(3, .ref kx), (0, .ref 1), (1, .int x), (2, .ref 165)]) dL_spill_15 (by decide) rfl ?_
  refine zg_iconst (v := nI 2) dL_spill_16 (by decide) ?_
  exact zg_iret rfl dL_spill_17 ⟨rfl, g4⟩
set_option maxHeartbeats 4000000 in
set_option maxRecDepth 100000 in
theorem lr_commit {V : zv_V} (E : zv_OK V) {w : zw_W} (HX : zl_X w) {x : Int32} {a : Int32} {P : zw_W → Prop} (hC : zg_C V zm_X3_commit yX3_commit 8 190 [.ref 1, .int x] w (zq_p (.inl (some (.int (a)))) P)) (hP : ∀ w1, P w1 → zw_t w1 165 = (12, 1) ∧ 165 < w1.1) : zg_C V zm_L_commit yL_commit 9 230 [.ref 1, .int x, .ref 165] w (zq_p (.inl (some (.int (nI 0)))) (fun w2 => ∃ w1, P w1 ∧ w2 = zw_sl w1 165 0 ((a).toInt64))) := by
  refine zg_of (by decide +kernel) rfl (Nat.le_of_ble_eq_true rfl) ?_
  show zg_G V zm_L_commit 9 230 w.1 w.2.1 0 [] [(0, .ref 1), (1, .int x), (2, .ref 165)] w _
  refine zg_aload_n dL_commit_0 rfl ?_
  refine zg_iconst (v := nI 0) dL_commit_1 (by decide) ?_
  refine zg_aload_n dL_commit_2 rfl ?_
  refine zg_iload_n dL_commit_3 rfl ?_
  refine zg_vrt (M := zm_L_commit) E (ci := 3) dL_commit_4 hC wd_L_29 rfl (congrArg Prod.fst (zl_at HX (k := 1) (t := (3, 7)) rfl (by decide) (by decide))) (by decide) (zl_lt HX (by decide)) rfl dh_X3_commit dn_X3_commit (Nat.le_of_ble_eq_true rfl) (Nat.le_of_ble_eq_true rfl) (Nat.le_of_ble_eq_true rfl) (zl_cap HX) rfl (fun w4 g4 => ?_)
  refine zg_i2l dL_commit_7 ?_
  refine zg_last E (j := 0) dL_commit_8 (hP w4 g4).1 (by decide) (hP w4 g4).2 rfl (by omega) (by decide) ?_
  refine zg_goto (tgt := 15) dL_commit_9 (by decide) ?_
  refine zg_iconst (v := nI 0) dL_commit_15 (by decide) ?_
  exact zg_iret rfl dL_commit_16 ⟨rfl, w4, g4, rfl⟩
set_option maxHeartbeats 4000000 in
set_option maxRecDepth 100000 in
theorem lt_commit_21 {V : zv_V} (E : zv_OK V) {w : zw_W} (HX : zl_X w) {x : Int32} {P : zw_W → Prop} (hC : zg_C V zm_X3_commit yX3_commit 8 190 [.ref 1, .int x] w (zq_p (.inr 21) P)) : zg_C V zm_L_commit yL_commit 9 230 [.ref 1, .int x, .ref 165] w (zq_p (.inl (some (.int (nI 1)))) P) := by
  refine zg_of (by decide +kernel) rfl (Nat.le_of_ble_eq_true rfl) ?_
  show zg_G V zm_L_commit 9 230 w.1 w.2.1 0 [] [(0, .ref 1), (1, .int x), (2, .ref 165)] w _
  refine zg_aload_n dL_commit_0 rfl ?_
  refine zg_iconst (v := nI 0) dL_commit_1 (by decide) ?_
  refine zg_aload_n dL_commit_2 rfl ?_
  refine zg_iload_n dL_commit_3 rfl ?_
  refine zg_vth (M := zm_L_commit) E (ci := 3) dL_commit_4 hC wd_L_29 rfl (congrArg Prod.fst (zl_at HX (k := 1) (t := (3, 7)) rfl (by decide) (by decide))) (by decide) (zl_lt HX (by decide)) rfl dh_X3_commit dn_X3_commit (Nat.le_of_ble_eq_true rfl) (Nat.le_of_ble_eq_true rfl) (Nat.le_of_ble_eq_true rfl) (zl_cap HX) rfl (fun w4 g4 => ?_)
  refine zg_catch (M := zm_L_commit) E (k := 21) (pre := []) (x := ⟨0, 9, 12, 15⟩) (suf := []) rfl (fun z hz => nomatch hz) (by decide) (by decide) (by decide +kernel) (by decide +kernel) (fun kx => ?_)
  show zg_G V zm_L_commit 9 230 w.1 w.2.1 12 [.ref kx] [(0, .ref 1), (1, .int x), (2, .ref 165)] w4 _
  refine zg_astore_n (lv' := [(3, .ref kx), (0, .ref 1), (1, .int x), (2, .ref 165)]) dL_commit_12 (by decide) rfl ?_
  refine zg_iconst (v := nI 1) dL_commit_13 (by decide) ?_
  exact zg_iret rfl dL_commit_14 ⟨rfl, g4⟩
set_option maxHeartbeats 4000000 in
set_option maxRecDepth 100000 in
theorem lr_abort {V : zv_V} (E : zv_OK V) {w : zw_W} (HX : zl_X w) {a : Int32} {P : zw_W → Prop} (hC : zg_C V zm_X3_abort yX3_abort 8 190 [.ref 1] w (zq_p (.inl (some (.int (a)))) P)) (hP : ∀ w1, P w1 → zw_t w1 165 = (12, 1) ∧ 165 < w1.1) : zg_C V zm_L_abort yL_abort 9 230 [.ref 1, .ref 165] w (zq_p (.inl (some (.int (nI 0)))) (fun w2 => ∃ w1, P w1 ∧ w2 = zw_sl w1 165 0 ((a).toInt64))) := by
  refine zg_of (by decide +kernel) rfl (Nat.le_of_ble_eq_true rfl) ?_
  show zg_G V zm_L_abort 9 230 w.1 w.2.1 0 [] [(0, .ref 1), (1, .ref 165)] w _
  refine zg_aload_n dL_abort_0 rfl ?_
  refine zg_iconst (v := nI 0) dL_abort_1 (by decide) ?_
  refine zg_aload_n dL_abort_2 rfl ?_
  refine zg_vrt (M := zm_L_abort) E (ci := 3) dL_abort_3 hC wd_L_33 rfl (congrArg Prod.fst (zl_at HX (k := 1) (t := (3, 7)) rfl (by decide) (by decide))) (by decide) (zl_lt HX (by decide)) rfl dh_X3_abort dn_X3_abort (Nat.le_of_ble_eq_true rfl) (Nat.le_of_ble_eq_true rfl) (Nat.le_of_ble_eq_true rfl) (zl_cap HX) rfl (fun w3 g3 => ?_)
  refine zg_i2l dL_abort_6 ?_
  refine zg_last E (j := 0) dL_abort_7 (hP w3 g3).1 (by decide) (hP w3 g3).2 rfl (by omega) (by decide) ?_
  refine zg_goto (tgt := 14) dL_abort_8 (by decide) ?_
  refine zg_iconst (v := nI 0) dL_abort_14 (by decide) ?_
  exact zg_iret rfl dL_abort_15 ⟨rfl, w3, g3, rfl⟩
set_option maxHeartbeats 4000000 in
set_option maxRecDepth 100000 in
theorem lt_abort_21 {V : zv_V} (E : zv_OK V) {w : zw_W} (HX : zl_X w) {P : zw_W → Prop} (hC : zg_C V zm_X3_abort yX3_abort 8 190 [.ref 1] w (zq_p (.inr 21) P)) : zg_C V zm_L_abort yL_abort 9 230 [.ref 1, .ref 165] w (zq_p (.inl (some (.int (nI 1)))) P) := by
  refine zg_of (by decide +kernel) rfl (Nat.le_of_ble_eq_true rfl) ?_
  show zg_G V zm_L_abort 9 230 w.1 w.2.1 0 [] [(0, .ref 1), (1, .ref 165)] w _
  refine zg_aload_n dL_abort_0 rfl ?_
  refine zg_iconst (v := nI 0) dL_abort_1 (by decide) ?_
  refine zg_aload_n dL_abort_2 rfl ?_
  refine zg_vth (M := zm_L_abort) E (ci := 3) dL_abort_3 hC wd_L_33 rfl (congrArg Prod.fst (zl_at HX (k := 1) (t := (3, 7)) rfl (by decide) (by decide))) (by decide) (zl_lt HX (by decide)) rfl dh_X3_abort dn_X3_abort (Nat.le_of_ble_eq_true rfl) (Nat.le_of_ble_eq_true rfl) (Nat.le_of_ble_eq_true rfl) (zl_cap HX) rfl (fun w3 g3 => ?_)
  refine zg_catch (M := zm_L_abort) E (k := 21) (pre := []) (x := ⟨0, 8, 11, 15⟩) (suf := []) rfl (fun z hz => nomatch hz) (by decide) (by decide) (by decide +kernel) (by decide +kernel) (fun kx => ?_)
  show zg_G V zm_L_abort 9 230 w.1 w.2.1 11 [.ref kx] [(0, .ref 1), (1, .ref 165)] w3 _
  refine zg_astore_n (lv' := [(2, .ref kx), (0, .ref 1), (1, .ref 165)]) dL_abort_11 (by decide) rfl ?_
  refine zg_iconst (v := nI 1) dL_abort_12 (by decide) ?_
  exact zg_iret rfl dL_abort_13 ⟨rfl, g3⟩
set_option maxHeartbeats 4000000 in
set_option maxRecDepth 100000 in
theorem lr_flush {V : zv_V} (E : zv_OK V) {w : zw_W} (HX : zl_X w) {a : Int32} {P : zw_W → Prop} (hC : zg_C V zm_X3_flush yX3_flush 8 190 [.ref 1] w (zq_p (.inl (some (.int (a)))) P)) (hP : ∀ w1, P w1 → zw_t w1 165 = (12, 1) ∧ 165 < w1.1) : zg_C V zm_L_flush yL_flush 9 230 [.ref 1, .ref 165] w (zq_p (.inl (some (.int (nI 0)))) (fun w2 => ∃ w1, P w1 ∧ w2 = zw_sl w1 165 0 ((a).toInt64))) := by
  refine zg_of (by decide +kernel) rfl (Nat.le_of_ble_eq_true rfl) ?_
  show zg_G V zm_L_flush 9 230 w.1 w.2.1 0 [] [(0, .ref 1), (1, .ref 165)] w _
  refine zg_aload_n dL_flush_0 rfl ?_
  refine zg_iconst (v := nI 0) dL_flush_1 (by decide) ?_
  refine zg_aload_n dL_flush_2 rfl ?_
  refine zg_vrt (M := zm_L_flush) E (ci := 3) dL_flush_3 hC wd_L_37 rfl (congrArg Prod.fst (zl_at HX (k := 1) (t := (3, 7)) rfl (by decide) (by decide))) (by decide) (zl_lt HX (by decide)) rfl dh_X3_flush dn_X3_flush (Nat.le_of_ble_eq_true rfl) (Nat.le_of_ble_eq_true rfl) (Nat.le_of_ble_eq_true rfl) (zl_cap HX) rfl (fun w3 g3 => ?_)
  refine zg_i2l dL_flush_6 ?_
  refine zg_last E (j := 0) dL_flush_7 (hP w3 g3).1 (by decide) (hP w3 g3).2 rfl (by omega) (by decide) ?_
  refine zg_goto (tgt := 14) dL_flush_8 (by decide) ?_
  refine zg_iconst (v := nI 0) dL_flush_14 (by decide) ?_
  exact zg_iret rfl dL_flush_15 ⟨rfl, w3, g3, rfl⟩
set_option maxHeartbeats 4000000 in
set_option maxRecDepth 100000 in
theorem lt_flush_21 {V : zv_V} (E : zv_OK V) {w : zw_W} (HX : zl_X w) {P : zw_W → Prop} (hC : zg_C V zm_X3_flush yX3_flush 8 190 [.ref 1] w (zq_p (.inr 21) P)) : zg_C V zm_L_flush yL_flush 9 230 [.ref 1, .ref 165] w (zq_p (.inl (some (.int (nI 1)))) P) := by
  refine zg_of (by decide +kernel) rfl (Nat.le_of_ble_eq_true rfl) ?_
  show zg_G V zm_L_flush 9 230 w.1 w.2.1 0 [] [(0, .ref 1), (1, .ref 165)] w _
  refine zg_aload_n dL_flush_0 rfl ?_
  refine zg_iconst (v := nI 0) dL_flush_1 (by decide) ?_
  refine zg_aload_n dL_flush_2 rfl ?_
  refine zg_vth (M := zm_L_flush) E (ci := 3) dL_flush_3 hC wd_L_37 rfl (congrArg Prod.fst (zl_at HX (k := 1) (t := (3, 7)) rfl (by decide) (by decide))) (by decide) (zl_lt HX (by decide)) rfl dh_X3_flush dn_X3_flush (Nat.le_of_ble_eq_true rfl) (Nat.le_of_ble_eq_true rfl) (Nat.le_of_ble_eq_true rfl) (zl_cap HX) rfl (fun w3 g3 => ?_)
  refine zg_catch (M := zm_L_flush) E (k := 21) (pre := []) (x := ⟨0, 8, 11, 15⟩) (suf := []) rfl (fun z hz => nomatch hz) (by decide) (by decide) (by decide +kernel) (by decide +kernel) (fun kx => ?_)
  show zg_G V zm_L_flush 9 230 w.1 w.2.1 11 [.ref kx] [(0, .ref 1), (1, .ref 165)] w3 _
  refine zg_astore_n (lv' := [(2, .ref kx), (0, .ref 1), (1, .ref 165)]) dL_flush_11 (by decide) rfl ?_
  refine zg_iconst (v := nI 1) dL_flush_12 (by decide) ?_
  exact zg_iret rfl dL_flush_13 ⟨rfl, g3⟩
set_option maxHeartbeats 4000000 in
set_option maxRecDepth 100000 in
theorem lr_damage {V : zv_V} (E : zv_OK V) {w : zw_W} (HX : zl_X w) {x u v : Int32} {a : Int32} {P : zw_W → Prop} (hC : zg_C V zm_X3_damage yX3_damage 8 190 [.ref 1, .int x, .int u, .int v] w (zq_p (.inl (some (.int (a)))) P)) (hP : ∀ w1, P w1 → zw_t w1 165 = (12, 1) ∧ 165 < w1.1) : zg_C V zm_L_damage yL_damage 9 230 [.ref 1, .int x, .int u, .int v, .ref 165] w (zq_p (.inl (some (.int (nI 0)))) (fun w2 => ∃ w1, P w1 ∧ w2 = zw_sl w1 165 0 ((a).toInt64))) := by
  refine zg_of (by decide +kernel) rfl (Nat.le_of_ble_eq_true rfl) ?_
  show zg_G V zm_L_damage 9 230 w.1 w.2.1 0 [] [(0, .ref 1), (1, .int x), (2, .int u), (3, .int v), (4, .ref 165)] w _
  refine zg_aload dL_damage_0 rfl ?_
  refine zg_iconst (v := nI 0) dL_damage_2 (by decide) ?_
  refine zg_aload_n dL_damage_3 rfl ?_
  refine zg_iload_n dL_damage_4 rfl ?_
  refine zg_iload_n dL_damage_5 rfl ?_
  refine zg_iload_n dL_damage_6 rfl ?_
  refine zg_vrt (M := zm_L_damage) E (ci := 3) dL_damage_7 hC wd_L_40 rfl (congrArg Prod.fst (zl_at HX (k := 1) (t := (3, 7)) rfl (by decide) (by decide))) (by decide) (zl_lt HX (by decide)) rfl dh_X3_damage dn_X3_damage (Nat.le_of_ble_eq_true rfl) (Nat.le_of_ble_eq_true rfl) (Nat.le_of_ble_eq_true rfl) (zl_cap HX) rfl (fun w7 g7 => ?_)
  refine zg_i2l dL_damage_10 ?_
  refine zg_last E (j := 0) dL_damage_11 (hP w7 g7).1 (by decide) (hP w7 g7).2 rfl (by omega) (by decide) ?_
  refine zg_goto (tgt := 19) dL_damage_12 (by decide) ?_
  refine zg_iconst (v := nI 0) dL_damage_19 (by decide) ?_
  exact zg_iret rfl dL_damage_20 ⟨rfl, w7, g7, rfl⟩
set_option maxHeartbeats 4000000 in
set_option maxRecDepth 100000 in
theorem lt_damage_20 {V : zv_V} (E : zv_OK V) {w : zw_W} (HX : zl_X w) {x u v : Int32} {P : zw_W → Prop} (hC : zg_C V zm_X3_damage yX3_damage 8 190 [.ref 1, .int x, .int u, .int v] w (zq_p (.inr 20) P)) : zg_C V zm_L_damage yL_damage 9 230 [.ref 1, .int x, .int u, .int v, .ref 165] w (zq_p (.inl (some (.int (nI 1)))) P) := by
  refine zg_of (by decide +kernel) rfl (Nat.le_of_ble_eq_true rfl) ?_
  show zg_G V zm_L_damage 9 230 w.1 w.2.1 0 [] [(0, .ref 1), (1, .int x), (2, .int u), (3, .int v), (4, .ref 165)] w _
  refine zg_aload dL_damage_0 rfl ?_
  refine zg_iconst (v := nI 0) dL_damage_2 (by decide) ?_
  refine zg_aload_n dL_damage_3 rfl ?_
  refine zg_iload_n dL_damage_4 rfl ?_
  refine zg_iload_n dL_damage_5 rfl ?_
  refine zg_iload_n dL_damage_6 rfl ?_
  refine zg_vth (M := zm_L_damage) E (ci := 3) dL_damage_7 hC wd_L_40 rfl (congrArg Prod.fst (zl_at HX (k := 1) (t := (3, 7)) rfl (by decide) (by decide))) (by decide) (zl_lt HX (by decide)) rfl dh_X3_damage dn_X3_damage (Nat.le_of_ble_eq_true rfl) (Nat.le_of_ble_eq_true rfl) (Nat.le_of_ble_eq_true rfl) (zl_cap HX) rfl (fun w7 g7 => ?_)
  refine zg_catch (M := zm_L_damage) E (k := 20) (pre := []) (x := ⟨0, 12, 15, 13⟩) (suf := []) rfl (fun z hz => nomatch hz) (by decide) (by decide) (by decide +kernel) (by decide +kernel) (fun kx => ?_)
  show zg_G V zm_L_damage 9 230 w.1 w.2.1 15 [.ref kx] [(0, .ref 1), (1, .int x), (2, .int u), (3, .int v), (4, .ref 165)] w7 _
  refine zg_astore (lv' := [(5, .ref kx), (0, .ref 1), (1, .int x), (2, .int u), (3, .int v), (4, .ref 165)]) dL_damage_15 (by decide) rfl ?_
  refine zg_iconst (v := nI 1) dL_damage_17 (by decide) ?_
  exact zg_iret rfl dL_damage_18 ⟨rfl, g7⟩
set_option maxHeartbeats 4000000 in
set_option maxRecDepth 100000 in
theorem lr_disk {V : zv_V} (E : zv_OK V) {w : zw_W} (HX : zl_X w) {x u : Int32} {a : Int32} {P : zw_W → Prop} (hC : zg_C V zm_X3_disk yX3_disk 8 190 [.ref 1, .int x, .int u] w (zq_p (.inl (some (.int (a)))) P)) (hP : ∀ w1, P w1 → zw_t w1 165 = (12, 1) ∧ 165 < w1.1) : zg_C V zm_L_disk yL_disk 9 230 [.ref 1, .int x, .int u, .ref 165] w (zq_p (.inl (some (.int (nI 0)))) (fun w2 => ∃ w1, P w1 ∧ w2 = zw_sl w1 165 0 ((a).toInt64))) := by
  refine zg_of (by decide +kernel) rfl (Nat.le_of_ble_eq_true rfl) ?_
  show zg_G V zm_L_disk 9 230 w.1 w.2.1 0 [] [(0, .ref 1), (1, .int x), (2, .int u), (3, .ref 165)] w _
  refine zg_aload_n dL_disk_0 rfl ?_
  refine zg_iconst (v := nI 0) dL_disk_1 (by decide) ?_
  refine zg_aload_n dL_disk_2 rfl ?_
  refine zg_iload_n dL_disk_3 rfl ?_
  refine zg_iload_n dL_disk_4 rfl ?_
  refine zg_vrt (M := zm_L_disk) E (ci := 3) dL_disk_5 hC wd_L_43 rfl (congrArg Prod.fst (zl_at HX (k := 1) (t := (3, 7)) rfl (by decide) (by decide))) (by decide) (zl_lt HX (by decide)) rfl dh_X3_disk dn_X3_disk (Nat.le_of_ble_eq_true rfl) (Nat.le_of_ble_eq_true rfl) (Nat.le_of_ble_eq_true rfl) (zl_cap HX) rfl (fun w5 g5 => ?_)
  refine zg_i2l dL_disk_8 ?_
  refine zg_last E (j := 0) dL_disk_9 (hP w5 g5).1 (by decide) (hP w5 g5).2 rfl (by omega) (by decide) ?_
  refine zg_goto (tgt := 17) dL_disk_10 (by decide) ?_
  refine zg_iconst (v := nI 0) dL_disk_17 (by decide) ?_
  exact zg_iret rfl dL_disk_18 ⟨rfl, w5, g5, rfl⟩
set_option maxHeartbeats 4000000 in
set_option maxRecDepth 100000 in
theorem lt_disk_20 {V : zv_V} (E : zv_OK V) {w : zw_W} (HX : zl_X w) {x u : Int32} {P : zw_W → Prop} (hC : zg_C V zm_X3_disk yX3_disk 8 190 [.ref 1, .int x, .int u] w (zq_p (.inr 20) P)) : zg_C V zm_L_disk yL_disk 9 230 [.ref 1, .int x, .int u, .ref 165] w (zq_p (.inl (some (.int (nI 1)))) P) := by
  refine zg_of (by decide +kernel) rfl (Nat.le_of_ble_eq_true rfl) ?_
  show zg_G V zm_L_disk 9 230 w.1 w.2.1 0 [] [(0, .ref 1), (1, .int x), (2, .int u), (3, .ref 165)] w _
  refine zg_aload_n dL_disk_0 rfl ?_
  refine zg_iconst (v := nI 0) dL_disk_1 (by decide) ?_
  refine zg_aload_n dL_disk_2 rfl ?_
  refine zg_iload_n dL_disk_3 rfl ?_
  refine zg_iload_n dL_disk_4 rfl ?_
  refine zg_vth (M := zm_L_disk) E (ci := 3) dL_disk_5 hC wd_L_43 rfl (congrArg Prod.fst (zl_at HX (k := 1) (t := (3, 7)) rfl (by decide) (by decide))) (by decide) (zl_lt HX (by decide)) rfl dh_X3_disk dn_X3_disk (Nat.le_of_ble_eq_true rfl) (Nat.le_of_ble_eq_true rfl) (Nat.le_of_ble_eq_true rfl) (zl_cap HX) rfl (fun w5 g5 => ?_)
  refine zg_catch (M := zm_L_disk) E (k := 20) (pre := []) (x := ⟨0, 10, 13, 13⟩) (suf := []) rfl (fun z hz => nomatch hz) (by decide) (by decide) (by decide +kernel) (by decide +kernel) (fun kx => ?_)
  show zg_G V zm_L_disk 9 230 w.1 w.2.1 13 [.ref kx] [(0, .ref 1), (1, .int x), (2, .int u), (3, .ref 165)] w5 _
  refine zg_astore (lv' := [(4, .ref kx), (0, .ref 1), (1, .int x), (2, .int u), (3, .ref 165)]) dL_disk_13 (by decide) rfl ?_
  refine zg_iconst (v := nI 1) dL_disk_15 (by decide) ?_
  exact zg_iret rfl dL_disk_16 ⟨rfl, g5⟩
set_option maxHeartbeats 4000000 in
set_option maxRecDepth 100000 in
theorem lr_place {V : zv_V} (E : zv_OK V) {w : zw_W} (HX : zl_X w) {x u : Int32} {a : Int32} {P : zw_W → Prop} (hC : zg_C V zm_X3_place yX3_place 8 190 [.ref 1, .int x, .int u] w (zq_p (.inl (some (.int (a)))) P)) (hP : ∀ w1, P w1 → zw_t w1 165 = (12, 1) ∧ 165 < w1.1) : zg_C V zm_L_place yL_place 9 230 [.ref 1, .int x, .int u, .ref 165] w (zq_p (.inl (some (.int (nI 0)))) (fun w2 => ∃ w1, P w1 ∧ w2 = zw_sl w1 165 0 ((a).toInt64))) := by
  refine zg_of (by decide +kernel) rfl (Nat.le_of_ble_eq_true rfl) ?_
  show zg_G V zm_L_place 9 230 w.1 w.2.1 0 [] [(0, .ref 1), (1, .int x), (2, .int u), (3, .ref 165)] w _
  refine zg_aload_n dL_place_0 rfl ?_
  refine zg_iconst (v := nI 0) dL_place_1 (by decide) ?_
  refine zg_aload_n dL_place_2 rfl ?_
  refine zg_iload_n dL_place_3 rfl ?_
  refine zg_iload_n dL_place_4 rfl ?_
  refine zg_vrt (M := zm_L_place) E (ci := 3) dL_place_5 hC wd_L_47 rfl (congrArg Prod.fst (zl_at HX (k := 1) (t := (3, 7)) rfl (by decide) (by decide))) (by decide) (zl_lt HX (by decide)) rfl dh_X3_place dn_X3_place (Nat.le_of_ble_eq_true rfl) (Nat.le_of_ble_eq_true rfl) (Nat.le_of_ble_eq_true rfl) (zl_cap HX) rfl (fun w5 g5 => ?_)
  refine zg_i2l dL_place_8 ?_
  refine zg_last E (j := 0) dL_place_9 (hP w5 g5).1 (by decide) (hP w5 g5).2 rfl (by omega) (by decide) ?_
  refine zg_goto (tgt := 21) dL_place_10 (by decide) ?_
  refine zg_iconst (v := nI 0) dL_place_21 (by decide) ?_
  exact zg_iret rfl dL_place_22 ⟨rfl, w5, g5, rfl⟩
set_option maxHeartbeats 4000000 in
set_option maxRecDepth 100000 in
theorem lt_place_20 {V : zv_V} (E : zv_OK V) {w : zw_W} (HX : zl_X w) {x u : Int32} {P : zw_W → Prop} (hC : zg_C V zm_X3_place yX3_place 8 190 [.ref 1, .int x, .int u] w (zq_p (.inr 20) P)) : zg_C V zm_L_place yL_place 9 230 [.ref 1, .int x, .int u, .ref 165] w (zq_p (.inl (some (.int (nI 1)))) P) := by
  refine zg_of (by decide +kernel) rfl (Nat.le_of_ble_eq_true rfl) ?_
  show zg_G V zm_L_place 9 230 w.1 w.2.1 0 [] [(0, .ref 1), (1, .int x), (2, .int u), (3, .ref 165)] w _
  refine zg_aload_n dL_place_0 rfl ?_
  refine zg_iconst (v := nI 0) dL_place_1 (by decide) ?_
  refine zg_aload_n dL_place_2 rfl ?_
  refine zg_iload_n dL_place_3 rfl ?_
  refine zg_iload_n dL_place_4 rfl ?_
  refine zg_vth (M := zm_L_place) E (ci := 3) dL_place_5 hC wd_L_47 rfl (congrArg Prod.fst (zl_at HX (k := 1) (t := (3, 7)) rfl (by decide) (by decide))) (by decide) (zl_lt HX (by decide)) rfl dh_X3_place dn_X3_place (Nat.le_of_ble_eq_true rfl) (Nat.le_of_ble_eq_true rfl) (Nat.le_of_ble_eq_true rfl) (zl_cap HX) rfl (fun w5 g5 => ?_)
  refine zg_catch (M := zm_L_place) E (k := 20) (pre := []) (x := ⟨0, 10, 13, 13⟩) (suf := [⟨0, 10, 17, 15⟩]) rfl (fun z hz => nomatch hz) (by decide) (by decide) (by decide +kernel) (by decide +kernel) (fun kx => ?_)
  show zg_G V zm_L_place 9 230 w.1 w.2.1 13 [.ref kx] [(0, .ref 1), (1, .int x), (2, .int u), (3, .ref 165)] w5 _
  refine zg_astore (lv' := [(4, .ref kx), (0, .ref 1), (1, .int x), (2, .int u), (3, .ref 165)]) dL_place_13 (by decide) rfl ?_
  refine zg_iconst (v := nI 1) dL_place_15 (by decide) ?_
  exact zg_iret rfl dL_place_16 ⟨rfl, g5⟩
set_option maxHeartbeats 4000000 in
set_option maxRecDepth 100000 in
theorem lt_place_21 {V : zv_V} (E : zv_OK V) {w : zw_W} (HX : zl_X w) {x u : Int32} {P : zw_W → Prop} (hC : zg_C V zm_X3_place yX3_place 8 190 [.ref 1, .int x, .int u] w (zq_p (.inr 21) P)) : zg_C V zm_L_place yL_place 9 230 [.ref 1, .int x, .int u, .ref 165] w (zq_p (.inl (some (.int (nI 2)))) P) := by
  refine zg_of (by decide +kernel) rfl (Nat.le_of_ble_eq_true rfl) ?_
  show zg_G V zm_L_place 9 230 w.1 w.2.1 0 [] [(0, .ref 1), (1, .int x), (2, .int u), (3, .ref 165)] w _
  refine zg_aload_n dL_place_0 rfl ?_
  refine zg_iconst (v := nI 0) dL_place_1 (by decide) ?_
  refine zg_aload_n dL_place_2 rfl ?_
  refine zg_iload_n dL_place_3 rfl ?_
  refine zg_iload_n dL_place_4 rfl ?_
  refine zg_vth (M := zm_L_place) E (ci := 3) dL_place_5 hC wd_L_47 rfl (congrArg Prod.fst (zl_at HX (k := 1) (t := (3, 7)) rfl (by decide) (by decide))) (by decide) (zl_lt HX (by decide)) rfl dh_X3_place dn_X3_place (Nat.le_of_ble_eq_true rfl) (Nat.le_of_ble_eq_true rfl) (Nat.le_of_ble_eq_true rfl) (zl_cap HX) rfl (fun w5 g5 => ?_)
  refine zg_catch (M := zm_L_place) E (k := 21) (pre := [⟨0, 10, 13, 13⟩]) (x := ⟨0, 10, 17, 15⟩) (suf := []) rfl (fun z hz => by rw [List.mem_singleton.mp hz]; exact Or.inr ⟨by decide, zc_ex 20, (by decide +kernel), E.2.2.2.2.2.2.2.2.2.2.2.2⟩) (by decide) (by decide) (by decide +kernel) (by decide +kernel) (fun kx => ?_)
  show zg_G V zm_L_place 9 230 w.1 w.2.1 17 [.ref kx] [(0, .ref 1), (1, .int x), (2, .int u), (3, .ref 165)] w5 _
  refine zg_astore (lv' := [(4, .ref kx), (0, .ref 1), (1, .int x), (2, .int u), (3, .ref 165)]) dL_place_17 (by decide) rfl ?_
  refine zg_iconst (v := nI 2) dL_place_19 (by decide) ?_
  exact zg_iret rfl dL_place_20 ⟨rfl, g5⟩
set_option maxHeartbeats 4000000 in
set_option maxRecDepth 100000 in
theorem lr_free {V : zv_V} (E : zv_OK V) {w : zw_W} (HX : zl_X w) {x : Int32} {z : Bool} {P : zw_W → Prop} (hC : zg_C V zm_X3_free yX3_free 8 190 [.ref 1, .int x] w (zq_p (.inl (some (.int (za_bit z)))) P)) (hP : ∀ w1, P w1 → zw_t w1 165 = (12, 1) ∧ 165 < w1.1) : zg_C V zm_L_free yL_free 9 230 [.ref 1, .int x, .ref 165] w (zq_p (.inl (some (.int (nI 0)))) (fun w2 => ∃ w1, P w1 ∧ w2 = zw_sl w1 165 0 ((za_bit z).toInt64))) := by
  refine zg_of (by decide +kernel) rfl (Nat.le_of_ble_eq_true rfl) ?_
  show zg_G V zm_L_free 9 230 w.1 w.2.1 0 [] [(0, .ref 1), (1, .int x), (2, .ref 165)] w _
  refine zg_aload_n dL_free_0 rfl ?_
  refine zg_iconst (v := nI 0) dL_free_1 (by decide) ?_
  refine zg_aload_n dL_free_2 rfl ?_
  refine zg_iload_n dL_free_3 rfl ?_
  refine zg_vrt (M := zm_L_free) E (ci := 3) dL_free_4 hC wd_L_50 rfl (congrArg Prod.fst (zl_at HX (k := 1) (t := (3, 7)) rfl (by decide) (by decide))) (by decide) (zl_lt HX (by decide)) rfl dh_X3_free dn_X3_free (Nat.le_of_ble_eq_true rfl) (Nat.le_of_ble_eq_true rfl) (Nat.le_of_ble_eq_true rfl) (zl_cap HX) rfl (fun w4 g4 => ?_)
  refine zg_if_eq (tgt := 14) dL_free_7 (by decide) (fun h7 => ?_) (fun h7 => ?_)
  · refine zg_lconst (v := 0) dL_free_14 (by decide) ?_
    refine zg_vl (x' := (za_bit z).toInt64) (by revert h7; cases z <;> decide) ?_
    refine zg_last E (j := 0) dL_free_15 (hP w4 g4).1 (by decide) (hP w4 g4).2 rfl (by omega) (by decide) ?_
    refine zg_goto (tgt := 25) dL_free_16 (by decide) ?_
    refine zg_iconst (v := nI 0) dL_free_25 (by decide) ?_
    exact zg_iret rfl dL_free_26 ⟨rfl, w4, g4, rfl⟩
  · refine zg_lconst (v := 1) dL_free_10 (by decide) ?_
    refine zg_goto (tgt := 15) dL_free_11 (by decide) ?_
    refine zg_vl (x' := (za_bit z).toInt64) (by revert h7; cases z <;> decide) ?_
    refine zg_last E (j := 0) dL_free_15 (hP w4 g4).1 (by decide) (hP w4 g4).2 rfl (by omega) (by decide) ?_
    refine zg_goto (tgt := 25) dL_free_16 (by decide) ?_
    refine zg_iconst (v := nI 0) dL_free_25 (by decide) ?_
    exact zg_iret rfl dL_free_26 ⟨rfl, w4, g4, rfl⟩
set_option maxHeartbeats 4000000 in
set_option maxRecDepth 100000 in
theorem lt_free_20 {V : zv_V} (E : zv_OK V) {w : zw_W} (HX : zl_X w) {x : Int32} {P : zw_W → Prop} (hC : zg_C V zm_X3_free yX3_free 8 190 [.ref 1, .int x] w (zq_p (.inr 20) P)) : zg_C V zm_L_free yL_free 9 230 [.ref 1, .int x, .ref 165] w (zq_p (.inl (some (.int (nI 1)))) P) := by
  refine zg_of (by decide +kernel) rfl (Nat.le_of_ble_eq_true rfl) ?_
  show zg_G V zm_L_free 9 230 w.1 w.2.1 0 [] [(0, .ref 1), (1, .int x), (2, .ref 165)] w _
  refine zg_aload_n dL_free_0 rfl ?_
  refine zg_iconst (v := nI 0) dL_free_1 (by decide) ?_
  refine zg_aload_n dL_free_2 rfl ?_
  refine zg_iload_n dL_free_3 rfl ?_
  refine zg_vth (M := zm_L_free) E (ci := 3) dL_free_4 hC wd_L_50 rfl (congrArg Prod.fst (zl_at HX (k := 1) (t := (3, 7)) rfl (by decide) (by decide))) (by decide) (zl_lt HX (by decide)) rfl dh_X3_free dn_X3_free (Nat.le_of_ble_eq_true rfl) (Nat.le_of_ble_eq_true rfl) (Nat.le_of_ble_eq_true rfl) (zl_cap HX) rfl (fun w4 g4 => ?_)
  refine zg_catch (M := zm_L_free) E (k := 20) (pre := []) (x := ⟨0, 16, 19, 13⟩) (suf := [⟨0, 16, 22, 15⟩]) rfl (fun z hz => nomatch hz) (by decide) (by decide) (by decide +kernel) (by decide +kernel) (fun kx => ?_)
  show zg_G V zm_L_free 9 230 w.1 w.2.1 19 [.ref kx] [(0, .ref 1), (1, .int x), (2, .ref 165)] w4 _
  refine zg_astore_n (lv' := [(3, .ref kx), (0, .ref 1), (1, .int x), (2, .ref 165)]) dL_free_19 (by decide) rfl ?_
  refine zg_iconst (v := nI 1) dL_free_20 (by decide) ?_
  exact zg_iret rfl dL_free_21 ⟨rfl, g4⟩
set_option maxHeartbeats 4000000 in
set_option maxRecDepth 100000 in
theorem lt_free_21 {V : zv_V} (E : zv_OK V) {w : zw_W} (HX : zl_X w) {x : Int32} {P : zw_W → Prop} (hC : zg_C V zm_X3_free yX3_free 8 190 [.ref 1, .int x] w (zq_p (.inr 21) P)) : zg_C V zm_L_free yL_free 9 230 [.ref 1, .int x, .ref 165] w (zq_p (.inl (some (.int (nI 2)))) P) := by
  refine zg_of (by decide +kernel) rfl (Nat.le_of_ble_eq_true rfl) ?_
  show zg_G V zm_L_free 9 230 w.1 w.2.1 0 [] [(0, .ref 1), (1, .int x), (2, .ref 165)] w _
  refine zg_aload_n dL_free_0 rfl ?_
  refine zg_iconst (v := nI 0) dL_free_1 (by decide) ?_
  refine zg_aload_n dL_free_2 rfl ?_
  refine zg_iload_n dL_free_3 rfl ?_
  refine zg_vth (M := zm_L_free) E (ci := 3) dL_free_4 hC wd_L_50 rfl (congrArg Prod.fst (zl_at HX (k := 1) (t := (3, 7)) rfl (by decide) (by decide))) (by decide) (zl_lt HX (by decide)) rfl dh_X3_free dn_X3_free (Nat.le_of_ble_eq_true rfl) (Nat.le_of_ble_eq_true rfl) (Nat.le_of_ble_eq_true rfl) (zl_cap HX) rfl (fun w4 g4 => ?_)
  refine zg_catch (M := zm_L_free) E (k := 21) (pre := [⟨0, 16, 19, 13⟩]) (x := ⟨0, 16, 22, 15⟩) (suf := []) rfl (fun z hz => by rw [List.mem_singleton.mp hz]; exact Or.inr ⟨by decide, zc_ex 20, (by decide +kernel), E.2.2.2.2.2.2.2.2.2.2.2.2⟩) (by decide) (by decide) (by decide +kernel) (by decide +kernel) (fun kx => ?_)
  show zg_G V zm_L_free 9 230 w.1 w.2.1 22 [.ref kx] [(0, .ref 1), (1, .int x), (2, .ref 165)] w4 _
  refine zg_astore_n (lv' := [(3, .ref kx), (0, .ref 1), (1, .int x), (2, .ref 165)]) dL_free_22 (by decide) rfl ?_
  refine zg_iconst (v := nI 2) dL_free_23 (by decide) ?_
  exact zg_iret rfl dL_free_24 ⟨rfl, g4⟩
set_option maxHeartbeats 4000000 in
set_option maxRecDepth 100000 in
theorem lr_held {V : zv_V} (E : zv_OK V) {w : zw_W} (HX : zl_X w) {x u : Int32} {a : Int32} {P : zw_W → Prop} (hC : zg_C V zm_X3_held yX3_held 8 190 [.ref 1, .int x, .int u] w (zq_p (.inl (some (.int (a)))) P)) (hP : ∀ w1, P w1 → zw_t w1 165 = (12, 1) ∧ 165 < w1.1) : zg_C V zm_L_held yL_held 9 230 [.ref 1, .int x, .int u, .ref 165] w (zq_p (.inl (some (.int (nI 0)))) (fun w2 => ∃ w1, P w1 ∧ w2 = zw_sl w1 165 0 ((a).toInt64))) := by
  refine zg_of (by decide +kernel) rfl (Nat.le_of_ble_eq_true rfl) ?_
  show zg_G V zm_L_held 9 230 w.1 w.2.1 0 [] [(0, .ref 1), (1, .int x), (2, .int u), (3, .ref 165)] w _
  refine zg_aload_n dL_held_0 rfl ?_
  refine zg_iconst (v := nI 0) dL_held_1 (by decide) ?_
  refine zg_aload_n dL_held_2 rfl ?_
  refine zg_iload_n dL_held_3 rfl ?_
  refine zg_iload_n dL_held_4 rfl ?_
  refine zg_vrt (M := zm_L_held) E (ci := 3) dL_held_5 hC wd_L_54 rfl (congrArg Prod.fst (zl_at HX (k := 1) (t := (3, 7)) rfl (by decide) (by decide))) (by decide) (zl_lt HX (by decide)) rfl dh_X3_held dn_X3_held (Nat.le_of_ble_eq_true rfl) (Nat.le_of_ble_eq_true rfl) (Nat.le_of_ble_eq_true rfl) (zl_cap HX) rfl (fun w5 g5 => ?_)
  refine zg_i2l dL_held_8 ?_
  refine zg_last E (j := 0) dL_held_9 (hP w5 g5).1 (by decide) (hP w5 g5).2 rfl (by omega) (by decide) ?_
  refine zg_goto (tgt := 17) dL_held_10 (by decide) ?_
  refine zg_iconst (v := nI 0) dL_held_17 (by decide) ?_
  exact zg_iret rfl dL_held_18 ⟨rfl, w5, g5, rfl⟩
set_option maxHeartbeats 4000000 in
set_option maxRecDepth 100000 in
theorem lt_held_20 {V : zv_V} (E : zv_OK V) {w : zw_W} (HX : zl_X w) {x u : Int32} {P : zw_W → Prop} (hC : zg_C V zm_X3_held yX3_held 8 190 [.ref 1, .int x, .int u] w (zq_p (.inr 20) P)) : zg_C V zm_L_held yL_held 9 230 [.ref 1, .int x, .int u, .ref 165] w (zq_p (.inl (some (.int (nI 1)))) P) := by
  refine zg_of (by decide +kernel) rfl (Nat.le_of_ble_eq_true rfl) ?_
  show zg_G V zm_L_held 9 230 w.1 w.2.1 0 [] [(0, .ref 1), (1, .int x), (2, .int u), (3, .ref 165)] w _
  refine zg_aload_n dL_held_0 rfl ?_
  refine zg_iconst (v := nI 0) dL_held_1 (by decide) ?_
  refine zg_aload_n dL_held_2 rfl ?_
  refine zg_iload_n dL_held_3 rfl ?_
  refine zg_iload_n dL_held_4 rfl ?_
  refine zg_vth (M := zm_L_held) E (ci := 3) dL_held_5 hC wd_L_54 rfl (congrArg Prod.fst (zl_at HX (k := 1) (t := (3, 7)) rfl (by decide) (by decide))) (by decide) (zl_lt HX (by decide)) rfl dh_X3_held dn_X3_held (Nat.le_of_ble_eq_true rfl) (Nat.le_of_ble_eq_true rfl) (Nat.le_of_ble_eq_true rfl) (zl_cap HX) rfl (fun w5 g5 => ?_)
  refine zg_catch (M := zm_L_held) E (k := 20) (pre := []) (x := ⟨0, 10, 13, 13⟩) (suf := []) rfl (fun z hz => nomatch hz) (by decide) (by decide) (by decide +kernel) (by decide +kernel) (fun kx => ?_)
  show zg_G V zm_L_held 9 230 w.1 w.2.1 13 [.ref kx] [(0, .ref 1), (1, .int x), (2, .int u), (3, .ref 165)] w5 _
  refine zg_astore (lv' := [(4, .ref kx), (0, .ref 1), (1, .int x), (2, .int u), (3, .ref 165)]) dL_held_13 (by decide) rfl ?_
  refine zg_iconst (v := nI 1) dL_held_15 (by decide) ?_
  exact zg_iret rfl dL_held_16 ⟨rfl, g5⟩
set_option maxHeartbeats 4000000 in
set_option maxRecDepth 100000 in
theorem lr_total {V : zv_V} (E : zv_OK V) {w : zw_W} (HX : zl_X w) {x : Int32} {a : Int32} {P : zw_W → Prop} (hC : zg_C V zm_X3_total yX3_total 8 190 [.ref 1, .int x] w (zq_p (.inl (some (.int (a)))) P)) (hP : ∀ w1, P w1 → zw_t w1 165 = (12, 1) ∧ 165 < w1.1) : zg_C V zm_L_total yL_total 9 230 [.ref 1, .int x, .ref 165] w (zq_p (.inl (some (.int (nI 0)))) (fun w2 => ∃ w1, P w1 ∧ w2 = zw_sl w1 165 0 ((a).toInt64))) := by
  refine zg_of (by decide +kernel) rfl (Nat.le_of_ble_eq_true rfl) ?_
  show zg_G V zm_L_total 9 230 w.1 w.2.1 0 [] [(0, .ref 1), (1, .int x), (2, .ref 165)] w _
  refine zg_aload_n dL_total_0 rfl ?_
  refine zg_iconst (v := nI 0) dL_total_1 (by decide) ?_
  refine zg_aload_n dL_total_2 rfl ?_
  refine zg_iload_n dL_total_3 rfl ?_
  refine zg_vrt (M := zm_L_total) E (ci := 3) dL_total_4 hC wd_L_57 rfl (congrArg Prod.fst (zl_at HX (k := 1) (t := (3, 7)) rfl (by decide) (by decide))) (by decide) (zl_lt HX (by decide)) rfl dh_X3_total dn_X3_total (Nat.le_of_ble_eq_true rfl) (Nat.le_of_ble_eq_true rfl) (Nat.le_of_ble_eq_true rfl) (zl_cap HX) rfl (fun w4 g4 => ?_)
  refine zg_i2l dL_total_7 ?_
  refine zg_last E (j := 0) dL_total_8 (hP w4 g4).1 (by decide) (hP w4 g4).2 rfl (by omega) (by decide) ?_
  refine zg_goto (tgt := 15) dL_total_9 (by decide) ?_
  refine zg_iconst (v := nI 0) dL_total_15 (by decide) ?_
  exact zg_iret rfl dL_total_16 ⟨rfl, w4, g4, rfl⟩
set_option maxHeartbeats 4000000 in
set_option maxRecDepth 100000 in
theorem lt_total_20 {V : zv_V} (E : zv_OK V) {w : zw_W} (HX : zl_X w) {x : Int32} {P : zw_W → Prop} (hC : zg_C V zm_X3_total yX3_total 8 190 [.ref 1, .int x] w (zq_p (.inr 20) P)) : zg_C V zm_L_total yL_total 9 230 [.ref 1, .int x, .ref 165] w (zq_p (.inl (some (.int (nI 1)))) P) := by
  refine zg_of (by decide +kernel) rfl (Nat.le_of_ble_eq_true rfl) ?_
  show zg_G V zm_L_total 9 230 w.1 w.2.1 0 [] [(0, .ref 1), (1, .int x), (2, .ref 165)] w _
  refine zg_aload_n dL_total_0 rfl ?_
  refine zg_iconst (v := nI 0) dL_total_1 (by decide) ?_
  refine zg_aload_n dL_total_2 rfl ?_
  refine zg_iload_n dL_total_3 rfl ?_
  refine zg_vth (M := zm_L_total) E (ci := 3) dL_total_4 hC wd_L_57 rfl (congrArg Prod.fst (zl_at HX (k := 1) (t := (3, 7)) rfl (by decide) (by decide))) (by decide) (zl_lt HX (by decide)) rfl dh_X3_total dn_X3_total (Nat.le_of_ble_eq_true rfl) (Nat.le_of_ble_eq_true rfl) (Nat.le_of_ble_eq_true rfl) (zl_cap HX) rfl (fun w4 g4 => ?_)
  refine zg_catch (M := zm_L_total) E (k := 20) (pre := []) (x := ⟨0, 9, 12, 13⟩) (suf := []) rfl (fun z hz => nomatch hz) (by decide) (by decide) (by decide +kernel) (by decide +kernel) (fun kx => ?_)
  show zg_G V zm_L_total 9 230 w.1 w.2.1 12 [.ref kx] [(0, .ref 1), (1, .int x), (2, .ref 165)] w4 _
  refine zg_astore_n (lv' := [(3, .ref kx), (0, .ref 1), (1, .int x), (2, .ref 165)]) dL_total_12 (by decide) rfl ?_
  refine zg_iconst (v := nI 1) dL_total_13 (by decide) ?_
  exact zg_iret rfl dL_total_14 ⟨rfl, g4⟩

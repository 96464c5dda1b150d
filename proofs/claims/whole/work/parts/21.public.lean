/-! The class's public methods, case by case. -/
/-- a public call has ended: one exception's cell more, or none; the class's state is now this -/
def zr_ex (w w' : zw_W) (F : Nat → Prop) : Prop := w.1 ≤ w'.1 ∧ w'.1 ≤ w.1 + 1 ∧ w.2.1 ≤ w'.2.1 ∧ w'.2.1 ≤ w.2.1 + 6 ∧ ∀ a, a < w.1 → zw_t w' a = zw_t w a ∧ zw_r w' a = zw_r w a ∧ zw_l w' a = zw_l w a ∧ (F a → zw_i w' a = zw_i w a)
def zr_pub (w : zw_W) (D : Nat → Nat → Nat) (H : za_H) (b : Bool) (L S : za_T) (C : za_C) (w' : zw_W) : Prop := zr_ex w w' (156 ≤ ·) ∧ zr_X (zw_i w') D H b L S C
theorem zp_to {w w' : zw_W} {D : Nat → Nat → Nat} {H : za_H} {b : Bool} {L S : za_T} {C : za_C} {lo hi : Nat} (h156 : hi ≤ 156) (h : zr_to w lo hi (zr_X · D H b L S C) w') : zr_pub w D H b L S C w' := by
  obtain ⟨J, rfl, h1, h2⟩ := h
  exact ⟨⟨Nat.le_refl _, Nat.le_succ _, Nat.le_refl _, Nat.le_add_right _ _, fun a _ => ⟨rfl, rfl, rfl, fun g => h2 a (Or.inr (Nat.le_trans h156 g))⟩⟩, h1⟩
theorem zp_same {w : zw_W} {D : Nat → Nat → Nat} {H : za_H} {b : Bool} {L S : za_T} {C : za_C} (h : zr_X (zw_i w) D H b L S C) : zr_pub w D H b L S C w := ⟨⟨Nat.le_refl _, Nat.le_succ _, Nat.le_refl _, Nat.le_add_right _ _, fun a _ => ⟨rfl, rfl, rfl, fun _ => rfl⟩⟩, h⟩
theorem zp_nw {w : zw_W} (HX : zl_X w) {k : Nat} {D : Nat → Nat → Nat} {H : za_H} {b : Bool} {L S : za_T} {C : za_C} (h : zr_X (zw_i w) D H b L S C) (hH : za_WH H) : zr_pub w D H b L S C (zw_nw w (k, 6)) := by
  have h1 := HX.1
  refine ⟨⟨Nat.le_succ _, Nat.le_refl _, Nat.le_add_right _ _, Nat.le_refl _, fun a ha => ⟨zw_ro_n _ _ (by omega), zw_ro_n _ _ (by omega), zw_ro_n _ _ (by omega), fun _ => zw_ro_n _ _ (by omega)⟩⟩, zr_Xe h hH.1 (fun a _ ha i => congrFun (zw_ro_n _ _ (by omega)) i)⟩
set_option maxHeartbeats 4000000 in
set_option maxRecDepth 100000 in
theorem pw_1 {V : zv_V} (E : zv_OK V) {w : zw_W} (HX : zl_X w) {D : Nat → Nat → Nat} {H : za_H} {b : Bool} {L S : za_T} {C : za_C} (hX : zr_X (zw_i w) D H b L S C) (hH : za_WH H) {x : Int32} (hx : ∀ n, n < 16 → x ≠ nI n) {u v : Int32} : zg_C V zm_X3_write yX3_write 8 190 [.ref 1, .int x, .int u, .int v] w (zq_p (.inr 20) (zr_pub w D H b L S C)) := by
  refine zg_of (by decide +kernel) rfl (Nat.le_of_ble_eq_true rfl) ?_
  show zg_G V zm_X3_write 8 190 w.1 w.2.1 0 [] [(0, .ref 1), (1, .int x), (2, .int u), (3, .int v)] w _
  refine zg_iload_n dX3_write_0 rfl ?_
  refine zg_sthr (M := zm_X3_write) E dX3_write_1 (ct_checkPage_no E HX hx) wd_X3_45 dh_X3_checkPage dn_X3_checkPage (Nat.le_of_ble_eq_true rfl) (Nat.le_of_ble_eq_true rfl) (Nat.le_of_ble_eq_true rfl) (zl_cap HX) rfl (fun w1 g1 => ?_)
  subst w1
  exact zg_out rfl ⟨rfl, zp_nw HX hX hH⟩
set_option maxHeartbeats 4000000 in
set_option maxRecDepth 100000 in
theorem pw_2 {V : zv_V} (E : zv_OK V) {w : zw_W} (HX : zl_X w) {D : Nat → Nat → Nat} {H : za_H} {b : Bool} {L S : za_T} {C : za_C} (hX : zr_X (zw_i w) D H b L S C) (hH : za_WH H) {p : Nat} (hp : p < 16) {x : Int32} (hx : ∀ n, n < 16 → x ≠ nI n) {v : Int32} : zg_C V zm_X3_write yX3_write 8 190 [.ref 1, .int (nI p), .int x, .int v] w (zq_p (.inr 20) (zr_pub w D H b L S C)) := by
  refine zg_of (by decide +kernel) rfl (Nat.le_of_ble_eq_true rfl) ?_
  show zg_G V zm_X3_write 8 190 w.1 w.2.1 0 [] [(0, .ref 1), (1, .int (nI p)), (2, .int x), (3, .int v)] w _
  refine zg_iload_n dX3_write_0 rfl ?_
  refine zg_sret (M := zm_X3_write) E dX3_write_1 (ct_checkPage_ok E HX hp) wd_X3_45 dh_X3_checkPage dn_X3_checkPage (Nat.le_of_ble_eq_true rfl) (Nat.le_of_ble_eq_true rfl) (Nat.le_of_ble_eq_true rfl) (zl_cap HX) rfl (fun w1 g1 => ?_)
  subst w1
  refine zg_iload_n dX3_write_4 rfl ?_
  refine zg_sthr (M := zm_X3_write) E dX3_write_5 (ct_checkIndex_no E HX hx) wd_X3_49 dh_X3_checkIndex dn_X3_checkIndex (Nat.le_of_ble_eq_true rfl) (Nat.le_of_ble_eq_true rfl) (Nat.le_of_ble_eq_true rfl) (zl_cap HX) rfl (fun w5 g5 => ?_)
  subst w5
  exact zg_out rfl ⟨rfl, zp_nw HX hX hH⟩
set_option maxHeartbeats 4000000 in
set_option maxRecDepth 100000 in
theorem pw_3 {V : zv_V} (E : zv_OK V) {w : zw_W} (HX : zl_X w) {D : Nat → Nat → Nat} {H : za_H} {b : Bool} {L S : za_T} {C : za_C} (hX : zr_X (zw_i w) D H b L S C) (hH : za_WH H) {p : Nat} (hp : p < 16) {i : Nat} (hi : i < 16) {x : Int32} (hx : ∀ n, n < 256 → x ≠ nI n) : zg_C V zm_X3_write yX3_write 8 190 [.ref 1, .int (nI p), .int (nI i), .int x] w (zq_p (.inr 20) (zr_pub w D H b L S C)) := by
  refine zg_of (by decide +kernel) rfl (Nat.le_of_ble_eq_true rfl) ?_
  show zg_G V zm_X3_write 8 190 w.1 w.2.1 0 [] [(0, .ref 1), (1, .int (nI p)), (2, .int (nI i)), (3, .int x)] w _
  refine zg_iload_n dX3_write_0 rfl ?_
  refine zg_sret (M := zm_X3_write) E dX3_write_1 (ct_checkPage_ok E HX hp) wd_X3_45 dh_X3_checkPage dn_X3_checkPage (Nat.le_of_ble_eq_true rfl) (Nat.le_of_ble_eq_true rfl) (Nat.le_of_ble_eq_true rfl) (zl_cap HX) rfl (fun w1 g1 => ?_)
  subst w1
  refine zg_iload_n dX3_write_4 rfl ?_
  refine zg_sret (M := zm_X3_write) E dX3_write_5 (ct_checkIndex_ok E HX hi) wd_X3_49 dh_X3_checkIndex dn_X3_checkIndex (Nat.le_of_ble_eq_true rfl) (Nat.le_of_ble_eq_true rfl) (Nat.le_of_ble_eq_true rfl) (zl_cap HX) rfl (fun w5 g5 => ?_)
  subst w5
  refine zg_iload_n dX3_write_8 rfl ?_
  refine zg_sthr (M := zm_X3_write) E dX3_write_9 (ct_checkByte_no E HX hx) wd_X3_52 dh_X3_checkByte dn_X3_checkByte (Nat.le_of_ble_eq_true rfl) (Nat.le_of_ble_eq_true rfl) (Nat.le_of_ble_eq_true rfl) (zl_cap HX) rfl (fun w9 g9 => ?_)
  subst w9
  exact zg_out rfl ⟨rfl, zp_nw HX hX hH⟩
set_option maxHeartbeats 4000000 in
set_option maxRecDepth 100000 in
theorem pw_4 {V : zv_V} (E : zv_OK V) {w : zw_W} (HX : zl_X w) {D : Nat → Nat → Nat} {H : za_H} {b : Bool} {L S : za_T} {C : za_C} (hX : zr_X (zw_i w) D H b L S C) (hH : za_WH H) {p : Nat} (hp : p < 16) {i : Nat} (hi : i < 16) {y : Nat} (hy : y < 256) (hb : b = true)  : zg_C V zm_X3_write yX3_write 8 190 [.ref 1, .int (nI p), .int (nI i), .int (nI y)] w (zq_p (.inr 21) (zr_pub w D H b L S C)) := by
  refine zg_of (by decide +kernel) rfl (Nat.le_of_ble_eq_true rfl) ?_
  show zg_G V zm_X3_write 8 190 w.1 w.2.1 0 [] [(0, .ref 1), (1, .int (nI p)), (2, .int (nI i)), (3, .int (nI y))] w _
  refine zg_iload_n dX3_write_0 rfl ?_
  refine zg_sret (M := zm_X3_write) E dX3_write_1 (ct_checkPage_ok E HX hp) wd_X3_45 dh_X3_checkPage dn_X3_checkPage (Nat.le_of_ble_eq_true rfl) (Nat.le_of_ble_eq_true rfl) (Nat.le_of_ble_eq_true rfl) (zl_cap HX) rfl (fun w1 g1 => ?_)
  subst w1
  refine zg_iload_n dX3_write_4 rfl ?_
  refine zg_sret (M := zm_X3_write) E dX3_write_5 (ct_checkIndex_ok E HX hi) wd_X3_49 dh_X3_checkIndex dn_X3_checkIndex (Nat.le_of_ble_eq_true rfl) (Nat.le_of_ble_eq_true rfl) (Nat.le_of_ble_eq_true rfl) (zl_cap HX) rfl (fun w5 g5 => ?_)
  subst w5
  refine zg_iload_n dX3_write_8 rfl ?_
  refine zg_sret (M := zm_X3_write) E dX3_write_9 (ct_checkByte_ok E HX hy) wd_X3_52 dh_X3_checkByte dn_X3_checkByte (Nat.le_of_ble_eq_true rfl) (Nat.le_of_ble_eq_true rfl) (Nat.le_of_ble_eq_true rfl) (zl_cap HX) rfl (fun w9 g9 => ?_)
  subst w9
  refine zg_aload_n dX3_write_12 rfl ?_
  refine zg_vth (M := zm_X3_write) E (ci := 3) dX3_write_13 (ct_mounted_no E HX (by rw [hX.2.2.1, hb]; decide)) wd_X3_55 rfl (congrArg Prod.fst (zl_at HX (k := 1) (t := (3, 7)) rfl (by decide) (by decide))) (by decide) (zl_lt HX (by decide)) rfl dh_X3_checkMounted dn_X3_checkMounted (Nat.le_of_ble_eq_true rfl) (Nat.le_of_ble_eq_true rfl) (Nat.le_of_ble_eq_true rfl) (zl_cap HX) rfl (fun w13 g13 => ?_)
  subst w13
  exact zg_out rfl ⟨rfl, zp_nw HX hX hH⟩
set_option maxHeartbeats 4000000 in
set_option maxRecDepth 100000 in
theorem pw_5 {V : zv_V} (E : zv_OK V) {w : zw_W} (HX : zl_X w) {D : Nat → Nat → Nat} {H : za_H} {b : Bool} {L S : za_T} {C : za_C} (hX : zr_X (zw_i w) D H b L S C) (hH : za_WH H) {p : Nat} (hp : p < 16) {i : Nat} (hi : i < 16) {y : Nat} (hy : y < 256) (hb : b = false) (hc : zg_C V zm_X3_changePage yX3_changePage 6 130 [.ref 1, .int (nI p)] w (zq_p (.inr 21) (· = zw_nw w (21, 6))))  : zg_C V zm_X3_write yX3_write 8 190 [.ref 1, .int (nI p), .int (nI i), .int (nI y)] w (zq_p (.inr 21) (zr_pub w D H b L S C)) := by
  refine zg_of (by decide +kernel) rfl (Nat.le_of_ble_eq_true rfl) ?_
  show zg_G V zm_X3_write 8 190 w.1 w.2.1 0 [] [(0, .ref 1), (1, .int (nI p)), (2, .int (nI i)), (3, .int (nI y))] w _
  refine zg_iload_n dX3_write_0 rfl ?_
  refine zg_sret (M := zm_X3_write) E dX3_write_1 (ct_checkPage_ok E HX hp) wd_X3_45 dh_X3_checkPage dn_X3_checkPage (Nat.le_of_ble_eq_true rfl) (Nat.le_of_ble_eq_true rfl) (Nat.le_of_ble_eq_true rfl) (zl_cap HX) rfl (fun w1 g1 => ?_)
  subst w1
  refine zg_iload_n dX3_write_4 rfl ?_
  refine zg_sret (M := zm_X3_write) E dX3_write_5 (ct_checkIndex_ok E HX hi) wd_X3_49 dh_X3_checkIndex dn_X3_checkIndex (Nat.le_of_ble_eq_true rfl) (Nat.le_of_ble_eq_true rfl) (Nat.le_of_ble_eq_true rfl) (zl_cap HX) rfl (fun w5 g5 => ?_)
  subst w5
  refine zg_iload_n dX3_write_8 rfl ?_
  refine zg_sret (M := zm_X3_write) E dX3_write_9 (ct_checkByte_ok E HX hy) wd_X3_52 dh_X3_checkByte dn_X3_checkByte (Nat.le_of_ble_eq_true rfl) (Nat.le_of_ble_eq_true rfl) (Nat.le_of_ble_eq_true rfl) (zl_cap HX) rfl (fun w9 g9 => ?_)
  subst w9
  refine zg_aload_n dX3_write_12 rfl ?_
  refine zg_vrt (M := zm_X3_write) E (ci := 3) dX3_write_13 (ct_mounted_ok E HX (by rw [hX.2.2.1, hb]; rfl)) wd_X3_55 rfl (congrArg Prod.fst (zl_at HX (k := 1) (t := (3, 7)) rfl (by decide) (by decide))) (by decide) (zl_lt HX (by decide)) rfl dh_X3_checkMounted dn_X3_checkMounted (Nat.le_of_ble_eq_true rfl) (Nat.le_of_ble_eq_true rfl) (Nat.le_of_ble_eq_true rfl) (zl_cap HX) rfl (fun w13 g13 => ?_)
  subst w13
  refine zg_aload_n dX3_write_16 rfl ?_
  refine zg_iload_n dX3_write_17 rfl ?_
  refine zg_vth (M := zm_X3_write) E (ci := 3) dX3_write_18 hc wd_X3_58 rfl (congrArg Prod.fst (zl_at HX (k := 1) (t := (3, 7)) rfl (by decide) (by decide))) (by decide) (zl_lt HX (by decide)) rfl dh_X3_changePage dn_X3_changePage (Nat.le_of_ble_eq_true rfl) (Nat.le_of_ble_eq_true rfl) (Nat.le_of_ble_eq_true rfl) (zl_cap HX) rfl (fun w18 g18 => ?_)
  subst w18
  exact zg_out rfl ⟨rfl, zp_nw HX hX hH⟩
theorem zk_put {I J : Nat → Nat → Int32} {C : za_C} {p i x : Nat} (h : zr_C I C) (hp : p < 16) (h0 : C.1 p ≠ 0) (g : J = zw_up I (138 + p) i (nI x)) : zr_C J (za_put C p i x) := by
  subst g
  refine ⟨fun q hq => (congrFun (zw_up_row _ _ _ (by omega)) q).trans (h.1 q hq), (congrFun (zw_up_row _ _ _ (by omega)) 3).trans h.2.1, fun q hq e => ⟨fun j hj => ?_, (congrFun (zw_up_row _ _ _ (by omega)) q).trans (h.2.2 q hq e).2⟩⟩
  show _ = nI (zw_ro C.2.1 p (zw_ro (C.2.1 p) i x) q j)
  by_cases k : q = p
  · subst k
    rw [zw_ro_s]
    by_cases k2 : j = i
    · rw [k2, zw_up_s, zw_ro_s]
    · rw [zw_up_n _ _ (Or.inr k2), zw_ro_n _ _ k2]
      exact (h.2.2 q hq e).1 j hj
  · rw [zw_up_n _ _ (Or.inl (by omega)), zw_ro_n _ _ k]
    exact (h.2.2 q hq e).1 j hj
set_option maxHeartbeats 4000000 in
set_option maxRecDepth 100000 in
theorem pw_6 {V : zv_V} (E : zv_OK V) {w : zw_W} (HX : zl_X w) {D : Nat → Nat → Nat} {H : za_H} {b : Bool} {L S : za_T} {C : za_C} (hX : zr_X (zw_i w) D H b L S C) (hH : za_WH H) {p : Nat} (hp : p < 16) {i : Nat} (hi : i < 16) {y : Nat} (hy : y < 256) (hb : b = false) {C1 : za_C} (h1 : C1.1 p ≠ 0) (hc : zg_C V zm_X3_changePage yX3_changePage 3 130 [.ref 1, .int (nI p)] w (zq_p (.inl none) (zr_to w 135 155 (zr_X · D H b L S C1))))  : zg_C V zm_X3_write yX3_write 8 190 [.ref 1, .int (nI p), .int (nI i), .int (nI y)] w (zq_p (.inl (some (.int (nI (C1.2.1 p i))))) (zr_pub w D H b L S (za_put C1 p i y))) := by
  refine zg_of (by decide +kernel) rfl (Nat.le_of_ble_eq_true rfl) ?_
  show zg_G V zm_X3_write 8 190 w.1 w.2.1 0 [] [(0, .ref 1), (1, .int (nI p)), (2, .int (nI i)), (3, .int (nI y))] w _
  refine zg_iload_n dX3_write_0 rfl ?_
  refine zg_sret (M := zm_X3_write) E dX3_write_1 (ct_checkPage_ok E HX hp) wd_X3_45 dh_X3_checkPage dn_X3_checkPage (Nat.le_of_ble_eq_true rfl) (Nat.le_of_ble_eq_true rfl) (Nat.le_of_ble_eq_true rfl) (zl_cap HX) rfl (fun w1 g1 => ?_)
  subst w1
  refine zg_iload_n dX3_write_4 rfl ?_
  refine zg_sret (M := zm_X3_write) E dX3_write_5 (ct_checkIndex_ok E HX hi) wd_X3_49 dh_X3_checkIndex dn_X3_checkIndex (Nat.le_of_ble_eq_true rfl) (Nat.le_of_ble_eq_true rfl) (Nat.le_of_ble_eq_true rfl) (zl_cap HX) rfl (fun w5 g5 => ?_)
  subst w5
  refine zg_iload_n dX3_write_8 rfl ?_
  refine zg_sret (M := zm_X3_write) E dX3_write_9 (ct_checkByte_ok E HX hy) wd_X3_52 dh_X3_checkByte dn_X3_checkByte (Nat.le_of_ble_eq_true rfl) (Nat.le_of_ble_eq_true rfl) (Nat.le_of_ble_eq_true rfl) (zl_cap HX) rfl (fun w9 g9 => ?_)
  subst w9
  refine zg_aload_n dX3_write_12 rfl ?_
  refine zg_vrt (M := zm_X3_write) E (ci := 3) dX3_write_13 (ct_mounted_ok E HX (by rw [hX.2.2.1, hb]; rfl)) wd_X3_55 rfl (congrArg Prod.fst (zl_at HX (k := 1) (t := (3, 7)) rfl (by decide) (by decide))) (by decide) (zl_lt HX (by decide)) rfl dh_X3_checkMounted dn_X3_checkMounted (Nat.le_of_ble_eq_true rfl) (Nat.le_of_ble_eq_true rfl) (Nat.le_of_ble_eq_true rfl) (zl_cap HX) rfl (fun w13 g13 => ?_)
  subst w13
  refine zg_aload_n dX3_write_16 rfl ?_
  refine zg_iload_n dX3_write_17 rfl ?_
  refine zg_vrt (M := zm_X3_write) E (ci := 3) dX3_write_18 hc wd_X3_58 rfl (congrArg Prod.fst (zl_at HX (k := 1) (t := (3, 7)) rfl (by decide) (by decide))) (by decide) (zl_lt HX (by decide)) rfl dh_X3_changePage dn_X3_changePage (Nat.le_of_ble_eq_true rfl) (Nat.le_of_ble_eq_true rfl) (Nat.le_of_ble_eq_true rfl) (zl_cap HX) rfl (fun w18 g18 => ?_)
  obtain ⟨J1, rfl, r1, f1⟩ := g18
  refine zg_w (w' := zw_I w J1) rfl ?_
  refine zg_aload_n dX3_write_21 rfl ?_
  refine zg_getR E (ci := 3) (j := 4) (r := 135) dX3_write_22 rfl (congrArg Prod.fst (zl_at HX (k := 1) (t := (3, 7)) rfl (by decide) (by decide))) (by decide) (zl_lt HX (by decide)) (by decide) fl_X3_34 rfl (zl_rf HX rfl (by decide) (by decide)) ?_
  refine zg_getR E (ci := 0) (j := 1) (r := 137) dX3_write_25 rfl (congrArg Prod.fst (zl_at HX (k := 135) (t := (0, 4)) rfl (by decide) (by decide))) (by decide) (zl_lt HX (by decide)) (by decide) fl_X3_61 rfl (zl_rf HX rfl (by decide) (by decide)) ?_
  refine zg_iload_n dX3_write_28 rfl ?_
  refine zg_aald E (j := p) (r := 138 + p) dX3_write_29 (zl_at HX (k := 137) (t := (13, 16)) rfl (by decide) (by decide)) (by decide) (zl_lt HX (by decide)) rfl (by omega) (by decide) (zl_rf HX (zl_pag (by omega)).2 (by decide) (by decide)) ?_
  refine zg_iload_n dX3_write_30 rfl ?_
  refine zg_iald E (j := i) dX3_write_31 (zl_at HX (zl_pag (by omega)).1 (by omega) (by omega)) (by omega) (zl_lt HX (by omega)) rfl (by omega) (by decide) ?_
  refine zg_v (x' := nI (C1.2.1 p i)) ((r1.2.2.2.2.2.2.2 p hp h1).1 i hi) ?_
  refine zg_istore (lv' := [(4, .int (nI (C1.2.1 p i))), (0, .ref 1), (1, .int (nI p)), (2, .int (nI i)), (3, .int (nI y))]) dX3_write_32 (by decide) rfl ?_
  refine zg_aload_n dX3_write_34 rfl ?_
  refine zg_getR E (ci := 3) (j := 4) (r := 135) dX3_write_35 rfl (congrArg Prod.fst (zl_at HX (k := 1) (t := (3, 7)) rfl (by decide) (by decide))) (by decide) (zl_lt HX (by decide)) (by decide) fl_X3_34 rfl (zl_rf HX rfl (by decide) (by decide)) ?_
  refine zg_getR E (ci := 0) (j := 1) (r := 137) dX3_write_38 rfl (congrArg Prod.fst (zl_at HX (k := 135) (t := (0, 4)) rfl (by decide) (by decide))) (by decide) (zl_lt HX (by decide)) (by decide) fl_X3_61 rfl (zl_rf HX rfl (by decide) (by decide)) ?_
  refine zg_iload_n dX3_write_41 rfl ?_
  refine zg_aald E (j := p) (r := 138 + p) dX3_write_42 (zl_at HX (k := 137) (t := (13, 16)) rfl (by decide) (by decide)) (by decide) (zl_lt HX (by decide)) rfl (by omega) (by decide) (zl_rf HX (zl_pag (by omega)).2 (by decide) (by decide)) ?_
  refine zg_iload_n dX3_write_43 rfl ?_
  refine zg_iload_n dX3_write_44 rfl ?_
  refine zg_iast E (j := i) dX3_write_45 (zl_at HX (zl_pag (by omega)).1 (by omega) (by omega)) (by omega) (zl_lt HX (by omega)) rfl (by omega) (by decide) ?_
  refine zg_iload dX3_write_46 rfl ?_
  exact zg_iret rfl dX3_write_48 ⟨rfl, zp_to (lo := 135) (hi := 155) (by decide) ⟨_, rfl, zr_Xc r1 hH.1 (zk_put r1.2.2.2.2.2 hp h1 rfl) (fun a ha => zw_up_row _ _ _ (by omega)), fun a ha => (zw_up_row _ _ _ (by omega)).trans (f1 a ha)⟩⟩
set_option maxHeartbeats 4000000 in
set_option maxRecDepth 100000 in
theorem pr_1 {V : zv_V} (E : zv_OK V) {w : zw_W} (HX : zl_X w) {D : Nat → Nat → Nat} {H : za_H} {b : Bool} {L S : za_T} {C : za_C} (hX : zr_X (zw_i w) D H b L S C) (hH : za_WH H) {x : Int32} (hx : ∀ n, n < 16 → x ≠ nI n) {u v : Int32} : zg_C V zm_X3_read yX3_read 8 190 [.ref 1, .int x, .int u, .int v] w (zq_p (.inr 20) (zr_pub w D H b L S C)) := by
  refine zg_of (by decide +kernel) rfl (Nat.le_of_ble_eq_true rfl) ?_
  show zg_G V zm_X3_read 8 190 w.1 w.2.1 0 [] [(0, .ref 1), (1, .int x), (2, .int u), (3, .int v)] w _
  refine zg_iload_n dX3_read_0 rfl ?_
  refine zg_sthr (M := zm_X3_read) E dX3_read_1 (ct_checkPage_no E HX hx) wd_X3_45 dh_X3_checkPage dn_X3_checkPage (Nat.le_of_ble_eq_true rfl) (Nat.le_of_ble_eq_true rfl) (Nat.le_of_ble_eq_true rfl) (zl_cap HX) rfl (fun w1 g1 => ?_)
  subst w1
  exact zg_out rfl ⟨rfl, zp_nw HX hX hH⟩
set_option maxHeartbeats 4000000 in
set_option maxRecDepth 100000 in
theorem pr_2 {V : zv_V} (E : zv_OK V) {w : zw_W} (HX : zl_X w) {D : Nat → Nat → Nat} {H : za_H} {b : Bool} {L S : za_T} {C : za_C} (hX : zr_X (zw_i w) D H b L S C) (hH : za_WH H) {p : Nat} (hp : p < 16) {x : Int32} (hx : ∀ n, n < 16 → x ≠ nI n) {v : Int32} : zg_C V zm_X3_read yX3_read 8 190 [.ref 1, .int (nI p), .int x, .int v] w (zq_p (.inr 20) (zr_pub w D H b L S C)) := by
  refine zg_of (by decide +kernel) rfl (Nat.le_of_ble_eq_true rfl) ?_
  show zg_G V zm_X3_read 8 190 w.1 w.2.1 0 [] [(0, .ref 1), (1, .int (nI p)), (2, .int x), (3, .int v)] w _
  refine zg_iload_n dX3_read_0 rfl ?_
  refine zg_sret (M := zm_X3_read) E dX3_read_1 (ct_checkPage_ok E HX hp) wd_X3_45 dh_X3_checkPage dn_X3_checkPage (Nat.le_of_ble_eq_true rfl) (Nat.le_of_ble_eq_true rfl) (Nat.le_of_ble_eq_true rfl) (zl_cap HX) rfl (fun w1 g1 => ?_)
  subst w1
  refine zg_iload_n dX3_read_4 rfl ?_
  refine zg_sthr (M := zm_X3_read) E dX3_read_5 (ct_checkIndex_no E HX hx) wd_X3_49 dh_X3_checkIndex dn_X3_checkIndex (Nat.le_of_ble_eq_true rfl) (Nat.le_of_ble_eq_true rfl) (Nat.le_of_ble_eq_true rfl) (zl_cap HX) rfl (fun w5 g5 => ?_)
  subst w5
  exact zg_out rfl ⟨rfl, zp_nw HX hX hH⟩
set_option maxHeartbeats 4000000 in
set_option maxRecDepth 100000 in
theorem pr_3 {V : zv_V} (E : zv_OK V) {w : zw_W} (HX : zl_X w) {D : Nat → Nat → Nat} {H : za_H} {b : Bool} {L S : za_T} {C : za_C} (hX : zr_X (zw_i w) D H b L S C) (hH : za_WH H) {p : Nat} (hp : p < 16) {i : Nat} (hi : i < 16) (hb : b = true) {v : Int32} : zg_C V zm_X3_read yX3_read 8 190 [.ref 1, .int (nI p), .int (nI i), .int v] w (zq_p (.inr 21) (zr_pub w D H b L S C)) := by
  refine zg_of (by decide +kernel) rfl (Nat.le_of_ble_eq_true rfl) ?_
  show zg_G V zm_X3_read 8 190 w.1 w.2.1 0 [] [(0, .ref 1), (1, .int (nI p)), (2, .int (nI i)), (3, .int v)] w _
  refine zg_iload_n dX3_read_0 rfl ?_
  refine zg_sret (M := zm_X3_read) E dX3_read_1 (ct_checkPage_ok E HX hp) wd_X3_45 dh_X3_checkPage dn_X3_checkPage (Nat.le_of_ble_eq_true rfl) (Nat.le_of_ble_eq_true rfl) (Nat.le_of_ble_eq_true rfl) (zl_cap HX) rfl (fun w1 g1 => ?_)
  subst w1
  refine zg_iload_n dX3_read_4 rfl ?_
  refine zg_sret (M := zm_X3_read) E dX3_read_5 (ct_checkIndex_ok E HX hi) wd_X3_49 dh_X3_checkIndex dn_X3_checkIndex (Nat.le_of_ble_eq_true rfl) (Nat.le_of_ble_eq_true rfl) (Nat.le_of_ble_eq_true rfl) (zl_cap HX) rfl (fun w5 g5 => ?_)
  subst w5
  refine zg_aload_n dX3_read_8 rfl ?_
  refine zg_vth (M := zm_X3_read) E (ci := 3) dX3_read_9 (ct_mounted_no E HX (by rw [hX.2.2.1, hb]; decide)) wd_X3_55 rfl (congrArg Prod.fst (zl_at HX (k := 1) (t := (3, 7)) rfl (by decide) (by decide))) (by decide) (zl_lt HX (by decide)) rfl dh_X3_checkMounted dn_X3_checkMounted (Nat.le_of_ble_eq_true rfl) (Nat.le_of_ble_eq_true rfl) (Nat.le_of_ble_eq_true rfl) (zl_cap HX) rfl (fun w9 g9 => ?_)
  subst w9
  exact zg_out rfl ⟨rfl, zp_nw HX hX hH⟩
set_option maxHeartbeats 4000000 in
set_option maxRecDepth 100000 in
theorem pr_4 {V : zv_V} (E : zv_OK V) {w : zw_W} (HX : zl_X w) {D : Nat → Nat → Nat} {H : za_H} {b : Bool} {L S : za_T} {C : za_C} (hX : zr_X (zw_i w) D H b L S C) (hH : za_WH H) {p : Nat} (hp : p < 16) {i : Nat} (hi : i < 16) (hb : b = false) {z : Bool} (wL : za_WT L) (wC : za_WC C) (hz : z = false) (h0 : C.1 p ≠ 0) : zg_C V zm_X3_read yX3_read 8 190 [.ref 1, .int (nI p), .int (nI i), .int (za_bit z)] w (zq_p (.inl (some (.int (nI (C.2.1 p i))))) (zr_pub w D H b L S C)) := by
  refine zg_of (by decide +kernel) rfl (Nat.le_of_ble_eq_true rfl) ?_
  show zg_G V zm_X3_read 8 190 w.1 w.2.1 0 [] [(0, .ref 1), (1, .int (nI p)), (2, .int (nI i)), (3, .int (za_bit z))] w _
  refine zg_iload_n dX3_read_0 rfl ?_
  refine zg_sret (M := zm_X3_read) E dX3_read_1 (ct_checkPage_ok E HX hp) wd_X3_45 dh_X3_checkPage dn_X3_checkPage (Nat.le_of_ble_eq_true rfl) (Nat.le_of_ble_eq_true rfl) (Nat.le_of_ble_eq_true rfl) (zl_cap HX) rfl (fun w1 g1 => ?_)
  subst w1
  refine zg_iload_n dX3_read_4 rfl ?_
  refine zg_sret (M := zm_X3_read) E dX3_read_5 (ct_checkIndex_ok E HX hi) wd_X3_49 dh_X3_checkIndex dn_X3_checkIndex (Nat.le_of_ble_eq_true rfl) (Nat.le_of_ble_eq_true rfl) (Nat.le_of_ble_eq_true rfl) (zl_cap HX) rfl (fun w5 g5 => ?_)
  subst w5
  refine zg_aload_n dX3_read_8 rfl ?_
  refine zg_vrt (M := zm_X3_read) E (ci := 3) dX3_read_9 (ct_mounted_ok E HX (by rw [hX.2.2.1, hb]; rfl)) wd_X3_55 rfl (congrArg Prod.fst (zl_at HX (k := 1) (t := (3, 7)) rfl (by decide) (by decide))) (by decide) (zl_lt HX (by decide)) rfl dh_X3_checkMounted dn_X3_checkMounted (Nat.le_of_ble_eq_true rfl) (Nat.le_of_ble_eq_true rfl) (Nat.le_of_ble_eq_true rfl) (zl_cap HX) rfl (fun w9 g9 => ?_)
  subst w9
  refine zg_iload_n dX3_read_12 rfl ?_
  refine zg_if_ne (tgt := 39) dX3_read_13 (by decide) (fun h13 => ?_) (fun h13 => ?_)
  · exact absurd h13 (by rw [hz]; decide)
  · refine zg_aload_n dX3_read_16 rfl ?_
    refine zg_getR E (ci := 3) (j := 4) (r := 135) dX3_read_17 rfl (congrArg Prod.fst (zl_at HX (k := 1) (t := (3, 7)) rfl (by decide) (by decide))) (by decide) (zl_lt HX (by decide)) (by decide) fl_X3_34 rfl (zl_rf HX rfl (by decide) (by decide)) ?_
    refine zg_iload_n dX3_read_20 rfl ?_
    refine zg_vrt (M := zm_X3_read) E (ci := 0) dX3_read_21 (kt_has E HX hp hX.2.2.2.2.2 wC (bz := true) ⟨fun _ => h0, fun _ => rfl⟩) wd_X3_68 rfl (congrArg Prod.fst (zl_at HX (k := 135) (t := (0, 4)) rfl (by decide) (by decide))) (by decide) (zl_lt HX (by decide)) rfl dh_X0_has dn_X0_has (Nat.le_of_ble_eq_true rfl) (Nat.le_of_ble_eq_true rfl) (Nat.le_of_ble_eq_true rfl) (zl_cap HX) rfl (fun w21 g21 => ?_)
    subst w21
    refine zg_if_eq (tgt := 39) dX3_read_24 (by decide) (fun h24 => ?_) (fun h24 => ?_)
    · exact absurd h24 (by decide)
    · refine zg_aload_n dX3_read_27 rfl ?_
      refine zg_getR E (ci := 3) (j := 4) (r := 135) dX3_read_28 rfl (congrArg Prod.fst (zl_at HX (k := 1) (t := (3, 7)) rfl (by decide) (by decide))) (by decide) (zl_lt HX (by decide)) (by decide) fl_X3_34 rfl (zl_rf HX rfl (by decide) (by decide)) ?_
      refine zg_getR E (ci := 0) (j := 1) (r := 137) dX3_read_31 rfl (congrArg Prod.fst (zl_at HX (k := 135) (t := (0, 4)) rfl (by decide) (by decide))) (by decide) (zl_lt HX (by decide)) (by decide) fl_X3_61 rfl (zl_rf HX rfl (by decide) (by decide)) ?_
      refine zg_iload_n dX3_read_34 rfl ?_
      refine zg_aald E (j := p) (r := 138 + p) dX3_read_35 (zl_at HX (k := 137) (t := (13, 16)) rfl (by decide) (by decide)) (by decide) (zl_lt HX (by decide)) rfl (by omega) (by decide) (zl_rf HX (zl_pag (by omega)).2 (by decide) (by decide)) ?_
      refine zg_iload_n dX3_read_36 rfl ?_
      refine zg_iald E (j := i) dX3_read_37 (zl_at HX (zl_pag (by omega)).1 (by omega) (by omega)) (by omega) (zl_lt HX (by omega)) rfl (by omega) (by decide) ?_
      refine zg_v (x' := nI (C.2.1 p i)) ((hX.2.2.2.2.2.2.2 p hp h0).1 i hi) ?_
      exact zg_iret rfl dX3_read_38 ⟨rfl, zp_same hX⟩
set_option maxHeartbeats 4000000 in
set_option maxRecDepth 100000 in
theorem pr_5 {V : zv_V} (E : zv_OK V) {w : zw_W} (HX : zl_X w) {D : Nat → Nat → Nat} {H : za_H} {b : Bool} {L S : za_T} {C : za_C} (hX : zr_X (zw_i w) D H b L S C) (hH : za_WH H) {p : Nat} (hp : p < 16) {i : Nat} (hi : i < 16) (hb : b = false) {z : Bool} (wL : za_WT L) (wC : za_WC C) (hz : z = true) : zg_C V zm_X3_read yX3_read 8 190 [.ref 1, .int (nI p), .int (nI i), .int (za_bit z)] w (zq_p (.inl (some (.int (nI (za_lt D L p i))))) (zr_pub w D H b L S C)) := by
  refine zg_of (by decide +kernel) rfl (Nat.le_of_ble_eq_true rfl) ?_
  show zg_G V zm_X3_read 8 190 w.1 w.2.1 0 [] [(0, .ref 1), (1, .int (nI p)), (2, .int (nI i)), (3, .int (za_bit z))] w _
  refine zg_iload_n dX3_read_0 rfl ?_
  refine zg_sret (M := zm_X3_read) E dX3_read_1 (ct_checkPage_ok E HX hp) wd_X3_45 dh_X3_checkPage dn_X3_checkPage (Nat.le_of_ble_eq_true rfl) (Nat.le_of_ble_eq_true rfl) (Nat.le_of_ble_eq_true rfl) (zl_cap HX) rfl (fun w1 g1 => ?_)
  subst w1
  refine zg_iload_n dX3_read_4 rfl ?_
  refine zg_sret (M := zm_X3_read) E dX3_read_5 (ct_checkIndex_ok E HX hi) wd_X3_49 dh_X3_checkIndex dn_X3_checkIndex (Nat.le_of_ble_eq_true rfl) (Nat.le_of_ble_eq_true rfl) (Nat.le_of_ble_eq_true rfl) (zl_cap HX) rfl (fun w5 g5 => ?_)
  subst w5
  refine zg_aload_n dX3_read_8 rfl ?_
  refine zg_vrt (M := zm_X3_read) E (ci := 3) dX3_read_9 (ct_mounted_ok E HX (by rw [hX.2.2.1, hb]; rfl)) wd_X3_55 rfl (congrArg Prod.fst (zl_at HX (k := 1) (t := (3, 7)) rfl (by decide) (by decide))) (by decide) (zl_lt HX (by decide)) rfl dh_X3_checkMounted dn_X3_checkMounted (Nat.le_of_ble_eq_true rfl) (Nat.le_of_ble_eq_true rfl) (Nat.le_of_ble_eq_true rfl) (zl_cap HX) rfl (fun w9 g9 => ?_)
  subst w9
  refine zg_iload_n dX3_read_12 rfl ?_
  refine zg_if_ne (tgt := 39) dX3_read_13 (by decide) (fun h13 => ?_) (fun h13 => ?_)
  · refine zg_aload_n dX3_read_39 rfl ?_
    refine zg_getR E (ci := 3) (j := 2) (r := 131) dX3_read_40 rfl (congrArg Prod.fst (zl_at HX (k := 1) (t := (3, 7)) rfl (by decide) (by decide))) (by decide) (zl_lt HX (by decide)) (by decide) fl_X3_24 rfl (zl_rf HX rfl (by decide) (by decide)) ?_
    refine zg_getR E (ci := 2) (j := 0) (r := 132) dX3_read_43 rfl (congrArg Prod.fst (zl_at HX (k := 131) (t := (2, 3)) rfl (by decide) (by decide))) (by decide) (zl_lt HX (by decide)) (by decide) fl_X3_72 rfl (zl_rf HX rfl (by decide) (by decide)) ?_
    refine zg_iload_n dX3_read_46 rfl ?_
    refine zg_iald E (j := p) dX3_read_47 (zl_at HX (k := 132) (t := (10, 16)) rfl (by decide) (by decide)) (by decide) (zl_lt HX (by decide)) rfl (by omega) (by decide) ?_
    refine zg_v (x' := nI (L.1 p)) (hX.2.2.2.1.1 p hp) ?_
    refine zg_istore (lv' := [(4, .int (nI (L.1 p))), (0, .ref 1), (1, .int (nI p)), (2, .int (nI i)), (3, .int (za_bit z))]) dX3_read_48 (by decide) rfl ?_
    refine zg_iload dX3_read_50 rfl ?_
    refine zg_if_ne (tgt := 59) dX3_read_52 (by decide) (fun h52 => ?_) (fun h52 => ?_)
    · have hq : L.1 p ≠ 0 := fun z => h52 (congrArg nI z)
      have h48 := wL.1 p hp
      refine zg_aload_n dX3_read_59 rfl ?_
      refine zg_getR E (ci := 3) (j := 0) (r := 2) dX3_read_60 rfl (congrArg Prod.fst (zl_at HX (k := 1) (t := (3, 7)) rfl (by decide) (by decide))) (by decide) (zl_lt HX (by decide)) (by decide) fl_X3_11 rfl (zl_rf HX rfl (by decide) (by decide)) ?_
      refine zg_iload dX3_read_63 rfl ?_
      refine zg_aald E (j := L.1 p) (r := 3 + (L.1 p)) dX3_read_65 (zl_at HX (k := 2) (t := (13, 48)) rfl (by decide) (by decide)) (by decide) (zl_lt HX (by decide)) rfl h48 (by decide) (zl_rf HX (zl_sec h48).2 (by decide) (by decide)) ?_
      refine zg_iload_n dX3_read_66 rfl ?_
      refine zg_iald E (j := i) dX3_read_67 (zl_at HX (zl_sec (by omega)).1 (by omega) (by omega)) (by omega) (zl_lt HX (by omega)) rfl (by omega) (by decide) ?_
      refine zg_v (x' := nI (D (L.1 p) i)) (hX.1 _ h48 i hi) ?_
      exact zg_iret rfl dX3_read_68 ⟨congrArg (fun x => Sum.inl (some (Value.int (nI x)))) (if_neg hq).symm, zp_same hX⟩
    · have hq : L.1 p = 0 := (nI_eq (by have := wL.1 p hp; omega) (by decide)).mp h52
      refine zg_iconst (v := nI 0) dX3_read_55 (by decide) ?_
      refine zg_goto (tgt := 68) dX3_read_56 (by decide) ?_
      exact zg_iret rfl dX3_read_68 ⟨congrArg (fun x => Sum.inl (some (Value.int (nI x)))) (if_pos hq).symm, zp_same hX⟩
  · exact absurd h13 (by rw [hz]; decide)
set_option maxHeartbeats 4000000 in
set_option maxRecDepth 100000 in
theorem pr_6 {V : zv_V} (E : zv_OK V) {w : zw_W} (HX : zl_X w) {D : Nat → Nat → Nat} {H : za_H} {b : Bool} {L S : za_T} {C : za_C} (hX : zr_X (zw_i w) D H b L S C) (hH : za_WH H) {p : Nat} (hp : p < 16) {i : Nat} (hi : i < 16) (hb : b = false) {z : Bool} (wL : za_WT L) (wC : za_WC C) (hz : z = false) (h0 : C.1 p = 0) : zg_C V zm_X3_read yX3_read 8 190 [.ref 1, .int (nI p), .int (nI i), .int (za_bit z)] w (zq_p (.inl (some (.int (nI (za_lt D L p i))))) (zr_pub w D H b L S C)) := by
  refine zg_of (by decide +kernel) rfl (Nat.le_of_ble_eq_true rfl) ?_
  show zg_G V zm_X3_read 8 190 w.1 w.2.1 0 [] [(0, .ref 1), (1, .int (nI p)), (2, .int (nI i)), (3, .int (za_bit z))] w _
  refine zg_iload_n dX3_read_0 rfl ?_
  refine zg_sret (M := zm_X3_read) E dX3_read_1 (ct_checkPage_ok E HX hp) wd_X3_45 dh_X3_checkPage dn_X3_checkPage (Nat.le_of_ble_eq_true rfl) (Nat.le_of_ble_eq_true rfl) (Nat.le_of_ble_eq_true rfl) (zl_cap HX) rfl (fun w1 g1 => ?_)
  subst w1
  refine zg_iload_n dX3_read_4 rfl ?_
  refine zg_sret (M := zm_X3_read) E dX3_read_5 (ct_checkIndex_ok E HX hi) wd_X3_49 dh_X3_checkIndex dn_X3_checkIndex (Nat.le_of_ble_eq_true rfl) (Nat.le_of_ble_eq_true rfl) (Nat.le_of_ble_eq_true rfl) (zl_cap HX) rfl (fun w5 g5 => ?_)
  subst w5
  refine zg_aload_n dX3_read_8 rfl ?_
  refine zg_vrt (M := zm_X3_read) E (ci := 3) dX3_read_9 (ct_mounted_ok E HX (by rw [hX.2.2.1, hb]; rfl)) wd_X3_55 rfl (congrArg Prod.fst (zl_at HX (k := 1) (t := (3, 7)) rfl (by decide) (by decide))) (by decide) (zl_lt HX (by decide)) rfl dh_X3_checkMounted dn_X3_checkMounted (Nat.le_of_ble_eq_true rfl) (Nat.le_of_ble_eq_true rfl) (Nat.le_of_ble_eq_true rfl) (zl_cap HX) rfl (fun w9 g9 => ?_)
  subst w9
  refine zg_iload_n dX3_read_12 rfl ?_
  refine zg_if_ne (tgt := 39) dX3_read_13 (by decide) (fun h13 => ?_) (fun h13 => ?_)
  · exact absurd h13 (by rw [hz]; decide)
  · refine zg_aload_n dX3_read_16 rfl ?_
    refine zg_getR E (ci := 3) (j := 4) (r := 135) dX3_read_17 rfl (congrArg Prod.fst (zl_at HX (k := 1) (t := (3, 7)) rfl (by decide) (by decide))) (by decide) (zl_lt HX (by decide)) (by decide) fl_X3_34 rfl (zl_rf HX rfl (by decide) (by decide)) ?_
    refine zg_iload_n dX3_read_20 rfl ?_
    refine zg_vrt (M := zm_X3_read) E (ci := 0) dX3_read_21 (kt_has E HX hp hX.2.2.2.2.2 wC (bz := false) ⟨fun z => absurd z (by decide), fun z => absurd h0 z⟩) wd_X3_68 rfl (congrArg Prod.fst (zl_at HX (k := 135) (t := (0, 4)) rfl (by decide) (by decide))) (by decide) (zl_lt HX (by decide)) rfl dh_X0_has dn_X0_has (Nat.le_of_ble_eq_true rfl) (Nat.le_of_ble_eq_true rfl) (Nat.le_of_ble_eq_true rfl) (zl_cap HX) rfl (fun w21 g21 => ?_)
    subst w21
    refine zg_if_eq (tgt := 39) dX3_read_24 (by decide) (fun h24 => ?_) (fun h24 => ?_)
    · refine zg_aload_n dX3_read_39 rfl ?_
      refine zg_getR E (ci := 3) (j := 2) (r := 131) dX3_read_40 rfl (congrArg Prod.fst (zl_at HX (k := 1) (t := (3, 7)) rfl (by decide) (by decide))) (by decide) (zl_lt HX (by decide)) (by decide) fl_X3_24 rfl (zl_rf HX rfl (by decide) (by decide)) ?_
      refine zg_getR E (ci := 2) (j := 0) (r := 132) dX3_read_43 rfl (congrArg Prod.fst (zl_at HX (k := 131) (t := (2, 3)) rfl (by decide) (by decide))) (by decide) (zl_lt HX (by decide)) (by decide) fl_X3_72 rfl (zl_rf HX rfl (by decide) (by decide)) ?_
      refine zg_iload_n dX3_read_46 rfl ?_
      refine zg_iald E (j := p) dX3_read_47 (zl_at HX (k := 132) (t := (10, 16)) rfl (by decide) (by decide)) (by decide) (zl_lt HX (by decide)) rfl (by omega) (by decide) ?_
      refine zg_v (x' := nI (L.1 p)) (hX.2.2.2.1.1 p hp) ?_
      refine zg_istore (lv' := [(4, .int (nI (L.1 p))), (0, .ref 1), (1, .int (nI p)), (2, .int (nI i)), (3, .int (za_bit z))]) dX3_read_48 (by decide) rfl ?_
      refine zg_iload dX3_read_50 rfl ?_
      refine zg_if_ne (tgt := 59) dX3_read_52 (by decide) (fun h52 => ?_) (fun h52 => ?_)
      · have hq : L.1 p ≠ 0 := fun z => h52 (congrArg nI z)
        have h48 := wL.1 p hp
        refine zg_aload_n dX3_read_59 rfl ?_
        refine zg_getR E (ci := 3) (j := 0) (r := 2) dX3_read_60 rfl (congrArg Prod.fst (zl_at HX (k := 1) (t := (3, 7)) rfl (by decide) (by decide))) (by decide) (zl_lt HX (by decide)) (by decide) fl_X3_11 rfl (zl_rf HX rfl (by decide) (by decide)) ?_
        refine zg_iload dX3_read_63 rfl ?_
        refine zg_aald E (j := L.1 p) (r := 3 + (L.1 p)) dX3_read_65 (zl_at HX (k := 2) (t := (13, 48)) rfl (by decide) (by decide)) (by decide) (zl_lt HX (by decide)) rfl h48 (by decide) (zl_rf HX (zl_sec h48).2 (by decide) (by decide)) ?_
        refine zg_iload_n dX3_read_66 rfl ?_
        refine zg_iald E (j := i) dX3_read_67 (zl_at HX (zl_sec (by omega)).1 (by omega) (by omega)) (by omega) (zl_lt HX (by omega)) rfl (by omega) (by decide) ?_
        refine zg_v (x' := nI (D (L.1 p) i)) (hX.1 _ h48 i hi) ?_
        exact zg_iret rfl dX3_read_68 ⟨congrArg (fun x => Sum.inl (some (Value.int (nI x)))) (if_neg hq).symm, zp_same hX⟩
      · have hq : L.1 p = 0 := (nI_eq (by have := wL.1 p hp; omega) (by decide)).mp h52
        refine zg_iconst (v := nI 0) dX3_read_55 (by decide) ?_
        refine zg_goto (tgt := 68) dX3_read_56 (by decide) ?_
        exact zg_iret rfl dX3_read_68 ⟨congrArg (fun x => Sum.inl (some (Value.int (nI x)))) (if_pos hq).symm, zp_same hX⟩
    · exact absurd rfl h24
set_option maxHeartbeats 4000000 in
set_option maxRecDepth 100000 in
theorem ps_1 {V : zv_V} (E : zv_OK V) {w : zw_W} (HX : zl_X w) {D : Nat → Nat → Nat} {H : za_H} {b : Bool} {L S : za_T} {C : za_C} (hX : zr_X (zw_i w) D H b L S C) (hH : za_WH H) {x : Int32} (hx : ∀ n, n < 16 → x ≠ nI n)  : zg_C V zm_X3_spill yX3_spill 8 190 [.ref 1, .int x] w (zq_p (.inr 20) (zr_pub w D H b L S C)) := by
  refine zg_of (by decide +kernel) rfl (Nat.le_of_ble_eq_true rfl) ?_
  show zg_G V zm_X3_spill 8 190 w.1 w.2.1 0 [] [(0, .ref 1), (1, .int x)] w _
  refine zg_iload_n dX3_spill_0 rfl ?_
  refine zg_sthr (M := zm_X3_spill) E dX3_spill_1 (ct_checkPage_no E HX hx) wd_X3_45 dh_X3_checkPage dn_X3_checkPage (Nat.le_of_ble_eq_true rfl) (Nat.le_of_ble_eq_true rfl) (Nat.le_of_ble_eq_true rfl) (zl_cap HX) rfl (fun w1 g1 => ?_)
  subst w1
  exact zg_out rfl ⟨rfl, zp_nw HX hX hH⟩
set_option maxHeartbeats 4000000 in
set_option maxRecDepth 100000 in
theorem ps_2 {V : zv_V} (E : zv_OK V) {w : zw_W} (HX : zl_X w) {D : Nat → Nat → Nat} {H : za_H} {b : Bool} {L S : za_T} {C : za_C} (hX : zr_X (zw_i w) D H b L S C) (hH : za_WH H) {p : Nat} (hp : p < 16) (wC : za_WC C) (h0 : C.1 p = 0) : zg_C V zm_X3_spill yX3_spill 8 190 [.ref 1, .int (nI p)] w (zq_p (.inr 20) (zr_pub w D H b L S C)) := by
  refine zg_of (by decide +kernel) rfl (Nat.le_of_ble_eq_true rfl) ?_
  show zg_G V zm_X3_spill 8 190 w.1 w.2.1 0 [] [(0, .ref 1), (1, .int (nI p))] w _
  refine zg_iload_n dX3_spill_0 rfl ?_
  refine zg_sret (M := zm_X3_spill) E dX3_spill_1 (ct_checkPage_ok E HX hp) wd_X3_45 dh_X3_checkPage dn_X3_checkPage (Nat.le_of_ble_eq_true rfl) (Nat.le_of_ble_eq_true rfl) (Nat.le_of_ble_eq_true rfl) (zl_cap HX) rfl (fun w1 g1 => ?_)
  subst w1
  refine zg_aload_n dX3_spill_4 rfl ?_
  refine zg_getR E (ci := 3) (j := 4) (r := 135) dX3_spill_5 rfl (congrArg Prod.fst (zl_at HX (k := 1) (t := (3, 7)) rfl (by decide) (by decide))) (by decide) (zl_lt HX (by decide)) (by decide) fl_X3_34 rfl (zl_rf HX rfl (by decide) (by decide)) ?_
  refine zg_iload_n dX3_spill_8 rfl ?_
  refine zg_vrt (M := zm_X3_spill) E (ci := 0) dX3_spill_9 (kt_has E HX hp hX.2.2.2.2.2 wC (bz := false) ⟨fun z => absurd z (by decide), fun z => absurd h0 z⟩) wd_X3_68 rfl (congrArg Prod.fst (zl_at HX (k := 135) (t := (0, 4)) rfl (by decide) (by decide))) (by decide) (zl_lt HX (by decide)) rfl dh_X0_has dn_X0_has (Nat.le_of_ble_eq_true rfl) (Nat.le_of_ble_eq_true rfl) (Nat.le_of_ble_eq_true rfl) (zl_cap HX) rfl (fun w9 g9 => ?_)
  subst w9
  refine zg_if_eq (tgt := 27) dX3_spill_12 (by decide) (fun h12 => ?_) (fun h12 => ?_)
  · exact zg_throw (M := zm_X3_spill) E 20 (text := "the page has no change that could be spilled") (by decide) rfl rfl dX3_spill_27 dX3_spill_30 dX3_spill_31 dX3_spill_33 dX3_spill_36 (by decide +kernel) (by decide +kernel) (by decide +kernel) tw_20_83 (zt_cap HX).1 (zt_cap HX).2.1 (zt_cap HX).2.2 (Nat.le_of_ble_eq_true rfl) (Nat.le_of_ble_eq_true rfl) ⟨rfl, zp_nw HX hX hH⟩
  · exact absurd rfl h12
set_option maxHeartbeats 4000000 in
set_option maxRecDepth 100000 in
theorem ps_3 {V : zv_V} (E : zv_OK V) {w : zw_W} (HX : zl_X w) {D : Nat → Nat → Nat} {H : za_H} {b : Bool} {L S : za_T} {C : za_C} (hX : zr_X (zw_i w) D H b L S C) (hH : za_WH H) {p : Nat} (hp : p < 16) (wC : za_WC C) (h0 : C.1 p ≠ 0) (hz : C.2.2 p = true) : zg_C V zm_X3_spill yX3_spill 8 190 [.ref 1, .int (nI p)] w (zq_p (.inr 20) (zr_pub w D H b L S C)) := by
  refine zg_of (by decide +kernel) rfl (Nat.le_of_ble_eq_true rfl) ?_
  show zg_G V zm_X3_spill 8 190 w.1 w.2.1 0 [] [(0, .ref 1), (1, .int (nI p))] w _
  refine zg_iload_n dX3_spill_0 rfl ?_
  refine zg_sret (M := zm_X3_spill) E dX3_spill_1 (ct_checkPage_ok E HX hp) wd_X3_45 dh_X3_checkPage dn_X3_checkPage (Nat.le_of_ble_eq_true rfl) (Nat.le_of_ble_eq_true rfl) (Nat.le_of_ble_eq_true rfl) (zl_cap HX) rfl (fun w1 g1 => ?_)
  subst w1
  refine zg_aload_n dX3_spill_4 rfl ?_
  refine zg_getR E (ci := 3) (j := 4) (r := 135) dX3_spill_5 rfl (congrArg Prod.fst (zl_at HX (k := 1) (t := (3, 7)) rfl (by decide) (by decide))) (by decide) (zl_lt HX (by decide)) (by decide) fl_X3_34 rfl (zl_rf HX rfl (by decide) (by decide)) ?_
  refine zg_iload_n dX3_spill_8 rfl ?_
  refine zg_vrt (M := zm_X3_spill) E (ci := 0) dX3_spill_9 (kt_has E HX hp hX.2.2.2.2.2 wC (bz := true) ⟨fun _ => h0, fun _ => rfl⟩) wd_X3_68 rfl (congrArg Prod.fst (zl_at HX (k := 135) (t := (0, 4)) rfl (by decide) (by decide))) (by decide) (zl_lt HX (by decide)) rfl dh_X0_has dn_X0_has (Nat.le_of_ble_eq_true rfl) (Nat.le_of_ble_eq_true rfl) (Nat.le_of_ble_eq_true rfl) (zl_cap HX) rfl (fun w9 g9 => ?_)
  subst w9
  refine zg_if_eq (tgt := 27) dX3_spill_12 (by decide) (fun h12 => ?_) (fun h12 => ?_)
  · exact absurd h12 (by decide)
  · refine zg_aload_n dX3_spill_15 rfl ?_
    refine zg_getR E (ci := 3) (j := 4) (r := 135) dX3_spill_16 rfl (congrArg Prod.fst (zl_at HX (k := 1) (t := (3, 7)) rfl (by decide) (by decide))) (by decide) (zl_lt HX (by decide)) (by decide) fl_X3_34 rfl (zl_rf HX rfl (by decide) (by decide)) ?_
    refine zg_getR E (ci := 0) (j := 2) (r := 154) dX3_spill_19 rfl (congrArg Prod.fst (zl_at HX (k := 135) (t := (0, 4)) rfl (by decide) (by decide))) (by decide) (zl_lt HX (by decide)) (by decide) fl_X3_75 rfl (zl_rf HX rfl (by decide) (by decide)) ?_
    refine zg_iload_n dX3_spill_22 rfl ?_
    refine zg_zald E (j := p) dX3_spill_23 (zl_at HX (k := 154) (t := (11, 16)) rfl (by decide) (by decide)) (by decide) (zl_lt HX (by decide)) rfl (by omega) (by decide) ?_
    refine zg_v (x' := za_bit (C.2.2 p)) ((hX.2.2.2.2.2.2.2 p hp h0).2) ?_
    refine zg_if_eq (tgt := 37) dX3_spill_24 (by decide) (fun h24 => ?_) (fun h24 => ?_)
    · exact absurd h24 (by rw [hz]; decide)
    · exact zg_throw (M := zm_X3_spill) E 20 (text := "the page has no change that could be spilled") (by decide) rfl rfl dX3_spill_27 dX3_spill_30 dX3_spill_31 dX3_spill_33 dX3_spill_36 (by decide +kernel) (by decide +kernel) (by decide +kernel) tw_20_83 (zt_cap HX).1 (zt_cap HX).2.1 (zt_cap HX).2.2 (Nat.le_of_ble_eq_true rfl) (Nat.le_of_ble_eq_true rfl) ⟨rfl, zp_nw HX hX hH⟩
set_option maxHeartbeats 4000000 in
set_option maxRecDepth 100000 in
theorem ps_4 {V : zv_V} (E : zv_OK V) {w : zw_W} (HX : zl_X w) {D : Nat → Nat → Nat} {H : za_H} {b : Bool} {L S : za_T} {C : za_C} (hX : zr_X (zw_i w) D H b L S C) (hH : za_WH H) {p : Nat} (hp : p < 16) (wC : za_WC C) (h0 : C.1 p ≠ 0) (hz : C.2.2 p = false) (h60 : 60 ≤ H.1) : zg_C V zm_X3_spill yX3_spill 8 190 [.ref 1, .int (nI p)] w (zq_p (.inr 21) (zr_pub w D H b L S C)) := by
  refine zg_of (by decide +kernel) rfl (Nat.le_of_ble_eq_true rfl) ?_
  show zg_G V zm_X3_spill 8 190 w.1 w.2.1 0 [] [(0, .ref 1), (1, .int (nI p))] w _
  refine zg_iload_n dX3_spill_0 rfl ?_
  refine zg_sret (M := zm_X3_spill) E dX3_spill_1 (ct_checkPage_ok E HX hp) wd_X3_45 dh_X3_checkPage dn_X3_checkPage (Nat.le_of_ble_eq_true rfl) (Nat.le_of_ble_eq_true rfl) (Nat.le_of_ble_eq_true rfl) (zl_cap HX) rfl (fun w1 g1 => ?_)
  subst w1
  refine zg_aload_n dX3_spill_4 rfl ?_
  refine zg_getR E (ci := 3) (j := 4) (r := 135) dX3_spill_5 rfl (congrArg Prod.fst (zl_at HX (k := 1) (t := (3, 7)) rfl (by decide) (by decide))) (by decide) (zl_lt HX (by decide)) (by decide) fl_X3_34 rfl (zl_rf HX rfl (by decide) (by decide)) ?_
  refine zg_iload_n dX3_spill_8 rfl ?_
  refine zg_vrt (M := zm_X3_spill) E (ci := 0) dX3_spill_9 (kt_has E HX hp hX.2.2.2.2.2 wC (bz := true) ⟨fun _ => h0, fun _ => rfl⟩) wd_X3_68 rfl (congrArg Prod.fst (zl_at HX (k := 135) (t := (0, 4)) rfl (by decide) (by decide))) (by decide) (zl_lt HX (by decide)) rfl dh_X0_has dn_X0_has (Nat.le_of_ble_eq_true rfl) (Nat.le_of_ble_eq_true rfl) (Nat.le_of_ble_eq_true rfl) (zl_cap HX) rfl (fun w9 g9 => ?_)
  subst w9
  refine zg_if_eq (tgt := 27) dX3_spill_12 (by decide) (fun h12 => ?_) (fun h12 => ?_)
  · exact absurd h12 (by decide)
  · refine zg_aload_n dX3_spill_15 rfl ?_
    refine zg_getR E (ci := 3) (j := 4) (r := 135) dX3_spill_16 rfl (congrArg Prod.fst (zl_at HX (k := 1) (t := (3, 7)) rfl (by decide) (by decide))) (by decide) (zl_lt HX (by decide)) (by decide) fl_X3_34 rfl (zl_rf HX rfl (by decide) (by decide)) ?_
    refine zg_getR E (ci := 0) (j := 2) (r := 154) dX3_spill_19 rfl (congrArg Prod.fst (zl_at HX (k := 135) (t := (0, 4)) rfl (by decide) (by decide))) (by decide) (zl_lt HX (by decide)) (by decide) fl_X3_75 rfl (zl_rf HX rfl (by decide) (by decide)) ?_
    refine zg_iload_n dX3_spill_22 rfl ?_
    refine zg_zald E (j := p) dX3_spill_23 (zl_at HX (k := 154) (t := (11, 16)) rfl (by decide) (by decide)) (by decide) (zl_lt HX (by decide)) rfl (by omega) (by decide) ?_
    refine zg_v (x' := za_bit (C.2.2 p)) ((hX.2.2.2.2.2.2.2 p hp h0).2) ?_
    refine zg_if_eq (tgt := 37) dX3_spill_24 (by decide) (fun h24 => ?_) (fun h24 => ?_)
    · refine zg_aload_n dX3_spill_37 rfl ?_
      refine zg_getR E (ci := 3) (j := 1) (r := 51) dX3_spill_38 rfl (congrArg Prod.fst (zl_at HX (k := 1) (t := (3, 7)) rfl (by decide) (by decide))) (by decide) (zl_lt HX (by decide)) (by decide) fl_X3_17 rfl (zl_rf HX rfl (by decide) (by decide)) ?_
      refine zg_getI E (ci := 1) (j := 2) dX3_spill_41 rfl (congrArg Prod.fst (zl_at HX (k := 51) (t := (1, 3)) rfl (by decide) (by decide))) (by decide) (zl_lt HX (by decide)) (by decide) fl_X3_86 rfl ?_
      refine zg_v (x' := nI H.1) hX.2.1.1 ?_
      refine zg_bipush (v := nI 60) dX3_spill_44 (by decide) ?_
      refine zg_icmp_lt (tgt := 59) dX3_spill_46 (by decide) (fun h46 => ?_) (fun h46 => ?_)
      · exact absurd h46 (nI_nlt h60 (by have := hH.1; omega))
      · exact zg_throw (M := zm_X3_spill) E 21 (text := "too many writes are held back") (by decide) rfl rfl dX3_spill_49 dX3_spill_52 dX3_spill_53 dX3_spill_55 dX3_spill_58 (by decide +kernel) (by decide +kernel) (by decide +kernel) tw_21_93 (zt_cap HX).1 (zt_cap HX).2.1 (zt_cap HX).2.2 (Nat.le_of_ble_eq_true rfl) (Nat.le_of_ble_eq_true rfl) ⟨rfl, zp_nw HX hX hH⟩
    · exact absurd (by rw [hz]; rfl) h24
set_option maxHeartbeats 4000000 in
set_option maxRecDepth 100000 in
theorem ps_5 {V : zv_V} (E : zv_OK V) {w : zw_W} (HX : zl_X w) {D : Nat → Nat → Nat} {H : za_H} {b : Bool} {L S : za_T} {C : za_C} (hX : zr_X (zw_i w) D H b L S C) (hH : za_WH H) {p : Nat} (hp : p < 16) (wC : za_WC C) (h0 : C.1 p ≠ 0) (hz : C.2.2 p = false) (h60 : H.1 < 60) : zg_C V zm_X3_spill yX3_spill 8 190 [.ref 1, .int (nI p)] w (zq_p (.inl (some (.int (nI (H.1 + 1))))) (zr_pub w D (za_hold H (C.1 p) (C.2.1 p)) b L S (za_spl C p true))) := by
  refine zg_of (by decide +kernel) rfl (Nat.le_of_ble_eq_true rfl) ?_
  show zg_G V zm_X3_spill 8 190 w.1 w.2.1 0 [] [(0, .ref 1), (1, .int (nI p))] w _
  refine zg_iload_n dX3_spill_0 rfl ?_
  refine zg_sret (M := zm_X3_spill) E dX3_spill_1 (ct_checkPage_ok E HX hp) wd_X3_45 dh_X3_checkPage dn_X3_checkPage (Nat.le_of_ble_eq_true rfl) (Nat.le_of_ble_eq_true rfl) (Nat.le_of_ble_eq_true rfl) (zl_cap HX) rfl (fun w1 g1 => ?_)
  subst w1
  refine zg_aload_n dX3_spill_4 rfl ?_
  refine zg_getR E (ci := 3) (j := 4) (r := 135) dX3_spill_5 rfl (congrArg Prod.fst (zl_at HX (k := 1) (t := (3, 7)) rfl (by decide) (by decide))) (by decide) (zl_lt HX (by decide)) (by decide) fl_X3_34 rfl (zl_rf HX rfl (by decide) (by decide)) ?_
  refine zg_iload_n dX3_spill_8 rfl ?_
  refine zg_vrt (M := zm_X3_spill) E (ci := 0) dX3_spill_9 (kt_has E HX hp hX.2.2.2.2.2 wC (bz := true) ⟨fun _ => h0, fun _ => rfl⟩) wd_X3_68 rfl (congrArg Prod.fst (zl_at HX (k := 135) (t := (0, 4)) rfl (by decide) (by decide))) (by decide) (zl_lt HX (by decide)) rfl dh_X0_has dn_X0_has (Nat.le_of_ble_eq_true rfl) (Nat.le_of_ble_eq_true rfl) (Nat.le_of_ble_eq_true rfl) (zl_cap HX) rfl (fun w9 g9 => ?_)
  subst w9
  refine zg_if_eq (tgt := 27) dX3_spill_12 (by decide) (fun h12 => ?_) (fun h12 => ?_)
  · exact absurd h12 (by decide)
  · refine zg_aload_n dX3_spill_15 rfl ?_
    refine zg_getR E (ci := 3) (j := 4) (r := 135) dX3_spill_16 rfl (congrArg Prod.fst (zl_at HX (k := 1) (t := (3, 7)) rfl (by decide) (by decide))) (by decide) (zl_lt HX (by decide)) (by decide) fl_X3_34 rfl (zl_rf HX rfl (by decide) (by decide)) ?_
    refine zg_getR E (ci := 0) (j := 2) (r := 154) dX3_spill_19 rfl (congrArg Prod.fst (zl_at HX (k := 135) (t := (0, 4)) rfl (by decide) (by decide))) (by decide) (zl_lt HX (by decide)) (by decide) fl_X3_75 rfl (zl_rf HX rfl (by decide) (by decide)) ?_
    refine zg_iload_n dX3_spill_22 rfl ?_
    refine zg_zald E (j := p) dX3_spill_23 (zl_at HX (k := 154) (t := (11, 16)) rfl (by decide) (by decide)) (by decide) (zl_lt HX (by decide)) rfl (by omega) (by decide) ?_
    refine zg_v (x' := za_bit (C.2.2 p)) ((hX.2.2.2.2.2.2.2 p hp h0).2) ?_
    refine zg_if_eq (tgt := 37) dX3_spill_24 (by decide) (fun h24 => ?_) (fun h24 => ?_)
    · refine zg_aload_n dX3_spill_37 rfl ?_
      refine zg_getR E (ci := 3) (j := 1) (r := 51) dX3_spill_38 rfl (congrArg Prod.fst (zl_at HX (k := 1) (t := (3, 7)) rfl (by decide) (by decide))) (by decide) (zl_lt HX (by decide)) (by decide) fl_X3_17 rfl (zl_rf HX rfl (by decide) (by decide)) ?_
      refine zg_getI E (ci := 1) (j := 2) dX3_spill_41 rfl (congrArg Prod.fst (zl_at HX (k := 51) (t := (1, 3)) rfl (by decide) (by decide))) (by decide) (zl_lt HX (by decide)) (by decide) fl_X3_86 rfl ?_
      refine zg_v (x' := nI H.1) hX.2.1.1 ?_
      refine zg_bipush (v := nI 60) dX3_spill_44 (by decide) ?_
      refine zg_icmp_lt (tgt := 59) dX3_spill_46 (by decide) (fun h46 => ?_) (fun h46 => ?_)
      · refine zg_aload_n dX3_spill_59 rfl ?_
        refine zg_iload_n dX3_spill_60 rfl ?_
        refine zg_vrt (M := zm_X3_spill) E (ci := 3) dX3_spill_61 (kt_holdBack E HX hp hX hH h0 (by omega)) wd_X3_94 rfl (congrArg Prod.fst (zl_at HX (k := 1) (t := (3, 7)) rfl (by decide) (by decide))) (by decide) (zl_lt HX (by decide)) rfl dh_X3_holdBackPage dn_X3_holdBackPage (Nat.le_of_ble_eq_true rfl) (Nat.le_of_ble_eq_true rfl) (Nat.le_of_ble_eq_true rfl) (zl_cap HX) rfl (fun w61 g61 => ?_)
        obtain ⟨J1, rfl, r1, f1⟩ := g61
        refine zg_w (w' := zw_I w J1) rfl ?_
        refine zg_aload_n dX3_spill_64 rfl ?_
        refine zg_getR E (ci := 3) (j := 1) (r := 51) dX3_spill_65 rfl (congrArg Prod.fst (zl_at HX (k := 1) (t := (3, 7)) rfl (by decide) (by decide))) (by decide) (zl_lt HX (by decide)) (by decide) fl_X3_17 rfl (zl_rf HX rfl (by decide) (by decide)) ?_
        refine zg_getI E (ci := 1) (j := 2) dX3_spill_68 rfl (congrArg Prod.fst (zl_at HX (k := 51) (t := (1, 3)) rfl (by decide) (by decide))) (by decide) (zl_lt HX (by decide)) (by decide) fl_X3_86 rfl ?_
        refine zg_v (x' := nI (H.1 + 1)) r1.2.1.1 ?_
        exact zg_iret rfl dX3_spill_71 ⟨rfl, zp_to (by decide) ⟨_, rfl, r1, f1⟩⟩
      · exact absurd (nI_lt h60 (by decide)) h46
    · exact absurd (by rw [hz]; rfl) h24

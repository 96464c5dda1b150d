/-! The class's public methods, on. -/
set_option maxHeartbeats 4000000 in
set_option maxRecDepth 100000 in
theorem pd_1 {V : zv_V} (E : zv_OK V) {w : zw_W} (HX : zl_X w) {D : Nat → Nat → Nat} {H : za_H} {b : Bool} {L S : za_T} {C : za_C} (hX : zr_X (zw_i w) D H b L S C) (hH : za_WH H) {x : Int32} (hx : ∀ n, n < 48 → x ≠ nI n) {u v : Int32} : zg_C V zm_X3_damage yX3_damage 8 190 [.ref 1, .int x, .int u, .int v] w (zq_p (.inr 20) (zr_pub w D H b L S C)) := by
  refine zg_of (by decide +kernel) rfl (Nat.le_of_ble_eq_true rfl) ?_
  show zg_G V zm_X3_damage 8 190 w.1 w.2.1 0 [] [(0, .ref 1), (1, .int x), (2, .int u), (3, .int v)] w _
  refine zg_iload_n dX3_damage_0 rfl ?_
  refine zg_sthr (M := zm_X3_damage) E dX3_damage_1 (ct_checkSector_no E HX hx) wd_X3_135 dh_X3_checkSector dn_X3_checkSector (Nat.le_of_ble_eq_true rfl) (Nat.le_of_ble_eq_true rfl) (Nat.le_of_ble_eq_true rfl) (zl_cap HX) rfl (fun w1 g1 => ?_)
  subst w1
  exact zg_out rfl ⟨rfl, zp_nw HX hX hH⟩
set_option maxHeartbeats 4000000 in
set_option maxRecDepth 100000 in
theorem pd_2 {V : zv_V} (E : zv_OK V) {w : zw_W} (HX : zl_X w) {D : Nat → Nat → Nat} {H : za_H} {b : Bool} {L S : za_T} {C : za_C} (hX : zr_X (zw_i w) D H b L S C) (hH : za_WH H) {s : Nat} (hs : s < 48) {x : Int32} (hx : ∀ n, n < 16 → x ≠ nI n) {v : Int32} : zg_C V zm_X3_damage yX3_damage 8 190 [.ref 1, .int (nI s), .int x, .int v] w (zq_p (.inr 20) (zr_pub w D H b L S C)) := by
  refine zg_of (by decide +kernel) rfl (Nat.le_of_ble_eq_true rfl) ?_
  show zg_G V zm_X3_damage 8 190 w.1 w.2.1 0 [] [(0, .ref 1), (1, .int (nI s)), (2, .int x), (3, .int v)] w _
  refine zg_iload_n dX3_damage_0 rfl ?_
  refine zg_sret (M := zm_X3_damage) E dX3_damage_1 (ct_checkSector_ok E HX hs) wd_X3_135 dh_X3_checkSector dn_X3_checkSector (Nat.le_of_ble_eq_true rfl) (Nat.le_of_ble_eq_true rfl) (Nat.le_of_ble_eq_true rfl) (zl_cap HX) rfl (fun w1 g1 => ?_)
  subst w1
  refine zg_iload_n dX3_damage_4 rfl ?_
  refine zg_sthr (M := zm_X3_damage) E dX3_damage_5 (ct_checkIndex_no E HX hx) wd_X3_49 dh_X3_checkIndex dn_X3_checkIndex (Nat.le_of_ble_eq_true rfl) (Nat.le_of_ble_eq_true rfl) (Nat.le_of_ble_eq_true rfl) (zl_cap HX) rfl (fun w5 g5 => ?_)
  subst w5
  exact zg_out rfl ⟨rfl, zp_nw HX hX hH⟩
set_option maxHeartbeats 4000000 in
set_option maxRecDepth 100000 in
theorem pd_3 {V : zv_V} (E : zv_OK V) {w : zw_W} (HX : zl_X w) {D : Nat → Nat → Nat} {H : za_H} {b : Bool} {L S : za_T} {C : za_C} (hX : zr_X (zw_i w) D H b L S C) (hH : za_WH H) {s : Nat} (hs : s < 48) {i : Nat} (hi : i < 16) {x : Int32} (hx : ∀ n, n < 256 → x ≠ nI n) : zg_C V zm_X3_damage yX3_damage 8 190 [.ref 1, .int (nI s), .int (nI i), .int x] w (zq_p (.inr 20) (zr_pub w D H b L S C)) := by
  refine zg_of (by decide +kernel) rfl (Nat.le_of_ble_eq_true rfl) ?_
  show zg_G V zm_X3_damage 8 190 w.1 w.2.1 0 [] [(0, .ref 1), (1, .int (nI s)), (2, .int (nI i)), (3, .int x)] w _
  refine zg_iload_n dX3_damage_0 rfl ?_
  refine zg_sret (M := zm_X3_damage) E dX3_damage_1 (ct_checkSector_ok E HX hs) wd_X3_135 dh_X3_checkSector dn_X3_checkSector (Nat.le_of_ble_eq_true rfl) (Nat.le_of_ble_eq_true rfl) (Nat.le_of_ble_eq_true rfl) (zl_cap HX) rfl (fun w1 g1 => ?_)
  subst w1
  refine zg_iload_n dX3_damage_4 rfl ?_
  refine zg_sret (M := zm_X3_damage) E dX3_damage_5 (ct_checkIndex_ok E HX hi) wd_X3_49 dh_X3_checkIndex dn_X3_checkIndex (Nat.le_of_ble_eq_true rfl) (Nat.le_of_ble_eq_true rfl) (Nat.le_of_ble_eq_true rfl) (zl_cap HX) rfl (fun w5 g5 => ?_)
  subst w5
  refine zg_iload_n dX3_damage_8 rfl ?_
  refine zg_sthr (M := zm_X3_damage) E dX3_damage_9 (ct_checkByte_no E HX hx) wd_X3_52 dh_X3_checkByte dn_X3_checkByte (Nat.le_of_ble_eq_true rfl) (Nat.le_of_ble_eq_true rfl) (Nat.le_of_ble_eq_true rfl) (zl_cap HX) rfl (fun w9 g9 => ?_)
  subst w9
  exact zg_out rfl ⟨rfl, zp_nw HX hX hH⟩
def za_dam (D : Nat → Nat → Nat) (s i y : Nat) : Nat → Nat → Nat := zw_up D s i y
theorem zk_dam {I J : Nat → Nat → Int32} {D : Nat → Nat → Nat} {s i y : Nat} (h : zr_D I D) (g : J = zw_up I (3 + s) i (nI y)) : zr_D J (za_dam D s i y) := by
  subst g
  intro t ht j hj
  unfold za_dam
  by_cases e : t = s ∧ j = i
  · rw [e.1, e.2, zw_up_s, zw_up_s]
  · have e' : t ≠ s ∨ j ≠ i := by
      rcases Nat.decEq t s with a | a
      · exact Or.inl a
      · exact Or.inr (fun z => e ⟨a, z⟩)
    rw [zw_up_n _ _ e', zw_up_n _ _ (e'.imp (fun z => by omega) id)]
    exact h t ht j hj
set_option maxHeartbeats 4000000 in
set_option maxRecDepth 100000 in
theorem pd_4 {V : zv_V} (E : zv_OK V) {w : zw_W} (HX : zl_X w) {D : Nat → Nat → Nat} {H : za_H} {b : Bool} {L S : za_T} {C : za_C} (hX : zr_X (zw_i w) D H b L S C) (hH : za_WH H) {s : Nat} (hs : s < 48) {i : Nat} (hi : i < 16) {y : Nat} (hy : y < 256)  : zg_C V zm_X3_damage yX3_damage 8 190 [.ref 1, .int (nI s), .int (nI i), .int (nI y)] w (zq_p (.inl (some (.int (nI (D s i))))) (zr_pub w (za_dam D s i y) H b L S C)) := by
  refine zg_of (by decide +kernel) rfl (Nat.le_of_ble_eq_true rfl) ?_
  show zg_G V zm_X3_damage 8 190 w.1 w.2.1 0 [] [(0, .ref 1), (1, .int (nI s)), (2, .int (nI i)), (3, .int (nI y))] w _
  refine zg_iload_n dX3_damage_0 rfl ?_
  refine zg_sret (M := zm_X3_damage) E dX3_damage_1 (ct_checkSector_ok E HX hs) wd_X3_135 dh_X3_checkSector dn_X3_checkSector (Nat.le_of_ble_eq_true rfl) (Nat.le_of_ble_eq_true rfl) (Nat.le_of_ble_eq_true rfl) (zl_cap HX) rfl (fun w1 g1 => ?_)
  subst w1
  refine zg_iload_n dX3_damage_4 rfl ?_
  refine zg_sret (M := zm_X3_damage) E dX3_damage_5 (ct_checkIndex_ok E HX hi) wd_X3_49 dh_X3_checkIndex dn_X3_checkIndex (Nat.le_of_ble_eq_true rfl) (Nat.le_of_ble_eq_true rfl) (Nat.le_of_ble_eq_true rfl) (zl_cap HX) rfl (fun w5 g5 => ?_)
  subst w5
  refine zg_iload_n dX3_damage_8 rfl ?_
  refine zg_sret (M := zm_X3_damage) E dX3_damage_9 (ct_checkByte_ok E HX hy) wd_X3_52 dh_X3_checkByte dn_X3_checkByte (Nat.le_of_ble_eq_true rfl) (Nat.le_of_ble_eq_true rfl) (Nat.le_of_ble_eq_true rfl) (zl_cap HX) rfl (fun w9 g9 => ?_)
  subst w9
  refine zg_aload_n dX3_damage_12 rfl ?_
  refine zg_getR E (ci := 3) (j := 0) (r := 2) dX3_damage_13 rfl (congrArg Prod.fst (zl_at HX (k := 1) (t := (3, 7)) rfl (by decide) (by decide))) (by decide) (zl_lt HX (by decide)) (by decide) fl_X3_11 rfl (zl_rf HX rfl (by decide) (by decide)) ?_
  refine zg_iload_n dX3_damage_16 rfl ?_
  refine zg_aald E (j := s) (r := 3 + s) dX3_damage_17 (zl_at HX (k := 2) (t := (13, 48)) rfl (by decide) (by decide)) (by decide) (zl_lt HX (by decide)) rfl (by omega) (by decide) (zl_rf HX (zl_sec (by omega)).2 (by decide) (by decide)) ?_
  refine zg_iload_n dX3_damage_18 rfl ?_
  refine zg_iald E (j := i) dX3_damage_19 (zl_at HX (zl_sec (by omega)).1 (by omega) (by omega)) (by omega) (zl_lt HX (by omega)) rfl (by omega) (by decide) ?_
  refine zg_v (x' := nI (D s i)) (hX.1 s hs i hi) ?_
  refine zg_istore (lv' := [(4, .int (nI (D s i))), (0, .ref 1), (1, .int (nI s)), (2, .int (nI i)), (3, .int (nI y))]) dX3_damage_20 (by decide) rfl ?_
  refine zg_aload_n dX3_damage_22 rfl ?_
  refine zg_getR E (ci := 3) (j := 0) (r := 2) dX3_damage_23 rfl (congrArg Prod.fst (zl_at HX (k := 1) (t := (3, 7)) rfl (by decide) (by decide))) (by decide) (zl_lt HX (by decide)) (by decide) fl_X3_11 rfl (zl_rf HX rfl (by decide) (by decide)) ?_
  refine zg_iload_n dX3_damage_26 rfl ?_
  refine zg_aald E (j := s) (r := 3 + s) dX3_damage_27 (zl_at HX (k := 2) (t := (13, 48)) rfl (by decide) (by decide)) (by decide) (zl_lt HX (by decide)) rfl (by omega) (by decide) (zl_rf HX (zl_sec (by omega)).2 (by decide) (by decide)) ?_
  refine zg_iload_n dX3_damage_28 rfl ?_
  refine zg_iload_n dX3_damage_29 rfl ?_
  refine zg_iast E (j := i) dX3_damage_30 (zl_at HX (zl_sec (by omega)).1 (by omega) (by omega)) (by omega) (zl_lt HX (by omega)) rfl (by omega) (by decide) ?_
  refine zg_iload dX3_damage_31 rfl ?_
  exact zg_iret rfl dX3_damage_33 ⟨rfl, zp_to (lo := 3) (hi := 51) (by decide) ⟨_, rfl, zr_Xd hX hH.1 (zk_dam hX.1 rfl) (fun a ha => zw_up_row _ _ _ (by omega)), fun a ha => zw_up_row _ _ _ (by omega)⟩⟩
set_option maxHeartbeats 4000000 in
set_option maxRecDepth 100000 in
theorem pk_1 {V : zv_V} (E : zv_OK V) {w : zw_W} (HX : zl_X w) {D : Nat → Nat → Nat} {H : za_H} {b : Bool} {L S : za_T} {C : za_C} (hX : zr_X (zw_i w) D H b L S C) (hH : za_WH H) {x : Int32} (hx : ∀ n, n < 48 → x ≠ nI n) {u : Int32} : zg_C V zm_X3_disk yX3_disk 8 190 [.ref 1, .int x, .int u] w (zq_p (.inr 20) (zr_pub w D H b L S C)) := by
  refine zg_of (by decide +kernel) rfl (Nat.le_of_ble_eq_true rfl) ?_
  show zg_G V zm_X3_disk 8 190 w.1 w.2.1 0 [] [(0, .ref 1), (1, .int x), (2, .int u)] w _
  refine zg_iload_n dX3_disk_0 rfl ?_
  refine zg_sthr (M := zm_X3_disk) E dX3_disk_1 (ct_checkSector_no E HX hx) wd_X3_135 dh_X3_checkSector dn_X3_checkSector (Nat.le_of_ble_eq_true rfl) (Nat.le_of_ble_eq_true rfl) (Nat.le_of_ble_eq_true rfl) (zl_cap HX) rfl (fun w1 g1 => ?_)
  subst w1
  exact zg_out rfl ⟨rfl, zp_nw HX hX hH⟩
set_option maxHeartbeats 4000000 in
set_option maxRecDepth 100000 in
theorem pk_2 {V : zv_V} (E : zv_OK V) {w : zw_W} (HX : zl_X w) {D : Nat → Nat → Nat} {H : za_H} {b : Bool} {L S : za_T} {C : za_C} (hX : zr_X (zw_i w) D H b L S C) (hH : za_WH H) {s : Nat} (hs : s < 48) {x : Int32} (hx : ∀ n, n < 16 → x ≠ nI n)  : zg_C V zm_X3_disk yX3_disk 8 190 [.ref 1, .int (nI s), .int x] w (zq_p (.inr 20) (zr_pub w D H b L S C)) := by
  refine zg_of (by decide +kernel) rfl (Nat.le_of_ble_eq_true rfl) ?_
  show zg_G V zm_X3_disk 8 190 w.1 w.2.1 0 [] [(0, .ref 1), (1, .int (nI s)), (2, .int x)] w _
  refine zg_iload_n dX3_disk_0 rfl ?_
  refine zg_sret (M := zm_X3_disk) E dX3_disk_1 (ct_checkSector_ok E HX hs) wd_X3_135 dh_X3_checkSector dn_X3_checkSector (Nat.le_of_ble_eq_true rfl) (Nat.le_of_ble_eq_true rfl) (Nat.le_of_ble_eq_true rfl) (zl_cap HX) rfl (fun w1 g1 => ?_)
  subst w1
  refine zg_iload_n dX3_disk_4 rfl ?_
  refine zg_sthr (M := zm_X3_disk) E dX3_disk_5 (ct_checkIndex_no E HX hx) wd_X3_49 dh_X3_checkIndex dn_X3_checkIndex (Nat.le_of_ble_eq_true rfl) (Nat.le_of_ble_eq_true rfl) (Nat.le_of_ble_eq_true rfl) (zl_cap HX) rfl (fun w5 g5 => ?_)
  subst w5
  exact zg_out rfl ⟨rfl, zp_nw HX hX hH⟩
set_option maxHeartbeats 4000000 in
set_option maxRecDepth 100000 in
theorem pk_3 {V : zv_V} (E : zv_OK V) {w : zw_W} (HX : zl_X w) {D : Nat → Nat → Nat} {H : za_H} {b : Bool} {L S : za_T} {C : za_C} (hX : zr_X (zw_i w) D H b L S C) (hH : za_WH H) {s : Nat} (hs : s < 48) {i : Nat} (hi : i < 16)  : zg_C V zm_X3_disk yX3_disk 8 190 [.ref 1, .int (nI s), .int (nI i)] w (zq_p (.inl (some (.int (nI (D s i))))) (zr_pub w D H b L S C)) := by
  refine zg_of (by decide +kernel) rfl (Nat.le_of_ble_eq_true rfl) ?_
  show zg_G V zm_X3_disk 8 190 w.1 w.2.1 0 [] [(0, .ref 1), (1, .int (nI s)), (2, .int (nI i))] w _
  refine zg_iload_n dX3_disk_0 rfl ?_
  refine zg_sret (M := zm_X3_disk) E dX3_disk_1 (ct_checkSector_ok E HX hs) wd_X3_135 dh_X3_checkSector dn_X3_checkSector (Nat.le_of_ble_eq_true rfl) (Nat.le_of_ble_eq_true rfl) (Nat.le_of_ble_eq_true rfl) (zl_cap HX) rfl (fun w1 g1 => ?_)
  subst w1
  refine zg_iload_n dX3_disk_4 rfl ?_
  refine zg_sret (M := zm_X3_disk) E dX3_disk_5 (ct_checkIndex_ok E HX hi) wd_X3_49 dh_X3_checkIndex dn_X3_checkIndex (Nat.le_of_ble_eq_true rfl) (Nat.le_of_ble_eq_true rfl) (Nat.le_of_ble_eq_true rfl) (zl_cap HX) rfl (fun w5 g5 => ?_)
  subst w5
  refine zg_aload_n dX3_disk_8 rfl ?_
  refine zg_getR E (ci := 3) (j := 0) (r := 2) dX3_disk_9 rfl (congrArg Prod.fst (zl_at HX (k := 1) (t := (3, 7)) rfl (by decide) (by decide))) (by decide) (zl_lt HX (by decide)) (by decide) fl_X3_11 rfl (zl_rf HX rfl (by decide) (by decide)) ?_
  refine zg_iload_n dX3_disk_12 rfl ?_
  refine zg_aald E (j := s) (r := 3 + s) dX3_disk_13 (zl_at HX (k := 2) (t := (13, 48)) rfl (by decide) (by decide)) (by decide) (zl_lt HX (by decide)) rfl (by omega) (by decide) (zl_rf HX (zl_sec (by omega)).2 (by decide) (by decide)) ?_
  refine zg_iload_n dX3_disk_14 rfl ?_
  refine zg_iald E (j := i) dX3_disk_15 (zl_at HX (zl_sec (by omega)).1 (by omega) (by omega)) (by omega) (zl_lt HX (by omega)) rfl (by omega) (by decide) ?_
  refine zg_v (x' := nI (D s i)) (hX.1 s hs i hi) ?_
  exact zg_iret rfl dX3_disk_16 ⟨rfl, zp_same hX⟩
set_option maxHeartbeats 4000000 in
set_option maxRecDepth 100000 in
theorem pp_1 {V : zv_V} (E : zv_OK V) {w : zw_W} (HX : zl_X w) {D : Nat → Nat → Nat} {H : za_H} {b : Bool} {L S : za_T} {C : za_C} (hX : zr_X (zw_i w) D H b L S C) (hH : za_WH H) {x : Int32} (hx : ∀ n, n < 16 → x ≠ nI n) {u : Int32} : zg_C V zm_X3_place yX3_place 8 190 [.ref 1, .int x, .int u] w (zq_p (.inr 20) (zr_pub w D H b L S C)) := by
  refine zg_of (by decide +kernel) rfl (Nat.le_of_ble_eq_true rfl) ?_
  show zg_G V zm_X3_place 8 190 w.1 w.2.1 0 [] [(0, .ref 1), (1, .int x), (2, .int u)] w _
  refine zg_iload_n dX3_place_0 rfl ?_
  refine zg_sthr (M := zm_X3_place) E dX3_place_1 (ct_checkPage_no E HX hx) wd_X3_45 dh_X3_checkPage dn_X3_checkPage (Nat.le_of_ble_eq_true rfl) (Nat.le_of_ble_eq_true rfl) (Nat.le_of_ble_eq_true rfl) (zl_cap HX) rfl (fun w1 g1 => ?_)
  subst w1
  exact zg_out rfl ⟨rfl, zp_nw HX hX hH⟩
set_option maxHeartbeats 4000000 in
set_option maxRecDepth 100000 in
theorem pp_2 {V : zv_V} (E : zv_OK V) {w : zw_W} (HX : zl_X w) {D : Nat → Nat → Nat} {H : za_H} {b : Bool} {L S : za_T} {C : za_C} (hX : zr_X (zw_i w) D H b L S C) (hH : za_WH H) {p : Nat} (hp : p < 16) {x : Int32} (hx : ∀ n, n < 3 → x ≠ nI n) : zg_C V zm_X3_place yX3_place 8 190 [.ref 1, .int (nI p), .int x] w (zq_p (.inr 20) (zr_pub w D H b L S C)) := by
  refine zg_of (by decide +kernel) rfl (Nat.le_of_ble_eq_true rfl) ?_
  show zg_G V zm_X3_place 8 190 w.1 w.2.1 0 [] [(0, .ref 1), (1, .int (nI p)), (2, .int x)] w _
  refine zg_iload_n dX3_place_0 rfl ?_
  refine zg_sret (M := zm_X3_place) E dX3_place_1 (ct_checkPage_ok E HX hp) wd_X3_45 dh_X3_checkPage dn_X3_checkPage (Nat.le_of_ble_eq_true rfl) (Nat.le_of_ble_eq_true rfl) (Nat.le_of_ble_eq_true rfl) (zl_cap HX) rfl (fun w1 g1 => ?_)
  subst w1
  refine zg_iload_n dX3_place_4 rfl ?_
  refine zg_if_lt (tgt := 13) dX3_place_5 (by decide) (fun h5 => ?_) (fun h5 => ?_)
  · exact zg_throw (M := zm_X3_place) E 20 (text := "no such table") (by decide) rfl rfl dX3_place_13 dX3_place_16 dX3_place_17 dX3_place_19 dX3_place_22 (by decide +kernel) (by decide +kernel) (by decide +kernel) tw_20_83 (zt_cap HX).1 (zt_cap HX).2.1 (zt_cap HX).2.2 (Nat.le_of_ble_eq_true rfl) (Nat.le_of_ble_eq_true rfl) ⟨rfl, zp_nw HX hX hH⟩
  · refine zg_iload_n dX3_place_8 rfl ?_
    refine zg_iconst (v := nI 2) dX3_place_9 (by decide) ?_
    refine zg_icmp_le (tgt := 23) dX3_place_10 (by decide) (fun h10 => ?_) (fun h10 => ?_)
    · exact absurd (zn_no (n := 3) hx h5 (Int32.lt_of_le_of_lt h10 (by decide))) not_false
    · exact zg_throw (M := zm_X3_place) E 20 (text := "no such table") (by decide) rfl rfl dX3_place_13 dX3_place_16 dX3_place_17 dX3_place_19 dX3_place_22 (by decide +kernel) (by decide +kernel) (by decide +kernel) tw_20_83 (zt_cap HX).1 (zt_cap HX).2.1 (zt_cap HX).2.2 (Nat.le_of_ble_eq_true rfl) (Nat.le_of_ble_eq_true rfl) ⟨rfl, zp_nw HX hX hH⟩
set_option maxHeartbeats 4000000 in
set_option maxRecDepth 100000 in
theorem pp_3 {V : zv_V} (E : zv_OK V) {w : zw_W} (HX : zl_X w) {D : Nat → Nat → Nat} {H : za_H} {b : Bool} {L S : za_T} {C : za_C} (hX : zr_X (zw_i w) D H b L S C) (hH : za_WH H) {p : Nat} (hp : p < 16) {k : Nat} (hk : k < 3) (hb : b = true)  : zg_C V zm_X3_place yX3_place 8 190 [.ref 1, .int (nI p), .int (nI k)] w (zq_p (.inr 21) (zr_pub w D H b L S C)) := by
  refine zg_of (by decide +kernel) rfl (Nat.le_of_ble_eq_true rfl) ?_
  show zg_G V zm_X3_place 8 190 w.1 w.2.1 0 [] [(0, .ref 1), (1, .int (nI p)), (2, .int (nI k))] w _
  refine zg_iload_n dX3_place_0 rfl ?_
  refine zg_sret (M := zm_X3_place) E dX3_place_1 (ct_checkPage_ok E HX hp) wd_X3_45 dh_X3_checkPage dn_X3_checkPage (Nat.le_of_ble_eq_true rfl) (Nat.le_of_ble_eq_true rfl) (Nat.le_of_ble_eq_true rfl) (zl_cap HX) rfl (fun w1 g1 => ?_)
  subst w1
  refine zg_iload_n dX3_place_4 rfl ?_
  refine zg_if_lt (tgt := 13) dX3_place_5 (by decide) (fun h5 => ?_) (fun h5 => ?_)
  · exact absurd h5 (nI_pos (by omega))
  · refine zg_iload_n dX3_place_8 rfl ?_
    refine zg_iconst (v := nI 2) dX3_place_9 (by decide) ?_
    refine zg_icmp_le (tgt := 23) dX3_place_10 (by decide) (fun h10 => ?_) (fun h10 => ?_)
    · refine zg_aload_n dX3_place_23 rfl ?_
      refine zg_vth (M := zm_X3_place) E (ci := 3) dX3_place_24 (ct_mounted_no E HX (by rw [hX.2.2.1, hb]; decide)) wd_X3_55 rfl (congrArg Prod.fst (zl_at HX (k := 1) (t := (3, 7)) rfl (by decide) (by decide))) (by decide) (zl_lt HX (by decide)) rfl dh_X3_checkMounted dn_X3_checkMounted (Nat.le_of_ble_eq_true rfl) (Nat.le_of_ble_eq_true rfl) (Nat.le_of_ble_eq_true rfl) (zl_cap HX) rfl (fun w24 g24 => ?_)
      subst w24
      exact zg_out rfl ⟨rfl, zp_nw HX hX hH⟩
    · exact absurd (nI_le (by omega) (by decide) : nI k ≤ nI 2) h10
def za_pl (L S : za_T) (C : za_C) (p k : Nat) : Nat := if k = 0 then L.1 p else if k = 1 then S.1 p else za_op L C p
set_option maxHeartbeats 4000000 in
set_option maxRecDepth 100000 in
theorem pp_4 {V : zv_V} (E : zv_OK V) {w : zw_W} (HX : zl_X w) {D : Nat → Nat → Nat} {H : za_H} {b : Bool} {L S : za_T} {C : za_C} (hX : zr_X (zw_i w) D H b L S C) (hH : za_WH H) {p : Nat} (hp : p < 16) {k : Nat} (hk : k < 3) (hb : b = false) (wC : za_WC C) : zg_C V zm_X3_place yX3_place 8 190 [.ref 1, .int (nI p), .int (nI k)] w (zq_p (.inl (some (.int (nI (za_pl L S C p k))))) (zr_pub w D H b L S C)) := by
  refine zg_of (by decide +kernel) rfl (Nat.le_of_ble_eq_true rfl) ?_
  show zg_G V zm_X3_place 8 190 w.1 w.2.1 0 [] [(0, .ref 1), (1, .int (nI p)), (2, .int (nI k))] w _
  refine zg_iload_n dX3_place_0 rfl ?_
  refine zg_sret (M := zm_X3_place) E dX3_place_1 (ct_checkPage_ok E HX hp) wd_X3_45 dh_X3_checkPage dn_X3_checkPage (Nat.le_of_ble_eq_true rfl) (Nat.le_of_ble_eq_true rfl) (Nat.le_of_ble_eq_true rfl) (zl_cap HX) rfl (fun w1 g1 => ?_)
  subst w1
  refine zg_iload_n dX3_place_4 rfl ?_
  refine zg_if_lt (tgt := 13) dX3_place_5 (by decide) (fun h5 => ?_) (fun h5 => ?_)
  · exact absurd h5 (nI_pos (by omega))
  · refine zg_iload_n dX3_place_8 rfl ?_
    refine zg_iconst (v := nI 2) dX3_place_9 (by decide) ?_
    refine zg_icmp_le (tgt := 23) dX3_place_10 (by decide) (fun h10 => ?_) (fun h10 => ?_)
    · refine zg_aload_n dX3_place_23 rfl ?_
      refine zg_vrt (M := zm_X3_place) E (ci := 3) dX3_place_24 (ct_mounted_ok E HX (by rw [hX.2.2.1, hb]; rfl)) wd_X3_55 rfl (congrArg Prod.fst (zl_at HX (k := 1) (t := (3, 7)) rfl (by decide) (by decide))) (by decide) (zl_lt HX (by decide)) rfl dh_X3_checkMounted dn_X3_checkMounted (Nat.le_of_ble_eq_true rfl) (Nat.le_of_ble_eq_true rfl) (Nat.le_of_ble_eq_true rfl) (zl_cap HX) rfl (fun w24 g24 => ?_)
      subst w24
      refine zg_iload_n dX3_place_27 rfl ?_
      refine zg_if_ne (tgt := 41) dX3_place_28 (by decide) (fun h28 => ?_) (fun h28 => ?_)
      · have e0 : k ≠ 0 := fun z => h28 (congrArg nI z)
        refine zg_iload_n dX3_place_41 rfl ?_
        refine zg_iconst (v := nI 1) dX3_place_42 (by decide) ?_
        refine zg_icmp_ne (tgt := 58) dX3_place_43 (by decide) (fun h43 => ?_) (fun h43 => ?_)
        · have e1 : k ≠ 1 := fun z => h43 (congrArg nI z)
          refine zg_aload_n dX3_place_58 rfl ?_
          refine zg_iload_n dX3_place_59 rfl ?_
          refine zg_vrt (M := zm_X3_place) E (ci := 3) dX3_place_60 (kt_openPlace (L := L) E HX hp (hX.2.2.2.1.1 p hp) hX.2.2.2.2.2 wC) wd_X3_140 rfl (congrArg Prod.fst (zl_at HX (k := 1) (t := (3, 7)) rfl (by decide) (by decide))) (by decide) (zl_lt HX (by decide)) rfl dh_X3_openPlace dn_X3_openPlace (Nat.le_of_ble_eq_true rfl) (Nat.le_of_ble_eq_true rfl) (Nat.le_of_ble_eq_true rfl) (zl_cap HX) rfl (fun w60 g60 => ?_)
          subst w60
          exact zg_iret rfl dX3_place_63 ⟨congrArg (fun x => Sum.inl (some (Value.int (nI x)))) ((if_neg e0).trans (if_neg e1)).symm, zp_same hX⟩
        · have e1 : k = 1 := (nI_eq (by omega) (by decide)).mp h43
          refine zg_aload_n dX3_place_46 rfl ?_
          refine zg_getR E (ci := 3) (j := 3) (r := 133) dX3_place_47 rfl (congrArg Prod.fst (zl_at HX (k := 1) (t := (3, 7)) rfl (by decide) (by decide))) (by decide) (zl_lt HX (by decide)) (by decide) fl_X3_28 rfl (zl_rf HX rfl (by decide) (by decide)) ?_
          refine zg_getR E (ci := 2) (j := 0) (r := 134) dX3_place_50 rfl (congrArg Prod.fst (zl_at HX (k := 133) (t := (2, 3)) rfl (by decide) (by decide))) (by decide) (zl_lt HX (by decide)) (by decide) fl_X3_72 rfl (zl_rf HX rfl (by decide) (by decide)) ?_
          refine zg_iload_n dX3_place_53 rfl ?_
          refine zg_iald E (j := p) dX3_place_54 (zl_at HX (k := 134) (t := (10, 16)) rfl (by decide) (by decide)) (by decide) (zl_lt HX (by decide)) rfl (by omega) (by decide) ?_
          refine zg_v (x' := nI (S.1 p)) (hX.2.2.2.2.1.1 p hp) ?_
          refine zg_goto (tgt := 63) dX3_place_55 (by decide) ?_
          exact zg_iret rfl dX3_place_63 ⟨congrArg (fun x => Sum.inl (some (Value.int (nI x)))) ((if_neg e0).trans (if_pos e1)).symm, zp_same hX⟩
      · have e0 : k = 0 := (nI_eq (by omega) (by decide)).mp h28
        refine zg_aload_n dX3_place_31 rfl ?_
        refine zg_getR E (ci := 3) (j := 2) (r := 131) dX3_place_32 rfl (congrArg Prod.fst (zl_at HX (k := 1) (t := (3, 7)) rfl (by decide) (by decide))) (by decide) (zl_lt HX (by decide)) (by decide) fl_X3_24 rfl (zl_rf HX rfl (by decide) (by decide)) ?_
        refine zg_getR E (ci := 2) (j := 0) (r := 132) dX3_place_35 rfl (congrArg Prod.fst (zl_at HX (k := 131) (t := (2, 3)) rfl (by decide) (by decide))) (by decide) (zl_lt HX (by decide)) (by decide) fl_X3_72 rfl (zl_rf HX rfl (by decide) (by decide)) ?_
        refine zg_iload_n dX3_place_38 rfl ?_
        refine zg_iald E (j := p) dX3_place_39 (zl_at HX (k := 132) (t := (10, 16)) rfl (by decide) (by decide)) (by decide) (zl_lt HX (by decide)) rfl (by omega) (by decide) ?_
        refine zg_v (x' := nI (L.1 p)) (hX.2.2.2.1.1 p hp) ?_
        exact zg_iret rfl dX3_place_40 ⟨congrArg (fun x => Sum.inl (some (Value.int (nI x)))) (if_pos e0).symm, zp_same hX⟩
    · exact absurd (nI_le (by omega) (by decide) : nI k ≤ nI 2) h10
set_option maxHeartbeats 4000000 in
set_option maxRecDepth 100000 in
theorem pf_1 {V : zv_V} (E : zv_OK V) {w : zw_W} (HX : zl_X w) {D : Nat → Nat → Nat} {H : za_H} {b : Bool} {L S : za_T} {C : za_C} (hX : zr_X (zw_i w) D H b L S C) (hH : za_WH H) {x : Int32} (hx : ∀ n, n < 48 → x ≠ nI n)  : zg_C V zm_X3_free yX3_free 8 190 [.ref 1, .int x] w (zq_p (.inr 20) (zr_pub w D H b L S C)) := by
  refine zg_of (by decide +kernel) rfl (Nat.le_of_ble_eq_true rfl) ?_
  show zg_G V zm_X3_free 8 190 w.1 w.2.1 0 [] [(0, .ref 1), (1, .int x)] w _
  refine zg_iload_n dX3_free_0 rfl ?_
  refine zg_sthr (M := zm_X3_free) E dX3_free_1 (ct_checkSector_no E HX hx) wd_X3_135 dh_X3_checkSector dn_X3_checkSector (Nat.le_of_ble_eq_true rfl) (Nat.le_of_ble_eq_true rfl) (Nat.le_of_ble_eq_true rfl) (zl_cap HX) rfl (fun w1 g1 => ?_)
  subst w1
  exact zg_out rfl ⟨rfl, zp_nw HX hX hH⟩
set_option maxHeartbeats 4000000 in
set_option maxRecDepth 100000 in
theorem pf_2 {V : zv_V} (E : zv_OK V) {w : zw_W} (HX : zl_X w) {D : Nat → Nat → Nat} {H : za_H} {b : Bool} {L S : za_T} {C : za_C} (hX : zr_X (zw_i w) D H b L S C) (hH : za_WH H) {s : Nat} (hs : s < 48) (hb : b = true)  : zg_C V zm_X3_free yX3_free 8 190 [.ref 1, .int (nI s)] w (zq_p (.inr 21) (zr_pub w D H b L S C)) := by
  refine zg_of (by decide +kernel) rfl (Nat.le_of_ble_eq_true rfl) ?_
  show zg_G V zm_X3_free 8 190 w.1 w.2.1 0 [] [(0, .ref 1), (1, .int (nI s))] w _
  refine zg_iload_n dX3_free_0 rfl ?_
  refine zg_sret (M := zm_X3_free) E dX3_free_1 (ct_checkSector_ok E HX hs) wd_X3_135 dh_X3_checkSector dn_X3_checkSector (Nat.le_of_ble_eq_true rfl) (Nat.le_of_ble_eq_true rfl) (Nat.le_of_ble_eq_true rfl) (zl_cap HX) rfl (fun w1 g1 => ?_)
  subst w1
  refine zg_aload_n dX3_free_4 rfl ?_
  refine zg_vth (M := zm_X3_free) E (ci := 3) dX3_free_5 (ct_mounted_no E HX (by rw [hX.2.2.1, hb]; decide)) wd_X3_55 rfl (congrArg Prod.fst (zl_at HX (k := 1) (t := (3, 7)) rfl (by decide) (by decide))) (by decide) (zl_lt HX (by decide)) rfl dh_X3_checkMounted dn_X3_checkMounted (Nat.le_of_ble_eq_true rfl) (Nat.le_of_ble_eq_true rfl) (Nat.le_of_ble_eq_true rfl) (zl_cap HX) rfl (fun w5 g5 => ?_)
  subst w5
  exact zg_out rfl ⟨rfl, zp_nw HX hX hH⟩
theorem zb_iff {a b : Bool} (h : a = true ↔ b = true) : a = b := by
  cases a
  · cases b
    · rfl
    · exact absurd (h.mpr rfl) (by decide)
  · exact (h.mp rfl).symm
theorem za_bit_nar (z : Bool) : narrow .boolean (.int (za_bit z)) = .int (za_bit z) := by
  cases z
  · rfl
  · rfl
set_option maxHeartbeats 4000000 in
set_option maxRecDepth 100000 in
theorem pf_3 {V : zv_V} (E : zv_OK V) {w : zw_W} (HX : zl_X w) {D : Nat → Nat → Nat} {H : za_H} {b : Bool} {L S : za_T} {C : za_C} (hX : zr_X (zw_i w) D H b L S C) (hH : za_WH H) {s : Nat} (hs : s < 48) (hb : b = false) (wL : za_WT L) (wS : za_WT S) (wC : za_WC C) {z : Bool} (hz : z = true ↔ ¬ za_us L S C.1 s) : zg_C V zm_X3_free yX3_free 8 190 [.ref 1, .int (nI s)] w (zq_p (.inl (some (.int (za_bit z)))) (zr_pub w D H b L S C)) := by
  refine zg_of (by decide +kernel) rfl (Nat.le_of_ble_eq_true rfl) ?_
  show zg_G V zm_X3_free 8 190 w.1 w.2.1 0 [] [(0, .ref 1), (1, .int (nI s))] w _
  refine zg_iload_n dX3_free_0 rfl ?_
  refine zg_sret (M := zm_X3_free) E dX3_free_1 (ct_checkSector_ok E HX hs) wd_X3_135 dh_X3_checkSector dn_X3_checkSector (Nat.le_of_ble_eq_true rfl) (Nat.le_of_ble_eq_true rfl) (Nat.le_of_ble_eq_true rfl) (zl_cap HX) rfl (fun w1 g1 => ?_)
  subst w1
  refine zg_aload_n dX3_free_4 rfl ?_
  refine zg_vrt (M := zm_X3_free) E (ci := 3) dX3_free_5 (ct_mounted_ok E HX (by rw [hX.2.2.1, hb]; rfl)) wd_X3_55 rfl (congrArg Prod.fst (zl_at HX (k := 1) (t := (3, 7)) rfl (by decide) (by decide))) (by decide) (zl_lt HX (by decide)) rfl dh_X3_checkMounted dn_X3_checkMounted (Nat.le_of_ble_eq_true rfl) (Nat.le_of_ble_eq_true rfl) (Nat.le_of_ble_eq_true rfl) (zl_cap HX) rfl (fun w5 g5 => ?_)
  subst w5
  refine zg_aload_n dX3_free_8 rfl ?_
  refine zg_vrt (M := zm_X3_free) E (ci := 3) dX3_free_9 (ct_freeSet E HX) wd_X3_144 rfl (congrArg Prod.fst (zl_at HX (k := 1) (t := (3, 7)) rfl (by decide) (by decide))) (by decide) (zl_lt HX (by decide)) rfl dh_X3_freeSet dn_X3_freeSet (Nat.le_of_ble_eq_true rfl) (Nat.le_of_ble_eq_true rfl) (Nat.le_of_ble_eq_true rfl) (zl_cap HX) rfl (fun w9 g9 => ?_)
  subst w9
  refine zg_iload_n dX3_free_12 rfl ?_
  refine zg_sret (M := zm_X3_free) E dX3_free_13 (ct_holds E (zk_fs (zw_i w)) (nI s)) wd_X3_148 dh_X3_holds dn_X3_holds (Nat.le_of_ble_eq_true rfl) (Nat.le_of_ble_eq_true rfl) (Nat.le_of_ble_eq_true rfl) (zl_cap HX) rfl (fun w13 g13 => ?_)
  subst w13
  refine zg_v (x' := za_bit z) ((zp_hol _ (by omega)).trans (congrArg za_bit (zb_iff ((zk_fs_b hX.2.2.2.1 hX.2.2.2.2.1 hX.2.2.2.2.2 wL wS wC hs).trans hz.symm)))) ?_
  exact zg_zret rfl (za_bit_nar z) dX3_free_16 ⟨rfl, zp_same hX⟩
set_option maxHeartbeats 4000000 in
set_option maxRecDepth 100000 in
theorem ph_1 {V : zv_V} (E : zv_OK V) {w : zw_W} (HX : zl_X w) {D : Nat → Nat → Nat} {H : za_H} {b : Bool} {L S : za_T} {C : za_C} (hX : zr_X (zw_i w) D H b L S C) (hH : za_WH H) {x : Int32} (hx : ∀ n, n < H.1 → x ≠ nI n) {u : Int32} : zg_C V zm_X3_held yX3_held 8 190 [.ref 1, .int x, .int u] w (zq_p (.inr 20) (zr_pub w D H b L S C)) := by
  refine zg_of (by decide +kernel) rfl (Nat.le_of_ble_eq_true rfl) ?_
  show zg_G V zm_X3_held 8 190 w.1 w.2.1 0 [] [(0, .ref 1), (1, .int x), (2, .int u)] w _
  refine zg_iload_n dX3_held_0 rfl ?_
  refine zg_if_lt (tgt := 15) dX3_held_1 (by decide) (fun h1 => ?_) (fun h1 => ?_)
  · exact zg_throw (M := zm_X3_held) E 20 (text := "no such write is held back") (by decide) rfl rfl dX3_held_15 dX3_held_18 dX3_held_19 dX3_held_21 dX3_held_24 (by decide +kernel) (by decide +kernel) (by decide +kernel) tw_20_83 (zt_cap HX).1 (zt_cap HX).2.1 (zt_cap HX).2.2 (Nat.le_of_ble_eq_true rfl) (Nat.le_of_ble_eq_true rfl) ⟨rfl, zp_nw HX hX hH⟩
  · refine zg_iload_n dX3_held_4 rfl ?_
    refine zg_aload_n dX3_held_5 rfl ?_
    refine zg_getR E (ci := 3) (j := 1) (r := 51) dX3_held_6 rfl (congrArg Prod.fst (zl_at HX (k := 1) (t := (3, 7)) rfl (by decide) (by decide))) (by decide) (zl_lt HX (by decide)) (by decide) fl_X3_17 rfl (zl_rf HX rfl (by decide) (by decide)) ?_
    refine zg_getI E (ci := 1) (j := 2) dX3_held_9 rfl (congrArg Prod.fst (zl_at HX (k := 51) (t := (1, 3)) rfl (by decide) (by decide))) (by decide) (zl_lt HX (by decide)) (by decide) fl_X3_86 rfl ?_
    refine zg_v (x' := nI H.1) hX.2.1.1 ?_
    refine zg_icmp_lt (tgt := 25) dX3_held_12 (by decide) (fun h12 => ?_) (fun h12 => ?_)
    · exact absurd (zn_no (n := H.1) hx h1 h12 (by have := hH.1; omega)) not_false
    · exact zg_throw (M := zm_X3_held) E 20 (text := "no such write is held back") (by decide) rfl rfl dX3_held_15 dX3_held_18 dX3_held_19 dX3_held_21 dX3_held_24 (by decide +kernel) (by decide +kernel) (by decide +kernel) tw_20_83 (zt_cap HX).1 (zt_cap HX).2.1 (zt_cap HX).2.2 (Nat.le_of_ble_eq_true rfl) (Nat.le_of_ble_eq_true rfl) ⟨rfl, zp_nw HX hX hH⟩
set_option maxHeartbeats 4000000 in
set_option maxRecDepth 100000 in
theorem ph_2 {V : zv_V} (E : zv_OK V) {w : zw_W} (HX : zl_X w) {D : Nat → Nat → Nat} {H : za_H} {b : Bool} {L S : za_T} {C : za_C} (hX : zr_X (zw_i w) D H b L S C) (hH : za_WH H) {k : Nat} (hk : k < H.1)  : zg_C V zm_X3_held yX3_held 8 190 [.ref 1, .int (nI k), .int ((-1))] w (zq_p (.inl (some (.int (nI (H.2.1 k))))) (zr_pub w D H b L S C)) := by
  refine zg_of (by decide +kernel) rfl (Nat.le_of_ble_eq_true rfl) ?_
  show zg_G V zm_X3_held 8 190 w.1 w.2.1 0 [] [(0, .ref 1), (1, .int (nI k)), (2, .int ((-1)))] w _
  refine zg_iload_n dX3_held_0 rfl ?_
  refine zg_if_lt (tgt := 15) dX3_held_1 (by decide) (fun h1 => ?_) (fun h1 => ?_)
  · exact absurd h1 (nI_pos (by have := hH.1; omega))
  · refine zg_iload_n dX3_held_4 rfl ?_
    refine zg_aload_n dX3_held_5 rfl ?_
    refine zg_getR E (ci := 3) (j := 1) (r := 51) dX3_held_6 rfl (congrArg Prod.fst (zl_at HX (k := 1) (t := (3, 7)) rfl (by decide) (by decide))) (by decide) (zl_lt HX (by decide)) (by decide) fl_X3_17 rfl (zl_rf HX rfl (by decide) (by decide)) ?_
    refine zg_getI E (ci := 1) (j := 2) dX3_held_9 rfl (congrArg Prod.fst (zl_at HX (k := 51) (t := (1, 3)) rfl (by decide) (by decide))) (by decide) (zl_lt HX (by decide)) (by decide) fl_X3_86 rfl ?_
    refine zg_v (x' := nI H.1) hX.2.1.1 ?_
    refine zg_icmp_lt (tgt := 25) dX3_held_12 (by decide) (fun h12 => ?_) (fun h12 => ?_)
    · refine zg_iload_n dX3_held_25 rfl ?_
      refine zg_iconst (v := (-1)) dX3_held_26 (by decide) ?_
      refine zg_icmp_ne (tgt := 40) dX3_held_27 (by decide) (fun h27 => ?_) (fun h27 => ?_)
      · exact absurd rfl h27
      · refine zg_aload_n dX3_held_30 rfl ?_
        refine zg_getR E (ci := 3) (j := 1) (r := 51) dX3_held_31 rfl (congrArg Prod.fst (zl_at HX (k := 1) (t := (3, 7)) rfl (by decide) (by decide))) (by decide) (zl_lt HX (by decide)) (by decide) fl_X3_17 rfl (zl_rf HX rfl (by decide) (by decide)) ?_
        refine zg_getR E (ci := 1) (j := 0) (r := 52) dX3_held_34 rfl (congrArg Prod.fst (zl_at HX (k := 51) (t := (1, 3)) rfl (by decide) (by decide))) (by decide) (zl_lt HX (by decide)) (by decide) fl_X3_154 rfl (zl_rf HX rfl (by decide) (by decide)) ?_
        refine zg_iload_n dX3_held_37 rfl ?_
        refine zg_iald E (j := k) dX3_held_38 (zl_at HX (k := 52) (t := (10, 77)) rfl (by decide) (by decide)) (by decide) (zl_lt HX (by decide)) rfl (by have := hH.1; omega) (by decide) ?_
        refine zg_v (x' := nI (H.2.1 k)) (hX.2.1.2.1 k hk) ?_
        exact zg_iret rfl dX3_held_39 ⟨rfl, zp_same hX⟩
    · exact absurd (nI_lt hk (by have := hH.1; omega)) h12
set_option maxHeartbeats 4000000 in
set_option maxRecDepth 100000 in
theorem ph_3 {V : zv_V} (E : zv_OK V) {w : zw_W} (HX : zl_X w) {D : Nat → Nat → Nat} {H : za_H} {b : Bool} {L S : za_T} {C : za_C} (hX : zr_X (zw_i w) D H b L S C) (hH : za_WH H) {k : Nat} (hk : k < H.1) {x : Int32} (hx : ∀ n, n < 16 → x ≠ nI n) (hm : x ≠ (-1)) : zg_C V zm_X3_held yX3_held 8 190 [.ref 1, .int (nI k), .int x] w (zq_p (.inr 20) (zr_pub w D H b L S C)) := by
  refine zg_of (by decide +kernel) rfl (Nat.le_of_ble_eq_true rfl) ?_
  show zg_G V zm_X3_held 8 190 w.1 w.2.1 0 [] [(0, .ref 1), (1, .int (nI k)), (2, .int x)] w _
  refine zg_iload_n dX3_held_0 rfl ?_
  refine zg_if_lt (tgt := 15) dX3_held_1 (by decide) (fun h1 => ?_) (fun h1 => ?_)
  · exact absurd h1 (nI_pos (by have := hH.1; omega))
  · refine zg_iload_n dX3_held_4 rfl ?_
    refine zg_aload_n dX3_held_5 rfl ?_
    refine zg_getR E (ci := 3) (j := 1) (r := 51) dX3_held_6 rfl (congrArg Prod.fst (zl_at HX (k := 1) (t := (3, 7)) rfl (by decide) (by decide))) (by decide) (zl_lt HX (by decide)) (by decide) fl_X3_17 rfl (zl_rf HX rfl (by decide) (by decide)) ?_
    refine zg_getI E (ci := 1) (j := 2) dX3_held_9 rfl (congrArg Prod.fst (zl_at HX (k := 51) (t := (1, 3)) rfl (by decide) (by decide))) (by decide) (zl_lt HX (by decide)) (by decide) fl_X3_86 rfl ?_
    refine zg_v (x' := nI H.1) hX.2.1.1 ?_
    refine zg_icmp_lt (tgt := 25) dX3_held_12 (by decide) (fun h12 => ?_) (fun h12 => ?_)
    · refine zg_iload_n dX3_held_25 rfl ?_
      refine zg_iconst (v := (-1)) dX3_held_26 (by decide) ?_
      refine zg_icmp_ne (tgt := 40) dX3_held_27 (by decide) (fun h27 => ?_) (fun h27 => ?_)
      · refine zg_iload_n dX3_held_40 rfl ?_
        refine zg_sthr (M := zm_X3_held) E dX3_held_41 (ct_checkIndex_no E HX hx) wd_X3_49 dh_X3_checkIndex dn_X3_checkIndex (Nat.le_of_ble_eq_true rfl) (Nat.le_of_ble_eq_true rfl) (Nat.le_of_ble_eq_true rfl) (zl_cap HX) rfl (fun w41 g41 => ?_)
        subst w41
        exact zg_out rfl ⟨rfl, zp_nw HX hX hH⟩
      · exact absurd h27 hm
    · exact absurd (nI_lt hk (by have := hH.1; omega)) h12
set_option maxHeartbeats 4000000 in
set_option maxRecDepth 100000 in
theorem ph_4 {V : zv_V} (E : zv_OK V) {w : zw_W} (HX : zl_X w) {D : Nat → Nat → Nat} {H : za_H} {b : Bool} {L S : za_T} {C : za_C} (hX : zr_X (zw_i w) D H b L S C) (hH : za_WH H) {k : Nat} (hk : k < H.1) {i : Nat} (hi : i < 16)  : zg_C V zm_X3_held yX3_held 8 190 [.ref 1, .int (nI k), .int (nI i)] w (zq_p (.inl (some (.int (nI (H.2.2 k i))))) (zr_pub w D H b L S C)) := by
  refine zg_of (by decide +kernel) rfl (Nat.le_of_ble_eq_true rfl) ?_
  show zg_G V zm_X3_held 8 190 w.1 w.2.1 0 [] [(0, .ref 1), (1, .int (nI k)), (2, .int (nI i))] w _
  have h77 := hH.1
  refine zg_iload_n dX3_held_0 rfl ?_
  refine zg_if_lt (tgt := 15) dX3_held_1 (by decide) (fun h1 => ?_) (fun h1 => ?_)
  · exact absurd h1 (nI_pos (by have := hH.1; omega))
  · refine zg_iload_n dX3_held_4 rfl ?_
    refine zg_aload_n dX3_held_5 rfl ?_
    refine zg_getR E (ci := 3) (j := 1) (r := 51) dX3_held_6 rfl (congrArg Prod.fst (zl_at HX (k := 1) (t := (3, 7)) rfl (by decide) (by decide))) (by decide) (zl_lt HX (by decide)) (by decide) fl_X3_17 rfl (zl_rf HX rfl (by decide) (by decide)) ?_
    refine zg_getI E (ci := 1) (j := 2) dX3_held_9 rfl (congrArg Prod.fst (zl_at HX (k := 51) (t := (1, 3)) rfl (by decide) (by decide))) (by decide) (zl_lt HX (by decide)) (by decide) fl_X3_86 rfl ?_
    refine zg_v (x' := nI H.1) hX.2.1.1 ?_
    refine zg_icmp_lt (tgt := 25) dX3_held_12 (by decide) (fun h12 => ?_) (fun h12 => ?_)
    · refine zg_iload_n dX3_held_25 rfl ?_
      refine zg_iconst (v := (-1)) dX3_held_26 (by decide) ?_
      refine zg_icmp_ne (tgt := 40) dX3_held_27 (by decide) (fun h27 => ?_) (fun h27 => ?_)
      · refine zg_iload_n dX3_held_40 rfl ?_
        refine zg_sret (M := zm_X3_held) E dX3_held_41 (ct_checkIndex_ok E HX hi) wd_X3_49 dh_X3_checkIndex dn_X3_checkIndex (Nat.le_of_ble_eq_true rfl) (Nat.le_of_ble_eq_true rfl) (Nat.le_of_ble_eq_true rfl) (zl_cap HX) rfl (fun w41 g41 => ?_)
        subst w41
        refine zg_aload_n dX3_held_44 rfl ?_
        refine zg_getR E (ci := 3) (j := 1) (r := 51) dX3_held_45 rfl (congrArg Prod.fst (zl_at HX (k := 1) (t := (3, 7)) rfl (by decide) (by decide))) (by decide) (zl_lt HX (by decide)) (by decide) fl_X3_17 rfl (zl_rf HX rfl (by decide) (by decide)) ?_
        refine zg_getR E (ci := 1) (j := 1) (r := 53) dX3_held_48 rfl (congrArg Prod.fst (zl_at HX (k := 51) (t := (1, 3)) rfl (by decide) (by decide))) (by decide) (zl_lt HX (by decide)) (by decide) fl_X3_157 rfl (zl_rf HX rfl (by decide) (by decide)) ?_
        refine zg_iload_n dX3_held_51 rfl ?_
        refine zg_aald E (j := k) (r := 54 + k) dX3_held_52 (zl_at HX (k := 53) (t := (13, 77)) rfl (by decide) (by decide)) (by decide) (zl_lt HX (by decide)) rfl (by have := hH.1; omega) (by decide) (zl_rf HX (zl_row (by have := hH.1; omega)).2 (by decide) (by decide)) ?_
        refine zg_iload_n dX3_held_53 rfl ?_
        refine zg_iald E (j := i) dX3_held_54 (zl_at HX (zl_row (by omega)).1 (by omega) (by omega)) (by omega) (zl_lt HX (by omega)) rfl (by omega) (by decide) ?_
        refine zg_v (x' := nI (H.2.2 k i)) (hX.2.1.2.2 k hk i hi) ?_
        exact zg_iret rfl dX3_held_55 ⟨rfl, zp_same hX⟩
      · exact absurd h27 (fun z => absurd (z ▸ nI_pos (by omega : i < 2 ^ 31)) (by decide))
    · exact absurd (nI_lt hk (by have := hH.1; omega)) h12
theorem zk_no {I : Nat → Nat → Int32} {C : za_C} (h : zr_C I C) (h0 : za_n C.1 16 = 0) : ¬ 0 < I 135 3 := by
  rw [h.2.1, h0]
  decide
theorem zk_yes {I : Nat → Nat → Int32} {C : za_C} (h : zr_C I C) (h0 : 0 < za_n C.1 16) : 0 < I 135 3 := by
  rw [h.2.1]
  exact nI_lt h0 (by have := za_n_le C.1 16; omega)
set_option maxHeartbeats 4000000 in
set_option maxRecDepth 100000 in
theorem pa_1 {V : zv_V} (E : zv_OK V) {w : zw_W} (HX : zl_X w) {D : Nat → Nat → Nat} {H : za_H} {b : Bool} {L S : za_T} {C : za_C} (hX : zr_X (zw_i w) D H b L S C) (hH : za_WH H) (hb : b = true)  : zg_C V zm_X3_abort yX3_abort 8 190 [.ref 1] w (zq_p (.inr 21) (zr_pub w D H b L S C)) := by
  refine zg_of (by decide +kernel) rfl (Nat.le_of_ble_eq_true rfl) ?_
  show zg_G V zm_X3_abort 8 190 w.1 w.2.1 0 [] [(0, .ref 1)] w _
  refine zg_aload_n dX3_abort_0 rfl ?_
  refine zg_vth (M := zm_X3_abort) E (ci := 3) dX3_abort_1 (ct_mounted_no E HX (by rw [hX.2.2.1, hb]; decide)) wd_X3_55 rfl (congrArg Prod.fst (zl_at HX (k := 1) (t := (3, 7)) rfl (by decide) (by decide))) (by decide) (zl_lt HX (by decide)) rfl dh_X3_checkMounted dn_X3_checkMounted (Nat.le_of_ble_eq_true rfl) (Nat.le_of_ble_eq_true rfl) (Nat.le_of_ble_eq_true rfl) (zl_cap HX) rfl (fun w1 g1 => ?_)
  subst w1
  exact zg_out rfl ⟨rfl, zp_nw HX hX hH⟩
set_option maxHeartbeats 4000000 in
set_option maxRecDepth 100000 in
theorem pa_2 {V : zv_V} (E : zv_OK V) {w : zw_W} (HX : zl_X w) {D : Nat → Nat → Nat} {H : za_H} {b : Bool} {L S : za_T} {C : za_C} (hX : zr_X (zw_i w) D H b L S C) (hH : za_WH H) (hb : b = false) (h0 : za_n C.1 16 = 0)  : zg_C V zm_X3_abort yX3_abort 8 190 [.ref 1] w (zq_p (.inr 21) (zr_pub w D H b L S C)) := by
  refine zg_of (by decide +kernel) rfl (Nat.le_of_ble_eq_true rfl) ?_
  show zg_G V zm_X3_abort 8 190 w.1 w.2.1 0 [] [(0, .ref 1)] w _
  refine zg_aload_n dX3_abort_0 rfl ?_
  refine zg_vrt (M := zm_X3_abort) E (ci := 3) dX3_abort_1 (ct_mounted_ok E HX (by rw [hX.2.2.1, hb]; rfl)) wd_X3_55 rfl (congrArg Prod.fst (zl_at HX (k := 1) (t := (3, 7)) rfl (by decide) (by decide))) (by decide) (zl_lt HX (by decide)) rfl dh_X3_checkMounted dn_X3_checkMounted (Nat.le_of_ble_eq_true rfl) (Nat.le_of_ble_eq_true rfl) (Nat.le_of_ble_eq_true rfl) (zl_cap HX) rfl (fun w1 g1 => ?_)
  subst w1
  refine zg_aload_n dX3_abort_4 rfl ?_
  refine zg_vth (M := zm_X3_abort) E (ci := 3) dX3_abort_5 (ct_open_no E HX (zk_no hX.2.2.2.2.2 h0)) wd_X3_97 rfl (congrArg Prod.fst (zl_at HX (k := 1) (t := (3, 7)) rfl (by decide) (by decide))) (by decide) (zl_lt HX (by decide)) rfl dh_X3_checkOpen dn_X3_checkOpen (Nat.le_of_ble_eq_true rfl) (Nat.le_of_ble_eq_true rfl) (Nat.le_of_ble_eq_true rfl) (zl_cap HX) rfl (fun w5 g5 => ?_)
  subst w5
  exact zg_out rfl ⟨rfl, zp_nw HX hX hH⟩
set_option maxHeartbeats 4000000 in
set_option maxRecDepth 100000 in
theorem pc_1 {V : zv_V} (E : zv_OK V) {w : zw_W} (HX : zl_X w) {D : Nat → Nat → Nat} {H : za_H} {b : Bool} {L S : za_T} {C : za_C} (hX : zr_X (zw_i w) D H b L S C) (hH : za_WH H) (hb : b = true) {z : Bool}  : zg_C V zm_X3_commit yX3_commit 8 190 [.ref 1, .int (za_bit z)] w (zq_p (.inr 21) (zr_pub w D H b L S C)) := by
  refine zg_of (by decide +kernel) rfl (Nat.le_of_ble_eq_true rfl) ?_
  show zg_G V zm_X3_commit 8 190 w.1 w.2.1 0 [] [(0, .ref 1), (1, .int (za_bit z))] w _
  refine zg_aload_n dX3_commit_0 rfl ?_
  refine zg_vth (M := zm_X3_commit) E (ci := 3) dX3_commit_1 (ct_mounted_no E HX (by rw [hX.2.2.1, hb]; decide)) wd_X3_55 rfl (congrArg Prod.fst (zl_at HX (k := 1) (t := (3, 7)) rfl (by decide) (by decide))) (by decide) (zl_lt HX (by decide)) rfl dh_X3_checkMounted dn_X3_checkMounted (Nat.le_of_ble_eq_true rfl) (Nat.le_of_ble_eq_true rfl) (Nat.le_of_ble_eq_true rfl) (zl_cap HX) rfl (fun w1 g1 => ?_)
  subst w1
  exact zg_out rfl ⟨rfl, zp_nw HX hX hH⟩
set_option maxHeartbeats 4000000 in
set_option maxRecDepth 100000 in
theorem pc_2 {V : zv_V} (E : zv_OK V) {w : zw_W} (HX : zl_X w) {D : Nat → Nat → Nat} {H : za_H} {b : Bool} {L S : za_T} {C : za_C} (hX : zr_X (zw_i w) D H b L S C) (hH : za_WH H) (hb : b = false) (h0 : za_n C.1 16 = 0) {z : Bool}  : zg_C V zm_X3_commit yX3_commit 8 190 [.ref 1, .int (za_bit z)] w (zq_p (.inr 21) (zr_pub w D H b L S C)) := by
  refine zg_of (by decide +kernel) rfl (Nat.le_of_ble_eq_true rfl) ?_
  show zg_G V zm_X3_commit 8 190 w.1 w.2.1 0 [] [(0, .ref 1), (1, .int (za_bit z))] w _
  refine zg_aload_n dX3_commit_0 rfl ?_
  refine zg_vrt (M := zm_X3_commit) E (ci := 3) dX3_commit_1 (ct_mounted_ok E HX (by rw [hX.2.2.1, hb]; rfl)) wd_X3_55 rfl (congrArg Prod.fst (zl_at HX (k := 1) (t := (3, 7)) rfl (by decide) (by decide))) (by decide) (zl_lt HX (by decide)) rfl dh_X3_checkMounted dn_X3_checkMounted (Nat.le_of_ble_eq_true rfl) (Nat.le_of_ble_eq_true rfl) (Nat.le_of_ble_eq_true rfl) (zl_cap HX) rfl (fun w1 g1 => ?_)
  subst w1
  refine zg_aload_n dX3_commit_4 rfl ?_
  refine zg_vth (M := zm_X3_commit) E (ci := 3) dX3_commit_5 (ct_open_no E HX (zk_no hX.2.2.2.2.2 h0)) wd_X3_97 rfl (congrArg Prod.fst (zl_at HX (k := 1) (t := (3, 7)) rfl (by decide) (by decide))) (by decide) (zl_lt HX (by decide)) rfl dh_X3_checkOpen dn_X3_checkOpen (Nat.le_of_ble_eq_true rfl) (Nat.le_of_ble_eq_true rfl) (Nat.le_of_ble_eq_true rfl) (zl_cap HX) rfl (fun w5 g5 => ?_)
  subst w5
  exact zg_out rfl ⟨rfl, zp_nw HX hX hH⟩
set_option maxHeartbeats 4000000 in
set_option maxRecDepth 100000 in
theorem pa_3 {V : zv_V} (E : zv_OK V) {w : zw_W} (HX : zl_X w) {D : Nat → Nat → Nat} {H : za_H} {b : Bool} {L S : za_T} {C : za_C} (hX : zr_X (zw_i w) D H b L S C) (hH : za_WH H) (hb : b = false) (h0 : 0 < za_n C.1 16) : zg_C V zm_X3_abort yX3_abort 8 190 [.ref 1] w (zq_p (.inl (some (.int (nI (za_n C.1 16))))) (zr_pub w D H b L S za_C0)) := by
  refine zg_of (by decide +kernel) rfl (Nat.le_of_ble_eq_true rfl) ?_
  show zg_G V zm_X3_abort 8 190 w.1 w.2.1 0 [] [(0, .ref 1)] w _
  refine zg_aload_n dX3_abort_0 rfl ?_
  refine zg_vrt (M := zm_X3_abort) E (ci := 3) dX3_abort_1 (ct_mounted_ok E HX (by rw [hX.2.2.1, hb]; rfl)) wd_X3_55 rfl (congrArg Prod.fst (zl_at HX (k := 1) (t := (3, 7)) rfl (by decide) (by decide))) (by decide) (zl_lt HX (by decide)) rfl dh_X3_checkMounted dn_X3_checkMounted (Nat.le_of_ble_eq_true rfl) (Nat.le_of_ble_eq_true rfl) (Nat.le_of_ble_eq_true rfl) (zl_cap HX) rfl (fun w1 g1 => ?_)
  subst w1
  refine zg_aload_n dX3_abort_4 rfl ?_
  refine zg_vrt (M := zm_X3_abort) E (ci := 3) dX3_abort_5 (ct_open_ok E HX (zk_yes hX.2.2.2.2.2 h0)) wd_X3_97 rfl (congrArg Prod.fst (zl_at HX (k := 1) (t := (3, 7)) rfl (by decide) (by decide))) (by decide) (zl_lt HX (by decide)) rfl dh_X3_checkOpen dn_X3_checkOpen (Nat.le_of_ble_eq_true rfl) (Nat.le_of_ble_eq_true rfl) (Nat.le_of_ble_eq_true rfl) (zl_cap HX) rfl (fun w5 g5 => ?_)
  subst w5
  refine zg_aload_n dX3_abort_8 rfl ?_
  refine zg_getR E (ci := 3) (j := 4) (r := 135) dX3_abort_9 rfl (congrArg Prod.fst (zl_at HX (k := 1) (t := (3, 7)) rfl (by decide) (by decide))) (by decide) (zl_lt HX (by decide)) (by decide) fl_X3_34 rfl (zl_rf HX rfl (by decide) (by decide)) ?_
  refine zg_getI E (ci := 0) (j := 3) dX3_abort_12 rfl (congrArg Prod.fst (zl_at HX (k := 135) (t := (0, 4)) rfl (by decide) (by decide))) (by decide) (zl_lt HX (by decide)) (by decide) fl_X3_64 rfl ?_
  refine zg_v (x' := nI (za_n C.1 16)) hX.2.2.2.2.2.2.1 ?_
  refine zg_istore_n (lv' := [(1, .int (nI (za_n C.1 16))), (0, .ref 1)]) dX3_abort_15 (by decide) rfl ?_
  refine zg_aload_n dX3_abort_16 rfl ?_
  refine zg_getR E (ci := 3) (j := 4) (r := 135) dX3_abort_17 rfl (congrArg Prod.fst (zl_at HX (k := 1) (t := (3, 7)) rfl (by decide) (by decide))) (by decide) (zl_lt HX (by decide)) (by decide) fl_X3_34 rfl (zl_rf HX rfl (by decide) (by decide)) ?_
  refine zg_vrt (M := zm_X3_abort) E (ci := 0) dX3_abort_20 (kt_close E HX) wd_X3_121 rfl (congrArg Prod.fst (zl_at HX (k := 135) (t := (0, 4)) rfl (by decide) (by decide))) (by decide) (zl_lt HX (by decide)) rfl dh_X0_close dn_X0_close (Nat.le_of_ble_eq_true rfl) (Nat.le_of_ble_eq_true rfl) (Nat.le_of_ble_eq_true rfl) (zl_cap HX) rfl (fun w20 g20 => ?_)
  obtain ⟨J1, rfl, r1, f1⟩ := g20
  refine zg_w (w' := zw_I w J1) rfl ?_
  refine zg_iload_n dX3_abort_23 rfl ?_
  exact zg_iret rfl dX3_abort_24 ⟨rfl, zp_to (by decide) ⟨_, rfl, zr_Xc hX hH.1 r1 f1, f1⟩⟩
set_option maxHeartbeats 4000000 in
set_option maxRecDepth 100000 in
theorem pl_1 {V : zv_V} (E : zv_OK V) {w : zw_W} (HX : zl_X w) {D : Nat → Nat → Nat} {H : za_H} {b : Bool} {L S : za_T} {C : za_C} (hX : zr_X (zw_i w) D H b L S C) (hH : za_WH H) (hb : b = true)  : zg_C V zm_X3_flush yX3_flush 8 190 [.ref 1] w (zq_p (.inr 21) (zr_pub w D H b L S C)) := by
  refine zg_of (by decide +kernel) rfl (Nat.le_of_ble_eq_true rfl) ?_
  show zg_G V zm_X3_flush 8 190 w.1 w.2.1 0 [] [(0, .ref 1)] w _
  refine zg_aload_n dX3_flush_0 rfl ?_
  refine zg_vth (M := zm_X3_flush) E (ci := 3) dX3_flush_1 (ct_mounted_no E HX (by rw [hX.2.2.1, hb]; decide)) wd_X3_55 rfl (congrArg Prod.fst (zl_at HX (k := 1) (t := (3, 7)) rfl (by decide) (by decide))) (by decide) (zl_lt HX (by decide)) rfl dh_X3_checkMounted dn_X3_checkMounted (Nat.le_of_ble_eq_true rfl) (Nat.le_of_ble_eq_true rfl) (Nat.le_of_ble_eq_true rfl) (zl_cap HX) rfl (fun w1 g1 => ?_)
  subst w1
  exact zg_out rfl ⟨rfl, zp_nw HX hX hH⟩
set_option maxHeartbeats 4000000 in
set_option maxRecDepth 100000 in
theorem pl_2 {V : zv_V} (E : zv_OK V) {w : zw_W} (HX : zl_X w) {D : Nat → Nat → Nat} {H : za_H} {b : Bool} {L S : za_T} {C : za_C} (hX : zr_X (zw_i w) D H b L S C) (hH : za_WH H) (hb : b = false)  : zg_C V zm_X3_flush yX3_flush 8 190 [.ref 1] w (zq_p (.inl (some (.int (nI H.1)))) (zr_pub w (za_car D H za_all H.1) (0, H.2) b L (if za_z H H.1 then L else S) C)) := by
  refine zg_of (by decide +kernel) rfl (Nat.le_of_ble_eq_true rfl) ?_
  show zg_G V zm_X3_flush 8 190 w.1 w.2.1 0 [] [(0, .ref 1)] w _
  refine zg_aload_n dX3_flush_0 rfl ?_
  refine zg_vrt (M := zm_X3_flush) E (ci := 3) dX3_flush_1 (ct_mounted_ok E HX (by rw [hX.2.2.1, hb]; rfl)) wd_X3_55 rfl (congrArg Prod.fst (zl_at HX (k := 1) (t := (3, 7)) rfl (by decide) (by decide))) (by decide) (zl_lt HX (by decide)) rfl dh_X3_checkMounted dn_X3_checkMounted (Nat.le_of_ble_eq_true rfl) (Nat.le_of_ble_eq_true rfl) (Nat.le_of_ble_eq_true rfl) (zl_cap HX) rfl (fun w1 g1 => ?_)
  subst w1
  refine zg_aload_n dX3_flush_4 rfl ?_
  refine zg_vrt (M := zm_X3_flush) E (ci := 3) dX3_flush_5 (kt_carryOutAll E HX hX hH) wd_X3_112 rfl (congrArg Prod.fst (zl_at HX (k := 1) (t := (3, 7)) rfl (by decide) (by decide))) (by decide) (zl_lt HX (by decide)) rfl dh_X3_carryOutAll dn_X3_carryOutAll (Nat.le_of_ble_eq_true rfl) (Nat.le_of_ble_eq_true rfl) (Nat.le_of_ble_eq_true rfl) (zl_cap HX) rfl (fun w5 g5 => ?_)
  obtain ⟨J1, rfl, r1, f1⟩ := g5
  refine zg_w (w' := zw_I w J1) rfl ?_
  exact zg_iret rfl dX3_flush_8 ⟨rfl, zp_to (by decide) ⟨_, rfl, r1, f1⟩⟩
set_option maxHeartbeats 4000000 in
set_option maxRecDepth 100000 in
theorem pm_1 {V : zv_V} (E : zv_OK V) {w : zw_W} (HX : zl_X w) {D : Nat → Nat → Nat} {H : za_H} {b : Bool} {L S : za_T} {C : za_C} (hX : zr_X (zw_i w) D H b L S C) (hH : za_WH H)  : zg_C V zm_X3_format yX3_format 8 190 [.ref 1] w (zq_p (.inl none) (zr_pub w za_D0 (0, H.2) false (za_mt za_D0) (za_mt za_D0) za_C0)) := by
  refine zg_of (by decide +kernel) rfl (Nat.le_of_ble_eq_true rfl) ?_
  show zg_G V zm_X3_format 8 190 w.1 w.2.1 0 [] [(0, .ref 1)] w _
  refine zg_aload_n dX3_format_0 rfl ?_
  refine zg_vrt (M := zm_X3_format) E (ci := 3) dX3_format_1 (kt_format E HX hX hH) wd_X3_42 rfl (congrArg Prod.fst (zl_at HX (k := 1) (t := (3, 7)) rfl (by decide) (by decide))) (by decide) (zl_lt HX (by decide)) rfl dh_X3_formatAndMount dn_X3_formatAndMount (Nat.le_of_ble_eq_true rfl) (Nat.le_of_ble_eq_true rfl) (Nat.le_of_ble_eq_true rfl) (zl_cap HX) rfl (fun w1 g1 => ?_)
  obtain ⟨J1, rfl, r1, f1⟩ := g1
  refine zg_w (w' := zw_I w J1) rfl ?_
  exact zg_vret rfl dX3_format_4 ⟨rfl, zp_to (by decide) ⟨_, rfl, r1, f1⟩⟩

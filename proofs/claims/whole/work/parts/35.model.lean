/-! The reference's total. -/
set_option maxHeartbeats 4000000 in
set_option maxRecDepth 100000 in
theorem qt_1 {V : zv_V} (E : zv_OK V) {w : zw_W} (HM : zl_M w) {D : Nat → Nat → Nat} {H : za_H} {b : Bool} {L S : za_T} {C : za_C} {t : Bool} (hM : zu_X (zw_i w) D H b L S C t) {x : Int32} (hx : ∀ n, n < 8 → x ≠ nI n) : zg_C V zm_X4_total yX4_total 8 190 [.ref 156, .int x] w (zq_p (.inl (some (.int (nI 0)))) (zu_pub w D H b L S C t 1)) := by
  refine zg_of (by decide +kernel) rfl (Nat.le_of_ble_eq_true rfl) ?_
  show zg_G V zm_X4_total 8 190 w.1 w.2.1 0 [] [(0, .ref 156), (1, .int x)] w _
  refine zg_aload_n dX4_total_0 rfl ?_
  refine zg_iload_n dX4_total_1 rfl ?_
  refine zg_iconst (v := nI 0) dX4_total_2 (by decide) ?_
  refine zg_bipush (v := nI 7) dX4_total_3 (by decide) ?_
  refine zg_sret (M := zm_X4_total) E dX4_total_5 (mt_within (w := w) E (z := false) (zw_x (n := 7) hx (by decide))) wd_X4_67 dh_X4_within dn_X4_within (Nat.le_of_ble_eq_true rfl) (Nat.le_of_ble_eq_true rfl) (Nat.le_of_ble_eq_true rfl) (zl_capM HM) rfl (fun w5 g5 => ?_)
  subst w5
  refine zg_if_ne (tgt := 15) dX4_total_8 (by decide) (fun h8 => ?_) (fun h8 => ?_)
  · exact absurd rfl h8
  · refine zg_iconst (v := nI 1) dX4_total_11 (by decide) ?_
    refine zg_goto (tgt := 16) dX4_total_12 (by decide) ?_
    refine zg_iconst (v := nI 1) dX4_total_16 (by decide) ?_
    refine zg_vrt (M := zm_X4_total) E (ci := 4) dX4_total_17 (mt_fails (w := w) (z := true) (k := nI 1) E HM) wd_X4_102 rfl (congrArg Prod.fst (zl_Mat HM (k := 156) (t := (4, 17)) rfl (by decide) (by decide))) (by decide) (zl_Mlt HM (by decide)) rfl dh_X4_fails dn_X4_fails (Nat.le_of_ble_eq_true rfl) (Nat.le_of_ble_eq_true rfl) (Nat.le_of_ble_eq_true rfl) (zl_capM HM) rfl (fun w17 g17 => ?_)
    subst w17
    obtain ⟨J1, e1, r1, t1, f1⟩ := zu_th (w := w) hM (nI 1)
    refine zg_w e1.symm ?_
    refine zg_if_eq (tgt := 25) dX4_total_20 (by decide) (fun h20 => ?_) (fun h20 => ?_)
    · exact absurd h20 (by decide)
    · refine zg_iconst (v := nI 0) dX4_total_23 (by decide) ?_
      exact zg_iret rfl dX4_total_24 ⟨rfl, J1, rfl, r1, t1, zu_frW (f1)⟩
set_option maxHeartbeats 4000000 in
set_option maxRecDepth 100000 in
theorem qt_2 {V : zv_V} (E : zv_OK V) {w : zw_W} (HM : zl_M w) {D : Nat → Nat → Nat} {H : za_H} {b : Bool} {L S : za_T} {C : za_C} {t : Bool} (hM : zu_X (zw_i w) D H b L S C t)  : zg_C V zm_X4_total yX4_total 8 190 [.ref 156, .int (nI 0)] w (zq_p (.inl (some (.int (nI H.1)))) (zu_pub w D H b L S C t 0)) := by
  refine zg_of (by decide +kernel) rfl (Nat.le_of_ble_eq_true rfl) ?_
  show zg_G V zm_X4_total 8 190 w.1 w.2.1 0 [] [(0, .ref 156), (1, .int (nI 0))] w _
  refine zg_aload_n dX4_total_0 rfl ?_
  refine zg_iload_n dX4_total_1 rfl ?_
  refine zg_iconst (v := nI 0) dX4_total_2 (by decide) ?_
  refine zg_bipush (v := nI 7) dX4_total_3 (by decide) ?_
  refine zg_sret (M := zm_X4_total) E dX4_total_5 (mt_within (w := w) E (z := true) (zw_y (p := 0) (n := 7) (by omega) (by decide))) wd_X4_67 dh_X4_within dn_X4_within (Nat.le_of_ble_eq_true rfl) (Nat.le_of_ble_eq_true rfl) (Nat.le_of_ble_eq_true rfl) (zl_capM HM) rfl (fun w5 g5 => ?_)
  subst w5
  refine zg_if_ne (tgt := 15) dX4_total_8 (by decide) (fun h8 => ?_) (fun h8 => ?_)
  · refine zg_iconst (v := nI 0) dX4_total_15 (by decide) ?_
    refine zg_iconst (v := nI 1) dX4_total_16 (by decide) ?_
    refine zg_vrt (M := zm_X4_total) E (ci := 4) dX4_total_17 (mt_fails (w := w) (z := false) (k := nI 1) E HM) wd_X4_102 rfl (congrArg Prod.fst (zl_Mat HM (k := 156) (t := (4, 17)) rfl (by decide) (by decide))) (by decide) (zl_Mlt HM (by decide)) rfl dh_X4_fails dn_X4_fails (Nat.le_of_ble_eq_true rfl) (Nat.le_of_ble_eq_true rfl) (Nat.le_of_ble_eq_true rfl) (zl_capM HM) rfl (fun w17 g17 => ?_)
    subst w17
    obtain ⟨J1, e1, r1, t1, f1⟩ := zu_th (w := w) hM (nI 0)
    refine zg_w e1.symm ?_
    refine zg_if_eq (tgt := 25) dX4_total_20 (by decide) (fun h20 => ?_) (fun h20 => ?_)
    · refine zg_iload_n dX4_total_25 rfl ?_
      refine zg_if_ne (tgt := 34) dX4_total_26 (by decide) (fun h26 => ?_) (fun h26 => ?_)
      · exact absurd rfl h26
      · refine zg_aload_n dX4_total_29 rfl ?_
        refine zg_getI E (ci := 4) (j := 14) dX4_total_30 rfl (congrArg Prod.fst (zl_Mat HM (k := 156) (t := (4, 17)) rfl (by decide) (by decide))) (by decide) (zl_Mlt HM (by decide)) (by decide) fl_X4_54 rfl ?_
        refine zg_v (x' := nI H.1) r1.2.1.1 ?_
        exact zg_iret rfl dX4_total_33 ⟨rfl, J1, rfl, r1, t1, zu_frW (f1)⟩
    · exact absurd rfl h20
  · exact absurd h8 (by decide)
set_option maxHeartbeats 4000000 in
set_option maxRecDepth 100000 in
theorem qt_3 {V : zv_V} (E : zv_OK V) {w : zw_W} (HM : zl_M w) {D : Nat → Nat → Nat} {H : za_H} {b : Bool} {L S : za_T} {C : za_C} {t : Bool} (hM : zu_X (zw_i w) D H b L S C t)  : zg_C V zm_X4_total yX4_total 8 190 [.ref 156, .int (nI 7)] w (zq_p (.inl (some (.int (za_bit b)))) (zu_pub w D H b L S C t 0)) := by
  refine zg_of (by decide +kernel) rfl (Nat.le_of_ble_eq_true rfl) ?_
  show zg_G V zm_X4_total 8 190 w.1 w.2.1 0 [] [(0, .ref 156), (1, .int (nI 7))] w _
  refine zg_aload_n dX4_total_0 rfl ?_
  refine zg_iload_n dX4_total_1 rfl ?_
  refine zg_iconst (v := nI 0) dX4_total_2 (by decide) ?_
  refine zg_bipush (v := nI 7) dX4_total_3 (by decide) ?_
  refine zg_sret (M := zm_X4_total) E dX4_total_5 (mt_within (w := w) E (z := true) (zw_y (p := 7) (n := 7) (by omega) (by decide))) wd_X4_67 dh_X4_within dn_X4_within (Nat.le_of_ble_eq_true rfl) (Nat.le_of_ble_eq_true rfl) (Nat.le_of_ble_eq_true rfl) (zl_capM HM) rfl (fun w5 g5 => ?_)
  subst w5
  refine zg_if_ne (tgt := 15) dX4_total_8 (by decide) (fun h8 => ?_) (fun h8 => ?_)
  · refine zg_iconst (v := nI 0) dX4_total_15 (by decide) ?_
    refine zg_iconst (v := nI 1) dX4_total_16 (by decide) ?_
    refine zg_vrt (M := zm_X4_total) E (ci := 4) dX4_total_17 (mt_fails (w := w) (z := false) (k := nI 1) E HM) wd_X4_102 rfl (congrArg Prod.fst (zl_Mat HM (k := 156) (t := (4, 17)) rfl (by decide) (by decide))) (by decide) (zl_Mlt HM (by decide)) rfl dh_X4_fails dn_X4_fails (Nat.le_of_ble_eq_true rfl) (Nat.le_of_ble_eq_true rfl) (Nat.le_of_ble_eq_true rfl) (zl_capM HM) rfl (fun w17 g17 => ?_)
    subst w17
    obtain ⟨J1, e1, r1, t1, f1⟩ := zu_th (w := w) hM (nI 0)
    refine zg_w e1.symm ?_
    refine zg_if_eq (tgt := 25) dX4_total_20 (by decide) (fun h20 => ?_) (fun h20 => ?_)
    · refine zg_iload_n dX4_total_25 rfl ?_
      refine zg_if_ne (tgt := 34) dX4_total_26 (by decide) (fun h26 => ?_) (fun h26 => ?_)
      · refine zg_iload_n dX4_total_34 rfl ?_
        refine zg_bipush (v := nI 7) dX4_total_35 (by decide) ?_
        refine zg_icmp_ne (tgt := 53) dX4_total_37 (by decide) (fun h37 => ?_) (fun h37 => ?_)
        · exact absurd rfl h37
        · refine zg_aload_n dX4_total_40 rfl ?_
          refine zg_getI E (ci := 4) (j := 7) dX4_total_41 rfl (congrArg Prod.fst (zl_Mat HM (k := 156) (t := (4, 17)) rfl (by decide) (by decide))) (by decide) (zl_Mlt HM (by decide)) (by decide) fl_X4_64 rfl ?_
          refine zg_v (x' := za_bit b) r1.2.2.1 ?_
          refine zg_if_eq (tgt := 51) dX4_total_44 (by decide) (fun h44 => ?_) (fun h44 => ?_)
          · have e := za_bit0 h44
            refine zg_iconst (v := nI 0) dX4_total_51 (by decide) ?_
            exact zg_iret rfl dX4_total_52 ⟨by rw [e]; rfl, J1, rfl, r1, t1, zu_frW f1⟩
          · have e := za_bit1 h44
            refine zg_iconst (v := nI 1) dX4_total_47 (by decide) ?_
            refine zg_goto (tgt := 52) dX4_total_48 (by decide) ?_
            exact zg_iret rfl dX4_total_52 ⟨by rw [e]; rfl, J1, rfl, r1, t1, zu_frW f1⟩
      · exact absurd h26 (by decide)
    · exact absurd rfl h20
  · exact absurd h8 (by decide)
set_option maxHeartbeats 4000000 in
set_option maxRecDepth 100000 in
theorem qt_4 {V : zv_V} (E : zv_OK V) {w : zw_W} (HM : zl_M w) {D : Nat → Nat → Nat} {H : za_H} {b : Bool} {L S : za_T} {C : za_C} {t : Bool} (hM : zu_X (zw_i w) D H b L S C t) {k : Nat} (g1 : 1 ≤ k) (g6 : k ≤ 6) (hb : b = true)  : zg_C V zm_X4_total yX4_total 8 190 [.ref 156, .int (nI k)] w (zq_p (.inl (some (.int ((-1))))) (zu_pub w D H b L S C t 0)) := by
  refine zg_of (by decide +kernel) rfl (Nat.le_of_ble_eq_true rfl) ?_
  show zg_G V zm_X4_total 8 190 w.1 w.2.1 0 [] [(0, .ref 156), (1, .int (nI k))] w _
  refine zg_aload_n dX4_total_0 rfl ?_
  refine zg_iload_n dX4_total_1 rfl ?_
  refine zg_iconst (v := nI 0) dX4_total_2 (by decide) ?_
  refine zg_bipush (v := nI 7) dX4_total_3 (by decide) ?_
  refine zg_sret (M := zm_X4_total) E dX4_total_5 (mt_within (w := w) E (z := true) (zw_y (p := k) (n := 7) (by omega) (by decide))) wd_X4_67 dh_X4_within dn_X4_within (Nat.le_of_ble_eq_true rfl) (Nat.le_of_ble_eq_true rfl) (Nat.le_of_ble_eq_true rfl) (zl_capM HM) rfl (fun w5 g5 => ?_)
  subst w5
  refine zg_if_ne (tgt := 15) dX4_total_8 (by decide) (fun h8 => ?_) (fun h8 => ?_)
  · refine zg_iconst (v := nI 0) dX4_total_15 (by decide) ?_
    refine zg_iconst (v := nI 1) dX4_total_16 (by decide) ?_
    refine zg_vrt (M := zm_X4_total) E (ci := 4) dX4_total_17 (mt_fails (w := w) (z := false) (k := nI 1) E HM) wd_X4_102 rfl (congrArg Prod.fst (zl_Mat HM (k := 156) (t := (4, 17)) rfl (by decide) (by decide))) (by decide) (zl_Mlt HM (by decide)) rfl dh_X4_fails dn_X4_fails (Nat.le_of_ble_eq_true rfl) (Nat.le_of_ble_eq_true rfl) (Nat.le_of_ble_eq_true rfl) (zl_capM HM) rfl (fun w17 g17 => ?_)
    subst w17
    obtain ⟨J1, e1, r1, t1, f1⟩ := zu_th (w := w) hM (nI 0)
    refine zg_w e1.symm ?_
    refine zg_if_eq (tgt := 25) dX4_total_20 (by decide) (fun h20 => ?_) (fun h20 => ?_)
    · refine zg_iload_n dX4_total_25 rfl ?_
      refine zg_if_ne (tgt := 34) dX4_total_26 (by decide) (fun h26 => ?_) (fun h26 => ?_)
      · refine zg_iload_n dX4_total_34 rfl ?_
        refine zg_bipush (v := nI 7) dX4_total_35 (by decide) ?_
        refine zg_icmp_ne (tgt := 53) dX4_total_37 (by decide) (fun h37 => ?_) (fun h37 => ?_)
        · refine zg_aload_n dX4_total_53 rfl ?_
          refine zg_getI E (ci := 4) (j := 7) dX4_total_54 rfl (congrArg Prod.fst (zl_Mat HM (k := 156) (t := (4, 17)) rfl (by decide) (by decide))) (by decide) (zl_Mlt HM (by decide)) (by decide) fl_X4_64 rfl ?_
          refine zg_v (x' := za_bit true) (r1.2.2.1.trans (congrArg za_bit hb)) ?_
          refine zg_if_eq (tgt := 62) dX4_total_57 (by decide) (fun h57 => ?_) (fun h57 => ?_)
          · exact absurd h57 (by decide)
          · refine zg_iconst (v := (-1)) dX4_total_60 (by decide) ?_
            exact zg_iret rfl dX4_total_61 ⟨rfl, J1, rfl, r1, t1, zu_frW (f1)⟩
        · exact absurd h37 (fun z => absurd ((nI_eq (by omega) (by decide)).mp z) (by omega))
      · exact absurd h26 (nI_ne0 (by omega) (by omega))
    · exact absurd rfl h20
  · exact absurd h8 (by decide)
set_option maxHeartbeats 4000000 in
set_option maxRecDepth 100000 in
theorem qt_5 {V : zv_V} (E : zv_OK V) {w : zw_W} (HM : zl_M w) {D : Nat → Nat → Nat} {H : za_H} {b : Bool} {L S : za_T} {C : za_C} {t : Bool} (hM : zu_X (zw_i w) D H b L S C t) (hb : b = false) (h0 : 0 < za_n C.1 16) (wC : za_WC C) : zg_C V zm_X4_total yX4_total 8 190 [.ref 156, .int (nI 1)] w (zq_p (.inl (some (.int (nI (za_n C.1 16))))) (zu_pub w D H b L S C t 0)) := by
  refine zg_of (by decide +kernel) rfl (Nat.le_of_ble_eq_true rfl) ?_
  show zg_G V zm_X4_total 8 190 w.1 w.2.1 0 [] [(0, .ref 156), (1, .int (nI 1))] w _
  refine zg_aload_n dX4_total_0 rfl ?_
  refine zg_iload_n dX4_total_1 rfl ?_
  refine zg_iconst (v := nI 0) dX4_total_2 (by decide) ?_
  refine zg_bipush (v := nI 7) dX4_total_3 (by decide) ?_
  refine zg_sret (M := zm_X4_total) E dX4_total_5 (mt_within (w := w) E (z := true) (zw_y (p := 1) (n := 7) (by omega) (by decide))) wd_X4_67 dh_X4_within dn_X4_within (Nat.le_of_ble_eq_true rfl) (Nat.le_of_ble_eq_true rfl) (Nat.le_of_ble_eq_true rfl) (zl_capM HM) rfl (fun w5 g5 => ?_)
  subst w5
  refine zg_if_ne (tgt := 15) dX4_total_8 (by decide) (fun h8 => ?_) (fun h8 => ?_)
  · refine zg_iconst (v := nI 0) dX4_total_15 (by decide) ?_
    refine zg_iconst (v := nI 1) dX4_total_16 (by decide) ?_
    refine zg_vrt (M := zm_X4_total) E (ci := 4) dX4_total_17 (mt_fails (w := w) (z := false) (k := nI 1) E HM) wd_X4_102 rfl (congrArg Prod.fst (zl_Mat HM (k := 156) (t := (4, 17)) rfl (by decide) (by decide))) (by decide) (zl_Mlt HM (by decide)) rfl dh_X4_fails dn_X4_fails (Nat.le_of_ble_eq_true rfl) (Nat.le_of_ble_eq_true rfl) (Nat.le_of_ble_eq_true rfl) (zl_capM HM) rfl (fun w17 g17 => ?_)
    subst w17
    obtain ⟨J1, e1, r1, t1, f1⟩ := zu_th (w := w) hM (nI 0)
    refine zg_w e1.symm ?_
    refine zg_if_eq (tgt := 25) dX4_total_20 (by decide) (fun h20 => ?_) (fun h20 => ?_)
    · refine zg_iload_n dX4_total_25 rfl ?_
      refine zg_if_ne (tgt := 34) dX4_total_26 (by decide) (fun h26 => ?_) (fun h26 => ?_)
      · refine zg_iload_n dX4_total_34 rfl ?_
        refine zg_bipush (v := nI 7) dX4_total_35 (by decide) ?_
        refine zg_icmp_ne (tgt := 53) dX4_total_37 (by decide) (fun h37 => ?_) (fun h37 => ?_)
        · refine zg_aload_n dX4_total_53 rfl ?_
          refine zg_getI E (ci := 4) (j := 7) dX4_total_54 rfl (congrArg Prod.fst (zl_Mat HM (k := 156) (t := (4, 17)) rfl (by decide) (by decide))) (by decide) (zl_Mlt HM (by decide)) (by decide) fl_X4_64 rfl ?_
          refine zg_v (x' := za_bit false) (r1.2.2.1.trans (congrArg za_bit hb)) ?_
          refine zg_if_eq (tgt := 62) dX4_total_57 (by decide) (fun h57 => ?_) (fun h57 => ?_)
          · refine zg_iconst (v := nI 0) dX4_total_62 (by decide) ?_
            refine zg_istore_n (lv' := [(2, .int (nI 0)), (0, .ref 156), (1, .int (nI 1))]) dX4_total_63 (by decide) rfl ?_
            refine zg_iload_n dX4_total_64 rfl ?_
            refine zg_tabIn (off := 35) (tgt := 100) dX4_total_65 (by decide) (by decide) (by decide) (by decide) ?_
            refine zg_aload_n dX4_total_100 rfl ?_
            refine zg_getI E (ci := 4) (j := 8) dX4_total_101 rfl (congrArg Prod.fst (zl_Mat HM (k := 156) (t := (4, 17)) rfl (by decide) (by decide))) (by decide) (zl_Mlt HM (by decide)) (by decide) fl_X4_61 rfl ?_
            refine zg_v (x' := za_bit (decide (0 < za_n C.1 16))) r1.2.2.2.2.2.1.1 ?_
            refine zg_if_eq (tgt := 114) dX4_total_104 (by decide) (fun h104 => ?_) (fun h104 => ?_)
            · exact absurd h104 (by rw [decide_eq_true h0]; decide)
            · refine zg_aload_n dX4_total_107 rfl ?_
              refine zg_vrt (M := zm_X4_total) E (ci := 4) dX4_total_108 (mt_changed (w := zw_I w J1) (O := C.1) E HM (r1.2.2.2.2.2.1.2.1 h0) wC.1) wd_X4_111 rfl (congrArg Prod.fst (zl_Mat HM (k := 156) (t := (4, 17)) rfl (by decide) (by decide))) (by decide) (zl_Mlt HM (by decide)) rfl dh_X4_changed dn_X4_changed (Nat.le_of_ble_eq_true rfl) (Nat.le_of_ble_eq_true rfl) (Nat.le_of_ble_eq_true rfl) (zl_capM HM) rfl (fun w108 g108 => ?_)
              subst w108
              refine zg_goto (tgt := 115) dX4_total_111 (by decide) ?_
              exact zg_iret rfl dX4_total_115 ⟨rfl, J1, rfl, r1, t1, zu_frW (f1)⟩
          · exact absurd rfl h57
        · exact absurd h37 (by decide)
      · exact absurd h26 (by decide)
    · exact absurd rfl h20
  · exact absurd h8 (by decide)
set_option maxHeartbeats 4000000 in
set_option maxRecDepth 100000 in
theorem qt_6 {V : zv_V} (E : zv_OK V) {w : zw_W} (HM : zl_M w) {D : Nat → Nat → Nat} {H : za_H} {b : Bool} {L S : za_T} {C : za_C} {t : Bool} (hM : zu_X (zw_i w) D H b L S C t) (hb : b = false) (h0 : za_n C.1 16 = 0) : zg_C V zm_X4_total yX4_total 8 190 [.ref 156, .int (nI 1)] w (zq_p (.inl (some (.int ((-1))))) (zu_pub w D H b L S C t 0)) := by
  refine zg_of (by decide +kernel) rfl (Nat.le_of_ble_eq_true rfl) ?_
  show zg_G V zm_X4_total 8 190 w.1 w.2.1 0 [] [(0, .ref 156), (1, .int (nI 1))] w _
  refine zg_aload_n dX4_total_0 rfl ?_
  refine zg_iload_n dX4_total_1 rfl ?_
  refine zg_iconst (v := nI 0) dX4_total_2 (by decide) ?_
  refine zg_bipush (v := nI 7) dX4_total_3 (by decide) ?_
  refine zg_sret (M := zm_X4_total) E dX4_total_5 (mt_within (w := w) E (z := true) (zw_y (p := 1) (n := 7) (by omega) (by decide))) wd_X4_67 dh_X4_within dn_X4_within (Nat.le_of_ble_eq_true rfl) (Nat.le_of_ble_eq_true rfl) (Nat.le_of_ble_eq_true rfl) (zl_capM HM) rfl (fun w5 g5 => ?_)
  subst w5
  refine zg_if_ne (tgt := 15) dX4_total_8 (by decide) (fun h8 => ?_) (fun h8 => ?_)
  · refine zg_iconst (v := nI 0) dX4_total_15 (by decide) ?_
    refine zg_iconst (v := nI 1) dX4_total_16 (by decide) ?_
    refine zg_vrt (M := zm_X4_total) E (ci := 4) dX4_total_17 (mt_fails (w := w) (z := false) (k := nI 1) E HM) wd_X4_102 rfl (congrArg Prod.fst (zl_Mat HM (k := 156) (t := (4, 17)) rfl (by decide) (by decide))) (by decide) (zl_Mlt HM (by decide)) rfl dh_X4_fails dn_X4_fails (Nat.le_of_ble_eq_true rfl) (Nat.le_of_ble_eq_true rfl) (Nat.le_of_ble_eq_true rfl) (zl_capM HM) rfl (fun w17 g17 => ?_)
    subst w17
    obtain ⟨J1, e1, r1, t1, f1⟩ := zu_th (w := w) hM (nI 0)
    refine zg_w e1.symm ?_
    refine zg_if_eq (tgt := 25) dX4_total_20 (by decide) (fun h20 => ?_) (fun h20 => ?_)
    · refine zg_iload_n dX4_total_25 rfl ?_
      refine zg_if_ne (tgt := 34) dX4_total_26 (by decide) (fun h26 => ?_) (fun h26 => ?_)
      · refine zg_iload_n dX4_total_34 rfl ?_
        refine zg_bipush (v := nI 7) dX4_total_35 (by decide) ?_
        refine zg_icmp_ne (tgt := 53) dX4_total_37 (by decide) (fun h37 => ?_) (fun h37 => ?_)
        · refine zg_aload_n dX4_total_53 rfl ?_
          refine zg_getI E (ci := 4) (j := 7) dX4_total_54 rfl (congrArg Prod.fst (zl_Mat HM (k := 156) (t := (4, 17)) rfl (by decide) (by decide))) (by decide) (zl_Mlt HM (by decide)) (by decide) fl_X4_64 rfl ?_
          refine zg_v (x' := za_bit false) (r1.2.2.1.trans (congrArg za_bit hb)) ?_
          refine zg_if_eq (tgt := 62) dX4_total_57 (by decide) (fun h57 => ?_) (fun h57 => ?_)
          · refine zg_iconst (v := nI 0) dX4_total_62 (by decide) ?_
            refine zg_istore_n (lv' := [(2, .int (nI 0)), (0, .ref 156), (1, .int (nI 1))]) dX4_total_63 (by decide) rfl ?_
            refine zg_iload_n dX4_total_64 rfl ?_
            refine zg_tabIn (off := 35) (tgt := 100) dX4_total_65 (by decide) (by decide) (by decide) (by decide) ?_
            refine zg_aload_n dX4_total_100 rfl ?_
            refine zg_getI E (ci := 4) (j := 8) dX4_total_101 rfl (congrArg Prod.fst (zl_Mat HM (k := 156) (t := (4, 17)) rfl (by decide) (by decide))) (by decide) (zl_Mlt HM (by decide)) (by decide) fl_X4_61 rfl ?_
            refine zg_v (x' := za_bit (decide (0 < za_n C.1 16))) r1.2.2.2.2.2.1.1 ?_
            refine zg_if_eq (tgt := 114) dX4_total_104 (by decide) (fun h104 => ?_) (fun h104 => ?_)
            · refine zg_iconst (v := (-1)) dX4_total_114 (by decide) ?_
              exact zg_iret rfl dX4_total_115 ⟨rfl, J1, rfl, r1, t1, zu_frW (f1)⟩
            · exact absurd (by rw [h0]; rfl) h104
          · exact absurd rfl h57
        · exact absurd h37 (by decide)
      · exact absurd h26 (by decide)
    · exact absurd rfl h20
  · exact absurd h8 (by decide)
set_option maxHeartbeats 4000000 in
set_option maxRecDepth 100000 in
theorem lm_tot {V : zv_V} (E : zv_OK V) {w : zw_W} {n0 u0 : Nat} {Q : zg_O → zw_W → Prop} (HM : zl_M w) {D : Nat → Nat → Nat} {H : za_H} {b : Bool} {L S : za_T} {C : za_C} {t : Bool} {J1 : Nat → Nat → Int32} (r1 : zu_X J1 D H b L S C t) (wL : za_WT L) (wS : za_WT S) (wC : za_WC C) {f : Nat → Bool} (hf : ∀ s, s < 48 → (f s = true ↔ ¬ za_us L S C.1 s)) (hq : Q (.inl (some (.int (nI (za_pc f 48))))) (zw_I w J1))  : ∀ (n i : Nat) , i ≤ 48 → 48 + 1 ≤ i + n → zg_G V zm_X4_total 8 190 n0 u0 118 [] [(3, .int (nI i)), (2, .int (nI (za_pc f i))), (0, .ref 156), (1, .int (nI 2))] (zw_I w J1) Q := by
  intro nn
  induction nn with
  | zero =>
    intro i hii hnn
    exact absurd hnn (by omega)
  | succ nn ih =>
    intro i hii hnn 
    refine zg_iload_n dX4_total_118 rfl ?_
    refine zg_bipush (v := nI 48) dX4_total_119 (by decide) ?_
    refine zg_icmp_ge (tgt := 146) dX4_total_121 (by decide) (fun h121 => ?_) (fun h121 => ?_)
    · obtain rfl : i = 48 := by have := zn_ge h121 (by omega) (by omega); omega
      refine zg_iload_n dX4_total_146 rfl ?_
      exact zg_iret rfl dX4_total_147 hq
    · have hlt : i < 48 := zn_lt h121 (by omega) (by omega)
      refine zg_iload_n dX4_total_124 rfl ?_
      refine zg_aload_n dX4_total_125 rfl ?_
      refine zg_iload_n dX4_total_126 rfl ?_
      refine zg_vrt (M := zm_X4_total) E (ci := 4) dX4_total_127 (mt_isFree (w := zw_I w J1) E HM r1 wL wS wC hlt (hf i hlt)) wd_X4_86 rfl (congrArg Prod.fst (zl_Mat HM (k := 156) (t := (4, 17)) rfl (by decide) (by decide))) (by decide) (zl_Mlt HM (by decide)) rfl dh_X4_isFree dn_X4_isFree (Nat.le_of_ble_eq_true rfl) (Nat.le_of_ble_eq_true rfl) (Nat.le_of_ble_eq_true rfl) (zl_capM HM) rfl (fun w127 g127 => ?_)
      subst w127
      refine zg_if_eq (tgt := 137) dX4_total_130 (by decide) (fun h130 => ?_) (fun h130 => ?_)
      · have e := za_bit0 h130
        refine zg_iconst (v := nI 0) dX4_total_137 (by decide) ?_
        refine zg_iadd dX4_total_138 ?_
        refine zg_v (x' := nI ((za_pc f i) + 0)) (nI_add _ _) ?_
        refine zg_v (x' := nI (za_pc f (i + 1))) (congrArg nI (show za_pc f i + 0 = za_pc f i + (if f i then 1 else 0) by rw [e]; rfl)) ?_
        refine zg_istore_n (lv' := [(2, .int (nI (za_pc f (i + 1)))), (3, .int (nI i)), (0, .ref 156), (1, .int (nI 2))]) dX4_total_139 (by decide) rfl ?_
        refine zg_iinc (v := nI (i + 1)) (lv' := [(3, .int (nI (i + 1))), (2, .int (nI (za_pc f (i + 1)))), (0, .ref 156), (1, .int (nI 2))]) dX4_total_140 rfl (nI_1 i) (by decide) rfl ?_
        refine zg_goto (tgt := 118) dX4_total_143 (by decide) ?_
        refine zg_l [0, 1, 2, 3] rfl ?_
        exact zg_s rfl rfl rfl (ih (i + 1) (by omega) (by omega))
      · have e := za_bit1 h130
        refine zg_iconst (v := nI 1) dX4_total_133 (by decide) ?_
        refine zg_goto (tgt := 138) dX4_total_134 (by decide) ?_
        refine zg_iadd dX4_total_138 ?_
        refine zg_v (x' := nI ((za_pc f i) + 1)) (nI_add _ _) ?_
        refine zg_v (x' := nI (za_pc f (i + 1))) (congrArg nI (show za_pc f i + 1 = za_pc f i + (if f i then 1 else 0) by rw [e]; rfl)) ?_
        refine zg_istore_n (lv' := [(2, .int (nI (za_pc f (i + 1)))), (3, .int (nI i)), (0, .ref 156), (1, .int (nI 2))]) dX4_total_139 (by decide) rfl ?_
        refine zg_iinc (v := nI (i + 1)) (lv' := [(3, .int (nI (i + 1))), (2, .int (nI (za_pc f (i + 1)))), (0, .ref 156), (1, .int (nI 2))]) dX4_total_140 rfl (nI_1 i) (by decide) rfl ?_
        refine zg_goto (tgt := 118) dX4_total_143 (by decide) ?_
        refine zg_l [0, 1, 2, 3] rfl ?_
        exact zg_s rfl rfl rfl (ih (i + 1) (by omega) (by omega))
set_option maxHeartbeats 4000000 in
set_option maxRecDepth 100000 in
theorem qt_7 {V : zv_V} (E : zv_OK V) {w : zw_W} (HM : zl_M w) {D : Nat → Nat → Nat} {H : za_H} {b : Bool} {L S : za_T} {C : za_C} {t : Bool} (hM : zu_X (zw_i w) D H b L S C t) (hb : b = false) (wL : za_WT L) (wS : za_WT S) (wC : za_WC C) {f : Nat → Bool} (hf : ∀ s, s < 48 → (f s = true ↔ ¬ za_us L S C.1 s)) : zg_C V zm_X4_total yX4_total 8 190 [.ref 156, .int (nI 2)] w (zq_p (.inl (some (.int (nI (za_pc f 48))))) (zu_pub w D H b L S C t 0)) := by
  refine zg_of (by decide +kernel) rfl (Nat.le_of_ble_eq_true rfl) ?_
  show zg_G V zm_X4_total 8 190 w.1 w.2.1 0 [] [(0, .ref 156), (1, .int (nI 2))] w _
  refine zg_aload_n dX4_total_0 rfl ?_
  refine zg_iload_n dX4_total_1 rfl ?_
  refine zg_iconst (v := nI 0) dX4_total_2 (by decide) ?_
  refine zg_bipush (v := nI 7) dX4_total_3 (by decide) ?_
  refine zg_sret (M := zm_X4_total) E dX4_total_5 (mt_within (w := w) E (z := true) (zw_y (p := 2) (n := 7) (by omega) (by decide))) wd_X4_67 dh_X4_within dn_X4_within (Nat.le_of_ble_eq_true rfl) (Nat.le_of_ble_eq_true rfl) (Nat.le_of_ble_eq_true rfl) (zl_capM HM) rfl (fun w5 g5 => ?_)
  subst w5
  refine zg_if_ne (tgt := 15) dX4_total_8 (by decide) (fun h8 => ?_) (fun h8 => ?_)
  · refine zg_iconst (v := nI 0) dX4_total_15 (by decide) ?_
    refine zg_iconst (v := nI 1) dX4_total_16 (by decide) ?_
    refine zg_vrt (M := zm_X4_total) E (ci := 4) dX4_total_17 (mt_fails (w := w) (z := false) (k := nI 1) E HM) wd_X4_102 rfl (congrArg Prod.fst (zl_Mat HM (k := 156) (t := (4, 17)) rfl (by decide) (by decide))) (by decide) (zl_Mlt HM (by decide)) rfl dh_X4_fails dn_X4_fails (Nat.le_of_ble_eq_true rfl) (Nat.le_of_ble_eq_true rfl) (Nat.le_of_ble_eq_true rfl) (zl_capM HM) rfl (fun w17 g17 => ?_)
    subst w17
    obtain ⟨J1, e1, r1, t1, f1⟩ := zu_th (w := w) hM (nI 0)
    refine zg_w e1.symm ?_
    refine zg_if_eq (tgt := 25) dX4_total_20 (by decide) (fun h20 => ?_) (fun h20 => ?_)
    · refine zg_iload_n dX4_total_25 rfl ?_
      refine zg_if_ne (tgt := 34) dX4_total_26 (by decide) (fun h26 => ?_) (fun h26 => ?_)
      · refine zg_iload_n dX4_total_34 rfl ?_
        refine zg_bipush (v := nI 7) dX4_total_35 (by decide) ?_
        refine zg_icmp_ne (tgt := 53) dX4_total_37 (by decide) (fun h37 => ?_) (fun h37 => ?_)
        · refine zg_aload_n dX4_total_53 rfl ?_
          refine zg_getI E (ci := 4) (j := 7) dX4_total_54 rfl (congrArg Prod.fst (zl_Mat HM (k := 156) (t := (4, 17)) rfl (by decide) (by decide))) (by decide) (zl_Mlt HM (by decide)) (by decide) fl_X4_64 rfl ?_
          refine zg_v (x' := za_bit false) (r1.2.2.1.trans (congrArg za_bit hb)) ?_
          refine zg_if_eq (tgt := 62) dX4_total_57 (by decide) (fun h57 => ?_) (fun h57 => ?_)
          · refine zg_iconst (v := nI 0) dX4_total_62 (by decide) ?_
            refine zg_istore_n (lv' := [(2, .int (nI 0)), (0, .ref 156), (1, .int (nI 2))]) dX4_total_63 (by decide) rfl ?_
            refine zg_iload_n dX4_total_64 rfl ?_
            refine zg_tabIn (off := 51) (tgt := 116) dX4_total_65 (by decide) (by decide) (by decide) (by decide) ?_
            refine zg_iconst (v := nI 0) dX4_total_116 (by decide) ?_
            refine zg_istore_n (lv' := [(3, .int (nI 0)), (2, .int (nI 0)), (0, .ref 156), (1, .int (nI 2))]) dX4_total_117 (by decide) rfl ?_
            refine zg_l [0, 1, 2, 3] rfl ?_
            exact zg_s rfl rfl rfl (lm_tot E HM r1 wL wS wC hf ⟨rfl, J1, rfl, r1, t1, zu_frW f1⟩ 49 0 (by omega) (by omega))
          · exact absurd rfl h57
        · exact absurd h37 (by decide)
      · exact absurd h26 (by decide)
    · exact absurd rfl h20
  · exact absurd h8 (by decide)
set_option maxHeartbeats 4000000 in
set_option maxRecDepth 100000 in
theorem qt_8 {V : zv_V} (E : zv_OK V) {w : zw_W} (HM : zl_M w) {D : Nat → Nat → Nat} {H : za_H} {b : Bool} {L S : za_T} {C : za_C} {t : Bool} (hM : zu_X (zw_i w) D H b L S C t) (hb : b = false)  : zg_C V zm_X4_total yX4_total 8 190 [.ref 156, .int (nI 3)] w (zq_p (.inl (some (.int (L.2.2)))) (zu_pub w D H b L S C t 0)) := by
  refine zg_of (by decide +kernel) rfl (Nat.le_of_ble_eq_true rfl) ?_
  show zg_G V zm_X4_total 8 190 w.1 w.2.1 0 [] [(0, .ref 156), (1, .int (nI 3))] w _
  refine zg_aload_n dX4_total_0 rfl ?_
  refine zg_iload_n dX4_total_1 rfl ?_
  refine zg_iconst (v := nI 0) dX4_total_2 (by decide) ?_
  refine zg_bipush (v := nI 7) dX4_total_3 (by decide) ?_
  refine zg_sret (M := zm_X4_total) E dX4_total_5 (mt_within (w := w) E (z := true) (zw_y (p := 3) (n := 7) (by omega) (by decide))) wd_X4_67 dh_X4_within dn_X4_within (Nat.le_of_ble_eq_true rfl) (Nat.le_of_ble_eq_true rfl) (Nat.le_of_ble_eq_true rfl) (zl_capM HM) rfl (fun w5 g5 => ?_)
  subst w5
  refine zg_if_ne (tgt := 15) dX4_total_8 (by decide) (fun h8 => ?_) (fun h8 => ?_)
  · refine zg_iconst (v := nI 0) dX4_total_15 (by decide) ?_
    refine zg_iconst (v := nI 1) dX4_total_16 (by decide) ?_
    refine zg_vrt (M := zm_X4_total) E (ci := 4) dX4_total_17 (mt_fails (w := w) (z := false) (k := nI 1) E HM) wd_X4_102 rfl (congrArg Prod.fst (zl_Mat HM (k := 156) (t := (4, 17)) rfl (by decide) (by decide))) (by decide) (zl_Mlt HM (by decide)) rfl dh_X4_fails dn_X4_fails (Nat.le_of_ble_eq_true rfl) (Nat.le_of_ble_eq_true rfl) (Nat.le_of_ble_eq_true rfl) (zl_capM HM) rfl (fun w17 g17 => ?_)
    subst w17
    obtain ⟨J1, e1, r1, t1, f1⟩ := zu_th (w := w) hM (nI 0)
    refine zg_w e1.symm ?_
    refine zg_if_eq (tgt := 25) dX4_total_20 (by decide) (fun h20 => ?_) (fun h20 => ?_)
    · refine zg_iload_n dX4_total_25 rfl ?_
      refine zg_if_ne (tgt := 34) dX4_total_26 (by decide) (fun h26 => ?_) (fun h26 => ?_)
      · refine zg_iload_n dX4_total_34 rfl ?_
        refine zg_bipush (v := nI 7) dX4_total_35 (by decide) ?_
        refine zg_icmp_ne (tgt := 53) dX4_total_37 (by decide) (fun h37 => ?_) (fun h37 => ?_)
        · refine zg_aload_n dX4_total_53 rfl ?_
          refine zg_getI E (ci := 4) (j := 7) dX4_total_54 rfl (congrArg Prod.fst (zl_Mat HM (k := 156) (t := (4, 17)) rfl (by decide) (by decide))) (by decide) (zl_Mlt HM (by decide)) (by decide) fl_X4_64 rfl ?_
          refine zg_v (x' := za_bit false) (r1.2.2.1.trans (congrArg za_bit hb)) ?_
          refine zg_if_eq (tgt := 62) dX4_total_57 (by decide) (fun h57 => ?_) (fun h57 => ?_)
          · refine zg_iconst (v := nI 0) dX4_total_62 (by decide) ?_
            refine zg_istore_n (lv' := [(2, .int (nI 0)), (0, .ref 156), (1, .int (nI 3))]) dX4_total_63 (by decide) rfl ?_
            refine zg_iload_n dX4_total_64 rfl ?_
            refine zg_tabIn (off := 83) (tgt := 148) dX4_total_65 (by decide) (by decide) (by decide) (by decide) ?_
            refine zg_aload_n dX4_total_148 rfl ?_
            refine zg_getI E (ci := 4) (j := 5) dX4_total_149 rfl (congrArg Prod.fst (zl_Mat HM (k := 156) (t := (4, 17)) rfl (by decide) (by decide))) (by decide) (zl_Mlt HM (by decide)) (by decide) fl_X4_74 rfl ?_
            refine zg_v (x' := L.2.2) r1.2.2.2.1.2.2 ?_
            exact zg_iret rfl dX4_total_152 ⟨rfl, J1, rfl, r1, t1, zu_frW (f1)⟩
          · exact absurd rfl h57
        · exact absurd h37 (by decide)
      · exact absurd h26 (by decide)
    · exact absurd rfl h20
  · exact absurd h8 (by decide)
set_option maxHeartbeats 4000000 in
set_option maxRecDepth 100000 in
theorem qt_9 {V : zv_V} (E : zv_OK V) {w : zw_W} (HM : zl_M w) {D : Nat → Nat → Nat} {H : za_H} {b : Bool} {L S : za_T} {C : za_C} {t : Bool} (hM : zu_X (zw_i w) D H b L S C t) (hb : b = false)  : zg_C V zm_X4_total yX4_total 8 190 [.ref 156, .int (nI 4)] w (zq_p (.inl (some (.int (nI L.2.1)))) (zu_pub w D H b L S C t 0)) := by
  refine zg_of (by decide +kernel) rfl (Nat.le_of_ble_eq_true rfl) ?_
  show zg_G V zm_X4_total 8 190 w.1 w.2.1 0 [] [(0, .ref 156), (1, .int (nI 4))] w _
  refine zg_aload_n dX4_total_0 rfl ?_
  refine zg_iload_n dX4_total_1 rfl ?_
  refine zg_iconst (v := nI 0) dX4_total_2 (by decide) ?_
  refine zg_bipush (v := nI 7) dX4_total_3 (by decide) ?_
  refine zg_sret (M := zm_X4_total) E dX4_total_5 (mt_within (w := w) E (z := true) (zw_y (p := 4) (n := 7) (by omega) (by decide))) wd_X4_67 dh_X4_within dn_X4_within (Nat.le_of_ble_eq_true rfl) (Nat.le_of_ble_eq_true rfl) (Nat.le_of_ble_eq_true rfl) (zl_capM HM) rfl (fun w5 g5 => ?_)
  subst w5
  refine zg_if_ne (tgt := 15) dX4_total_8 (by decide) (fun h8 => ?_) (fun h8 => ?_)
  · refine zg_iconst (v := nI 0) dX4_total_15 (by decide) ?_
    refine zg_iconst (v := nI 1) dX4_total_16 (by decide) ?_
    refine zg_vrt (M := zm_X4_total) E (ci := 4) dX4_total_17 (mt_fails (w := w) (z := false) (k := nI 1) E HM) wd_X4_102 rfl (congrArg Prod.fst (zl_Mat HM (k := 156) (t := (4, 17)) rfl (by decide) (by decide))) (by decide) (zl_Mlt HM (by decide)) rfl dh_X4_fails dn_X4_fails (Nat.le_of_ble_eq_true rfl) (Nat.le_of_ble_eq_true rfl) (Nat.le_of_ble_eq_true rfl) (zl_capM HM) rfl (fun w17 g17 => ?_)
    subst w17
    obtain ⟨J1, e1, r1, t1, f1⟩ := zu_th (w := w) hM (nI 0)
    refine zg_w e1.symm ?_
    refine zg_if_eq (tgt := 25) dX4_total_20 (by decide) (fun h20 => ?_) (fun h20 => ?_)
    · refine zg_iload_n dX4_total_25 rfl ?_
      refine zg_if_ne (tgt := 34) dX4_total_26 (by decide) (fun h26 => ?_) (fun h26 => ?_)
      · refine zg_iload_n dX4_total_34 rfl ?_
        refine zg_bipush (v := nI 7) dX4_total_35 (by decide) ?_
        refine zg_icmp_ne (tgt := 53) dX4_total_37 (by decide) (fun h37 => ?_) (fun h37 => ?_)
        · refine zg_aload_n dX4_total_53 rfl ?_
          refine zg_getI E (ci := 4) (j := 7) dX4_total_54 rfl (congrArg Prod.fst (zl_Mat HM (k := 156) (t := (4, 17)) rfl (by decide) (by decide))) (by decide) (zl_Mlt HM (by decide)) (by decide) fl_X4_64 rfl ?_
          refine zg_v (x' := za_bit false) (r1.2.2.1.trans (congrArg za_bit hb)) ?_
          refine zg_if_eq (tgt := 62) dX4_total_57 (by decide) (fun h57 => ?_) (fun h57 => ?_)
          · refine zg_iconst (v := nI 0) dX4_total_62 (by decide) ?_
            refine zg_istore_n (lv' := [(2, .int (nI 0)), (0, .ref 156), (1, .int (nI 4))]) dX4_total_63 (by decide) rfl ?_
            refine zg_iload_n dX4_total_64 rfl ?_
            refine zg_tabIn (off := 88) (tgt := 153) dX4_total_65 (by decide) (by decide) (by decide) (by decide) ?_
            refine zg_aload_n dX4_total_153 rfl ?_
            refine zg_getI E (ci := 4) (j := 3) dX4_total_154 rfl (congrArg Prod.fst (zl_Mat HM (k := 156) (t := (4, 17)) rfl (by decide) (by decide))) (by decide) (zl_Mlt HM (by decide)) (by decide) fl_X4_71 rfl ?_
            refine zg_v (x' := nI L.2.1) r1.2.2.2.1.2.1 ?_
            exact zg_iret rfl dX4_total_157 ⟨rfl, J1, rfl, r1, t1, zu_frW (f1)⟩
          · exact absurd rfl h57
        · exact absurd h37 (by decide)
      · exact absurd h26 (by decide)
    · exact absurd rfl h20
  · exact absurd h8 (by decide)
set_option maxHeartbeats 4000000 in
set_option maxRecDepth 100000 in
theorem qt_10 {V : zv_V} (E : zv_OK V) {w : zw_W} (HM : zl_M w) {D : Nat → Nat → Nat} {H : za_H} {b : Bool} {L S : za_T} {C : za_C} {t : Bool} (hM : zu_X (zw_i w) D H b L S C t) (hb : b = false)  : zg_C V zm_X4_total yX4_total 8 190 [.ref 156, .int (nI 5)] w (zq_p (.inl (some (.int (S.2.2)))) (zu_pub w D H b L S C t 0)) := by
  refine zg_of (by decide +kernel) rfl (Nat.le_of_ble_eq_true rfl) ?_
  show zg_G V zm_X4_total 8 190 w.1 w.2.1 0 [] [(0, .ref 156), (1, .int (nI 5))] w _
  refine zg_aload_n dX4_total_0 rfl ?_
  refine zg_iload_n dX4_total_1 rfl ?_
  refine zg_iconst (v := nI 0) dX4_total_2 (by decide) ?_
  refine zg_bipush (v := nI 7) dX4_total_3 (by decide) ?_
  refine zg_sret (M := zm_X4_total) E dX4_total_5 (mt_within (w := w) E (z := true) (zw_y (p := 5) (n := 7) (by omega) (by decide))) wd_X4_67 dh_X4_within dn_X4_within (Nat.le_of_ble_eq_true rfl) (Nat.le_of_ble_eq_true rfl) (Nat.le_of_ble_eq_true rfl) (zl_capM HM) rfl (fun w5 g5 => ?_)
  subst w5
  refine zg_if_ne (tgt := 15) dX4_total_8 (by decide) (fun h8 => ?_) (fun h8 => ?_)
  · refine zg_iconst (v := nI 0) dX4_total_15 (by decide) ?_
    refine zg_iconst (v := nI 1) dX4_total_16 (by decide) ?_
    refine zg_vrt (M := zm_X4_total) E (ci := 4) dX4_total_17 (mt_fails (w := w) (z := false) (k := nI 1) E HM) wd_X4_102 rfl (congrArg Prod.fst (zl_Mat HM (k := 156) (t := (4, 17)) rfl (by decide) (by decide))) (by decide) (zl_Mlt HM (by decide)) rfl dh_X4_fails dn_X4_fails (Nat.le_of_ble_eq_true rfl) (Nat.le_of_ble_eq_true rfl) (Nat.le_of_ble_eq_true rfl) (zl_capM HM) rfl (fun w17 g17 => ?_)
    subst w17
    obtain ⟨J1, e1, r1, t1, f1⟩ := zu_th (w := w) hM (nI 0)
    refine zg_w e1.symm ?_
    refine zg_if_eq (tgt := 25) dX4_total_20 (by decide) (fun h20 => ?_) (fun h20 => ?_)
    · refine zg_iload_n dX4_total_25 rfl ?_
      refine zg_if_ne (tgt := 34) dX4_total_26 (by decide) (fun h26 => ?_) (fun h26 => ?_)
      · refine zg_iload_n dX4_total_34 rfl ?_
        refine zg_bipush (v := nI 7) dX4_total_35 (by decide) ?_
        refine zg_icmp_ne (tgt := 53) dX4_total_37 (by decide) (fun h37 => ?_) (fun h37 => ?_)
        · refine zg_aload_n dX4_total_53 rfl ?_
          refine zg_getI E (ci := 4) (j := 7) dX4_total_54 rfl (congrArg Prod.fst (zl_Mat HM (k := 156) (t := (4, 17)) rfl (by decide) (by decide))) (by decide) (zl_Mlt HM (by decide)) (by decide) fl_X4_64 rfl ?_
          refine zg_v (x' := za_bit false) (r1.2.2.1.trans (congrArg za_bit hb)) ?_
          refine zg_if_eq (tgt := 62) dX4_total_57 (by decide) (fun h57 => ?_) (fun h57 => ?_)
          · refine zg_iconst (v := nI 0) dX4_total_62 (by decide) ?_
            refine zg_istore_n (lv' := [(2, .int (nI 0)), (0, .ref 156), (1, .int (nI 5))]) dX4_total_63 (by decide) rfl ?_
            refine zg_iload_n dX4_total_64 rfl ?_
            refine zg_tabIn (off := 93) (tgt := 158) dX4_total_65 (by decide) (by decide) (by decide) (by decide) ?_
            refine zg_aload_n dX4_total_158 rfl ?_
            refine zg_getI E (ci := 4) (j := 6) dX4_total_159 rfl (congrArg Prod.fst (zl_Mat HM (k := 156) (t := (4, 17)) rfl (by decide) (by decide))) (by decide) (zl_Mlt HM (by decide)) (by decide) fl_X4_83 rfl ?_
            refine zg_v (x' := S.2.2) r1.2.2.2.2.1.2.2 ?_
            exact zg_iret rfl dX4_total_162 ⟨rfl, J1, rfl, r1, t1, zu_frW (f1)⟩
          · exact absurd rfl h57
        · exact absurd h37 (by decide)
      · exact absurd h26 (by decide)
    · exact absurd rfl h20
  · exact absurd h8 (by decide)
set_option maxHeartbeats 4000000 in
set_option maxRecDepth 100000 in
theorem qt_11 {V : zv_V} (E : zv_OK V) {w : zw_W} (HM : zl_M w) {D : Nat → Nat → Nat} {H : za_H} {b : Bool} {L S : za_T} {C : za_C} {t : Bool} (hM : zu_X (zw_i w) D H b L S C t) (hb : b = false)  : zg_C V zm_X4_total yX4_total 8 190 [.ref 156, .int (nI 6)] w (zq_p (.inl (some (.int (nI S.2.1)))) (zu_pub w D H b L S C t 0)) := by
  refine zg_of (by decide +kernel) rfl (Nat.le_of_ble_eq_true rfl) ?_
  show zg_G V zm_X4_total 8 190 w.1 w.2.1 0 [] [(0, .ref 156), (1, .int (nI 6))] w _
  refine zg_aload_n dX4_total_0 rfl ?_
  refine zg_iload_n dX4_total_1 rfl ?_
  refine zg_iconst (v := nI 0) dX4_total_2 (by decide) ?_
  refine zg_bipush (v := nI 7) dX4_total_3 (by decide) ?_
  refine zg_sret (M := zm_X4_total) E dX4_total_5 (mt_within (w := w) E (z := true) (zw_y (p := 6) (n := 7) (by omega) (by decide))) wd_X4_67 dh_X4_within dn_X4_within (Nat.le_of_ble_eq_true rfl) (Nat.le_of_ble_eq_true rfl) (Nat.le_of_ble_eq_true rfl) (zl_capM HM) rfl (fun w5 g5 => ?_)
  subst w5
  refine zg_if_ne (tgt := 15) dX4_total_8 (by decide) (fun h8 => ?_) (fun h8 => ?_)
  · refine zg_iconst (v := nI 0) dX4_total_15 (by decide) ?_
    refine zg_iconst (v := nI 1) dX4_total_16 (by decide) ?_
    refine zg_vrt (M := zm_X4_total) E (ci := 4) dX4_total_17 (mt_fails (w := w) (z := false) (k := nI 1) E HM) wd_X4_102 rfl (congrArg Prod.fst (zl_Mat HM (k := 156) (t := (4, 17)) rfl (by decide) (by decide))) (by decide) (zl_Mlt HM (by decide)) rfl dh_X4_fails dn_X4_fails (Nat.le_of_ble_eq_true rfl) (Nat.le_of_ble_eq_true rfl) (Nat.le_of_ble_eq_true rfl) (zl_capM HM) rfl (fun w17 g17 => ?_)
    subst w17
    obtain ⟨J1, e1, r1, t1, f1⟩ := zu_th (w := w) hM (nI 0)
    refine zg_w e1.symm ?_
    refine zg_if_eq (tgt := 25) dX4_total_20 (by decide) (fun h20 => ?_) (fun h20 => ?_)
    · refine zg_iload_n dX4_total_25 rfl ?_
      refine zg_if_ne (tgt := 34) dX4_total_26 (by decide) (fun h26 => ?_) (fun h26 => ?_)
      · refine zg_iload_n dX4_total_34 rfl ?_
        refine zg_bipush (v := nI 7) dX4_total_35 (by decide) ?_
        refine zg_icmp_ne (tgt := 53) dX4_total_37 (by decide) (fun h37 => ?_) (fun h37 => ?_)
        · refine zg_aload_n dX4_total_53 rfl ?_
          refine zg_getI E (ci := 4) (j := 7) dX4_total_54 rfl (congrArg Prod.fst (zl_Mat HM (k := 156) (t := (4, 17)) rfl (by decide) (by decide))) (by decide) (zl_Mlt HM (by decide)) (by decide) fl_X4_64 rfl ?_
          refine zg_v (x' := za_bit false) (r1.2.2.1.trans (congrArg za_bit hb)) ?_
          refine zg_if_eq (tgt := 62) dX4_total_57 (by decide) (fun h57 => ?_) (fun h57 => ?_)
          · refine zg_iconst (v := nI 0) dX4_total_62 (by decide) ?_
            refine zg_istore_n (lv' := [(2, .int (nI 0)), (0, .ref 156), (1, .int (nI 6))]) dX4_total_63 (by decide) rfl ?_
            refine zg_iload_n dX4_total_64 rfl ?_
            refine zg_tabOut (tgt := 163) dX4_total_65 (by decide) (by decide) ?_
            refine zg_aload_n dX4_total_163 rfl ?_
            refine zg_getI E (ci := 4) (j := 4) dX4_total_164 rfl (congrArg Prod.fst (zl_Mat HM (k := 156) (t := (4, 17)) rfl (by decide) (by decide))) (by decide) (zl_Mlt HM (by decide)) (by decide) fl_X4_80 rfl ?_
            refine zg_v (x' := nI S.2.1) r1.2.2.2.2.1.2.1 ?_
            exact zg_iret rfl dX4_total_167 ⟨rfl, J1, rfl, r1, t1, zu_frW (f1)⟩
          · exact absurd rfl h57
        · exact absurd h37 (by decide)
      · exact absurd h26 (by decide)
    · exact absurd rfl h20
  · exact absurd h8 (by decide)

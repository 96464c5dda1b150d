/-! The reference's public methods, on. -/
theorem zw_xm {x : Int32} (h : ∀ j, j < 16 → x ≠ nI j) (hm : x ≠ (-1)) : false = true ↔ (-1) ≤ x ∧ x ≤ nI 15 := by
  refine ⟨fun z => absurd z (by decide), fun z => ?_⟩
  by_cases hx : x < 0
  · refine absurd (Int32.toInt_inj.mp ?_) hm
    have h1 := Int32.le_iff_toInt_le.mp z.1
    have h2 := Int32.lt_iff_toInt_lt.mp hx
    have e1 : (-1 : Int32).toInt = -1 := by decide
    have e2 : (0 : Int32).toInt = 0 := by decide
    omega
  · exact (zn_no (n := 16) h hx (Int32.lt_of_le_of_lt z.2 (by decide))).elim
set_option maxHeartbeats 4000000 in
set_option maxRecDepth 100000 in
theorem qs_1 {V : zv_V} (E : zv_OK V) {w : zw_W} (HM : zl_M w) {D : Nat → Nat → Nat} {H : za_H} {b : Bool} {L S : za_T} {C : za_C} {t : Bool} (hM : zu_X (zw_i w) D H b L S C t) {x : Int32} (hx : ∀ n, n < 16 → x ≠ nI n)  : zg_C V zm_X4_spill yX4_spill 8 190 [.ref 156, .int x] w (zq_p (.inl (some (.int (nI 0)))) (zu_pub w D H b L S C t 1)) := by
  refine zg_of (by decide +kernel) rfl (Nat.le_of_ble_eq_true rfl) ?_
  show zg_G V zm_X4_spill 8 190 w.1 w.2.1 0 [] [(0, .ref 156), (1, .int x)] w _
  refine zg_aload_n dX4_spill_0 rfl ?_
  refine zg_iload_n dX4_spill_1 rfl ?_
  refine zg_iconst (v := nI 0) dX4_spill_2 (by decide) ?_
  refine zg_bipush (v := nI 15) dX4_spill_3 (by decide) ?_
  refine zg_sret (M := zm_X4_spill) E dX4_spill_5 (mt_within (w := w) E (z := false) (zw_x (n := 15) hx (by decide))) wd_X4_67 dh_X4_within dn_X4_within (Nat.le_of_ble_eq_true rfl) (Nat.le_of_ble_eq_true rfl) (Nat.le_of_ble_eq_true rfl) (zl_capM HM) rfl (fun w5 g5 => ?_)
  subst w5
  refine zg_if_eq (tgt := 36) dX4_spill_8 (by decide) (fun h8 => ?_) (fun h8 => ?_)
  · refine zg_iconst (v := nI 1) dX4_spill_36 (by decide) ?_
    refine zg_goto (tgt := 41) dX4_spill_37 (by decide) ?_
    refine zg_iconst (v := nI 1) dX4_spill_41 (by decide) ?_
    refine zg_vrt (M := zm_X4_spill) E (ci := 4) dX4_spill_42 (mt_fails (w := w) (z := true) (k := nI 1) E HM) wd_X4_102 rfl (congrArg Prod.fst (zl_Mat HM (k := 156) (t := (4, 17)) rfl (by decide) (by decide))) (by decide) (zl_Mlt HM (by decide)) rfl dh_X4_fails dn_X4_fails (Nat.le_of_ble_eq_true rfl) (Nat.le_of_ble_eq_true rfl) (Nat.le_of_ble_eq_true rfl) (zl_capM HM) rfl (fun w42 g42 => ?_)
    subst w42
    obtain ⟨J1, e1, r1, t1, f1⟩ := zu_th (w := w) hM (nI 1)
    refine zg_w e1.symm ?_
    refine zg_if_ne (tgt := 70) dX4_spill_45 (by decide) (fun h45 => ?_) (fun h45 => ?_)
    · refine zg_iconst (v := nI 0) dX4_spill_70 (by decide) ?_
      exact zg_iret rfl dX4_spill_71 ⟨rfl, J1, rfl, r1, t1, zu_frW (f1)⟩
    · exact absurd h45 (by decide)
  · exact absurd rfl h8
set_option maxHeartbeats 4000000 in
set_option maxRecDepth 100000 in
theorem qs_2 {V : zv_V} (E : zv_OK V) {w : zw_W} (HM : zl_M w) {D : Nat → Nat → Nat} {H : za_H} {b : Bool} {L S : za_T} {C : za_C} {t : Bool} (hM : zu_X (zw_i w) D H b L S C t) {p : Nat} (hp : p < 16) (h0 : C.1 p = 0) : zg_C V zm_X4_spill yX4_spill 8 190 [.ref 156, .int (nI p)] w (zq_p (.inl (some (.int (nI 0)))) (zu_pub w D H b L S C t 1)) := by
  refine zg_of (by decide +kernel) rfl (Nat.le_of_ble_eq_true rfl) ?_
  show zg_G V zm_X4_spill 8 190 w.1 w.2.1 0 [] [(0, .ref 156), (1, .int (nI p))] w _
  refine zg_aload_n dX4_spill_0 rfl ?_
  refine zg_iload_n dX4_spill_1 rfl ?_
  refine zg_iconst (v := nI 0) dX4_spill_2 (by decide) ?_
  refine zg_bipush (v := nI 15) dX4_spill_3 (by decide) ?_
  refine zg_sret (M := zm_X4_spill) E dX4_spill_5 (mt_within (w := w) E (z := true) (zw_y (n := 15) hp (by decide))) wd_X4_67 dh_X4_within dn_X4_within (Nat.le_of_ble_eq_true rfl) (Nat.le_of_ble_eq_true rfl) (Nat.le_of_ble_eq_true rfl) (zl_capM HM) rfl (fun w5 g5 => ?_)
  subst w5
  refine zg_if_eq (tgt := 36) dX4_spill_8 (by decide) (fun h8 => ?_) (fun h8 => ?_)
  · exact absurd h8 (by decide)
  · refine zg_aload_n dX4_spill_11 rfl ?_
    refine zg_getI E (ci := 4) (j := 8) dX4_spill_12 rfl (congrArg Prod.fst (zl_Mat HM (k := 156) (t := (4, 17)) rfl (by decide) (by decide))) (by decide) (zl_Mlt HM (by decide)) (by decide) fl_X4_61 rfl ?_
    refine zg_v (x' := za_bit (decide (0 < za_n C.1 16))) hM.2.2.2.2.2.1.1 ?_
    refine zg_if_eq (tgt := 36) dX4_spill_15 (by decide) (fun h15 => ?_) (fun h15 => ?_)
    · refine zg_iconst (v := nI 1) dX4_spill_36 (by decide) ?_
      refine zg_goto (tgt := 41) dX4_spill_37 (by decide) ?_
      refine zg_iconst (v := nI 1) dX4_spill_41 (by decide) ?_
      refine zg_vrt (M := zm_X4_spill) E (ci := 4) dX4_spill_42 (mt_fails (w := w) (z := true) (k := nI 1) E HM) wd_X4_102 rfl (congrArg Prod.fst (zl_Mat HM (k := 156) (t := (4, 17)) rfl (by decide) (by decide))) (by decide) (zl_Mlt HM (by decide)) rfl dh_X4_fails dn_X4_fails (Nat.le_of_ble_eq_true rfl) (Nat.le_of_ble_eq_true rfl) (Nat.le_of_ble_eq_true rfl) (zl_capM HM) rfl (fun w42 g42 => ?_)
      subst w42
      obtain ⟨J1, e1, r1, t1, f1⟩ := zu_th (w := w) hM (nI 1)
      refine zg_w e1.symm ?_
      refine zg_if_ne (tgt := 70) dX4_spill_45 (by decide) (fun h45 => ?_) (fun h45 => ?_)
      · refine zg_iconst (v := nI 0) dX4_spill_70 (by decide) ?_
        exact zg_iret rfl dX4_spill_71 ⟨rfl, J1, rfl, r1, t1, zu_frW (f1)⟩
      · exact absurd h45 (by decide)
    · have ho := of_decide_eq_true (za_bit1 h15)
      refine zg_aload_n dX4_spill_18 rfl ?_
      refine zg_getR E (ci := 4) (j := 9) (r := 160) dX4_spill_19 rfl (congrArg Prod.fst (zl_Mat HM (k := 156) (t := (4, 17)) rfl (by decide) (by decide))) (by decide) (zl_Mlt HM (by decide)) (by decide) fl_X4_19 rfl (zl_Mrf HM rfl (by decide) (by decide)) ?_
      refine zg_iload_n dX4_spill_22 rfl ?_
      refine zg_iald E (j := p) dX4_spill_23 (zl_Mat HM (k := 160) (t := (10, 16)) rfl (by decide) (by decide)) (by decide) (zl_Mlt HM (by decide)) rfl (by omega) (by decide) ?_
      refine zg_v (x' := nI (C.1 p)) (hM.2.2.2.2.2.1.2.1 ho p hp) ?_
      refine zg_if_eq (tgt := 36) dX4_spill_24 (by decide) (fun h24 => ?_) (fun h24 => ?_)
      · refine zg_iconst (v := nI 1) dX4_spill_36 (by decide) ?_
        refine zg_goto (tgt := 41) dX4_spill_37 (by decide) ?_
        refine zg_iconst (v := nI 1) dX4_spill_41 (by decide) ?_
        refine zg_vrt (M := zm_X4_spill) E (ci := 4) dX4_spill_42 (mt_fails (w := w) (z := true) (k := nI 1) E HM) wd_X4_102 rfl (congrArg Prod.fst (zl_Mat HM (k := 156) (t := (4, 17)) rfl (by decide) (by decide))) (by decide) (zl_Mlt HM (by decide)) rfl dh_X4_fails dn_X4_fails (Nat.le_of_ble_eq_true rfl) (Nat.le_of_ble_eq_true rfl) (Nat.le_of_ble_eq_true rfl) (zl_capM HM) rfl (fun w42 g42 => ?_)
        subst w42
        obtain ⟨J1, e1, r1, t1, f1⟩ := zu_th (w := w) hM (nI 1)
        refine zg_w e1.symm ?_
        refine zg_if_ne (tgt := 70) dX4_spill_45 (by decide) (fun h45 => ?_) (fun h45 => ?_)
        · refine zg_iconst (v := nI 0) dX4_spill_70 (by decide) ?_
          exact zg_iret rfl dX4_spill_71 ⟨rfl, J1, rfl, r1, t1, zu_frW (f1)⟩
        · exact absurd h45 (by decide)
      · exact absurd (by rw [h0]; rfl) h24
set_option maxHeartbeats 4000000 in
set_option maxRecDepth 100000 in
theorem qs_3 {V : zv_V} (E : zv_OK V) {w : zw_W} (HM : zl_M w) {D : Nat → Nat → Nat} {H : za_H} {b : Bool} {L S : za_T} {C : za_C} {t : Bool} (hM : zu_X (zw_i w) D H b L S C t) {p : Nat} (hp : p < 16) (wC : za_WC C) (h0 : C.1 p ≠ 0) (hz : C.2.2 p = true) : zg_C V zm_X4_spill yX4_spill 8 190 [.ref 156, .int (nI p)] w (zq_p (.inl (some (.int (nI 0)))) (zu_pub w D H b L S C t 1)) := by
  refine zg_of (by decide +kernel) rfl (Nat.le_of_ble_eq_true rfl) ?_
  show zg_G V zm_X4_spill 8 190 w.1 w.2.1 0 [] [(0, .ref 156), (1, .int (nI p))] w _
  refine zg_aload_n dX4_spill_0 rfl ?_
  refine zg_iload_n dX4_spill_1 rfl ?_
  refine zg_iconst (v := nI 0) dX4_spill_2 (by decide) ?_
  refine zg_bipush (v := nI 15) dX4_spill_3 (by decide) ?_
  refine zg_sret (M := zm_X4_spill) E dX4_spill_5 (mt_within (w := w) E (z := true) (zw_y (n := 15) hp (by decide))) wd_X4_67 dh_X4_within dn_X4_within (Nat.le_of_ble_eq_true rfl) (Nat.le_of_ble_eq_true rfl) (Nat.le_of_ble_eq_true rfl) (zl_capM HM) rfl (fun w5 g5 => ?_)
  subst w5
  refine zg_if_eq (tgt := 36) dX4_spill_8 (by decide) (fun h8 => ?_) (fun h8 => ?_)
  · exact absurd h8 (by decide)
  · refine zg_aload_n dX4_spill_11 rfl ?_
    refine zg_getI E (ci := 4) (j := 8) dX4_spill_12 rfl (congrArg Prod.fst (zl_Mat HM (k := 156) (t := (4, 17)) rfl (by decide) (by decide))) (by decide) (zl_Mlt HM (by decide)) (by decide) fl_X4_61 rfl ?_
    refine zg_v (x' := za_bit (decide (0 < za_n C.1 16))) hM.2.2.2.2.2.1.1 ?_
    refine zg_if_eq (tgt := 36) dX4_spill_15 (by decide) (fun h15 => ?_) (fun h15 => ?_)
    · exact absurd (za_n_p hp h0) (of_decide_eq_false (za_bit0 h15))
    · have ho := za_n_p hp h0
      refine zg_aload_n dX4_spill_18 rfl ?_
      refine zg_getR E (ci := 4) (j := 9) (r := 160) dX4_spill_19 rfl (congrArg Prod.fst (zl_Mat HM (k := 156) (t := (4, 17)) rfl (by decide) (by decide))) (by decide) (zl_Mlt HM (by decide)) (by decide) fl_X4_19 rfl (zl_Mrf HM rfl (by decide) (by decide)) ?_
      refine zg_iload_n dX4_spill_22 rfl ?_
      refine zg_iald E (j := p) dX4_spill_23 (zl_Mat HM (k := 160) (t := (10, 16)) rfl (by decide) (by decide)) (by decide) (zl_Mlt HM (by decide)) rfl (by omega) (by decide) ?_
      refine zg_v (x' := nI (C.1 p)) (hM.2.2.2.2.2.1.2.1 ho p hp) ?_
      refine zg_if_eq (tgt := 36) dX4_spill_24 (by decide) (fun h24 => ?_) (fun h24 => ?_)
      · exact absurd h24 (nI_ne0 (by omega) (by have := wC.1 p hp; omega))
      · refine zg_aload_n dX4_spill_27 rfl ?_
        refine zg_getR E (ci := 4) (j := 10) (r := 161) dX4_spill_28 rfl (congrArg Prod.fst (zl_Mat HM (k := 156) (t := (4, 17)) rfl (by decide) (by decide))) (by decide) (zl_Mlt HM (by decide)) (by decide) fl_X4_22 rfl (zl_Mrf HM rfl (by decide) (by decide)) ?_
        refine zg_iload_n dX4_spill_31 rfl ?_
        refine zg_zald E (j := p) dX4_spill_32 (zl_Mat HM (k := 161) (t := (11, 16)) rfl (by decide) (by decide)) (by decide) (zl_Mlt HM (by decide)) rfl (by omega) (by decide) ?_
        refine zg_v (x' := za_bit (C.2.2 p)) ((hM.2.2.2.2.2.1.2.2 p hp h0).2) ?_
        refine zg_if_eq (tgt := 40) dX4_spill_33 (by decide) (fun h33 => ?_) (fun h33 => ?_)
        · exact absurd h33 (by rw [hz]; decide)
        · refine zg_iconst (v := nI 1) dX4_spill_36 (by decide) ?_
          refine zg_goto (tgt := 41) dX4_spill_37 (by decide) ?_
          refine zg_iconst (v := nI 1) dX4_spill_41 (by decide) ?_
          refine zg_vrt (M := zm_X4_spill) E (ci := 4) dX4_spill_42 (mt_fails (w := w) (z := true) (k := nI 1) E HM) wd_X4_102 rfl (congrArg Prod.fst (zl_Mat HM (k := 156) (t := (4, 17)) rfl (by decide) (by decide))) (by decide) (zl_Mlt HM (by decide)) rfl dh_X4_fails dn_X4_fails (Nat.le_of_ble_eq_true rfl) (Nat.le_of_ble_eq_true rfl) (Nat.le_of_ble_eq_true rfl) (zl_capM HM) rfl (fun w42 g42 => ?_)
          subst w42
          obtain ⟨J1, e1, r1, t1, f1⟩ := zu_th (w := w) hM (nI 1)
          refine zg_w e1.symm ?_
          refine zg_if_ne (tgt := 70) dX4_spill_45 (by decide) (fun h45 => ?_) (fun h45 => ?_)
          · refine zg_iconst (v := nI 0) dX4_spill_70 (by decide) ?_
            exact zg_iret rfl dX4_spill_71 ⟨rfl, J1, rfl, r1, t1, zu_frW (f1)⟩
          · exact absurd h45 (by decide)
set_option maxHeartbeats 4000000 in
set_option maxRecDepth 100000 in
theorem qs_4 {V : zv_V} (E : zv_OK V) {w : zw_W} (HM : zl_M w) {D : Nat → Nat → Nat} {H : za_H} {b : Bool} {L S : za_T} {C : za_C} {t : Bool} (hM : zu_X (zw_i w) D H b L S C t) {p : Nat} (hp : p < 16) (wC : za_WC C) (h0 : C.1 p ≠ 0) (hz : C.2.2 p = false) (h60 : 60 ≤ H.1) (hH : za_WH H) : zg_C V zm_X4_spill yX4_spill 8 190 [.ref 156, .int (nI p)] w (zq_p (.inl (some (.int (nI 0)))) (zu_pub w D H b L S C t 2)) := by
  refine zg_of (by decide +kernel) rfl (Nat.le_of_ble_eq_true rfl) ?_
  show zg_G V zm_X4_spill 8 190 w.1 w.2.1 0 [] [(0, .ref 156), (1, .int (nI p))] w _
  refine zg_aload_n dX4_spill_0 rfl ?_
  refine zg_iload_n dX4_spill_1 rfl ?_
  refine zg_iconst (v := nI 0) dX4_spill_2 (by decide) ?_
  refine zg_bipush (v := nI 15) dX4_spill_3 (by decide) ?_
  refine zg_sret (M := zm_X4_spill) E dX4_spill_5 (mt_within (w := w) E (z := true) (zw_y (n := 15) hp (by decide))) wd_X4_67 dh_X4_within dn_X4_within (Nat.le_of_ble_eq_true rfl) (Nat.le_of_ble_eq_true rfl) (Nat.le_of_ble_eq_true rfl) (zl_capM HM) rfl (fun w5 g5 => ?_)
  subst w5
  refine zg_if_eq (tgt := 36) dX4_spill_8 (by decide) (fun h8 => ?_) (fun h8 => ?_)
  · exact absurd h8 (by decide)
  · refine zg_aload_n dX4_spill_11 rfl ?_
    refine zg_getI E (ci := 4) (j := 8) dX4_spill_12 rfl (congrArg Prod.fst (zl_Mat HM (k := 156) (t := (4, 17)) rfl (by decide) (by decide))) (by decide) (zl_Mlt HM (by decide)) (by decide) fl_X4_61 rfl ?_
    refine zg_v (x' := za_bit (decide (0 < za_n C.1 16))) hM.2.2.2.2.2.1.1 ?_
    refine zg_if_eq (tgt := 36) dX4_spill_15 (by decide) (fun h15 => ?_) (fun h15 => ?_)
    · exact absurd (za_n_p hp h0) (of_decide_eq_false (za_bit0 h15))
    · have ho := za_n_p hp h0
      refine zg_aload_n dX4_spill_18 rfl ?_
      refine zg_getR E (ci := 4) (j := 9) (r := 160) dX4_spill_19 rfl (congrArg Prod.fst (zl_Mat HM (k := 156) (t := (4, 17)) rfl (by decide) (by decide))) (by decide) (zl_Mlt HM (by decide)) (by decide) fl_X4_19 rfl (zl_Mrf HM rfl (by decide) (by decide)) ?_
      refine zg_iload_n dX4_spill_22 rfl ?_
      refine zg_iald E (j := p) dX4_spill_23 (zl_Mat HM (k := 160) (t := (10, 16)) rfl (by decide) (by decide)) (by decide) (zl_Mlt HM (by decide)) rfl (by omega) (by decide) ?_
      refine zg_v (x' := nI (C.1 p)) (hM.2.2.2.2.2.1.2.1 ho p hp) ?_
      refine zg_if_eq (tgt := 36) dX4_spill_24 (by decide) (fun h24 => ?_) (fun h24 => ?_)
      · exact absurd h24 (nI_ne0 (by omega) (by have := wC.1 p hp; omega))
      · refine zg_aload_n dX4_spill_27 rfl ?_
        refine zg_getR E (ci := 4) (j := 10) (r := 161) dX4_spill_28 rfl (congrArg Prod.fst (zl_Mat HM (k := 156) (t := (4, 17)) rfl (by decide) (by decide))) (by decide) (zl_Mlt HM (by decide)) (by decide) fl_X4_22 rfl (zl_Mrf HM rfl (by decide) (by decide)) ?_
        refine zg_iload_n dX4_spill_31 rfl ?_
        refine zg_zald E (j := p) dX4_spill_32 (zl_Mat HM (k := 161) (t := (11, 16)) rfl (by decide) (by decide)) (by decide) (zl_Mlt HM (by decide)) rfl (by omega) (by decide) ?_
        refine zg_v (x' := za_bit (C.2.2 p)) ((hM.2.2.2.2.2.1.2.2 p hp h0).2) ?_
        refine zg_if_eq (tgt := 40) dX4_spill_33 (by decide) (fun h33 => ?_) (fun h33 => ?_)
        · refine zg_iconst (v := nI 0) dX4_spill_40 (by decide) ?_
          refine zg_iconst (v := nI 1) dX4_spill_41 (by decide) ?_
          refine zg_vrt (M := zm_X4_spill) E (ci := 4) dX4_spill_42 (mt_fails (w := w) (z := false) (k := nI 1) E HM) wd_X4_102 rfl (congrArg Prod.fst (zl_Mat HM (k := 156) (t := (4, 17)) rfl (by decide) (by decide))) (by decide) (zl_Mlt HM (by decide)) rfl dh_X4_fails dn_X4_fails (Nat.le_of_ble_eq_true rfl) (Nat.le_of_ble_eq_true rfl) (Nat.le_of_ble_eq_true rfl) (zl_capM HM) rfl (fun w42 g42 => ?_)
          subst w42
          obtain ⟨J1, e1, r1, t1, f1⟩ := zu_th (w := w) hM (nI 0)
          refine zg_w e1.symm ?_
          refine zg_if_ne (tgt := 70) dX4_spill_45 (by decide) (fun h45 => ?_) (fun h45 => ?_)
          · exact absurd rfl h45
          · refine zg_aload_n dX4_spill_48 rfl ?_
            refine zg_aload_n dX4_spill_49 rfl ?_
            refine zg_getI E (ci := 4) (j := 14) dX4_spill_50 rfl (congrArg Prod.fst (zl_Mat HM (k := 156) (t := (4, 17)) rfl (by decide) (by decide))) (by decide) (zl_Mlt HM (by decide)) (by decide) fl_X4_54 rfl ?_
            refine zg_v (x' := nI H.1) r1.2.1.1 ?_
            refine zg_bipush (v := nI 60) dX4_spill_53 (by decide) ?_
            refine zg_icmp_lt (tgt := 62) dX4_spill_55 (by decide) (fun h55 => ?_) (fun h55 => ?_)
            · exact absurd h55 (nI_nlt h60 (by have := hH.1; omega))
            · refine zg_iconst (v := nI 1) dX4_spill_58 (by decide) ?_
              refine zg_goto (tgt := 63) dX4_spill_59 (by decide) ?_
              refine zg_iconst (v := nI 2) dX4_spill_63 (by decide) ?_
              refine zg_vrt (M := zm_X4_spill) E (ci := 4) dX4_spill_64 (mt_fails (w := zw_I w J1) (z := true) (k := nI 2) E HM) wd_X4_102 rfl (congrArg Prod.fst (zl_Mat HM (k := 156) (t := (4, 17)) rfl (by decide) (by decide))) (by decide) (zl_Mlt HM (by decide)) rfl dh_X4_fails dn_X4_fails (Nat.le_of_ble_eq_true rfl) (Nat.le_of_ble_eq_true rfl) (Nat.le_of_ble_eq_true rfl) (zl_capM HM) rfl (fun w64 g64 => ?_)
              subst w64
              obtain ⟨J2, e2, r2, t2, f2⟩ := zu_th (w := w) r1 (nI 2)
              refine zg_w e2.symm ?_
              refine zg_if_eq (tgt := 72) dX4_spill_67 (by decide) (fun h67 => ?_) (fun h67 => ?_)
              · exact absurd h67 (by decide)
              · refine zg_iconst (v := nI 0) dX4_spill_70 (by decide) ?_
                exact zg_iret rfl dX4_spill_71 ⟨rfl, J2, rfl, r2, t2, zu_frW (zu_frT f1 f2)⟩
        · exact absurd (by rw [hz]; rfl) h33
set_option maxHeartbeats 4000000 in
set_option maxRecDepth 100000 in
theorem qs_5 {V : zv_V} (E : zv_OK V) {w : zw_W} (HM : zl_M w) {D : Nat → Nat → Nat} {H : za_H} {b : Bool} {L S : za_T} {C : za_C} {t : Bool} (hM : zu_X (zw_i w) D H b L S C t) {p : Nat} (hp : p < 16) (wC : za_WC C) (h0 : C.1 p ≠ 0) (hz : C.2.2 p = false) (h60 : H.1 < 60) (hH : za_WH H) : zg_C V zm_X4_spill yX4_spill 8 190 [.ref 156, .int (nI p)] w (zq_p (.inl (some (.int (nI (H.1 + 1))))) (zu_pub w D (za_hold H (C.1 p) (C.2.1 p)) b L S (za_spl C p true) t 0)) := by
  refine zg_of (by decide +kernel) rfl (Nat.le_of_ble_eq_true rfl) ?_
  show zg_G V zm_X4_spill 8 190 w.1 w.2.1 0 [] [(0, .ref 156), (1, .int (nI p))] w _
  refine zg_aload_n dX4_spill_0 rfl ?_
  refine zg_iload_n dX4_spill_1 rfl ?_
  refine zg_iconst (v := nI 0) dX4_spill_2 (by decide) ?_
  refine zg_bipush (v := nI 15) dX4_spill_3 (by decide) ?_
  refine zg_sret (M := zm_X4_spill) E dX4_spill_5 (mt_within (w := w) E (z := true) (zw_y (n := 15) hp (by decide))) wd_X4_67 dh_X4_within dn_X4_within (Nat.le_of_ble_eq_true rfl) (Nat.le_of_ble_eq_true rfl) (Nat.le_of_ble_eq_true rfl) (zl_capM HM) rfl (fun w5 g5 => ?_)
  subst w5
  refine zg_if_eq (tgt := 36) dX4_spill_8 (by decide) (fun h8 => ?_) (fun h8 => ?_)
  · exact absurd h8 (by decide)
  · refine zg_aload_n dX4_spill_11 rfl ?_
    refine zg_getI E (ci := 4) (j := 8) dX4_spill_12 rfl (congrArg Prod.fst (zl_Mat HM (k := 156) (t := (4, 17)) rfl (by decide) (by decide))) (by decide) (zl_Mlt HM (by decide)) (by decide) fl_X4_61 rfl ?_
    refine zg_v (x' := za_bit (decide (0 < za_n C.1 16))) hM.2.2.2.2.2.1.1 ?_
    refine zg_if_eq (tgt := 36) dX4_spill_15 (by decide) (fun h15 => ?_) (fun h15 => ?_)
    · exact absurd (za_n_p hp h0) (of_decide_eq_false (za_bit0 h15))
    · have ho := za_n_p hp h0
      refine zg_aload_n dX4_spill_18 rfl ?_
      refine zg_getR E (ci := 4) (j := 9) (r := 160) dX4_spill_19 rfl (congrArg Prod.fst (zl_Mat HM (k := 156) (t := (4, 17)) rfl (by decide) (by decide))) (by decide) (zl_Mlt HM (by decide)) (by decide) fl_X4_19 rfl (zl_Mrf HM rfl (by decide) (by decide)) ?_
      refine zg_iload_n dX4_spill_22 rfl ?_
      refine zg_iald E (j := p) dX4_spill_23 (zl_Mat HM (k := 160) (t := (10, 16)) rfl (by decide) (by decide)) (by decide) (zl_Mlt HM (by decide)) rfl (by omega) (by decide) ?_
      refine zg_v (x' := nI (C.1 p)) (hM.2.2.2.2.2.1.2.1 ho p hp) ?_
      refine zg_if_eq (tgt := 36) dX4_spill_24 (by decide) (fun h24 => ?_) (fun h24 => ?_)
      · exact absurd h24 (nI_ne0 (by omega) (by have := wC.1 p hp; omega))
      · refine zg_aload_n dX4_spill_27 rfl ?_
        refine zg_getR E (ci := 4) (j := 10) (r := 161) dX4_spill_28 rfl (congrArg Prod.fst (zl_Mat HM (k := 156) (t := (4, 17)) rfl (by decide) (by decide))) (by decide) (zl_Mlt HM (by decide)) (by decide) fl_X4_22 rfl (zl_Mrf HM rfl (by decide) (by decide)) ?_
        refine zg_iload_n dX4_spill_31 rfl ?_
        refine zg_zald E (j := p) dX4_spill_32 (zl_Mat HM (k := 161) (t := (11, 16)) rfl (by decide) (by decide)) (by decide) (zl_Mlt HM (by decide)) rfl (by omega) (by decide) ?_
        refine zg_v (x' := za_bit (C.2.2 p)) ((hM.2.2.2.2.2.1.2.2 p hp h0).2) ?_
        refine zg_if_eq (tgt := 40) dX4_spill_33 (by decide) (fun h33 => ?_) (fun h33 => ?_)
        · refine zg_iconst (v := nI 0) dX4_spill_40 (by decide) ?_
          refine zg_iconst (v := nI 1) dX4_spill_41 (by decide) ?_
          refine zg_vrt (M := zm_X4_spill) E (ci := 4) dX4_spill_42 (mt_fails (w := w) (z := false) (k := nI 1) E HM) wd_X4_102 rfl (congrArg Prod.fst (zl_Mat HM (k := 156) (t := (4, 17)) rfl (by decide) (by decide))) (by decide) (zl_Mlt HM (by decide)) rfl dh_X4_fails dn_X4_fails (Nat.le_of_ble_eq_true rfl) (Nat.le_of_ble_eq_true rfl) (Nat.le_of_ble_eq_true rfl) (zl_capM HM) rfl (fun w42 g42 => ?_)
          subst w42
          obtain ⟨J1, e1, r1, t1, f1⟩ := zu_th (w := w) hM (nI 0)
          refine zg_w e1.symm ?_
          refine zg_if_ne (tgt := 70) dX4_spill_45 (by decide) (fun h45 => ?_) (fun h45 => ?_)
          · exact absurd rfl h45
          · refine zg_aload_n dX4_spill_48 rfl ?_
            refine zg_aload_n dX4_spill_49 rfl ?_
            refine zg_getI E (ci := 4) (j := 14) dX4_spill_50 rfl (congrArg Prod.fst (zl_Mat HM (k := 156) (t := (4, 17)) rfl (by decide) (by decide))) (by decide) (zl_Mlt HM (by decide)) (by decide) fl_X4_54 rfl ?_
            refine zg_v (x' := nI H.1) r1.2.1.1 ?_
            refine zg_bipush (v := nI 60) dX4_spill_53 (by decide) ?_
            refine zg_icmp_lt (tgt := 62) dX4_spill_55 (by decide) (fun h55 => ?_) (fun h55 => ?_)
            · refine zg_iconst (v := nI 0) dX4_spill_62 (by decide) ?_
              refine zg_iconst (v := nI 2) dX4_spill_63 (by decide) ?_
              refine zg_vrt (M := zm_X4_spill) E (ci := 4) dX4_spill_64 (mt_fails (w := zw_I w J1) (z := false) (k := nI 2) E HM) wd_X4_102 rfl (congrArg Prod.fst (zl_Mat HM (k := 156) (t := (4, 17)) rfl (by decide) (by decide))) (by decide) (zl_Mlt HM (by decide)) rfl dh_X4_fails dn_X4_fails (Nat.le_of_ble_eq_true rfl) (Nat.le_of_ble_eq_true rfl) (Nat.le_of_ble_eq_true rfl) (zl_capM HM) rfl (fun w64 g64 => ?_)
              subst w64
              obtain ⟨J2, e2, r2, t2, f2⟩ := zu_th (w := w) r1 (nI 0)
              refine zg_w e2.symm ?_
              refine zg_if_eq (tgt := 72) dX4_spill_67 (by decide) (fun h67 => ?_) (fun h67 => ?_)
              · refine zg_aload_n dX4_spill_72 rfl ?_
                refine zg_aload_n dX4_spill_73 rfl ?_
                refine zg_getR E (ci := 4) (j := 9) (r := 160) dX4_spill_74 rfl (congrArg Prod.fst (zl_Mat HM (k := 156) (t := (4, 17)) rfl (by decide) (by decide))) (by decide) (zl_Mlt HM (by decide)) (by decide) fl_X4_19 rfl (zl_Mrf HM rfl (by decide) (by decide)) ?_
                refine zg_iload_n dX4_spill_77 rfl ?_
                refine zg_iald E (j := p) dX4_spill_78 (zl_Mat HM (k := 160) (t := (10, 16)) rfl (by decide) (by decide)) (by decide) (zl_Mlt HM (by decide)) rfl (by omega) (by decide) ?_
                refine zg_v (x' := nI (C.1 p)) (r2.2.2.2.2.2.1.2.1 ho p hp) ?_
                refine zg_aload_n dX4_spill_79 rfl ?_
                refine zg_getR E (ci := 4) (j := 11) (r := 162) dX4_spill_80 rfl (congrArg Prod.fst (zl_Mat HM (k := 156) (t := (4, 17)) rfl (by decide) (by decide))) (by decide) (zl_Mlt HM (by decide)) (by decide) fl_X4_26 rfl (zl_Mrf HM rfl (by decide) (by decide)) ?_
                refine zg_bipush (v := nI 16) dX4_spill_83 (by decide) ?_
                refine zg_iload_n dX4_spill_85 rfl ?_
                refine zg_imul dX4_spill_86 ?_
                refine zg_v (x' := nI (16 * p)) (pk_mul _ _) ?_
                refine zg_vrt (M := zm_X4_spill) E (ci := 4) dX4_spill_87 (mt_hold (w := zw_I w J2) (k := 162) (n := 256) (q := 16 * p) (f := C.2.1 p) E HM r2.2.1 (by omega) (zl_Mat HM (k := 162) (t := (10, 256)) rfl (by decide) (by decide)) (by decide) (zl_Mlt HM (by decide)) (by decide) (by omega) (Or.inl rfl) (fun i hi => (r2.2.2.2.2.2.1.2.2 p hp h0).1 i hi)) wd_X4_114 rfl (congrArg Prod.fst (zl_Mat HM (k := 156) (t := (4, 17)) rfl (by decide) (by decide))) (by decide) (zl_Mlt HM (by decide)) rfl dh_X4_hold dn_X4_hold (Nat.le_of_ble_eq_true rfl) (Nat.le_of_ble_eq_true rfl) (Nat.le_of_ble_eq_true rfl) (zl_capM HM) rfl (fun w87 g87 => ?_)
                obtain ⟨J3, rfl, r3, f3⟩ := g87
                have x3 : zu_X J3 D (za_hold H (C.1 p) (C.2.1 p)) b L S C t := ⟨zu_fD r2.1 f3, r3, zu_fs r2.2.2.1 f3, zu_fL r2.2.2.2.1 f3, zu_fS r2.2.2.2.2.1 f3, zu_fC r2.2.2.2.2.2.1 f3, zu_fs r2.2.2.2.2.2.2 f3⟩
                refine zg_w (w' := zw_I w J3) rfl ?_
                refine zg_aload_n dX4_spill_90 rfl ?_
                refine zg_getR E (ci := 4) (j := 10) (r := 161) dX4_spill_91 rfl (congrArg Prod.fst (zl_Mat HM (k := 156) (t := (4, 17)) rfl (by decide) (by decide))) (by decide) (zl_Mlt HM (by decide)) (by decide) fl_X4_22 rfl (zl_Mrf HM rfl (by decide) (by decide)) ?_
                refine zg_iload_n dX4_spill_94 rfl ?_
                refine zg_iconst (v := nI 1) dX4_spill_95 (by decide) ?_
                refine zg_zast E (j := p) (y := nI 1) dX4_spill_96 (zl_Mat HM (k := 161) (t := (11, 16)) rfl (by decide) (by decide)) (by decide) (zl_Mlt HM (by decide)) rfl (by omega) (by decide) rfl ?_
                refine zg_aload_n dX4_spill_97 rfl ?_
                refine zg_getI E (ci := 4) (j := 14) dX4_spill_98 rfl (congrArg Prod.fst (zl_Mat HM (k := 156) (t := (4, 17)) rfl (by decide) (by decide))) (by decide) (zl_Mlt HM (by decide)) (by decide) fl_X4_54 rfl ?_
                refine zg_v (x' := nI (H.1 + 1)) (zu_fH x3.2.1 (zu_frC J3 161 p (nI 1))).1 ?_
                exact zg_iret rfl dX4_spill_101 ⟨rfl, _, rfl, ⟨zu_fD x3.1 (zu_frC J3 161 p (nI 1)), zu_fH x3.2.1 (zu_frC J3 161 p (nI 1)), zu_fs x3.2.2.1 (zu_frC J3 161 p (nI 1)), zu_fL x3.2.2.2.1 (zu_frC J3 161 p (nI 1)), zu_fS x3.2.2.2.2.1 (zu_frC J3 161 p (nI 1)), zu_spl (z := true) x3.2.2.2.2.2.1 rfl, zu_fs x3.2.2.2.2.2.2 (zu_frC J3 161 p (nI 1))⟩, zu_fs (zu_fs t2 f3) (zu_frC J3 161 p (nI 1)), zu_frW (zu_frT (zu_frT (zu_frT f1 f2) f3) (zu_frC J3 161 p (nI 1)))⟩
              · exact absurd rfl h67
            · exact absurd (nI_lt h60 (by decide)) h55
        · exact absurd (by rw [hz]; rfl) h33
set_option maxHeartbeats 4000000 in
set_option maxRecDepth 100000 in
theorem qd_1 {V : zv_V} (E : zv_OK V) {w : zw_W} (HM : zl_M w) {D : Nat → Nat → Nat} {H : za_H} {b : Bool} {L S : za_T} {C : za_C} {t : Bool} (hM : zu_X (zw_i w) D H b L S C t) {x : Int32} (hx : ∀ n, n < 48 → x ≠ nI n) {u v : Int32} : zg_C V zm_X4_damage yX4_damage 8 190 [.ref 156, .int x, .int u, .int v] w (zq_p (.inl (some (.int (nI 0)))) (zu_pub w D H b L S C t 1)) := by
  refine zg_of (by decide +kernel) rfl (Nat.le_of_ble_eq_true rfl) ?_
  show zg_G V zm_X4_damage 8 190 w.1 w.2.1 0 [] [(0, .ref 156), (1, .int x), (2, .int u), (3, .int v)] w _
  refine zg_aload_n dX4_damage_0 rfl ?_
  refine zg_iload_n dX4_damage_1 rfl ?_
  refine zg_iconst (v := nI 0) dX4_damage_2 (by decide) ?_
  refine zg_bipush (v := nI 47) dX4_damage_3 (by decide) ?_
  refine zg_sret (M := zm_X4_damage) E dX4_damage_5 (mt_within (w := w) E (z := false) (zw_x (n := 47) hx (by decide))) wd_X4_67 dh_X4_within dn_X4_within (Nat.le_of_ble_eq_true rfl) (Nat.le_of_ble_eq_true rfl) (Nat.le_of_ble_eq_true rfl) (zl_capM HM) rfl (fun w5 g5 => ?_)
  subst w5
  refine zg_if_eq (tgt := 32) dX4_damage_8 (by decide) (fun h8 => ?_) (fun h8 => ?_)
  · refine zg_iconst (v := nI 1) dX4_damage_32 (by decide) ?_
    refine zg_goto (tgt := 37) dX4_damage_33 (by decide) ?_
    refine zg_iconst (v := nI 1) dX4_damage_37 (by decide) ?_
    refine zg_vrt (M := zm_X4_damage) E (ci := 4) dX4_damage_38 (mt_fails (w := w) (z := true) (k := nI 1) E HM) wd_X4_102 rfl (congrArg Prod.fst (zl_Mat HM (k := 156) (t := (4, 17)) rfl (by decide) (by decide))) (by decide) (zl_Mlt HM (by decide)) rfl dh_X4_fails dn_X4_fails (Nat.le_of_ble_eq_true rfl) (Nat.le_of_ble_eq_true rfl) (Nat.le_of_ble_eq_true rfl) (zl_capM HM) rfl (fun w38 g38 => ?_)
    subst w38
    obtain ⟨J1, e1, r1, t1, f1⟩ := zu_th (w := w) hM (nI 1)
    refine zg_w e1.symm ?_
    refine zg_if_eq (tgt := 46) dX4_damage_41 (by decide) (fun h41 => ?_) (fun h41 => ?_)
    · exact absurd h41 (by decide)
    · refine zg_iconst (v := nI 0) dX4_damage_44 (by decide) ?_
      exact zg_iret rfl dX4_damage_45 ⟨rfl, J1, rfl, r1, t1, zu_frW (f1)⟩
  · exact absurd rfl h8
set_option maxHeartbeats 4000000 in
set_option maxRecDepth 100000 in
theorem qd_2 {V : zv_V} (E : zv_OK V) {w : zw_W} (HM : zl_M w) {D : Nat → Nat → Nat} {H : za_H} {b : Bool} {L S : za_T} {C : za_C} {t : Bool} (hM : zu_X (zw_i w) D H b L S C t) {s : Nat} (hs : s < 48) {x : Int32} (hx : ∀ n, n < 16 → x ≠ nI n) {v : Int32} : zg_C V zm_X4_damage yX4_damage 8 190 [.ref 156, .int (nI s), .int x, .int v] w (zq_p (.inl (some (.int (nI 0)))) (zu_pub w D H b L S C t 1)) := by
  refine zg_of (by decide +kernel) rfl (Nat.le_of_ble_eq_true rfl) ?_
  show zg_G V zm_X4_damage 8 190 w.1 w.2.1 0 [] [(0, .ref 156), (1, .int (nI s)), (2, .int x), (3, .int v)] w _
  refine zg_aload_n dX4_damage_0 rfl ?_
  refine zg_iload_n dX4_damage_1 rfl ?_
  refine zg_iconst (v := nI 0) dX4_damage_2 (by decide) ?_
  refine zg_bipush (v := nI 47) dX4_damage_3 (by decide) ?_
  refine zg_sret (M := zm_X4_damage) E dX4_damage_5 (mt_within (w := w) E (z := true) (zw_y (n := 47) hs (by decide))) wd_X4_67 dh_X4_within dn_X4_within (Nat.le_of_ble_eq_true rfl) (Nat.le_of_ble_eq_true rfl) (Nat.le_of_ble_eq_true rfl) (zl_capM HM) rfl (fun w5 g5 => ?_)
  subst w5
  refine zg_if_eq (tgt := 32) dX4_damage_8 (by decide) (fun h8 => ?_) (fun h8 => ?_)
  · exact absurd h8 (by decide)
  · refine zg_iload_n dX4_damage_11 rfl ?_
    refine zg_iconst (v := nI 0) dX4_damage_12 (by decide) ?_
    refine zg_bipush (v := nI 15) dX4_damage_13 (by decide) ?_
    refine zg_sret (M := zm_X4_damage) E dX4_damage_15 (mt_within (w := w) E (z := false) (zw_x (n := 15) hx (by decide))) wd_X4_67 dh_X4_within dn_X4_within (Nat.le_of_ble_eq_true rfl) (Nat.le_of_ble_eq_true rfl) (Nat.le_of_ble_eq_true rfl) (zl_capM HM) rfl (fun w15 g15 => ?_)
    subst w15
    refine zg_if_eq (tgt := 32) dX4_damage_18 (by decide) (fun h18 => ?_) (fun h18 => ?_)
    · refine zg_iconst (v := nI 1) dX4_damage_32 (by decide) ?_
      refine zg_goto (tgt := 37) dX4_damage_33 (by decide) ?_
      refine zg_iconst (v := nI 1) dX4_damage_37 (by decide) ?_
      refine zg_vrt (M := zm_X4_damage) E (ci := 4) dX4_damage_38 (mt_fails (w := w) (z := true) (k := nI 1) E HM) wd_X4_102 rfl (congrArg Prod.fst (zl_Mat HM (k := 156) (t := (4, 17)) rfl (by decide) (by decide))) (by decide) (zl_Mlt HM (by decide)) rfl dh_X4_fails dn_X4_fails (Nat.le_of_ble_eq_true rfl) (Nat.le_of_ble_eq_true rfl) (Nat.le_of_ble_eq_true rfl) (zl_capM HM) rfl (fun w38 g38 => ?_)
      subst w38
      obtain ⟨J1, e1, r1, t1, f1⟩ := zu_th (w := w) hM (nI 1)
      refine zg_w e1.symm ?_
      refine zg_if_eq (tgt := 46) dX4_damage_41 (by decide) (fun h41 => ?_) (fun h41 => ?_)
      · exact absurd h41 (by decide)
      · refine zg_iconst (v := nI 0) dX4_damage_44 (by decide) ?_
        exact zg_iret rfl dX4_damage_45 ⟨rfl, J1, rfl, r1, t1, zu_frW (f1)⟩
    · exact absurd rfl h18
set_option maxHeartbeats 4000000 in
set_option maxRecDepth 100000 in
theorem qd_3 {V : zv_V} (E : zv_OK V) {w : zw_W} (HM : zl_M w) {D : Nat → Nat → Nat} {H : za_H} {b : Bool} {L S : za_T} {C : za_C} {t : Bool} (hM : zu_X (zw_i w) D H b L S C t) {s : Nat} (hs : s < 48) {i : Nat} (hi : i < 16) {x : Int32} (hx : ∀ n, n < 256 → x ≠ nI n)  : zg_C V zm_X4_damage yX4_damage 8 190 [.ref 156, .int (nI s), .int (nI i), .int x] w (zq_p (.inl (some (.int (nI 0)))) (zu_pub w D H b L S C t 1)) := by
  refine zg_of (by decide +kernel) rfl (Nat.le_of_ble_eq_true rfl) ?_
  show zg_G V zm_X4_damage 8 190 w.1 w.2.1 0 [] [(0, .ref 156), (1, .int (nI s)), (2, .int (nI i)), (3, .int x)] w _
  refine zg_aload_n dX4_damage_0 rfl ?_
  refine zg_iload_n dX4_damage_1 rfl ?_
  refine zg_iconst (v := nI 0) dX4_damage_2 (by decide) ?_
  refine zg_bipush (v := nI 47) dX4_damage_3 (by decide) ?_
  refine zg_sret (M := zm_X4_damage) E dX4_damage_5 (mt_within (w := w) E (z := true) (zw_y (n := 47) hs (by decide))) wd_X4_67 dh_X4_within dn_X4_within (Nat.le_of_ble_eq_true rfl) (Nat.le_of_ble_eq_true rfl) (Nat.le_of_ble_eq_true rfl) (zl_capM HM) rfl (fun w5 g5 => ?_)
  subst w5
  refine zg_if_eq (tgt := 32) dX4_damage_8 (by decide) (fun h8 => ?_) (fun h8 => ?_)
  · exact absurd h8 (by decide)
  · refine zg_iload_n dX4_damage_11 rfl ?_
    refine zg_iconst (v := nI 0) dX4_damage_12 (by decide) ?_
    refine zg_bipush (v := nI 15) dX4_damage_13 (by decide) ?_
    refine zg_sret (M := zm_X4_damage) E dX4_damage_15 (mt_within (w := w) E (z := true) (zw_y (n := 15) hi (by decide))) wd_X4_67 dh_X4_within dn_X4_within (Nat.le_of_ble_eq_true rfl) (Nat.le_of_ble_eq_true rfl) (Nat.le_of_ble_eq_true rfl) (zl_capM HM) rfl (fun w15 g15 => ?_)
    subst w15
    refine zg_if_eq (tgt := 32) dX4_damage_18 (by decide) (fun h18 => ?_) (fun h18 => ?_)
    · exact absurd h18 (by decide)
    · refine zg_iload_n dX4_damage_21 rfl ?_
      refine zg_iconst (v := nI 0) dX4_damage_22 (by decide) ?_
      refine zg_sipush (v := nI 255) dX4_damage_23 (by decide) ?_
      refine zg_sret (M := zm_X4_damage) E dX4_damage_26 (mt_within (w := w) E (z := false) (zw_x (n := 255) hx (by decide))) wd_X4_67 dh_X4_within dn_X4_within (Nat.le_of_ble_eq_true rfl) (Nat.le_of_ble_eq_true rfl) (Nat.le_of_ble_eq_true rfl) (zl_capM HM) rfl (fun w26 g26 => ?_)
      subst w26
      refine zg_if_ne (tgt := 36) dX4_damage_29 (by decide) (fun h29 => ?_) (fun h29 => ?_)
      · exact absurd rfl h29
      · refine zg_iconst (v := nI 1) dX4_damage_32 (by decide) ?_
        refine zg_goto (tgt := 37) dX4_damage_33 (by decide) ?_
        refine zg_iconst (v := nI 1) dX4_damage_37 (by decide) ?_
        refine zg_vrt (M := zm_X4_damage) E (ci := 4) dX4_damage_38 (mt_fails (w := w) (z := true) (k := nI 1) E HM) wd_X4_102 rfl (congrArg Prod.fst (zl_Mat HM (k := 156) (t := (4, 17)) rfl (by decide) (by decide))) (by decide) (zl_Mlt HM (by decide)) rfl dh_X4_fails dn_X4_fails (Nat.le_of_ble_eq_true rfl) (Nat.le_of_ble_eq_true rfl) (Nat.le_of_ble_eq_true rfl) (zl_capM HM) rfl (fun w38 g38 => ?_)
        subst w38
        obtain ⟨J1, e1, r1, t1, f1⟩ := zu_th (w := w) hM (nI 1)
        refine zg_w e1.symm ?_
        refine zg_if_eq (tgt := 46) dX4_damage_41 (by decide) (fun h41 => ?_) (fun h41 => ?_)
        · exact absurd h41 (by decide)
        · refine zg_iconst (v := nI 0) dX4_damage_44 (by decide) ?_
          exact zg_iret rfl dX4_damage_45 ⟨rfl, J1, rfl, r1, t1, zu_frW (f1)⟩
theorem zu_dam {I J : Nat → Nat → Int32} {D : Nat → Nat → Nat} {s i y : Nat} (h : zu_D I D) (hi : i < 16) (g : J = zw_up I 157 (16 * s + i) (nI y)) : zu_D J (za_dam D s i y) := by
  subst g
  intro t ht j hj
  unfold za_dam
  by_cases e : t = s ∧ j = i
  · rw [e.1, e.2, zw_up_s, zw_up_s]
  · have e' : t ≠ s ∨ j ≠ i := by
      rcases Nat.decEq t s with a | a
      · exact Or.inl a
      · exact Or.inr (fun z => e ⟨a, z⟩)
    rw [zw_up_n _ _ e', zw_up_n _ _ (Or.inr (by omega))]
    exact h t ht j hj
set_option maxHeartbeats 4000000 in
set_option maxRecDepth 100000 in
theorem qd_4 {V : zv_V} (E : zv_OK V) {w : zw_W} (HM : zl_M w) {D : Nat → Nat → Nat} {H : za_H} {b : Bool} {L S : za_T} {C : za_C} {t : Bool} (hM : zu_X (zw_i w) D H b L S C t) {s : Nat} (hs : s < 48) {i : Nat} (hi : i < 16) {y : Nat} (hy : y < 256)  : zg_C V zm_X4_damage yX4_damage 8 190 [.ref 156, .int (nI s), .int (nI i), .int (nI y)] w (zq_p (.inl (some (.int (nI (D s i))))) (zu_pub w (za_dam D s i y) H b L S C t 0)) := by
  refine zg_of (by decide +kernel) rfl (Nat.le_of_ble_eq_true rfl) ?_
  show zg_G V zm_X4_damage 8 190 w.1 w.2.1 0 [] [(0, .ref 156), (1, .int (nI s)), (2, .int (nI i)), (3, .int (nI y))] w _
  refine zg_aload_n dX4_damage_0 rfl ?_
  refine zg_iload_n dX4_damage_1 rfl ?_
  refine zg_iconst (v := nI 0) dX4_damage_2 (by decide) ?_
  refine zg_bipush (v := nI 47) dX4_damage_3 (by decide) ?_
  refine zg_sret (M := zm_X4_damage) E dX4_damage_5 (mt_within (w := w) E (z := true) (zw_y (n := 47) hs (by decide))) wd_X4_67 dh_X4_within dn_X4_within (Nat.le_of_ble_eq_true rfl) (Nat.le_of_ble_eq_true rfl) (Nat.le_of_ble_eq_true rfl) (zl_capM HM) rfl (fun w5 g5 => ?_)
  subst w5
  refine zg_if_eq (tgt := 32) dX4_damage_8 (by decide) (fun h8 => ?_) (fun h8 => ?_)
  · exact absurd h8 (by decide)
  · refine zg_iload_n dX4_damage_11 rfl ?_
    refine zg_iconst (v := nI 0) dX4_damage_12 (by decide) ?_
    refine zg_bipush (v := nI 15) dX4_damage_13 (by decide) ?_
    refine zg_sret (M := zm_X4_damage) E dX4_damage_15 (mt_within (w := w) E (z := true) (zw_y (n := 15) hi (by decide))) wd_X4_67 dh_X4_within dn_X4_within (Nat.le_of_ble_eq_true rfl) (Nat.le_of_ble_eq_true rfl) (Nat.le_of_ble_eq_true rfl) (zl_capM HM) rfl (fun w15 g15 => ?_)
    subst w15
    refine zg_if_eq (tgt := 32) dX4_damage_18 (by decide) (fun h18 => ?_) (fun h18 => ?_)
    · exact absurd h18 (by decide)
    · refine zg_iload_n dX4_damage_21 rfl ?_
      refine zg_iconst (v := nI 0) dX4_damage_22 (by decide) ?_
      refine zg_sipush (v := nI 255) dX4_damage_23 (by decide) ?_
      refine zg_sret (M := zm_X4_damage) E dX4_damage_26 (mt_within (w := w) E (z := true) (zw_y (n := 255) hy (by decide))) wd_X4_67 dh_X4_within dn_X4_within (Nat.le_of_ble_eq_true rfl) (Nat.le_of_ble_eq_true rfl) (Nat.le_of_ble_eq_true rfl) (zl_capM HM) rfl (fun w26 g26 => ?_)
      subst w26
      refine zg_if_ne (tgt := 36) dX4_damage_29 (by decide) (fun h29 => ?_) (fun h29 => ?_)
      · refine zg_iconst (v := nI 0) dX4_damage_36 (by decide) ?_
        refine zg_iconst (v := nI 1) dX4_damage_37 (by decide) ?_
        refine zg_vrt (M := zm_X4_damage) E (ci := 4) dX4_damage_38 (mt_fails (w := w) (z := false) (k := nI 1) E HM) wd_X4_102 rfl (congrArg Prod.fst (zl_Mat HM (k := 156) (t := (4, 17)) rfl (by decide) (by decide))) (by decide) (zl_Mlt HM (by decide)) rfl dh_X4_fails dn_X4_fails (Nat.le_of_ble_eq_true rfl) (Nat.le_of_ble_eq_true rfl) (Nat.le_of_ble_eq_true rfl) (zl_capM HM) rfl (fun w38 g38 => ?_)
        subst w38
        obtain ⟨J1, e1, r1, t1, f1⟩ := zu_th (w := w) hM (nI 0)
        refine zg_w e1.symm ?_
        refine zg_if_eq (tgt := 46) dX4_damage_41 (by decide) (fun h41 => ?_) (fun h41 => ?_)
        · refine zg_aload_n dX4_damage_46 rfl ?_
          refine zg_getR E (ci := 4) (j := 0) (r := 157) dX4_damage_47 rfl (congrArg Prod.fst (zl_Mat HM (k := 156) (t := (4, 17)) rfl (by decide) (by decide))) (by decide) (zl_Mlt HM (by decide)) (by decide) fl_X4_7 rfl (zl_Mrf HM rfl (by decide) (by decide)) ?_
          refine zg_bipush (v := nI 16) dX4_damage_50 (by decide) ?_
          refine zg_iload_n dX4_damage_52 rfl ?_
          refine zg_imul dX4_damage_53 ?_
          refine zg_v (x' := nI (16 * s)) (pk_mul _ _) ?_
          refine zg_iload_n dX4_damage_54 rfl ?_
          refine zg_iadd dX4_damage_55 ?_
          refine zg_v (x' := nI ((16 * s) + i)) (nI_add _ _) ?_
          refine zg_iald E (j := (16 * s) + i) dX4_damage_56 (zl_Mat HM (k := 157) (t := (10, 768)) rfl (by decide) (by decide)) (by decide) (zl_Mlt HM (by decide)) rfl (by omega) (by decide) ?_
          refine zg_v (x' := nI (D s i)) (r1.1 s hs i hi) ?_
          refine zg_istore (lv' := [(4, .int (nI (D s i))), (0, .ref 156), (1, .int (nI s)), (2, .int (nI i)), (3, .int (nI y))]) dX4_damage_57 (by decide) rfl ?_
          refine zg_aload_n dX4_damage_59 rfl ?_
          refine zg_getR E (ci := 4) (j := 0) (r := 157) dX4_damage_60 rfl (congrArg Prod.fst (zl_Mat HM (k := 156) (t := (4, 17)) rfl (by decide) (by decide))) (by decide) (zl_Mlt HM (by decide)) (by decide) fl_X4_7 rfl (zl_Mrf HM rfl (by decide) (by decide)) ?_
          refine zg_bipush (v := nI 16) dX4_damage_63 (by decide) ?_
          refine zg_iload_n dX4_damage_65 rfl ?_
          refine zg_imul dX4_damage_66 ?_
          refine zg_v (x' := nI (16 * s)) (pk_mul _ _) ?_
          refine zg_iload_n dX4_damage_67 rfl ?_
          refine zg_iadd dX4_damage_68 ?_
          refine zg_v (x' := nI ((16 * s) + i)) (nI_add _ _) ?_
          refine zg_iload_n dX4_damage_69 rfl ?_
          refine zg_iast E (j := (16 * s) + i) dX4_damage_70 (zl_Mat HM (k := 157) (t := (10, 768)) rfl (by decide) (by decide)) (by decide) (zl_Mlt HM (by decide)) rfl (by omega) (by decide) ?_
          refine zg_iload dX4_damage_71 rfl ?_
          exact zg_iret rfl dX4_damage_73 ⟨rfl, _, rfl, ⟨zu_dam r1.1 hi rfl, zu_fH r1.2.1 (zu_frC J1 157 (16 * s + i) (nI y)), zu_fs r1.2.2.1 (zu_frC J1 157 (16 * s + i) (nI y)), zu_fL r1.2.2.2.1 (zu_frC J1 157 (16 * s + i) (nI y)), zu_fS r1.2.2.2.2.1 (zu_frC J1 157 (16 * s + i) (nI y)), zu_fC r1.2.2.2.2.2.1 (zu_frC J1 157 (16 * s + i) (nI y)), zu_fs r1.2.2.2.2.2.2 (zu_frC J1 157 (16 * s + i) (nI y))⟩, zu_fs t1 (zu_frC J1 157 (16 * s + i) (nI y)), zu_frW (zu_frT f1 (zu_frC J1 157 (16 * s + i) (nI y)))⟩
        · exact absurd rfl h41
      · exact absurd h29 (by decide)
set_option maxHeartbeats 4000000 in
set_option maxRecDepth 100000 in
theorem qk_1 {V : zv_V} (E : zv_OK V) {w : zw_W} (HM : zl_M w) {D : Nat → Nat → Nat} {H : za_H} {b : Bool} {L S : za_T} {C : za_C} {t : Bool} (hM : zu_X (zw_i w) D H b L S C t) {x : Int32} (hx : ∀ n, n < 48 → x ≠ nI n) {u : Int32} : zg_C V zm_X4_disk yX4_disk 8 190 [.ref 156, .int x, .int u] w (zq_p (.inl (some (.int (nI 0)))) (zu_pub w D H b L S C t 1)) := by
  refine zg_of (by decide +kernel) rfl (Nat.le_of_ble_eq_true rfl) ?_
  show zg_G V zm_X4_disk 8 190 w.1 w.2.1 0 [] [(0, .ref 156), (1, .int x), (2, .int u)] w _
  refine zg_aload_n dX4_disk_0 rfl ?_
  refine zg_iload_n dX4_disk_1 rfl ?_
  refine zg_iconst (v := nI 0) dX4_disk_2 (by decide) ?_
  refine zg_bipush (v := nI 47) dX4_disk_3 (by decide) ?_
  refine zg_sret (M := zm_X4_disk) E dX4_disk_5 (mt_within (w := w) E (z := false) (zw_x (n := 47) hx (by decide))) wd_X4_67 dh_X4_within dn_X4_within (Nat.le_of_ble_eq_true rfl) (Nat.le_of_ble_eq_true rfl) (Nat.le_of_ble_eq_true rfl) (zl_capM HM) rfl (fun w5 g5 => ?_)
  subst w5
  refine zg_if_eq (tgt := 21) dX4_disk_8 (by decide) (fun h8 => ?_) (fun h8 => ?_)
  · refine zg_iconst (v := nI 1) dX4_disk_21 (by decide) ?_
    refine zg_goto (tgt := 26) dX4_disk_22 (by decide) ?_
    refine zg_iconst (v := nI 1) dX4_disk_26 (by decide) ?_
    refine zg_vrt (M := zm_X4_disk) E (ci := 4) dX4_disk_27 (mt_fails (w := w) (z := true) (k := nI 1) E HM) wd_X4_102 rfl (congrArg Prod.fst (zl_Mat HM (k := 156) (t := (4, 17)) rfl (by decide) (by decide))) (by decide) (zl_Mlt HM (by decide)) rfl dh_X4_fails dn_X4_fails (Nat.le_of_ble_eq_true rfl) (Nat.le_of_ble_eq_true rfl) (Nat.le_of_ble_eq_true rfl) (zl_capM HM) rfl (fun w27 g27 => ?_)
    subst w27
    obtain ⟨J1, e1, r1, t1, f1⟩ := zu_th (w := w) hM (nI 1)
    refine zg_w e1.symm ?_
    refine zg_if_eq (tgt := 37) dX4_disk_30 (by decide) (fun h30 => ?_) (fun h30 => ?_)
    · exact absurd h30 (by decide)
    · refine zg_iconst (v := nI 0) dX4_disk_33 (by decide) ?_
      refine zg_goto (tgt := 48) dX4_disk_34 (by decide) ?_
      exact zg_iret rfl dX4_disk_48 ⟨rfl, J1, rfl, r1, t1, zu_frW (f1)⟩
  · exact absurd rfl h8
set_option maxHeartbeats 4000000 in
set_option maxRecDepth 100000 in
theorem qk_2 {V : zv_V} (E : zv_OK V) {w : zw_W} (HM : zl_M w) {D : Nat → Nat → Nat} {H : za_H} {b : Bool} {L S : za_T} {C : za_C} {t : Bool} (hM : zu_X (zw_i w) D H b L S C t) {s : Nat} (hs : s < 48) {x : Int32} (hx : ∀ n, n < 16 → x ≠ nI n)  : zg_C V zm_X4_disk yX4_disk 8 190 [.ref 156, .int (nI s), .int x] w (zq_p (.inl (some (.int (nI 0)))) (zu_pub w D H b L S C t 1)) := by
  refine zg_of (by decide +kernel) rfl (Nat.le_of_ble_eq_true rfl) ?_
  show zg_G V zm_X4_disk 8 190 w.1 w.2.1 0 [] [(0, .ref 156), (1, .int (nI s)), (2, .int x)] w _
  refine zg_aload_n dX4_disk_0 rfl ?_
  refine zg_iload_n dX4_disk_1 rfl ?_
  refine zg_iconst (v := nI 0) dX4_disk_2 (by decide) ?_
  refine zg_bipush (v := nI 47) dX4_disk_3 (by decide) ?_
  refine zg_sret (M := zm_X4_disk) E dX4_disk_5 (mt_within (w := w) E (z := true) (zw_y (n := 47) hs (by decide))) wd_X4_67 dh_X4_within dn_X4_within (Nat.le_of_ble_eq_true rfl) (Nat.le_of_ble_eq_true rfl) (Nat.le_of_ble_eq_true rfl) (zl_capM HM) rfl (fun w5 g5 => ?_)
  subst w5
  refine zg_if_eq (tgt := 21) dX4_disk_8 (by decide) (fun h8 => ?_) (fun h8 => ?_)
  · exact absurd h8 (by decide)
  · refine zg_iload_n dX4_disk_11 rfl ?_
    refine zg_iconst (v := nI 0) dX4_disk_12 (by decide) ?_
    refine zg_bipush (v := nI 15) dX4_disk_13 (by decide) ?_
    refine zg_sret (M := zm_X4_disk) E dX4_disk_15 (mt_within (w := w) E (z := false) (zw_x (n := 15) hx (by decide))) wd_X4_67 dh_X4_within dn_X4_within (Nat.le_of_ble_eq_true rfl) (Nat.le_of_ble_eq_true rfl) (Nat.le_of_ble_eq_true rfl) (zl_capM HM) rfl (fun w15 g15 => ?_)
    subst w15
    refine zg_if_ne (tgt := 25) dX4_disk_18 (by decide) (fun h18 => ?_) (fun h18 => ?_)
    · exact absurd rfl h18
    · refine zg_iconst (v := nI 1) dX4_disk_21 (by decide) ?_
      refine zg_goto (tgt := 26) dX4_disk_22 (by decide) ?_
      refine zg_iconst (v := nI 1) dX4_disk_26 (by decide) ?_
      refine zg_vrt (M := zm_X4_disk) E (ci := 4) dX4_disk_27 (mt_fails (w := w) (z := true) (k := nI 1) E HM) wd_X4_102 rfl (congrArg Prod.fst (zl_Mat HM (k := 156) (t := (4, 17)) rfl (by decide) (by decide))) (by decide) (zl_Mlt HM (by decide)) rfl dh_X4_fails dn_X4_fails (Nat.le_of_ble_eq_true rfl) (Nat.le_of_ble_eq_true rfl) (Nat.le_of_ble_eq_true rfl) (zl_capM HM) rfl (fun w27 g27 => ?_)
      subst w27
      obtain ⟨J1, e1, r1, t1, f1⟩ := zu_th (w := w) hM (nI 1)
      refine zg_w e1.symm ?_
      refine zg_if_eq (tgt := 37) dX4_disk_30 (by decide) (fun h30 => ?_) (fun h30 => ?_)
      · exact absurd h30 (by decide)
      · refine zg_iconst (v := nI 0) dX4_disk_33 (by decide) ?_
        refine zg_goto (tgt := 48) dX4_disk_34 (by decide) ?_
        exact zg_iret rfl dX4_disk_48 ⟨rfl, J1, rfl, r1, t1, zu_frW (f1)⟩
set_option maxHeartbeats 4000000 in
set_option maxRecDepth 100000 in
theorem qk_3 {V : zv_V} (E : zv_OK V) {w : zw_W} (HM : zl_M w) {D : Nat → Nat → Nat} {H : za_H} {b : Bool} {L S : za_T} {C : za_C} {t : Bool} (hM : zu_X (zw_i w) D H b L S C t) {s : Nat} (hs : s < 48) {i : Nat} (hi : i < 16)  : zg_C V zm_X4_disk yX4_disk 8 190 [.ref 156, .int (nI s), .int (nI i)] w (zq_p (.inl (some (.int (nI (D s i))))) (zu_pub w D H b L S C t 0)) := by
  refine zg_of (by decide +kernel) rfl (Nat.le_of_ble_eq_true rfl) ?_
  show zg_G V zm_X4_disk 8 190 w.1 w.2.1 0 [] [(0, .ref 156), (1, .int (nI s)), (2, .int (nI i))] w _
  refine zg_aload_n dX4_disk_0 rfl ?_
  refine zg_iload_n dX4_disk_1 rfl ?_
  refine zg_iconst (v := nI 0) dX4_disk_2 (by decide) ?_
  refine zg_bipush (v := nI 47) dX4_disk_3 (by decide) ?_
  refine zg_sret (M := zm_X4_disk) E dX4_disk_5 (mt_within (w := w) E (z := true) (zw_y (n := 47) hs (by decide))) wd_X4_67 dh_X4_within dn_X4_within (Nat.le_of_ble_eq_true rfl) (Nat.le_of_ble_eq_true rfl) (Nat.le_of_ble_eq_true rfl) (zl_capM HM) rfl (fun w5 g5 => ?_)
  subst w5
  refine zg_if_eq (tgt := 21) dX4_disk_8 (by decide) (fun h8 => ?_) (fun h8 => ?_)
  · exact absurd h8 (by decide)
  · refine zg_iload_n dX4_disk_11 rfl ?_
    refine zg_iconst (v := nI 0) dX4_disk_12 (by decide) ?_
    refine zg_bipush (v := nI 15) dX4_disk_13 (by decide) ?_
    refine zg_sret (M := zm_X4_disk) E dX4_disk_15 (mt_within (w := w) E (z := true) (zw_y (n := 15) hi (by decide))) wd_X4_67 dh_X4_within dn_X4_within (Nat.le_of_ble_eq_true rfl) (Nat.le_of_ble_eq_true rfl) (Nat.le_of_ble_eq_true rfl) (zl_capM HM) rfl (fun w15 g15 => ?_)
    subst w15
    refine zg_if_ne (tgt := 25) dX4_disk_18 (by decide) (fun h18 => ?_) (fun h18 => ?_)
    · refine zg_iconst (v := nI 0) dX4_disk_25 (by decide) ?_
      refine zg_iconst (v := nI 1) dX4_disk_26 (by decide) ?_
      refine zg_vrt (M := zm_X4_disk) E (ci := 4) dX4_disk_27 (mt_fails (w := w) (z := false) (k := nI 1) E HM) wd_X4_102 rfl (congrArg Prod.fst (zl_Mat HM (k := 156) (t := (4, 17)) rfl (by decide) (by decide))) (by decide) (zl_Mlt HM (by decide)) rfl dh_X4_fails dn_X4_fails (Nat.le_of_ble_eq_true rfl) (Nat.le_of_ble_eq_true rfl) (Nat.le_of_ble_eq_true rfl) (zl_capM HM) rfl (fun w27 g27 => ?_)
      subst w27
      obtain ⟨J1, e1, r1, t1, f1⟩ := zu_th (w := w) hM (nI 0)
      refine zg_w e1.symm ?_
      refine zg_if_eq (tgt := 37) dX4_disk_30 (by decide) (fun h30 => ?_) (fun h30 => ?_)
      · refine zg_aload_n dX4_disk_37 rfl ?_
        refine zg_getR E (ci := 4) (j := 0) (r := 157) dX4_disk_38 rfl (congrArg Prod.fst (zl_Mat HM (k := 156) (t := (4, 17)) rfl (by decide) (by decide))) (by decide) (zl_Mlt HM (by decide)) (by decide) fl_X4_7 rfl (zl_Mrf HM rfl (by decide) (by decide)) ?_
        refine zg_bipush (v := nI 16) dX4_disk_41 (by decide) ?_
        refine zg_iload_n dX4_disk_43 rfl ?_
        refine zg_imul dX4_disk_44 ?_
        refine zg_v (x' := nI (16 * s)) (pk_mul _ _) ?_
        refine zg_iload_n dX4_disk_45 rfl ?_
        refine zg_iadd dX4_disk_46 ?_
        refine zg_v (x' := nI ((16 * s) + i)) (nI_add _ _) ?_
        refine zg_iald E (j := (16 * s) + i) dX4_disk_47 (zl_Mat HM (k := 157) (t := (10, 768)) rfl (by decide) (by decide)) (by decide) (zl_Mlt HM (by decide)) rfl (by omega) (by decide) ?_
        refine zg_v (x' := nI (D s i)) (r1.1 s hs i hi) ?_
        exact zg_iret rfl dX4_disk_48 ⟨rfl, J1, rfl, r1, t1, zu_frW (f1)⟩
      · exact absurd rfl h30
    · exact absurd h18 (by decide)
set_option maxHeartbeats 4000000 in
set_option maxRecDepth 100000 in
theorem qp_1 {V : zv_V} (E : zv_OK V) {w : zw_W} (HM : zl_M w) {D : Nat → Nat → Nat} {H : za_H} {b : Bool} {L S : za_T} {C : za_C} {t : Bool} (hM : zu_X (zw_i w) D H b L S C t) {x : Int32} (hx : ∀ n, n < 16 → x ≠ nI n) {u : Int32} : zg_C V zm_X4_place yX4_place 8 190 [.ref 156, .int x, .int u] w (zq_p (.inl (some (.int (nI 0)))) (zu_pub w D H b L S C t 1)) := by
  refine zg_of (by decide +kernel) rfl (Nat.le_of_ble_eq_true rfl) ?_
  show zg_G V zm_X4_place 8 190 w.1 w.2.1 0 [] [(0, .ref 156), (1, .int x), (2, .int u)] w _
  refine zg_aload_n dX4_place_0 rfl ?_
  refine zg_iload_n dX4_place_1 rfl ?_
  refine zg_iconst (v := nI 0) dX4_place_2 (by decide) ?_
  refine zg_bipush (v := nI 15) dX4_place_3 (by decide) ?_
  refine zg_sret (M := zm_X4_place) E dX4_place_5 (mt_within (w := w) E (z := false) (zw_x (n := 15) hx (by decide))) wd_X4_67 dh_X4_within dn_X4_within (Nat.le_of_ble_eq_true rfl) (Nat.le_of_ble_eq_true rfl) (Nat.le_of_ble_eq_true rfl) (zl_capM HM) rfl (fun w5 g5 => ?_)
  subst w5
  refine zg_if_eq (tgt := 20) dX4_place_8 (by decide) (fun h8 => ?_) (fun h8 => ?_)
  · refine zg_iconst (v := nI 1) dX4_place_20 (by decide) ?_
    refine zg_goto (tgt := 25) dX4_place_21 (by decide) ?_
    refine zg_iconst (v := nI 1) dX4_place_25 (by decide) ?_
    refine zg_vrt (M := zm_X4_place) E (ci := 4) dX4_place_26 (mt_fails (w := w) (z := true) (k := nI 1) E HM) wd_X4_102 rfl (congrArg Prod.fst (zl_Mat HM (k := 156) (t := (4, 17)) rfl (by decide) (by decide))) (by decide) (zl_Mlt HM (by decide)) rfl dh_X4_fails dn_X4_fails (Nat.le_of_ble_eq_true rfl) (Nat.le_of_ble_eq_true rfl) (Nat.le_of_ble_eq_true rfl) (zl_capM HM) rfl (fun w26 g26 => ?_)
    subst w26
    obtain ⟨J1, e1, r1, t1, f1⟩ := zu_th (w := w) hM (nI 1)
    refine zg_w e1.symm ?_
    refine zg_if_ne (tgt := 44) dX4_place_29 (by decide) (fun h29 => ?_) (fun h29 => ?_)
    · refine zg_iconst (v := nI 0) dX4_place_44 (by decide) ?_
      exact zg_iret rfl dX4_place_45 ⟨rfl, J1, rfl, r1, t1, zu_frW (f1)⟩
    · exact absurd h29 (by decide)
  · exact absurd rfl h8
set_option maxHeartbeats 4000000 in
set_option maxRecDepth 100000 in
theorem qp_2 {V : zv_V} (E : zv_OK V) {w : zw_W} (HM : zl_M w) {D : Nat → Nat → Nat} {H : za_H} {b : Bool} {L S : za_T} {C : za_C} {t : Bool} (hM : zu_X (zw_i w) D H b L S C t) {p : Nat} (hp : p < 16) {x : Int32} (hx : ∀ n, n < 3 → x ≠ nI n) : zg_C V zm_X4_place yX4_place 8 190 [.ref 156, .int (nI p), .int x] w (zq_p (.inl (some (.int (nI 0)))) (zu_pub w D H b L S C t 1)) := by
  refine zg_of (by decide +kernel) rfl (Nat.le_of_ble_eq_true rfl) ?_
  show zg_G V zm_X4_place 8 190 w.1 w.2.1 0 [] [(0, .ref 156), (1, .int (nI p)), (2, .int x)] w _
  refine zg_aload_n dX4_place_0 rfl ?_
  refine zg_iload_n dX4_place_1 rfl ?_
  refine zg_iconst (v := nI 0) dX4_place_2 (by decide) ?_
  refine zg_bipush (v := nI 15) dX4_place_3 (by decide) ?_
  refine zg_sret (M := zm_X4_place) E dX4_place_5 (mt_within (w := w) E (z := true) (zw_y (n := 15) hp (by decide))) wd_X4_67 dh_X4_within dn_X4_within (Nat.le_of_ble_eq_true rfl) (Nat.le_of_ble_eq_true rfl) (Nat.le_of_ble_eq_true rfl) (zl_capM HM) rfl (fun w5 g5 => ?_)
  subst w5
  refine zg_if_eq (tgt := 20) dX4_place_8 (by decide) (fun h8 => ?_) (fun h8 => ?_)
  · exact absurd h8 (by decide)
  · refine zg_iload_n dX4_place_11 rfl ?_
    refine zg_iconst (v := nI 0) dX4_place_12 (by decide) ?_
    refine zg_iconst (v := nI 2) dX4_place_13 (by decide) ?_
    refine zg_sret (M := zm_X4_place) E dX4_place_14 (mt_within (w := w) E (z := false) (zw_x (n := 2) hx (by decide))) wd_X4_67 dh_X4_within dn_X4_within (Nat.le_of_ble_eq_true rfl) (Nat.le_of_ble_eq_true rfl) (Nat.le_of_ble_eq_true rfl) (zl_capM HM) rfl (fun w14 g14 => ?_)
    subst w14
    refine zg_if_ne (tgt := 24) dX4_place_17 (by decide) (fun h17 => ?_) (fun h17 => ?_)
    · exact absurd rfl h17
    · refine zg_iconst (v := nI 1) dX4_place_20 (by decide) ?_
      refine zg_goto (tgt := 25) dX4_place_21 (by decide) ?_
      refine zg_iconst (v := nI 1) dX4_place_25 (by decide) ?_
      refine zg_vrt (M := zm_X4_place) E (ci := 4) dX4_place_26 (mt_fails (w := w) (z := true) (k := nI 1) E HM) wd_X4_102 rfl (congrArg Prod.fst (zl_Mat HM (k := 156) (t := (4, 17)) rfl (by decide) (by decide))) (by decide) (zl_Mlt HM (by decide)) rfl dh_X4_fails dn_X4_fails (Nat.le_of_ble_eq_true rfl) (Nat.le_of_ble_eq_true rfl) (Nat.le_of_ble_eq_true rfl) (zl_capM HM) rfl (fun w26 g26 => ?_)
      subst w26
      obtain ⟨J1, e1, r1, t1, f1⟩ := zu_th (w := w) hM (nI 1)
      refine zg_w e1.symm ?_
      refine zg_if_ne (tgt := 44) dX4_place_29 (by decide) (fun h29 => ?_) (fun h29 => ?_)
      · refine zg_iconst (v := nI 0) dX4_place_44 (by decide) ?_
        exact zg_iret rfl dX4_place_45 ⟨rfl, J1, rfl, r1, t1, zu_frW (f1)⟩
      · exact absurd h29 (by decide)
set_option maxHeartbeats 4000000 in
set_option maxRecDepth 100000 in
theorem qp_3 {V : zv_V} (E : zv_OK V) {w : zw_W} (HM : zl_M w) {D : Nat → Nat → Nat} {H : za_H} {b : Bool} {L S : za_T} {C : za_C} {t : Bool} (hM : zu_X (zw_i w) D H b L S C t) {p : Nat} (hp : p < 16) {k : Nat} (hk : k < 3) (hb : b = true)  : zg_C V zm_X4_place yX4_place 8 190 [.ref 156, .int (nI p), .int (nI k)] w (zq_p (.inl (some (.int (nI 0)))) (zu_pub w D H b L S C t 2)) := by
  refine zg_of (by decide +kernel) rfl (Nat.le_of_ble_eq_true rfl) ?_
  show zg_G V zm_X4_place 8 190 w.1 w.2.1 0 [] [(0, .ref 156), (1, .int (nI p)), (2, .int (nI k))] w _
  refine zg_aload_n dX4_place_0 rfl ?_
  refine zg_iload_n dX4_place_1 rfl ?_
  refine zg_iconst (v := nI 0) dX4_place_2 (by decide) ?_
  refine zg_bipush (v := nI 15) dX4_place_3 (by decide) ?_
  refine zg_sret (M := zm_X4_place) E dX4_place_5 (mt_within (w := w) E (z := true) (zw_y (n := 15) hp (by decide))) wd_X4_67 dh_X4_within dn_X4_within (Nat.le_of_ble_eq_true rfl) (Nat.le_of_ble_eq_true rfl) (Nat.le_of_ble_eq_true rfl) (zl_capM HM) rfl (fun w5 g5 => ?_)
  subst w5
  refine zg_if_eq (tgt := 20) dX4_place_8 (by decide) (fun h8 => ?_) (fun h8 => ?_)
  · exact absurd h8 (by decide)
  · refine zg_iload_n dX4_place_11 rfl ?_
    refine zg_iconst (v := nI 0) dX4_place_12 (by decide) ?_
    refine zg_iconst (v := nI 2) dX4_place_13 (by decide) ?_
    refine zg_sret (M := zm_X4_place) E dX4_place_14 (mt_within (w := w) E (z := true) (zw_y (n := 2) hk (by decide))) wd_X4_67 dh_X4_within dn_X4_within (Nat.le_of_ble_eq_true rfl) (Nat.le_of_ble_eq_true rfl) (Nat.le_of_ble_eq_true rfl) (zl_capM HM) rfl (fun w14 g14 => ?_)
    subst w14
    refine zg_if_ne (tgt := 24) dX4_place_17 (by decide) (fun h17 => ?_) (fun h17 => ?_)
    · refine zg_iconst (v := nI 0) dX4_place_24 (by decide) ?_
      refine zg_iconst (v := nI 1) dX4_place_25 (by decide) ?_
      refine zg_vrt (M := zm_X4_place) E (ci := 4) dX4_place_26 (mt_fails (w := w) (z := false) (k := nI 1) E HM) wd_X4_102 rfl (congrArg Prod.fst (zl_Mat HM (k := 156) (t := (4, 17)) rfl (by decide) (by decide))) (by decide) (zl_Mlt HM (by decide)) rfl dh_X4_fails dn_X4_fails (Nat.le_of_ble_eq_true rfl) (Nat.le_of_ble_eq_true rfl) (Nat.le_of_ble_eq_true rfl) (zl_capM HM) rfl (fun w26 g26 => ?_)
      subst w26
      obtain ⟨J1, e1, r1, t1, f1⟩ := zu_th (w := w) hM (nI 0)
      refine zg_w e1.symm ?_
      refine zg_if_ne (tgt := 44) dX4_place_29 (by decide) (fun h29 => ?_) (fun h29 => ?_)
      · exact absurd rfl h29
      · refine zg_aload_n dX4_place_32 rfl ?_
        refine zg_aload_n dX4_place_33 rfl ?_
        refine zg_getI E (ci := 4) (j := 7) dX4_place_34 rfl (congrArg Prod.fst (zl_Mat HM (k := 156) (t := (4, 17)) rfl (by decide) (by decide))) (by decide) (zl_Mlt HM (by decide)) (by decide) fl_X4_64 rfl ?_
        refine zg_v (x' := za_bit true) (r1.2.2.1.trans (congrArg za_bit hb)) ?_
        refine zg_iconst (v := nI 2) dX4_place_37 (by decide) ?_
        refine zg_vrt (M := zm_X4_place) E (ci := 4) dX4_place_38 (mt_fails (w := zw_I w J1) (z := true) (k := nI 2) E HM) wd_X4_102 rfl (congrArg Prod.fst (zl_Mat HM (k := 156) (t := (4, 17)) rfl (by decide) (by decide))) (by decide) (zl_Mlt HM (by decide)) rfl dh_X4_fails dn_X4_fails (Nat.le_of_ble_eq_true rfl) (Nat.le_of_ble_eq_true rfl) (Nat.le_of_ble_eq_true rfl) (zl_capM HM) rfl (fun w38 g38 => ?_)
        subst w38
        obtain ⟨J2, e2, r2, t2, f2⟩ := zu_th (w := w) r1 (nI 2)
        refine zg_w e2.symm ?_
        refine zg_if_eq (tgt := 46) dX4_place_41 (by decide) (fun h41 => ?_) (fun h41 => ?_)
        · exact absurd h41 (by decide)
        · refine zg_iconst (v := nI 0) dX4_place_44 (by decide) ?_
          exact zg_iret rfl dX4_place_45 ⟨rfl, J2, rfl, r2, t2, zu_frW (zu_frT f1 f2)⟩
    · exact absurd h17 (by decide)
set_option maxHeartbeats 4000000 in
set_option maxRecDepth 100000 in
theorem qp_4 {V : zv_V} (E : zv_OK V) {w : zw_W} (HM : zl_M w) {D : Nat → Nat → Nat} {H : za_H} {b : Bool} {L S : za_T} {C : za_C} {t : Bool} (hM : zu_X (zw_i w) D H b L S C t) {p : Nat} (hp : p < 16) {k : Nat} (hk : k < 3) (hb : b = false) (wC : za_WC C) : zg_C V zm_X4_place yX4_place 8 190 [.ref 156, .int (nI p), .int (nI k)] w (zq_p (.inl (some (.int (nI (za_pl L S C p k))))) (zu_pub w D H b L S C t 0)) := by
  refine zg_of (by decide +kernel) rfl (Nat.le_of_ble_eq_true rfl) ?_
  show zg_G V zm_X4_place 8 190 w.1 w.2.1 0 [] [(0, .ref 156), (1, .int (nI p)), (2, .int (nI k))] w _
  refine zg_aload_n dX4_place_0 rfl ?_
  refine zg_iload_n dX4_place_1 rfl ?_
  refine zg_iconst (v := nI 0) dX4_place_2 (by decide) ?_
  refine zg_bipush (v := nI 15) dX4_place_3 (by decide) ?_
  refine zg_sret (M := zm_X4_place) E dX4_place_5 (mt_within (w := w) E (z := true) (zw_y (n := 15) hp (by decide))) wd_X4_67 dh_X4_within dn_X4_within (Nat.le_of_ble_eq_true rfl) (Nat.le_of_ble_eq_true rfl) (Nat.le_of_ble_eq_true rfl) (zl_capM HM) rfl (fun w5 g5 => ?_)
  subst w5
  refine zg_if_eq (tgt := 20) dX4_place_8 (by decide) (fun h8 => ?_) (fun h8 => ?_)
  · exact absurd h8 (by decide)
  · refine zg_iload_n dX4_place_11 rfl ?_
    refine zg_iconst (v := nI 0) dX4_place_12 (by decide) ?_
    refine zg_iconst (v := nI 2) dX4_place_13 (by decide) ?_
    refine zg_sret (M := zm_X4_place) E dX4_place_14 (mt_within (w := w) E (z := true) (zw_y (n := 2) hk (by decide))) wd_X4_67 dh_X4_within dn_X4_within (Nat.le_of_ble_eq_true rfl) (Nat.le_of_ble_eq_true rfl) (Nat.le_of_ble_eq_true rfl) (zl_capM HM) rfl (fun w14 g14 => ?_)
    subst w14
    refine zg_if_ne (tgt := 24) dX4_place_17 (by decide) (fun h17 => ?_) (fun h17 => ?_)
    · refine zg_iconst (v := nI 0) dX4_place_24 (by decide) ?_
      refine zg_iconst (v := nI 1) dX4_place_25 (by decide) ?_
      refine zg_vrt (M := zm_X4_place) E (ci := 4) dX4_place_26 (mt_fails (w := w) (z := false) (k := nI 1) E HM) wd_X4_102 rfl (congrArg Prod.fst (zl_Mat HM (k := 156) (t := (4, 17)) rfl (by decide) (by decide))) (by decide) (zl_Mlt HM (by decide)) rfl dh_X4_fails dn_X4_fails (Nat.le_of_ble_eq_true rfl) (Nat.le_of_ble_eq_true rfl) (Nat.le_of_ble_eq_true rfl) (zl_capM HM) rfl (fun w26 g26 => ?_)
      subst w26
      obtain ⟨J1, e1, r1, t1, f1⟩ := zu_th (w := w) hM (nI 0)
      refine zg_w e1.symm ?_
      refine zg_if_ne (tgt := 44) dX4_place_29 (by decide) (fun h29 => ?_) (fun h29 => ?_)
      · exact absurd rfl h29
      · refine zg_aload_n dX4_place_32 rfl ?_
        refine zg_aload_n dX4_place_33 rfl ?_
        refine zg_getI E (ci := 4) (j := 7) dX4_place_34 rfl (congrArg Prod.fst (zl_Mat HM (k := 156) (t := (4, 17)) rfl (by decide) (by decide))) (by decide) (zl_Mlt HM (by decide)) (by decide) fl_X4_64 rfl ?_
        refine zg_v (x' := za_bit false) (r1.2.2.1.trans (congrArg za_bit hb)) ?_
        refine zg_iconst (v := nI 2) dX4_place_37 (by decide) ?_
        refine zg_vrt (M := zm_X4_place) E (ci := 4) dX4_place_38 (mt_fails (w := zw_I w J1) (z := false) (k := nI 2) E HM) wd_X4_102 rfl (congrArg Prod.fst (zl_Mat HM (k := 156) (t := (4, 17)) rfl (by decide) (by decide))) (by decide) (zl_Mlt HM (by decide)) rfl dh_X4_fails dn_X4_fails (Nat.le_of_ble_eq_true rfl) (Nat.le_of_ble_eq_true rfl) (Nat.le_of_ble_eq_true rfl) (zl_capM HM) rfl (fun w38 g38 => ?_)
        subst w38
        obtain ⟨J2, e2, r2, t2, f2⟩ := zu_th (w := w) r1 (nI 0)
        refine zg_w e2.symm ?_
        refine zg_if_eq (tgt := 46) dX4_place_41 (by decide) (fun h41 => ?_) (fun h41 => ?_)
        · refine zg_iload_n dX4_place_46 rfl ?_
          refine zg_iconst (v := nI 1) dX4_place_47 (by decide) ?_
          refine zg_icmp_ne (tgt := 60) dX4_place_48 (by decide) (fun h48 => ?_) (fun h48 => ?_)
          · have e1 : k ≠ 1 := fun z => h48 (congrArg nI z)
            refine zg_iload_n dX4_place_60 rfl ?_
            refine zg_iconst (v := nI 2) dX4_place_61 (by decide) ?_
            refine zg_icmp_ne (tgt := 90) dX4_place_62 (by decide) (fun h62 => ?_) (fun h62 => ?_)
            · have e2 : k ≠ 2 := fun z => h62 (congrArg nI z)
              have hl : L.1 p = za_pl L S C p k := by unfold za_pl; rw [if_pos (by omega)]
              refine zg_aload_n dX4_place_90 rfl ?_
              refine zg_getR E (ci := 4) (j := 1) (r := 158) dX4_place_91 rfl (congrArg Prod.fst (zl_Mat HM (k := 156) (t := (4, 17)) rfl (by decide) (by decide))) (by decide) (zl_Mlt HM (by decide)) (by decide) fl_X4_13 rfl (zl_Mrf HM rfl (by decide) (by decide)) ?_
              refine zg_iload_n dX4_place_94 rfl ?_
              refine zg_iald E (j := p) dX4_place_95 (zl_Mat HM (k := 158) (t := (10, 16)) rfl (by decide) (by decide)) (by decide) (zl_Mlt HM (by decide)) rfl (by omega) (by decide) ?_
              refine zg_v (x' := nI (L.1 p)) (r2.2.2.2.1.1 p hp) ?_
              exact zg_iret rfl dX4_place_96 ⟨congrArg (fun x => Sum.inl (some (Value.int (nI x)))) (hl), J2, rfl, r2, t2, zu_frW (zu_frT f1 f2)⟩
            · have e2 : k = 2 := (nI_eq (by omega) (by decide)).mp h62
              refine zg_aload_n dX4_place_65 rfl ?_
              refine zg_getI E (ci := 4) (j := 8) dX4_place_66 rfl (congrArg Prod.fst (zl_Mat HM (k := 156) (t := (4, 17)) rfl (by decide) (by decide))) (by decide) (zl_Mlt HM (by decide)) (by decide) fl_X4_61 rfl ?_
              refine zg_v (x' := za_bit (decide (0 < za_n C.1 16))) r2.2.2.2.2.2.1.1 ?_
              refine zg_if_eq (tgt := 90) dX4_place_69 (by decide) (fun h69 => ?_) (fun h69 => ?_)
              · have hl : L.1 p = za_pl L S C p k := by unfold za_pl za_op; rw [if_neg (by omega), if_neg e1, if_pos (za_n_z (of_decide_eq_false (za_bit0 h69)) hp)]
                refine zg_aload_n dX4_place_90 rfl ?_
                refine zg_getR E (ci := 4) (j := 1) (r := 158) dX4_place_91 rfl (congrArg Prod.fst (zl_Mat HM (k := 156) (t := (4, 17)) rfl (by decide) (by decide))) (by decide) (zl_Mlt HM (by decide)) (by decide) fl_X4_13 rfl (zl_Mrf HM rfl (by decide) (by decide)) ?_
                refine zg_iload_n dX4_place_94 rfl ?_
                refine zg_iald E (j := p) dX4_place_95 (zl_Mat HM (k := 158) (t := (10, 16)) rfl (by decide) (by decide)) (by decide) (zl_Mlt HM (by decide)) rfl (by omega) (by decide) ?_
                refine zg_v (x' := nI (L.1 p)) (r2.2.2.2.1.1 p hp) ?_
                exact zg_iret rfl dX4_place_96 ⟨congrArg (fun x => Sum.inl (some (Value.int (nI x)))) (hl), J2, rfl, r2, t2, zu_frW (zu_frT f1 f2)⟩
              · have ho := of_decide_eq_true (za_bit1 h69)
                refine zg_aload_n dX4_place_72 rfl ?_
                refine zg_getR E (ci := 4) (j := 9) (r := 160) dX4_place_73 rfl (congrArg Prod.fst (zl_Mat HM (k := 156) (t := (4, 17)) rfl (by decide) (by decide))) (by decide) (zl_Mlt HM (by decide)) (by decide) fl_X4_19 rfl (zl_Mrf HM rfl (by decide) (by decide)) ?_
                refine zg_iload_n dX4_place_76 rfl ?_
                refine zg_iald E (j := p) dX4_place_77 (zl_Mat HM (k := 160) (t := (10, 16)) rfl (by decide) (by decide)) (by decide) (zl_Mlt HM (by decide)) rfl (by omega) (by decide) ?_
                refine zg_v (x' := nI (C.1 p)) (r2.2.2.2.2.2.1.2.1 ho p hp) ?_
                refine zg_if_le (tgt := 90) dX4_place_78 (by decide) (fun h78 => ?_) (fun h78 => ?_)
                · have hl : L.1 p = za_pl L S C p k := by unfold za_pl za_op; rw [if_neg (by omega), if_neg e1, if_pos (Classical.byContradiction fun z => absurd h78 (nI_nle (by omega) (by have := wC.1 p hp; omega)))]
                  refine zg_aload_n dX4_place_90 rfl ?_
                  refine zg_getR E (ci := 4) (j := 1) (r := 158) dX4_place_91 rfl (congrArg Prod.fst (zl_Mat HM (k := 156) (t := (4, 17)) rfl (by decide) (by decide))) (by decide) (zl_Mlt HM (by decide)) (by decide) fl_X4_13 rfl (zl_Mrf HM rfl (by decide) (by decide)) ?_
                  refine zg_iload_n dX4_place_94 rfl ?_
                  refine zg_iald E (j := p) dX4_place_95 (zl_Mat HM (k := 158) (t := (10, 16)) rfl (by decide) (by decide)) (by decide) (zl_Mlt HM (by decide)) rfl (by omega) (by decide) ?_
                  refine zg_v (x' := nI (L.1 p)) (r2.2.2.2.1.1 p hp) ?_
                  exact zg_iret rfl dX4_place_96 ⟨congrArg (fun x => Sum.inl (some (Value.int (nI x)))) (hl), J2, rfl, r2, t2, zu_frW (zu_frT f1 f2)⟩
                · have ez : C.1 p ≠ 0 := fun z => h78 (by rw [z]; decide)
                  refine zg_aload_n dX4_place_81 rfl ?_
                  refine zg_getR E (ci := 4) (j := 9) (r := 160) dX4_place_82 rfl (congrArg Prod.fst (zl_Mat HM (k := 156) (t := (4, 17)) rfl (by decide) (by decide))) (by decide) (zl_Mlt HM (by decide)) (by decide) fl_X4_19 rfl (zl_Mrf HM rfl (by decide) (by decide)) ?_
                  refine zg_iload_n dX4_place_85 rfl ?_
                  refine zg_iald E (j := p) dX4_place_86 (zl_Mat HM (k := 160) (t := (10, 16)) rfl (by decide) (by decide)) (by decide) (zl_Mlt HM (by decide)) rfl (by omega) (by decide) ?_
                  refine zg_v (x' := nI (C.1 p)) (r2.2.2.2.2.2.1.2.1 ho p hp) ?_
                  refine zg_goto (tgt := 96) dX4_place_87 (by decide) ?_
                  exact zg_iret rfl dX4_place_96 ⟨congrArg (fun x => Sum.inl (some (Value.int (nI x)))) ((show C.1 p = za_pl L S C p k by unfold za_pl za_op; rw [if_neg (by omega), if_neg (by omega), if_neg ez])), J2, rfl, r2, t2, zu_frW (zu_frT f1 f2)⟩
          · have e1 : k = 1 := (nI_eq (by omega) (by decide)).mp h48
            refine zg_aload_n dX4_place_51 rfl ?_
            refine zg_getR E (ci := 4) (j := 2) (r := 159) dX4_place_52 rfl (congrArg Prod.fst (zl_Mat HM (k := 156) (t := (4, 17)) rfl (by decide) (by decide))) (by decide) (zl_Mlt HM (by decide)) (by decide) fl_X4_16 rfl (zl_Mrf HM rfl (by decide) (by decide)) ?_
            refine zg_iload_n dX4_place_55 rfl ?_
            refine zg_iald E (j := p) dX4_place_56 (zl_Mat HM (k := 159) (t := (10, 16)) rfl (by decide) (by decide)) (by decide) (zl_Mlt HM (by decide)) rfl (by omega) (by decide) ?_
            refine zg_v (x' := nI (S.1 p)) (r2.2.2.2.2.1.1 p hp) ?_
            refine zg_goto (tgt := 96) dX4_place_57 (by decide) ?_
            exact zg_iret rfl dX4_place_96 ⟨congrArg (fun x => Sum.inl (some (Value.int (nI x)))) ((show S.1 p = za_pl L S C p k by unfold za_pl; rw [if_neg (by omega), if_pos e1])), J2, rfl, r2, t2, zu_frW (zu_frT f1 f2)⟩
        · exact absurd rfl h41
    · exact absurd h17 (by decide)
set_option maxHeartbeats 4000000 in
set_option maxRecDepth 100000 in
theorem qf_1 {V : zv_V} (E : zv_OK V) {w : zw_W} (HM : zl_M w) {D : Nat → Nat → Nat} {H : za_H} {b : Bool} {L S : za_T} {C : za_C} {t : Bool} (hM : zu_X (zw_i w) D H b L S C t) {x : Int32} (hx : ∀ n, n < 48 → x ≠ nI n)  : zg_C V zm_X4_free yX4_free 8 190 [.ref 156, .int x] w (zq_p (.inl (some (.int (nI 0)))) (zu_pub w D H b L S C t 1)) := by
  refine zg_of (by decide +kernel) rfl (Nat.le_of_ble_eq_true rfl) ?_
  show zg_G V zm_X4_free 8 190 w.1 w.2.1 0 [] [(0, .ref 156), (1, .int x)] w _
  refine zg_aload_n dX4_free_0 rfl ?_
  refine zg_iload_n dX4_free_1 rfl ?_
  refine zg_iconst (v := nI 0) dX4_free_2 (by decide) ?_
  refine zg_bipush (v := nI 47) dX4_free_3 (by decide) ?_
  refine zg_sret (M := zm_X4_free) E dX4_free_5 (mt_within (w := w) E (z := false) (zw_x (n := 47) hx (by decide))) wd_X4_67 dh_X4_within dn_X4_within (Nat.le_of_ble_eq_true rfl) (Nat.le_of_ble_eq_true rfl) (Nat.le_of_ble_eq_true rfl) (zl_capM HM) rfl (fun w5 g5 => ?_)
  subst w5
  refine zg_if_ne (tgt := 15) dX4_free_8 (by decide) (fun h8 => ?_) (fun h8 => ?_)
  · exact absurd rfl h8
  · refine zg_iconst (v := nI 1) dX4_free_11 (by decide) ?_
    refine zg_goto (tgt := 16) dX4_free_12 (by decide) ?_
    refine zg_iconst (v := nI 1) dX4_free_16 (by decide) ?_
    refine zg_vrt (M := zm_X4_free) E (ci := 4) dX4_free_17 (mt_fails (w := w) (z := true) (k := nI 1) E HM) wd_X4_102 rfl (congrArg Prod.fst (zl_Mat HM (k := 156) (t := (4, 17)) rfl (by decide) (by decide))) (by decide) (zl_Mlt HM (by decide)) rfl dh_X4_fails dn_X4_fails (Nat.le_of_ble_eq_true rfl) (Nat.le_of_ble_eq_true rfl) (Nat.le_of_ble_eq_true rfl) (zl_capM HM) rfl (fun w17 g17 => ?_)
    subst w17
    obtain ⟨J1, e1, r1, t1, f1⟩ := zu_th (w := w) hM (nI 1)
    refine zg_w e1.symm ?_
    refine zg_if_ne (tgt := 35) dX4_free_20 (by decide) (fun h20 => ?_) (fun h20 => ?_)
    · refine zg_iconst (v := nI 0) dX4_free_35 (by decide) ?_
      exact zg_zret rfl rfl dX4_free_36 ⟨rfl, J1, rfl, r1, t1, zu_frW (f1)⟩
    · exact absurd h20 (by decide)
set_option maxHeartbeats 4000000 in
set_option maxRecDepth 100000 in
theorem qf_2 {V : zv_V} (E : zv_OK V) {w : zw_W} (HM : zl_M w) {D : Nat → Nat → Nat} {H : za_H} {b : Bool} {L S : za_T} {C : za_C} {t : Bool} (hM : zu_X (zw_i w) D H b L S C t) {s : Nat} (hs : s < 48) (hb : b = true)  : zg_C V zm_X4_free yX4_free 8 190 [.ref 156, .int (nI s)] w (zq_p (.inl (some (.int (nI 0)))) (zu_pub w D H b L S C t 2)) := by
  refine zg_of (by decide +kernel) rfl (Nat.le_of_ble_eq_true rfl) ?_
  show zg_G V zm_X4_free 8 190 w.1 w.2.1 0 [] [(0, .ref 156), (1, .int (nI s))] w _
  refine zg_aload_n dX4_free_0 rfl ?_
  refine zg_iload_n dX4_free_1 rfl ?_
  refine zg_iconst (v := nI 0) dX4_free_2 (by decide) ?_
  refine zg_bipush (v := nI 47) dX4_free_3 (by decide) ?_
  refine zg_sret (M := zm_X4_free) E dX4_free_5 (mt_within (w := w) E (z := true) (zw_y (n := 47) hs (by decide))) wd_X4_67 dh_X4_within dn_X4_within (Nat.le_of_ble_eq_true rfl) (Nat.le_of_ble_eq_true rfl) (Nat.le_of_ble_eq_true rfl) (zl_capM HM) rfl (fun w5 g5 => ?_)
  subst w5
  refine zg_if_ne (tgt := 15) dX4_free_8 (by decide) (fun h8 => ?_) (fun h8 => ?_)
  · refine zg_iconst (v := nI 0) dX4_free_15 (by decide) ?_
    refine zg_iconst (v := nI 1) dX4_free_16 (by decide) ?_
    refine zg_vrt (M := zm_X4_free) E (ci := 4) dX4_free_17 (mt_fails (w := w) (z := false) (k := nI 1) E HM) wd_X4_102 rfl (congrArg Prod.fst (zl_Mat HM (k := 156) (t := (4, 17)) rfl (by decide) (by decide))) (by decide) (zl_Mlt HM (by decide)) rfl dh_X4_fails dn_X4_fails (Nat.le_of_ble_eq_true rfl) (Nat.le_of_ble_eq_true rfl) (Nat.le_of_ble_eq_true rfl) (zl_capM HM) rfl (fun w17 g17 => ?_)
    subst w17
    obtain ⟨J1, e1, r1, t1, f1⟩ := zu_th (w := w) hM (nI 0)
    refine zg_w e1.symm ?_
    refine zg_if_ne (tgt := 35) dX4_free_20 (by decide) (fun h20 => ?_) (fun h20 => ?_)
    · exact absurd rfl h20
    · refine zg_aload_n dX4_free_23 rfl ?_
      refine zg_aload_n dX4_free_24 rfl ?_
      refine zg_getI E (ci := 4) (j := 7) dX4_free_25 rfl (congrArg Prod.fst (zl_Mat HM (k := 156) (t := (4, 17)) rfl (by decide) (by decide))) (by decide) (zl_Mlt HM (by decide)) (by decide) fl_X4_64 rfl ?_
      refine zg_v (x' := za_bit true) (r1.2.2.1.trans (congrArg za_bit hb)) ?_
      refine zg_iconst (v := nI 2) dX4_free_28 (by decide) ?_
      refine zg_vrt (M := zm_X4_free) E (ci := 4) dX4_free_29 (mt_fails (w := zw_I w J1) (z := true) (k := nI 2) E HM) wd_X4_102 rfl (congrArg Prod.fst (zl_Mat HM (k := 156) (t := (4, 17)) rfl (by decide) (by decide))) (by decide) (zl_Mlt HM (by decide)) rfl dh_X4_fails dn_X4_fails (Nat.le_of_ble_eq_true rfl) (Nat.le_of_ble_eq_true rfl) (Nat.le_of_ble_eq_true rfl) (zl_capM HM) rfl (fun w29 g29 => ?_)
      subst w29
      obtain ⟨J2, e2, r2, t2, f2⟩ := zu_th (w := w) r1 (nI 2)
      refine zg_w e2.symm ?_
      refine zg_if_eq (tgt := 37) dX4_free_32 (by decide) (fun h32 => ?_) (fun h32 => ?_)
      · exact absurd h32 (by decide)
      · refine zg_iconst (v := nI 0) dX4_free_35 (by decide) ?_
        exact zg_zret rfl rfl dX4_free_36 ⟨rfl, J2, rfl, r2, t2, zu_frW (zu_frT f1 f2)⟩
  · exact absurd h8 (by decide)
set_option maxHeartbeats 4000000 in
set_option maxRecDepth 100000 in
theorem qf_3 {V : zv_V} (E : zv_OK V) {w : zw_W} (HM : zl_M w) {D : Nat → Nat → Nat} {H : za_H} {b : Bool} {L S : za_T} {C : za_C} {t : Bool} (hM : zu_X (zw_i w) D H b L S C t) {s : Nat} (hs : s < 48) (hb : b = false) (wL : za_WT L) (wS : za_WT S) (wC : za_WC C) {z : Bool} (hz : z = true ↔ ¬ za_us L S C.1 s) : zg_C V zm_X4_free yX4_free 8 190 [.ref 156, .int (nI s)] w (zq_p (.inl (some (.int (za_bit z)))) (zu_pub w D H b L S C t 0)) := by
  refine zg_of (by decide +kernel) rfl (Nat.le_of_ble_eq_true rfl) ?_
  show zg_G V zm_X4_free 8 190 w.1 w.2.1 0 [] [(0, .ref 156), (1, .int (nI s))] w _
  refine zg_aload_n dX4_free_0 rfl ?_
  refine zg_iload_n dX4_free_1 rfl ?_
  refine zg_iconst (v := nI 0) dX4_free_2 (by decide) ?_
  refine zg_bipush (v := nI 47) dX4_free_3 (by decide) ?_
  refine zg_sret (M := zm_X4_free) E dX4_free_5 (mt_within (w := w) E (z := true) (zw_y (n := 47) hs (by decide))) wd_X4_67 dh_X4_within dn_X4_within (Nat.le_of_ble_eq_true rfl) (Nat.le_of_ble_eq_true rfl) (Nat.le_of_ble_eq_true rfl) (zl_capM HM) rfl (fun w5 g5 => ?_)
  subst w5
  refine zg_if_ne (tgt := 15) dX4_free_8 (by decide) (fun h8 => ?_) (fun h8 => ?_)
  · refine zg_iconst (v := nI 0) dX4_free_15 (by decide) ?_
    refine zg_iconst (v := nI 1) dX4_free_16 (by decide) ?_
    refine zg_vrt (M := zm_X4_free) E (ci := 4) dX4_free_17 (mt_fails (w := w) (z := false) (k := nI 1) E HM) wd_X4_102 rfl (congrArg Prod.fst (zl_Mat HM (k := 156) (t := (4, 17)) rfl (by decide) (by decide))) (by decide) (zl_Mlt HM (by decide)) rfl dh_X4_fails dn_X4_fails (Nat.le_of_ble_eq_true rfl) (Nat.le_of_ble_eq_true rfl) (Nat.le_of_ble_eq_true rfl) (zl_capM HM) rfl (fun w17 g17 => ?_)
    subst w17
    obtain ⟨J1, e1, r1, t1, f1⟩ := zu_th (w := w) hM (nI 0)
    refine zg_w e1.symm ?_
    refine zg_if_ne (tgt := 35) dX4_free_20 (by decide) (fun h20 => ?_) (fun h20 => ?_)
    · exact absurd rfl h20
    · refine zg_aload_n dX4_free_23 rfl ?_
      refine zg_aload_n dX4_free_24 rfl ?_
      refine zg_getI E (ci := 4) (j := 7) dX4_free_25 rfl (congrArg Prod.fst (zl_Mat HM (k := 156) (t := (4, 17)) rfl (by decide) (by decide))) (by decide) (zl_Mlt HM (by decide)) (by decide) fl_X4_64 rfl ?_
      refine zg_v (x' := za_bit false) (r1.2.2.1.trans (congrArg za_bit hb)) ?_
      refine zg_iconst (v := nI 2) dX4_free_28 (by decide) ?_
      refine zg_vrt (M := zm_X4_free) E (ci := 4) dX4_free_29 (mt_fails (w := zw_I w J1) (z := false) (k := nI 2) E HM) wd_X4_102 rfl (congrArg Prod.fst (zl_Mat HM (k := 156) (t := (4, 17)) rfl (by decide) (by decide))) (by decide) (zl_Mlt HM (by decide)) rfl dh_X4_fails dn_X4_fails (Nat.le_of_ble_eq_true rfl) (Nat.le_of_ble_eq_true rfl) (Nat.le_of_ble_eq_true rfl) (zl_capM HM) rfl (fun w29 g29 => ?_)
      subst w29
      obtain ⟨J2, e2, r2, t2, f2⟩ := zu_th (w := w) r1 (nI 0)
      refine zg_w e2.symm ?_
      refine zg_if_eq (tgt := 37) dX4_free_32 (by decide) (fun h32 => ?_) (fun h32 => ?_)
      · refine zg_aload_n dX4_free_37 rfl ?_
        refine zg_iload_n dX4_free_38 rfl ?_
        refine zg_vrt (M := zm_X4_free) E (ci := 4) dX4_free_39 (mt_isFree (w := zw_I w J2) E HM r2 wL wS wC hs hz) wd_X4_86 rfl (congrArg Prod.fst (zl_Mat HM (k := 156) (t := (4, 17)) rfl (by decide) (by decide))) (by decide) (zl_Mlt HM (by decide)) rfl dh_X4_isFree dn_X4_isFree (Nat.le_of_ble_eq_true rfl) (Nat.le_of_ble_eq_true rfl) (Nat.le_of_ble_eq_true rfl) (zl_capM HM) rfl (fun w39 g39 => ?_)
        subst w39
        exact zg_zret rfl (za_bit_nar z) dX4_free_42 ⟨rfl, J2, rfl, r2, t2, zu_frW (zu_frT f1 f2)⟩
      · exact absurd rfl h32
  · exact absurd h8 (by decide)
set_option maxHeartbeats 4000000 in
set_option maxRecDepth 100000 in
theorem qh_1 {V : zv_V} (E : zv_OK V) {w : zw_W} (HM : zl_M w) {D : Nat → Nat → Nat} {H : za_H} {b : Bool} {L S : za_T} {C : za_C} {t : Bool} (hM : zu_X (zw_i w) D H b L S C t) (hH : za_WH H) {x : Int32} (hx : ∀ n, n < H.1 → x ≠ nI n) {u : Int32} : zg_C V zm_X4_held yX4_held 8 190 [.ref 156, .int x, .int u] w (zq_p (.inl (some (.int (nI 0)))) (zu_pub w D H b L S C t 1)) := by
  refine zg_of (by decide +kernel) rfl (Nat.le_of_ble_eq_true rfl) ?_
  show zg_G V zm_X4_held 8 190 w.1 w.2.1 0 [] [(0, .ref 156), (1, .int x), (2, .int u)] w _
  refine zg_aload_n dX4_held_0 rfl ?_
  refine zg_iload_n dX4_held_1 rfl ?_
  refine zg_if_lt (tgt := 23) dX4_held_2 (by decide) (fun h2 => ?_) (fun h2 => ?_)
  · refine zg_iconst (v := nI 1) dX4_held_23 (by decide) ?_
    refine zg_goto (tgt := 28) dX4_held_24 (by decide) ?_
    refine zg_iconst (v := nI 1) dX4_held_28 (by decide) ?_
    refine zg_vrt (M := zm_X4_held) E (ci := 4) dX4_held_29 (mt_fails (w := w) (z := true) (k := nI 1) E HM) wd_X4_102 rfl (congrArg Prod.fst (zl_Mat HM (k := 156) (t := (4, 17)) rfl (by decide) (by decide))) (by decide) (zl_Mlt HM (by decide)) rfl dh_X4_fails dn_X4_fails (Nat.le_of_ble_eq_true rfl) (Nat.le_of_ble_eq_true rfl) (Nat.le_of_ble_eq_true rfl) (zl_capM HM) rfl (fun w29 g29 => ?_)
    subst w29
    obtain ⟨J1, e1, r1, t1, f1⟩ := zu_th (w := w) hM (nI 1)
    refine zg_w e1.symm ?_
    refine zg_if_eq (tgt := 37) dX4_held_32 (by decide) (fun h32 => ?_) (fun h32 => ?_)
    · exact absurd h32 (by decide)
    · refine zg_iconst (v := nI 0) dX4_held_35 (by decide) ?_
      exact zg_iret rfl dX4_held_36 ⟨rfl, J1, rfl, r1, t1, zu_frW (f1)⟩
  · refine zg_iload_n dX4_held_5 rfl ?_
    refine zg_aload_n dX4_held_6 rfl ?_
    refine zg_getI E (ci := 4) (j := 14) dX4_held_7 rfl (congrArg Prod.fst (zl_Mat HM (k := 156) (t := (4, 17)) rfl (by decide) (by decide))) (by decide) (zl_Mlt HM (by decide)) (by decide) fl_X4_54 rfl ?_
    refine zg_v (x' := nI H.1) hM.2.1.1 ?_
    refine zg_icmp_ge (tgt := 23) dX4_held_10 (by decide) (fun h10 => ?_) (fun h10 => ?_)
    · refine zg_iconst (v := nI 1) dX4_held_23 (by decide) ?_
      refine zg_goto (tgt := 28) dX4_held_24 (by decide) ?_
      refine zg_iconst (v := nI 1) dX4_held_28 (by decide) ?_
      refine zg_vrt (M := zm_X4_held) E (ci := 4) dX4_held_29 (mt_fails (w := w) (z := true) (k := nI 1) E HM) wd_X4_102 rfl (congrArg Prod.fst (zl_Mat HM (k := 156) (t := (4, 17)) rfl (by decide) (by decide))) (by decide) (zl_Mlt HM (by decide)) rfl dh_X4_fails dn_X4_fails (Nat.le_of_ble_eq_true rfl) (Nat.le_of_ble_eq_true rfl) (Nat.le_of_ble_eq_true rfl) (zl_capM HM) rfl (fun w29 g29 => ?_)
      subst w29
      obtain ⟨J1, e1, r1, t1, f1⟩ := zu_th (w := w) hM (nI 1)
      refine zg_w e1.symm ?_
      refine zg_if_eq (tgt := 37) dX4_held_32 (by decide) (fun h32 => ?_) (fun h32 => ?_)
      · exact absurd h32 (by decide)
      · refine zg_iconst (v := nI 0) dX4_held_35 (by decide) ?_
        exact zg_iret rfl dX4_held_36 ⟨rfl, J1, rfl, r1, t1, zu_frW (f1)⟩
    · exact absurd (zn_no (n := H.1) hx h2 (Int32.not_le.mp h10) (by have := hH.1; omega)) not_false
set_option maxHeartbeats 4000000 in
set_option maxRecDepth 100000 in
theorem qh_2 {V : zv_V} (E : zv_OK V) {w : zw_W} (HM : zl_M w) {D : Nat → Nat → Nat} {H : za_H} {b : Bool} {L S : za_T} {C : za_C} {t : Bool} (hM : zu_X (zw_i w) D H b L S C t) (hH : za_WH H) {k : Nat} (hk : k < H.1)  : zg_C V zm_X4_held yX4_held 8 190 [.ref 156, .int (nI k), .int ((-1))] w (zq_p (.inl (some (.int (nI (H.2.1 k))))) (zu_pub w D H b L S C t 0)) := by
  refine zg_of (by decide +kernel) rfl (Nat.le_of_ble_eq_true rfl) ?_
  show zg_G V zm_X4_held 8 190 w.1 w.2.1 0 [] [(0, .ref 156), (1, .int (nI k)), (2, .int ((-1)))] w _
  refine zg_aload_n dX4_held_0 rfl ?_
  refine zg_iload_n dX4_held_1 rfl ?_
  refine zg_if_lt (tgt := 23) dX4_held_2 (by decide) (fun h2 => ?_) (fun h2 => ?_)
  · exact absurd h2 (nI_pos (by have := hH.1; omega))
  · refine zg_iload_n dX4_held_5 rfl ?_
    refine zg_aload_n dX4_held_6 rfl ?_
    refine zg_getI E (ci := 4) (j := 14) dX4_held_7 rfl (congrArg Prod.fst (zl_Mat HM (k := 156) (t := (4, 17)) rfl (by decide) (by decide))) (by decide) (zl_Mlt HM (by decide)) (by decide) fl_X4_54 rfl ?_
    refine zg_v (x' := nI H.1) hM.2.1.1 ?_
    refine zg_icmp_ge (tgt := 23) dX4_held_10 (by decide) (fun h10 => ?_) (fun h10 => ?_)
    · exact absurd h10 (nI_ge hk (by have := hH.1; omega))
    · refine zg_iload_n dX4_held_13 rfl ?_
      refine zg_iconst (v := (-1)) dX4_held_14 (by decide) ?_
      refine zg_bipush (v := nI 15) dX4_held_15 (by decide) ?_
      refine zg_sret (M := zm_X4_held) E dX4_held_17 (mt_within (w := w) E (z := true) ⟨fun _ => ⟨by decide, by decide⟩, fun _ => rfl⟩) wd_X4_67 dh_X4_within dn_X4_within (Nat.le_of_ble_eq_true rfl) (Nat.le_of_ble_eq_true rfl) (Nat.le_of_ble_eq_true rfl) (zl_capM HM) rfl (fun w17 g17 => ?_)
      subst w17
      refine zg_if_ne (tgt := 27) dX4_held_20 (by decide) (fun h20 => ?_) (fun h20 => ?_)
      · refine zg_iconst (v := nI 0) dX4_held_27 (by decide) ?_
        refine zg_iconst (v := nI 1) dX4_held_28 (by decide) ?_
        refine zg_vrt (M := zm_X4_held) E (ci := 4) dX4_held_29 (mt_fails (w := w) (z := false) (k := nI 1) E HM) wd_X4_102 rfl (congrArg Prod.fst (zl_Mat HM (k := 156) (t := (4, 17)) rfl (by decide) (by decide))) (by decide) (zl_Mlt HM (by decide)) rfl dh_X4_fails dn_X4_fails (Nat.le_of_ble_eq_true rfl) (Nat.le_of_ble_eq_true rfl) (Nat.le_of_ble_eq_true rfl) (zl_capM HM) rfl (fun w29 g29 => ?_)
        subst w29
        obtain ⟨J1, e1, r1, t1, f1⟩ := zu_th (w := w) hM (nI 0)
        refine zg_w e1.symm ?_
        refine zg_if_eq (tgt := 37) dX4_held_32 (by decide) (fun h32 => ?_) (fun h32 => ?_)
        · refine zg_iload_n dX4_held_37 rfl ?_
          refine zg_iconst (v := (-1)) dX4_held_38 (by decide) ?_
          refine zg_icmp_ne (tgt := 51) dX4_held_39 (by decide) (fun h39 => ?_) (fun h39 => ?_)
          · exact absurd rfl h39
          · refine zg_aload_n dX4_held_42 rfl ?_
            refine zg_getR E (ci := 4) (j := 12) (r := 163) dX4_held_43 rfl (congrArg Prod.fst (zl_Mat HM (k := 156) (t := (4, 17)) rfl (by decide) (by decide))) (by decide) (zl_Mlt HM (by decide)) (by decide) fl_X4_29 rfl (zl_Mrf HM rfl (by decide) (by decide)) ?_
            refine zg_iload_n dX4_held_46 rfl ?_
            refine zg_iald E (j := k) dX4_held_47 (zl_Mat HM (k := 163) (t := (10, 100)) rfl (by decide) (by decide)) (by decide) (zl_Mlt HM (by decide)) rfl (by have := hH.1; omega) (by decide) ?_
            refine zg_v (x' := nI (H.2.1 k)) (r1.2.1.2.1 k hk) ?_
            refine zg_goto (tgt := 62) dX4_held_48 (by decide) ?_
            exact zg_iret rfl dX4_held_62 ⟨rfl, J1, rfl, r1, t1, zu_frW (f1)⟩
        · exact absurd rfl h32
      · exact absurd h20 (by decide)
set_option maxHeartbeats 4000000 in
set_option maxRecDepth 100000 in
theorem qh_3 {V : zv_V} (E : zv_OK V) {w : zw_W} (HM : zl_M w) {D : Nat → Nat → Nat} {H : za_H} {b : Bool} {L S : za_T} {C : za_C} {t : Bool} (hM : zu_X (zw_i w) D H b L S C t) (hH : za_WH H) {k : Nat} (hk : k < H.1) {x : Int32} (hx : ∀ n, n < 16 → x ≠ nI n) (hm : x ≠ (-1)) : zg_C V zm_X4_held yX4_held 8 190 [.ref 156, .int (nI k), .int x] w (zq_p (.inl (some (.int (nI 0)))) (zu_pub w D H b L S C t 1)) := by
  refine zg_of (by decide +kernel) rfl (Nat.le_of_ble_eq_true rfl) ?_
  show zg_G V zm_X4_held 8 190 w.1 w.2.1 0 [] [(0, .ref 156), (1, .int (nI k)), (2, .int x)] w _
  refine zg_aload_n dX4_held_0 rfl ?_
  refine zg_iload_n dX4_held_1 rfl ?_
  refine zg_if_lt (tgt := 23) dX4_held_2 (by decide) (fun h2 => ?_) (fun h2 => ?_)
  · exact absurd h2 (nI_pos (by have := hH.1; omega))
  · refine zg_iload_n dX4_held_5 rfl ?_
    refine zg_aload_n dX4_held_6 rfl ?_
    refine zg_getI E (ci := 4) (j := 14) dX4_held_7 rfl (congrArg Prod.fst (zl_Mat HM (k := 156) (t := (4, 17)) rfl (by decide) (by decide))) (by decide) (zl_Mlt HM (by decide)) (by decide) fl_X4_54 rfl ?_
    refine zg_v (x' := nI H.1) hM.2.1.1 ?_
    refine zg_icmp_ge (tgt := 23) dX4_held_10 (by decide) (fun h10 => ?_) (fun h10 => ?_)
    · exact absurd h10 (nI_ge hk (by have := hH.1; omega))
    · refine zg_iload_n dX4_held_13 rfl ?_
      refine zg_iconst (v := (-1)) dX4_held_14 (by decide) ?_
      refine zg_bipush (v := nI 15) dX4_held_15 (by decide) ?_
      refine zg_sret (M := zm_X4_held) E dX4_held_17 (mt_within (w := w) E (z := false) (zw_xm hx hm)) wd_X4_67 dh_X4_within dn_X4_within (Nat.le_of_ble_eq_true rfl) (Nat.le_of_ble_eq_true rfl) (Nat.le_of_ble_eq_true rfl) (zl_capM HM) rfl (fun w17 g17 => ?_)
      subst w17
      refine zg_if_ne (tgt := 27) dX4_held_20 (by decide) (fun h20 => ?_) (fun h20 => ?_)
      · exact absurd rfl h20
      · refine zg_iconst (v := nI 1) dX4_held_23 (by decide) ?_
        refine zg_goto (tgt := 28) dX4_held_24 (by decide) ?_
        refine zg_iconst (v := nI 1) dX4_held_28 (by decide) ?_
        refine zg_vrt (M := zm_X4_held) E (ci := 4) dX4_held_29 (mt_fails (w := w) (z := true) (k := nI 1) E HM) wd_X4_102 rfl (congrArg Prod.fst (zl_Mat HM (k := 156) (t := (4, 17)) rfl (by decide) (by decide))) (by decide) (zl_Mlt HM (by decide)) rfl dh_X4_fails dn_X4_fails (Nat.le_of_ble_eq_true rfl) (Nat.le_of_ble_eq_true rfl) (Nat.le_of_ble_eq_true rfl) (zl_capM HM) rfl (fun w29 g29 => ?_)
        subst w29
        obtain ⟨J1, e1, r1, t1, f1⟩ := zu_th (w := w) hM (nI 1)
        refine zg_w e1.symm ?_
        refine zg_if_eq (tgt := 37) dX4_held_32 (by decide) (fun h32 => ?_) (fun h32 => ?_)
        · exact absurd h32 (by decide)
        · refine zg_iconst (v := nI 0) dX4_held_35 (by decide) ?_
          exact zg_iret rfl dX4_held_36 ⟨rfl, J1, rfl, r1, t1, zu_frW (f1)⟩
set_option maxHeartbeats 4000000 in
set_option maxRecDepth 100000 in
theorem qh_4 {V : zv_V} (E : zv_OK V) {w : zw_W} (HM : zl_M w) {D : Nat → Nat → Nat} {H : za_H} {b : Bool} {L S : za_T} {C : za_C} {t : Bool} (hM : zu_X (zw_i w) D H b L S C t) (hH : za_WH H) {k : Nat} (hk : k < H.1) {i : Nat} (hi : i < 16)  : zg_C V zm_X4_held yX4_held 8 190 [.ref 156, .int (nI k), .int (nI i)] w (zq_p (.inl (some (.int (nI (H.2.2 k i))))) (zu_pub w D H b L S C t 0)) := by
  refine zg_of (by decide +kernel) rfl (Nat.le_of_ble_eq_true rfl) ?_
  show zg_G V zm_X4_held 8 190 w.1 w.2.1 0 [] [(0, .ref 156), (1, .int (nI k)), (2, .int (nI i))] w _
  have h77 := hH.1
  refine zg_aload_n dX4_held_0 rfl ?_
  refine zg_iload_n dX4_held_1 rfl ?_
  refine zg_if_lt (tgt := 23) dX4_held_2 (by decide) (fun h2 => ?_) (fun h2 => ?_)
  · exact absurd h2 (nI_pos (by have := hH.1; omega))
  · refine zg_iload_n dX4_held_5 rfl ?_
    refine zg_aload_n dX4_held_6 rfl ?_
    refine zg_getI E (ci := 4) (j := 14) dX4_held_7 rfl (congrArg Prod.fst (zl_Mat HM (k := 156) (t := (4, 17)) rfl (by decide) (by decide))) (by decide) (zl_Mlt HM (by decide)) (by decide) fl_X4_54 rfl ?_
    refine zg_v (x' := nI H.1) hM.2.1.1 ?_
    refine zg_icmp_ge (tgt := 23) dX4_held_10 (by decide) (fun h10 => ?_) (fun h10 => ?_)
    · exact absurd h10 (nI_ge hk (by have := hH.1; omega))
    · refine zg_iload_n dX4_held_13 rfl ?_
      refine zg_iconst (v := (-1)) dX4_held_14 (by decide) ?_
      refine zg_bipush (v := nI 15) dX4_held_15 (by decide) ?_
      refine zg_sret (M := zm_X4_held) E dX4_held_17 (mt_within (w := w) E (z := true) ⟨fun _ => ⟨Int32.le_trans (by decide : (-1 : Int32) ≤ nI 0) (nI_le (Nat.zero_le i) (by omega)), nI_le (by omega) (by decide)⟩, fun _ => rfl⟩) wd_X4_67 dh_X4_within dn_X4_within (Nat.le_of_ble_eq_true rfl) (Nat.le_of_ble_eq_true rfl) (Nat.le_of_ble_eq_true rfl) (zl_capM HM) rfl (fun w17 g17 => ?_)
      subst w17
      refine zg_if_ne (tgt := 27) dX4_held_20 (by decide) (fun h20 => ?_) (fun h20 => ?_)
      · refine zg_iconst (v := nI 0) dX4_held_27 (by decide) ?_
        refine zg_iconst (v := nI 1) dX4_held_28 (by decide) ?_
        refine zg_vrt (M := zm_X4_held) E (ci := 4) dX4_held_29 (mt_fails (w := w) (z := false) (k := nI 1) E HM) wd_X4_102 rfl (congrArg Prod.fst (zl_Mat HM (k := 156) (t := (4, 17)) rfl (by decide) (by decide))) (by decide) (zl_Mlt HM (by decide)) rfl dh_X4_fails dn_X4_fails (Nat.le_of_ble_eq_true rfl) (Nat.le_of_ble_eq_true rfl) (Nat.le_of_ble_eq_true rfl) (zl_capM HM) rfl (fun w29 g29 => ?_)
        subst w29
        obtain ⟨J1, e1, r1, t1, f1⟩ := zu_th (w := w) hM (nI 0)
        refine zg_w e1.symm ?_
        refine zg_if_eq (tgt := 37) dX4_held_32 (by decide) (fun h32 => ?_) (fun h32 => ?_)
        · refine zg_iload_n dX4_held_37 rfl ?_
          refine zg_iconst (v := (-1)) dX4_held_38 (by decide) ?_
          refine zg_icmp_ne (tgt := 51) dX4_held_39 (by decide) (fun h39 => ?_) (fun h39 => ?_)
          · refine zg_aload_n dX4_held_51 rfl ?_
            refine zg_getR E (ci := 4) (j := 13) (r := 164) dX4_held_52 rfl (congrArg Prod.fst (zl_Mat HM (k := 156) (t := (4, 17)) rfl (by decide) (by decide))) (by decide) (zl_Mlt HM (by decide)) (by decide) fl_X4_32 rfl (zl_Mrf HM rfl (by decide) (by decide)) ?_
            refine zg_bipush (v := nI 16) dX4_held_55 (by decide) ?_
            refine zg_iload_n dX4_held_57 rfl ?_
            refine zg_imul dX4_held_58 ?_
            refine zg_v (x' := nI (16 * k)) (pk_mul _ _) ?_
            refine zg_iload_n dX4_held_59 rfl ?_
            refine zg_iadd dX4_held_60 ?_
            refine zg_v (x' := nI ((16 * k) + i)) (nI_add _ _) ?_
            refine zg_iald E (j := 16 * k + i) dX4_held_61 (zl_Mat HM (k := 164) (t := (10, 1600)) rfl (by decide) (by decide)) (by decide) (zl_Mlt HM (by decide)) rfl (by omega) (by decide) ?_
            refine zg_v (x' := nI (H.2.2 k i)) (r1.2.1.2.2 k hk i hi) ?_
            exact zg_iret rfl dX4_held_62 ⟨rfl, J1, rfl, r1, t1, zu_frW (f1)⟩
          · exact absurd h39 (fun z => absurd (z ▸ nI_pos (by omega : i < 2 ^ 31)) (by decide))
        · exact absurd rfl h32
      · exact absurd h20 (by decide)

/-! The reference's public methods, case by case. -/
def zu_pub (w : zw_W) (D : Nat → Nat → Nat) (H : za_H) (b : Bool) (L S : za_T) (C : za_C) (t : Bool) (k : Nat) (w' : zw_W) : Prop := ∃ J, w' = zw_I w J ∧ zu_X J D H b L S C t ∧ J 156 16 = nI k ∧ zu_fr [157, 158, 159, 160, 161, 162, 163, 164] [3, 4, 5, 6, 7, 8, 14, 15, 16] (zw_i w) J
theorem zu_16 {I J : Nat → Nat → Int32} {D : Nat → Nat → Nat} {H : za_H} {b : Bool} {L S : za_T} {C : za_C} {t : Bool} (h : zu_X I D H b L S C t) (f : zu_fr [] [16] I J) : zu_X J D H b L S C t := ⟨zu_fD h.1 f, zu_fH h.2.1 f, zu_fs h.2.2.1 f, zu_fL h.2.2.2.1 f, zu_fS h.2.2.2.2.1 f, zu_fC h.2.2.2.2.2.1 f, zu_fs h.2.2.2.2.2.2 f⟩
theorem zu_th {w : zw_W} {I : Nat → Nat → Int32} {D : Nat → Nat → Nat} {H : za_H} {b : Bool} {L S : za_T} {C : za_C} {t : Bool} (h : zu_X I D H b L S C t) (x : Int32) : ∃ J, zw_si (zw_I w I) 156 16 x = zw_I w J ∧ zu_X J D H b L S C t ∧ J 156 16 = x ∧ zu_fr [] [16] I J := ⟨_, rfl, zu_16 h (zu_frS I 16 x), zw_up_s _ _ _ _, zu_frS I 16 x⟩
theorem zw_y {p n : Nat} (h : p < n + 1) (hn : n < 2 ^ 31) : true = true ↔ nI 0 ≤ nI p ∧ nI p ≤ nI n := ⟨fun _ => ⟨nI_le (Nat.zero_le p) (by omega), nI_le (by omega) hn⟩, fun _ => rfl⟩
theorem zw_x {x : Int32} {n : Nat} (h : ∀ j, j < n + 1 → x ≠ nI j) (hn : n + 1 < 2 ^ 31) : false = true ↔ nI 0 ≤ x ∧ x ≤ nI n := ⟨fun z => absurd z (by decide), fun z => (zn_no (n := n + 1) h (Int32.not_lt.mpr z.1) (Int32.lt_of_le_of_lt z.2 (nI_lt (by omega) hn)) hn).elim⟩
def za_chg (D : Nat → Nat → Nat) (L S : za_T) (C : za_C) (p : Nat) (C1 : za_C) : Prop := (C.1 p ≠ 0 ∧ C1 = za_spl C p false) ∨ (C.1 p = 0 ∧ ∃ s, s < 48 ∧ s ≠ 0 ∧ za_ff L S C.1 (nI s) ∧ C1 = za_add C p s (za_lt D L p))
theorem za_chg_0 {D : Nat → Nat → Nat} {L S : za_T} {C C1 : za_C} {p : Nat} (h : za_chg D L S C p C1) : C1.1 p ≠ 0 := by
  rcases h with ⟨h, rfl⟩ | ⟨-, s, -, h, -, rfl⟩
  · exact h
  · show zw_ro C.1 p s p ≠ 0
    rw [zw_ro_s]
    exact h
theorem mt_chy {V : zv_V} (E : zv_OK V) {w : zw_W} (HM : zl_M w) {D : Nat → Nat → Nat} {H : za_H} {b : Bool} {L S : za_T} {C : za_C} {t : Bool} (hM : zu_X (zw_i w) D H b L S C t) {p : Nat} (hp : p < 16) (wL : za_WT L) (wS : za_WT S) (wC : za_WC C) {C1 : za_C} (h : za_chg D L S C p C1) : zg_C V zm_X4_changes yX4_changes 2 60 [.ref 156, .int (nI p)] w (zq_p (.inl (some (.int (nI 1)))) (zu_to w [160, 161, 162] [8] (zu_X · D H b L S C1 t))) := by
  rcases h with ⟨h, rfl⟩ | ⟨h0, s, hs, h1, h2, rfl⟩
  · refine zg_Cm (mt_change_h E HM hM hp wC h) ?_
    rintro _ ⟨J, rfl, g1, g2⟩
    exact ⟨J, rfl, g1, zu_frW g2⟩
  · exact mt_change_y E HM hM hp wL wS wC h0 hs h1 h2
set_option maxHeartbeats 4000000 in
set_option maxRecDepth 100000 in
theorem qm_1 {V : zv_V} (E : zv_OK V) {w : zw_W} (HM : zl_M w) {D : Nat → Nat → Nat} {H : za_H} {b : Bool} {L S : za_T} {C : za_C} {t : Bool} (hM : zu_X (zw_i w) D H b L S C t)  : zg_C V zm_X4_format yX4_format 8 190 [.ref 156] w (zq_p (.inl none) (zu_pub w za_D0 (0, H.2) false (za_mt za_D0) (za_mt za_D0) za_C0 false 0)) := by
  refine zg_of (by decide +kernel) rfl (Nat.le_of_ble_eq_true rfl) ?_
  show zg_G V zm_X4_format 8 190 w.1 w.2.1 0 [] [(0, .ref 156)] w _
  refine zg_aload_n dX4_format_0 rfl ?_
  refine zg_iconst (v := nI 0) dX4_format_1 (by decide) ?_
  refine zg_putI E (ci := 4) (j := 16) dX4_format_2 rfl (congrArg Prod.fst (zl_Mat HM (k := 156) (t := (4, 17)) rfl (by decide) (by decide))) (by decide) (zl_Mlt HM (by decide)) (by decide) fl_X4_38 rfl rfl rfl rfl ?_
  obtain ⟨J1, e1, r1, t1, f1⟩ := zu_th (w := w) hM (nI 0)
  refine zg_w e1.symm ?_
  refine zg_aload_n dX4_format_5 rfl ?_
  refine zg_vrt (M := zm_X4_format) E (ci := 4) dX4_format_6 (mt_clear (w := zw_I w J1) E HM r1) wd_X4_35 rfl (congrArg Prod.fst (zl_Mat HM (k := 156) (t := (4, 17)) rfl (by decide) (by decide))) (by decide) (zl_Mlt HM (by decide)) rfl dh_X4_clear dn_X4_clear (Nat.le_of_ble_eq_true rfl) (Nat.le_of_ble_eq_true rfl) (Nat.le_of_ble_eq_true rfl) (zl_capM HM) rfl (fun w6 g6 => ?_)
  obtain ⟨J2, rfl, r2, f2⟩ := g6
  refine zg_w (w' := zw_I w J2) rfl ?_
  exact zg_vret rfl dX4_format_9 ⟨rfl, J2, rfl, r2, (zu_fs t1 f2), zu_frW (zu_frT f1 f2)⟩
theorem zu_c0 {I : Nat → Nat → Int32} (h : I 156 8 = nI 0) : zu_C I za_C0 := ⟨by rw [h, za_n_0 (O := za_C0.1) (fun _ _ => rfl)]; rfl, fun o => absurd o (by rw [za_n_0 (O := za_C0.1) (fun _ _ => rfl)]; decide), fun p _ e => absurd rfl e⟩
set_option maxHeartbeats 4000000 in
set_option maxRecDepth 100000 in
theorem qw_1 {V : zv_V} (E : zv_OK V) {w : zw_W} (HM : zl_M w) {D : Nat → Nat → Nat} {H : za_H} {b : Bool} {L S : za_T} {C : za_C} {t : Bool} (hM : zu_X (zw_i w) D H b L S C t) {x : Int32} (hx : ∀ n, n < 16 → x ≠ nI n) {u v : Int32} : zg_C V zm_X4_write yX4_write 8 190 [.ref 156, .int x, .int u, .int v] w (zq_p (.inl (some (.int (nI 0)))) (zu_pub w D H b L S C t 1)) := by
  refine zg_of (by decide +kernel) rfl (Nat.le_of_ble_eq_true rfl) ?_
  show zg_G V zm_X4_write 8 190 w.1 w.2.1 0 [] [(0, .ref 156), (1, .int x), (2, .int u), (3, .int v)] w _
  refine zg_aload_n dX4_write_0 rfl ?_
  refine zg_iload_n dX4_write_1 rfl ?_
  refine zg_iconst (v := nI 0) dX4_write_2 (by decide) ?_
  refine zg_bipush (v := nI 15) dX4_write_3 (by decide) ?_
  refine zg_sret (M := zm_X4_write) E dX4_write_5 (mt_within (w := w) E (z := false) (zw_x (n := 15) hx (by decide))) wd_X4_67 dh_X4_within dn_X4_within (Nat.le_of_ble_eq_true rfl) (Nat.le_of_ble_eq_true rfl) (Nat.le_of_ble_eq_true rfl) (zl_capM HM) rfl (fun w5 g5 => ?_)
  subst w5
  refine zg_if_eq (tgt := 32) dX4_write_8 (by decide) (fun h8 => ?_) (fun h8 => ?_)
  · refine zg_iconst (v := nI 1) dX4_write_32 (by decide) ?_
    refine zg_goto (tgt := 37) dX4_write_33 (by decide) ?_
    refine zg_iconst (v := nI 1) dX4_write_37 (by decide) ?_
    refine zg_vrt (M := zm_X4_write) E (ci := 4) dX4_write_38 (mt_fails (w := w) (z := true) (k := nI 1) E HM) wd_X4_102 rfl (congrArg Prod.fst (zl_Mat HM (k := 156) (t := (4, 17)) rfl (by decide) (by decide))) (by decide) (zl_Mlt HM (by decide)) rfl dh_X4_fails dn_X4_fails (Nat.le_of_ble_eq_true rfl) (Nat.le_of_ble_eq_true rfl) (Nat.le_of_ble_eq_true rfl) (zl_capM HM) rfl (fun w38 g38 => ?_)
    subst w38
    obtain ⟨J1, e1, r1, t1, f1⟩ := zu_th (w := w) hM (nI 1)
    refine zg_w e1.symm ?_
    refine zg_if_ne (tgt := 72) dX4_write_41 (by decide) (fun h41 => ?_) (fun h41 => ?_)
    · refine zg_iconst (v := nI 0) dX4_write_72 (by decide) ?_
      exact zg_iret rfl dX4_write_73 ⟨rfl, J1, rfl, r1, t1, zu_frW (f1)⟩
    · exact absurd h41 (by decide)
  · exact absurd rfl h8
set_option maxHeartbeats 4000000 in
set_option maxRecDepth 100000 in
theorem qw_2 {V : zv_V} (E : zv_OK V) {w : zw_W} (HM : zl_M w) {D : Nat → Nat → Nat} {H : za_H} {b : Bool} {L S : za_T} {C : za_C} {t : Bool} (hM : zu_X (zw_i w) D H b L S C t) {p : Nat} (hp : p < 16) {x : Int32} (hx : ∀ n, n < 16 → x ≠ nI n) {v : Int32} : zg_C V zm_X4_write yX4_write 8 190 [.ref 156, .int (nI p), .int x, .int v] w (zq_p (.inl (some (.int (nI 0)))) (zu_pub w D H b L S C t 1)) := by
  refine zg_of (by decide +kernel) rfl (Nat.le_of_ble_eq_true rfl) ?_
  show zg_G V zm_X4_write 8 190 w.1 w.2.1 0 [] [(0, .ref 156), (1, .int (nI p)), (2, .int x), (3, .int v)] w _
  refine zg_aload_n dX4_write_0 rfl ?_
  refine zg_iload_n dX4_write_1 rfl ?_
  refine zg_iconst (v := nI 0) dX4_write_2 (by decide) ?_
  refine zg_bipush (v := nI 15) dX4_write_3 (by decide) ?_
  refine zg_sret (M := zm_X4_write) E dX4_write_5 (mt_within (w := w) E (z := true) (zw_y (n := 15) hp (by decide))) wd_X4_67 dh_X4_within dn_X4_within (Nat.le_of_ble_eq_true rfl) (Nat.le_of_ble_eq_true rfl) (Nat.le_of_ble_eq_true rfl) (zl_capM HM) rfl (fun w5 g5 => ?_)
  subst w5
  refine zg_if_eq (tgt := 32) dX4_write_8 (by decide) (fun h8 => ?_) (fun h8 => ?_)
  · exact absurd h8 (by decide)
  · refine zg_iload_n dX4_write_11 rfl ?_
    refine zg_iconst (v := nI 0) dX4_write_12 (by decide) ?_
    refine zg_bipush (v := nI 15) dX4_write_13 (by decide) ?_
    refine zg_sret (M := zm_X4_write) E dX4_write_15 (mt_within (w := w) E (z := false) (zw_x (n := 15) hx (by decide))) wd_X4_67 dh_X4_within dn_X4_within (Nat.le_of_ble_eq_true rfl) (Nat.le_of_ble_eq_true rfl) (Nat.le_of_ble_eq_true rfl) (zl_capM HM) rfl (fun w15 g15 => ?_)
    subst w15
    refine zg_if_eq (tgt := 32) dX4_write_18 (by decide) (fun h18 => ?_) (fun h18 => ?_)
    · refine zg_iconst (v := nI 1) dX4_write_32 (by decide) ?_
      refine zg_goto (tgt := 37) dX4_write_33 (by decide) ?_
      refine zg_iconst (v := nI 1) dX4_write_37 (by decide) ?_
      refine zg_vrt (M := zm_X4_write) E (ci := 4) dX4_write_38 (mt_fails (w := w) (z := true) (k := nI 1) E HM) wd_X4_102 rfl (congrArg Prod.fst (zl_Mat HM (k := 156) (t := (4, 17)) rfl (by decide) (by decide))) (by decide) (zl_Mlt HM (by decide)) rfl dh_X4_fails dn_X4_fails (Nat.le_of_ble_eq_true rfl) (Nat.le_of_ble_eq_true rfl) (Nat.le_of_ble_eq_true rfl) (zl_capM HM) rfl (fun w38 g38 => ?_)
      subst w38
      obtain ⟨J1, e1, r1, t1, f1⟩ := zu_th (w := w) hM (nI 1)
      refine zg_w e1.symm ?_
      refine zg_if_ne (tgt := 72) dX4_write_41 (by decide) (fun h41 => ?_) (fun h41 => ?_)
      · refine zg_iconst (v := nI 0) dX4_write_72 (by decide) ?_
        exact zg_iret rfl dX4_write_73 ⟨rfl, J1, rfl, r1, t1, zu_frW (f1)⟩
      · exact absurd h41 (by decide)
    · exact absurd rfl h18
set_option maxHeartbeats 4000000 in
set_option maxRecDepth 100000 in
theorem qw_3 {V : zv_V} (E : zv_OK V) {w : zw_W} (HM : zl_M w) {D : Nat → Nat → Nat} {H : za_H} {b : Bool} {L S : za_T} {C : za_C} {t : Bool} (hM : zu_X (zw_i w) D H b L S C t) {p : Nat} (hp : p < 16) {i : Nat} (hi : i < 16) {x : Int32} (hx : ∀ n, n < 256 → x ≠ nI n)  : zg_C V zm_X4_write yX4_write 8 190 [.ref 156, .int (nI p), .int (nI i), .int x] w (zq_p (.inl (some (.int (nI 0)))) (zu_pub w D H b L S C t 1)) := by
  refine zg_of (by decide +kernel) rfl (Nat.le_of_ble_eq_true rfl) ?_
  show zg_G V zm_X4_write 8 190 w.1 w.2.1 0 [] [(0, .ref 156), (1, .int (nI p)), (2, .int (nI i)), (3, .int x)] w _
  refine zg_aload_n dX4_write_0 rfl ?_
  refine zg_iload_n dX4_write_1 rfl ?_
  refine zg_iconst (v := nI 0) dX4_write_2 (by decide) ?_
  refine zg_bipush (v := nI 15) dX4_write_3 (by decide) ?_
  refine zg_sret (M := zm_X4_write) E dX4_write_5 (mt_within (w := w) E (z := true) (zw_y (n := 15) hp (by decide))) wd_X4_67 dh_X4_within dn_X4_within (Nat.le_of_ble_eq_true rfl) (Nat.le_of_ble_eq_true rfl) (Nat.le_of_ble_eq_true rfl) (zl_capM HM) rfl (fun w5 g5 => ?_)
  subst w5
  refine zg_if_eq (tgt := 32) dX4_write_8 (by decide) (fun h8 => ?_) (fun h8 => ?_)
  · exact absurd h8 (by decide)
  · refine zg_iload_n dX4_write_11 rfl ?_
    refine zg_iconst (v := nI 0) dX4_write_12 (by decide) ?_
    refine zg_bipush (v := nI 15) dX4_write_13 (by decide) ?_
    refine zg_sret (M := zm_X4_write) E dX4_write_15 (mt_within (w := w) E (z := true) (zw_y (n := 15) hi (by decide))) wd_X4_67 dh_X4_within dn_X4_within (Nat.le_of_ble_eq_true rfl) (Nat.le_of_ble_eq_true rfl) (Nat.le_of_ble_eq_true rfl) (zl_capM HM) rfl (fun w15 g15 => ?_)
    subst w15
    refine zg_if_eq (tgt := 32) dX4_write_18 (by decide) (fun h18 => ?_) (fun h18 => ?_)
    · exact absurd h18 (by decide)
    · refine zg_iload_n dX4_write_21 rfl ?_
      refine zg_iconst (v := nI 0) dX4_write_22 (by decide) ?_
      refine zg_sipush (v := nI 255) dX4_write_23 (by decide) ?_
      refine zg_sret (M := zm_X4_write) E dX4_write_26 (mt_within (w := w) E (z := false) (zw_x (n := 255) hx (by decide))) wd_X4_67 dh_X4_within dn_X4_within (Nat.le_of_ble_eq_true rfl) (Nat.le_of_ble_eq_true rfl) (Nat.le_of_ble_eq_true rfl) (zl_capM HM) rfl (fun w26 g26 => ?_)
      subst w26
      refine zg_if_ne (tgt := 36) dX4_write_29 (by decide) (fun h29 => ?_) (fun h29 => ?_)
      · exact absurd rfl h29
      · refine zg_iconst (v := nI 1) dX4_write_32 (by decide) ?_
        refine zg_goto (tgt := 37) dX4_write_33 (by decide) ?_
        refine zg_iconst (v := nI 1) dX4_write_37 (by decide) ?_
        refine zg_vrt (M := zm_X4_write) E (ci := 4) dX4_write_38 (mt_fails (w := w) (z := true) (k := nI 1) E HM) wd_X4_102 rfl (congrArg Prod.fst (zl_Mat HM (k := 156) (t := (4, 17)) rfl (by decide) (by decide))) (by decide) (zl_Mlt HM (by decide)) rfl dh_X4_fails dn_X4_fails (Nat.le_of_ble_eq_true rfl) (Nat.le_of_ble_eq_true rfl) (Nat.le_of_ble_eq_true rfl) (zl_capM HM) rfl (fun w38 g38 => ?_)
        subst w38
        obtain ⟨J1, e1, r1, t1, f1⟩ := zu_th (w := w) hM (nI 1)
        refine zg_w e1.symm ?_
        refine zg_if_ne (tgt := 72) dX4_write_41 (by decide) (fun h41 => ?_) (fun h41 => ?_)
        · refine zg_iconst (v := nI 0) dX4_write_72 (by decide) ?_
          exact zg_iret rfl dX4_write_73 ⟨rfl, J1, rfl, r1, t1, zu_frW (f1)⟩
        · exact absurd h41 (by decide)
set_option maxHeartbeats 4000000 in
set_option maxRecDepth 100000 in
theorem qw_4 {V : zv_V} (E : zv_OK V) {w : zw_W} (HM : zl_M w) {D : Nat → Nat → Nat} {H : za_H} {b : Bool} {L S : za_T} {C : za_C} {t : Bool} (hM : zu_X (zw_i w) D H b L S C t) {p : Nat} (hp : p < 16) {i : Nat} (hi : i < 16) {y : Nat} (hy : y < 256) (hb : b = true)  : zg_C V zm_X4_write yX4_write 8 190 [.ref 156, .int (nI p), .int (nI i), .int (nI y)] w (zq_p (.inl (some (.int (nI 0)))) (zu_pub w D H b L S C t 2)) := by
  refine zg_of (by decide +kernel) rfl (Nat.le_of_ble_eq_true rfl) ?_
  show zg_G V zm_X4_write 8 190 w.1 w.2.1 0 [] [(0, .ref 156), (1, .int (nI p)), (2, .int (nI i)), (3, .int (nI y))] w _
  refine zg_aload_n dX4_write_0 rfl ?_
  refine zg_iload_n dX4_write_1 rfl ?_
  refine zg_iconst (v := nI 0) dX4_write_2 (by decide) ?_
  refine zg_bipush (v := nI 15) dX4_write_3 (by decide) ?_
  refine zg_sret (M := zm_X4_write) E dX4_write_5 (mt_within (w := w) E (z := true) (zw_y (n := 15) hp (by decide))) wd_X4_67 dh_X4_within dn_X4_within (Nat.le_of_ble_eq_true rfl) (Nat.le_of_ble_eq_true rfl) (Nat.le_of_ble_eq_true rfl) (zl_capM HM) rfl (fun w5 g5 => ?_)
  subst w5
  refine zg_if_eq (tgt := 32) dX4_write_8 (by decide) (fun h8 => ?_) (fun h8 => ?_)
  · exact absurd h8 (by decide)
  · refine zg_iload_n dX4_write_11 rfl ?_
    refine zg_iconst (v := nI 0) dX4_write_12 (by decide) ?_
    refine zg_bipush (v := nI 15) dX4_write_13 (by decide) ?_
    refine zg_sret (M := zm_X4_write) E dX4_write_15 (mt_within (w := w) E (z := true) (zw_y (n := 15) hi (by decide))) wd_X4_67 dh_X4_within dn_X4_within (Nat.le_of_ble_eq_true rfl) (Nat.le_of_ble_eq_true rfl) (Nat.le_of_ble_eq_true rfl) (zl_capM HM) rfl (fun w15 g15 => ?_)
    subst w15
    refine zg_if_eq (tgt := 32) dX4_write_18 (by decide) (fun h18 => ?_) (fun h18 => ?_)
    · exact absurd h18 (by decide)
    · refine zg_iload_n dX4_write_21 rfl ?_
      refine zg_iconst (v := nI 0) dX4_write_22 (by decide) ?_
      refine zg_sipush (v := nI 255) dX4_write_23 (by decide) ?_
      refine zg_sret (M := zm_X4_write) E dX4_write_26 (mt_within (w := w) E (z := true) (zw_y (n := 255) hy (by decide))) wd_X4_67 dh_X4_within dn_X4_within (Nat.le_of_ble_eq_true rfl) (Nat.le_of_ble_eq_true rfl) (Nat.le_of_ble_eq_true rfl) (zl_capM HM) rfl (fun w26 g26 => ?_)
      subst w26
      refine zg_if_ne (tgt := 36) dX4_write_29 (by decide) (fun h29 => ?_) (fun h29 => ?_)
      · refine zg_iconst (v := nI 0) dX4_write_36 (by decide) ?_
        refine zg_iconst (v := nI 1) dX4_write_37 (by decide) ?_
        refine zg_vrt (M := zm_X4_write) E (ci := 4) dX4_write_38 (mt_fails (w := w) (z := false) (k := nI 1) E HM) wd_X4_102 rfl (congrArg Prod.fst (zl_Mat HM (k := 156) (t := (4, 17)) rfl (by decide) (by decide))) (by decide) (zl_Mlt HM (by decide)) rfl dh_X4_fails dn_X4_fails (Nat.le_of_ble_eq_true rfl) (Nat.le_of_ble_eq_true rfl) (Nat.le_of_ble_eq_true rfl) (zl_capM HM) rfl (fun w38 g38 => ?_)
        subst w38
        obtain ⟨J1, e1, r1, t1, f1⟩ := zu_th (w := w) hM (nI 0)
        refine zg_w e1.symm ?_
        refine zg_if_ne (tgt := 72) dX4_write_41 (by decide) (fun h41 => ?_) (fun h41 => ?_)
        · exact absurd rfl h41
        · refine zg_aload_n dX4_write_44 rfl ?_
          refine zg_aload_n dX4_write_45 rfl ?_
          refine zg_getI E (ci := 4) (j := 7) dX4_write_46 rfl (congrArg Prod.fst (zl_Mat HM (k := 156) (t := (4, 17)) rfl (by decide) (by decide))) (by decide) (zl_Mlt HM (by decide)) (by decide) fl_X4_64 rfl ?_
          refine zg_v (x' := za_bit true) (r1.2.2.1.trans (congrArg za_bit hb)) ?_
          refine zg_if_ne (tgt := 60) dX4_write_49 (by decide) (fun h49 => ?_) (fun h49 => ?_)
          · refine zg_iconst (v := nI 1) dX4_write_60 (by decide) ?_
            refine zg_goto (tgt := 65) dX4_write_61 (by decide) ?_
            refine zg_iconst (v := nI 2) dX4_write_65 (by decide) ?_
            refine zg_vrt (M := zm_X4_write) E (ci := 4) dX4_write_66 (mt_fails (w := zw_I w J1) (z := true) (k := nI 2) E HM) wd_X4_102 rfl (congrArg Prod.fst (zl_Mat HM (k := 156) (t := (4, 17)) rfl (by decide) (by decide))) (by decide) (zl_Mlt HM (by decide)) rfl dh_X4_fails dn_X4_fails (Nat.le_of_ble_eq_true rfl) (Nat.le_of_ble_eq_true rfl) (Nat.le_of_ble_eq_true rfl) (zl_capM HM) rfl (fun w66 g66 => ?_)
            subst w66
            obtain ⟨J2, e2, r2, t2, f2⟩ := zu_th (w := w) r1 (nI 2)
            refine zg_w e2.symm ?_
            refine zg_if_eq (tgt := 74) dX4_write_69 (by decide) (fun h69 => ?_) (fun h69 => ?_)
            · exact absurd h69 (by decide)
            · refine zg_iconst (v := nI 0) dX4_write_72 (by decide) ?_
              exact zg_iret rfl dX4_write_73 ⟨rfl, J2, rfl, r2, t2, zu_frW (zu_frT f1 f2)⟩
          · exact absurd h49 (by decide)
      · exact absurd h29 (by decide)
set_option maxHeartbeats 4000000 in
set_option maxRecDepth 100000 in
theorem qw_5 {V : zv_V} (E : zv_OK V) {w : zw_W} (HM : zl_M w) {D : Nat → Nat → Nat} {H : za_H} {b : Bool} {L S : za_T} {C : za_C} {t : Bool} (hM : zu_X (zw_i w) D H b L S C t) {p : Nat} (hp : p < 16) {i : Nat} (hi : i < 16) {y : Nat} (hy : y < 256) (hb : b = false) (wL : za_WT L) (wS : za_WT S) (wC : za_WC C) (h0 : C.1 p = 0) (hr : za_ff L S C.1 (-1))  : zg_C V zm_X4_write yX4_write 8 190 [.ref 156, .int (nI p), .int (nI i), .int (nI y)] w (zq_p (.inl (some (.int (nI 0)))) (zu_pub w D H b L S C t 2)) := by
  refine zg_of (by decide +kernel) rfl (Nat.le_of_ble_eq_true rfl) ?_
  show zg_G V zm_X4_write 8 190 w.1 w.2.1 0 [] [(0, .ref 156), (1, .int (nI p)), (2, .int (nI i)), (3, .int (nI y))] w _
  refine zg_aload_n dX4_write_0 rfl ?_
  refine zg_iload_n dX4_write_1 rfl ?_
  refine zg_iconst (v := nI 0) dX4_write_2 (by decide) ?_
  refine zg_bipush (v := nI 15) dX4_write_3 (by decide) ?_
  refine zg_sret (M := zm_X4_write) E dX4_write_5 (mt_within (w := w) E (z := true) (zw_y (n := 15) hp (by decide))) wd_X4_67 dh_X4_within dn_X4_within (Nat.le_of_ble_eq_true rfl) (Nat.le_of_ble_eq_true rfl) (Nat.le_of_ble_eq_true rfl) (zl_capM HM) rfl (fun w5 g5 => ?_)
  subst w5
  refine zg_if_eq (tgt := 32) dX4_write_8 (by decide) (fun h8 => ?_) (fun h8 => ?_)
  · exact absurd h8 (by decide)
  · refine zg_iload_n dX4_write_11 rfl ?_
    refine zg_iconst (v := nI 0) dX4_write_12 (by decide) ?_
    refine zg_bipush (v := nI 15) dX4_write_13 (by decide) ?_
    refine zg_sret (M := zm_X4_write) E dX4_write_15 (mt_within (w := w) E (z := true) (zw_y (n := 15) hi (by decide))) wd_X4_67 dh_X4_within dn_X4_within (Nat.le_of_ble_eq_true rfl) (Nat.le_of_ble_eq_true rfl) (Nat.le_of_ble_eq_true rfl) (zl_capM HM) rfl (fun w15 g15 => ?_)
    subst w15
    refine zg_if_eq (tgt := 32) dX4_write_18 (by decide) (fun h18 => ?_) (fun h18 => ?_)
    · exact absurd h18 (by decide)
    · refine zg_iload_n dX4_write_21 rfl ?_
      refine zg_iconst (v := nI 0) dX4_write_22 (by decide) ?_
      refine zg_sipush (v := nI 255) dX4_write_23 (by decide) ?_
      refine zg_sret (M := zm_X4_write) E dX4_write_26 (mt_within (w := w) E (z := true) (zw_y (n := 255) hy (by decide))) wd_X4_67 dh_X4_within dn_X4_within (Nat.le_of_ble_eq_true rfl) (Nat.le_of_ble_eq_true rfl) (Nat.le_of_ble_eq_true rfl) (zl_capM HM) rfl (fun w26 g26 => ?_)
      subst w26
      refine zg_if_ne (tgt := 36) dX4_write_29 (by decide) (fun h29 => ?_) (fun h29 => ?_)
      · refine zg_iconst (v := nI 0) dX4_write_36 (by decide) ?_
        refine zg_iconst (v := nI 1) dX4_write_37 (by decide) ?_
        refine zg_vrt (M := zm_X4_write) E (ci := 4) dX4_write_38 (mt_fails (w := w) (z := false) (k := nI 1) E HM) wd_X4_102 rfl (congrArg Prod.fst (zl_Mat HM (k := 156) (t := (4, 17)) rfl (by decide) (by decide))) (by decide) (zl_Mlt HM (by decide)) rfl dh_X4_fails dn_X4_fails (Nat.le_of_ble_eq_true rfl) (Nat.le_of_ble_eq_true rfl) (Nat.le_of_ble_eq_true rfl) (zl_capM HM) rfl (fun w38 g38 => ?_)
        subst w38
        obtain ⟨J1, e1, r1, t1, f1⟩ := zu_th (w := w) hM (nI 0)
        refine zg_w e1.symm ?_
        refine zg_if_ne (tgt := 72) dX4_write_41 (by decide) (fun h41 => ?_) (fun h41 => ?_)
        · exact absurd rfl h41
        · refine zg_aload_n dX4_write_44 rfl ?_
          refine zg_aload_n dX4_write_45 rfl ?_
          refine zg_getI E (ci := 4) (j := 7) dX4_write_46 rfl (congrArg Prod.fst (zl_Mat HM (k := 156) (t := (4, 17)) rfl (by decide) (by decide))) (by decide) (zl_Mlt HM (by decide)) (by decide) fl_X4_64 rfl ?_
          refine zg_v (x' := za_bit false) (r1.2.2.1.trans (congrArg za_bit hb)) ?_
          refine zg_if_ne (tgt := 60) dX4_write_49 (by decide) (fun h49 => ?_) (fun h49 => ?_)
          · exact absurd rfl h49
          · refine zg_aload_n dX4_write_52 rfl ?_
            refine zg_iload_n dX4_write_53 rfl ?_
            refine zg_vrt (M := zm_X4_write) E (ci := 4) dX4_write_54 (mt_change_n (w := zw_I w J1) E HM r1 hp wL wS wC h0 hr) wd_X4_106 rfl (congrArg Prod.fst (zl_Mat HM (k := 156) (t := (4, 17)) rfl (by decide) (by decide))) (by decide) (zl_Mlt HM (by decide)) rfl dh_X4_changes dn_X4_changes (Nat.le_of_ble_eq_true rfl) (Nat.le_of_ble_eq_true rfl) (Nat.le_of_ble_eq_true rfl) (zl_capM HM) rfl (fun w54 g54 => ?_)
            subst w54
            refine zg_if_ne (tgt := 64) dX4_write_57 (by decide) (fun h57 => ?_) (fun h57 => ?_)
            · exact absurd rfl h57
            · refine zg_iconst (v := nI 1) dX4_write_60 (by decide) ?_
              refine zg_goto (tgt := 65) dX4_write_61 (by decide) ?_
              refine zg_iconst (v := nI 2) dX4_write_65 (by decide) ?_
              refine zg_vrt (M := zm_X4_write) E (ci := 4) dX4_write_66 (mt_fails (w := zw_I w J1) (z := true) (k := nI 2) E HM) wd_X4_102 rfl (congrArg Prod.fst (zl_Mat HM (k := 156) (t := (4, 17)) rfl (by decide) (by decide))) (by decide) (zl_Mlt HM (by decide)) rfl dh_X4_fails dn_X4_fails (Nat.le_of_ble_eq_true rfl) (Nat.le_of_ble_eq_true rfl) (Nat.le_of_ble_eq_true rfl) (zl_capM HM) rfl (fun w66 g66 => ?_)
              subst w66
              obtain ⟨J2, e2, r2, t2, f2⟩ := zu_th (w := w) r1 (nI 2)
              refine zg_w e2.symm ?_
              refine zg_if_eq (tgt := 74) dX4_write_69 (by decide) (fun h69 => ?_) (fun h69 => ?_)
              · exact absurd h69 (by decide)
              · refine zg_iconst (v := nI 0) dX4_write_72 (by decide) ?_
                exact zg_iret rfl dX4_write_73 ⟨rfl, J2, rfl, r2, t2, zu_frW (zu_frT f1 f2)⟩
      · exact absurd h29 (by decide)
theorem zu_put {I J : Nat → Nat → Int32} {C : za_C} {p i x : Nat} (h : zu_C I C) (hp : p < 16) (hi : i < 16) (h0 : C.1 p ≠ 0) (g : J = zw_up I 162 (16 * p + i) (nI x)) : zu_C J (za_put C p i x) := by
  subst g
  refine ⟨(zw_up_n _ _ (Or.inl (by decide))).trans h.1, fun o q hq => (zw_up_n _ _ (Or.inl (by decide))).trans (h.2.1 o q hq), fun q hq e => ⟨fun j hj => ?_, (zw_up_n _ _ (Or.inl (by decide))).trans (h.2.2 q hq e).2⟩⟩
  show _ = nI (zw_ro C.2.1 p (zw_ro (C.2.1 p) i x) q j)
  by_cases k : q = p
  · subst k
    rw [zw_ro_s]
    by_cases k2 : j = i
    · rw [k2, zw_up_s, zw_ro_s]
    · rw [zw_up_n _ _ (Or.inr (by omega)), zw_ro_n _ _ k2]
      exact (h.2.2 q hq e).1 j hj
  · rw [zw_up_n _ _ (Or.inr (by omega)), zw_ro_n _ _ k]
    exact (h.2.2 q hq e).1 j hj
set_option maxHeartbeats 4000000 in
set_option maxRecDepth 100000 in
theorem qw_6 {V : zv_V} (E : zv_OK V) {w : zw_W} (HM : zl_M w) {D : Nat → Nat → Nat} {H : za_H} {b : Bool} {L S : za_T} {C : za_C} {t : Bool} (hM : zu_X (zw_i w) D H b L S C t) {p : Nat} (hp : p < 16) {i : Nat} (hi : i < 16) {y : Nat} (hy : y < 256) (hb : b = false) (wL : za_WT L) (wS : za_WT S) (wC : za_WC C) {C1 : za_C} (hc : za_chg D L S C p C1)  : zg_C V zm_X4_write yX4_write 8 190 [.ref 156, .int (nI p), .int (nI i), .int (nI y)] w (zq_p (.inl (some (.int (nI (C1.2.1 p i))))) (zu_pub w D H b L S (za_put C1 p i y) t 0)) := by
  refine zg_of (by decide +kernel) rfl (Nat.le_of_ble_eq_true rfl) ?_
  show zg_G V zm_X4_write 8 190 w.1 w.2.1 0 [] [(0, .ref 156), (1, .int (nI p)), (2, .int (nI i)), (3, .int (nI y))] w _
  refine zg_aload_n dX4_write_0 rfl ?_
  refine zg_iload_n dX4_write_1 rfl ?_
  refine zg_iconst (v := nI 0) dX4_write_2 (by decide) ?_
  refine zg_bipush (v := nI 15) dX4_write_3 (by decide) ?_
  refine zg_sret (M := zm_X4_write) E dX4_write_5 (mt_within (w := w) E (z := true) (zw_y (n := 15) hp (by decide))) wd_X4_67 dh_X4_within dn_X4_within (Nat.le_of_ble_eq_true rfl) (Nat.le_of_ble_eq_true rfl) (Nat.le_of_ble_eq_true rfl) (zl_capM HM) rfl (fun w5 g5 => ?_)
  subst w5
  refine zg_if_eq (tgt := 32) dX4_write_8 (by decide) (fun h8 => ?_) (fun h8 => ?_)
  · exact absurd h8 (by decide)
  · refine zg_iload_n dX4_write_11 rfl ?_
    refine zg_iconst (v := nI 0) dX4_write_12 (by decide) ?_
    refine zg_bipush (v := nI 15) dX4_write_13 (by decide) ?_
    refine zg_sret (M := zm_X4_write) E dX4_write_15 (mt_within (w := w) E (z := true) (zw_y (n := 15) hi (by decide))) wd_X4_67 dh_X4_within dn_X4_within (Nat.le_of_ble_eq_true rfl) (Nat.le_of_ble_eq_true rfl) (Nat.le_of_ble_eq_true rfl) (zl_capM HM) rfl (fun w15 g15 => ?_)
    subst w15
    refine zg_if_eq (tgt := 32) dX4_write_18 (by decide) (fun h18 => ?_) (fun h18 => ?_)
    · exact absurd h18 (by decide)
    · refine zg_iload_n dX4_write_21 rfl ?_
      refine zg_iconst (v := nI 0) dX4_write_22 (by decide) ?_
      refine zg_sipush (v := nI 255) dX4_write_23 (by decide) ?_
      refine zg_sret (M := zm_X4_write) E dX4_write_26 (mt_within (w := w) E (z := true) (zw_y (n := 255) hy (by decide))) wd_X4_67 dh_X4_within dn_X4_within (Nat.le_of_ble_eq_true rfl) (Nat.le_of_ble_eq_true rfl) (Nat.le_of_ble_eq_true rfl) (zl_capM HM) rfl (fun w26 g26 => ?_)
      subst w26
      refine zg_if_ne (tgt := 36) dX4_write_29 (by decide) (fun h29 => ?_) (fun h29 => ?_)
      · refine zg_iconst (v := nI 0) dX4_write_36 (by decide) ?_
        refine zg_iconst (v := nI 1) dX4_write_37 (by decide) ?_
        refine zg_vrt (M := zm_X4_write) E (ci := 4) dX4_write_38 (mt_fails (w := w) (z := false) (k := nI 1) E HM) wd_X4_102 rfl (congrArg Prod.fst (zl_Mat HM (k := 156) (t := (4, 17)) rfl (by decide) (by decide))) (by decide) (zl_Mlt HM (by decide)) rfl dh_X4_fails dn_X4_fails (Nat.le_of_ble_eq_true rfl) (Nat.le_of_ble_eq_true rfl) (Nat.le_of_ble_eq_true rfl) (zl_capM HM) rfl (fun w38 g38 => ?_)
        subst w38
        obtain ⟨J1, e1, r1, t1, f1⟩ := zu_th (w := w) hM (nI 0)
        refine zg_w e1.symm ?_
        refine zg_if_ne (tgt := 72) dX4_write_41 (by decide) (fun h41 => ?_) (fun h41 => ?_)
        · exact absurd rfl h41
        · refine zg_aload_n dX4_write_44 rfl ?_
          refine zg_aload_n dX4_write_45 rfl ?_
          refine zg_getI E (ci := 4) (j := 7) dX4_write_46 rfl (congrArg Prod.fst (zl_Mat HM (k := 156) (t := (4, 17)) rfl (by decide) (by decide))) (by decide) (zl_Mlt HM (by decide)) (by decide) fl_X4_64 rfl ?_
          refine zg_v (x' := za_bit false) (r1.2.2.1.trans (congrArg za_bit hb)) ?_
          refine zg_if_ne (tgt := 60) dX4_write_49 (by decide) (fun h49 => ?_) (fun h49 => ?_)
          · exact absurd rfl h49
          · refine zg_aload_n dX4_write_52 rfl ?_
            refine zg_iload_n dX4_write_53 rfl ?_
            refine zg_vrt (M := zm_X4_write) E (ci := 4) dX4_write_54 (mt_chy (w := zw_I w J1) E HM r1 hp wL wS wC hc) wd_X4_106 rfl (congrArg Prod.fst (zl_Mat HM (k := 156) (t := (4, 17)) rfl (by decide) (by decide))) (by decide) (zl_Mlt HM (by decide)) rfl dh_X4_changes dn_X4_changes (Nat.le_of_ble_eq_true rfl) (Nat.le_of_ble_eq_true rfl) (Nat.le_of_ble_eq_true rfl) (zl_capM HM) rfl (fun w54 g54 => ?_)
            obtain ⟨J2, rfl, r2, f2⟩ := g54
            refine zg_w (w' := zw_I w J2) rfl ?_
            refine zg_if_ne (tgt := 64) dX4_write_57 (by decide) (fun h57 => ?_) (fun h57 => ?_)
            · refine zg_iconst (v := nI 0) dX4_write_64 (by decide) ?_
              refine zg_iconst (v := nI 2) dX4_write_65 (by decide) ?_
              refine zg_vrt (M := zm_X4_write) E (ci := 4) dX4_write_66 (mt_fails (w := zw_I w J2) (z := false) (k := nI 2) E HM) wd_X4_102 rfl (congrArg Prod.fst (zl_Mat HM (k := 156) (t := (4, 17)) rfl (by decide) (by decide))) (by decide) (zl_Mlt HM (by decide)) rfl dh_X4_fails dn_X4_fails (Nat.le_of_ble_eq_true rfl) (Nat.le_of_ble_eq_true rfl) (Nat.le_of_ble_eq_true rfl) (zl_capM HM) rfl (fun w66 g66 => ?_)
              subst w66
              obtain ⟨J3, e3, r3, t3, f3⟩ := zu_th (w := w) r2 (nI 0)
              refine zg_w e3.symm ?_
              refine zg_if_eq (tgt := 74) dX4_write_69 (by decide) (fun h69 => ?_) (fun h69 => ?_)
              · refine zg_aload_n dX4_write_74 rfl ?_
                refine zg_getR E (ci := 4) (j := 11) (r := 162) dX4_write_75 rfl (congrArg Prod.fst (zl_Mat HM (k := 156) (t := (4, 17)) rfl (by decide) (by decide))) (by decide) (zl_Mlt HM (by decide)) (by decide) fl_X4_26 rfl (zl_Mrf HM rfl (by decide) (by decide)) ?_
                refine zg_bipush (v := nI 16) dX4_write_78 (by decide) ?_
                refine zg_iload_n dX4_write_80 rfl ?_
                refine zg_imul dX4_write_81 ?_
                refine zg_v (x' := nI (16 * p)) (pk_mul _ _) ?_
                refine zg_iload_n dX4_write_82 rfl ?_
                refine zg_iadd dX4_write_83 ?_
                refine zg_v (x' := nI ((16 * p) + i)) (nI_add _ _) ?_
                refine zg_iald E (j := (16 * p) + i) dX4_write_84 (zl_Mat HM (k := 162) (t := (10, 256)) rfl (by decide) (by decide)) (by decide) (zl_Mlt HM (by decide)) rfl (by omega) (by decide) ?_
                refine zg_v (x' := nI (C1.2.1 p i)) ((r3.2.2.2.2.2.1.2.2 p hp (za_chg_0 hc)).1 i hi) ?_
                refine zg_istore (lv' := [(4, .int (nI (C1.2.1 p i))), (0, .ref 156), (1, .int (nI p)), (2, .int (nI i)), (3, .int (nI y))]) dX4_write_85 (by decide) rfl ?_
                refine zg_aload_n dX4_write_87 rfl ?_
                refine zg_getR E (ci := 4) (j := 11) (r := 162) dX4_write_88 rfl (congrArg Prod.fst (zl_Mat HM (k := 156) (t := (4, 17)) rfl (by decide) (by decide))) (by decide) (zl_Mlt HM (by decide)) (by decide) fl_X4_26 rfl (zl_Mrf HM rfl (by decide) (by decide)) ?_
                refine zg_bipush (v := nI 16) dX4_write_91 (by decide) ?_
                refine zg_iload_n dX4_write_93 rfl ?_
                refine zg_imul dX4_write_94 ?_
                refine zg_v (x' := nI (16 * p)) (pk_mul _ _) ?_
                refine zg_iload_n dX4_write_95 rfl ?_
                refine zg_iadd dX4_write_96 ?_
                refine zg_v (x' := nI ((16 * p) + i)) (nI_add _ _) ?_
                refine zg_iload_n dX4_write_97 rfl ?_
                refine zg_iast E (j := (16 * p) + i) dX4_write_98 (zl_Mat HM (k := 162) (t := (10, 256)) rfl (by decide) (by decide)) (by decide) (zl_Mlt HM (by decide)) rfl (by omega) (by decide) ?_
                refine zg_iload dX4_write_99 rfl ?_
                exact zg_iret rfl dX4_write_101 ⟨rfl, _, rfl, ⟨zu_fD r3.1 (zu_frC J3 162 (16 * p + i) (nI y)), zu_fH r3.2.1 (zu_frC J3 162 (16 * p + i) (nI y)), zu_fs r3.2.2.1 (zu_frC J3 162 (16 * p + i) (nI y)), zu_fL r3.2.2.2.1 (zu_frC J3 162 (16 * p + i) (nI y)), zu_fS r3.2.2.2.2.1 (zu_frC J3 162 (16 * p + i) (nI y)), zu_put r3.2.2.2.2.2.1 hp hi (za_chg_0 hc) rfl, zu_fs r3.2.2.2.2.2.2 (zu_frC J3 162 (16 * p + i) (nI y))⟩, zu_fs t3 (zu_frC J3 162 (16 * p + i) (nI y)), zu_frW (zu_frT (zu_frT (zu_frT f1 f2) f3) (zu_frC J3 162 (16 * p + i) (nI y)))⟩
              · exact absurd rfl h69
            · exact absurd h57 (by decide)
      · exact absurd h29 (by decide)
set_option maxHeartbeats 4000000 in
set_option maxRecDepth 100000 in
theorem qr_1 {V : zv_V} (E : zv_OK V) {w : zw_W} (HM : zl_M w) {D : Nat → Nat → Nat} {H : za_H} {b : Bool} {L S : za_T} {C : za_C} {t : Bool} (hM : zu_X (zw_i w) D H b L S C t) {x : Int32} (hx : ∀ n, n < 16 → x ≠ nI n) {u v : Int32} : zg_C V zm_X4_read yX4_read 8 190 [.ref 156, .int x, .int u, .int v] w (zq_p (.inl (some (.int (nI 0)))) (zu_pub w D H b L S C t 1)) := by
  refine zg_of (by decide +kernel) rfl (Nat.le_of_ble_eq_true rfl) ?_
  show zg_G V zm_X4_read 8 190 w.1 w.2.1 0 [] [(0, .ref 156), (1, .int x), (2, .int u), (3, .int v)] w _
  refine zg_aload_n dX4_read_0 rfl ?_
  refine zg_iload_n dX4_read_1 rfl ?_
  refine zg_iconst (v := nI 0) dX4_read_2 (by decide) ?_
  refine zg_bipush (v := nI 15) dX4_read_3 (by decide) ?_
  refine zg_sret (M := zm_X4_read) E dX4_read_5 (mt_within (w := w) E (z := false) (zw_x (n := 15) hx (by decide))) wd_X4_67 dh_X4_within dn_X4_within (Nat.le_of_ble_eq_true rfl) (Nat.le_of_ble_eq_true rfl) (Nat.le_of_ble_eq_true rfl) (zl_capM HM) rfl (fun w5 g5 => ?_)
  subst w5
  refine zg_if_eq (tgt := 21) dX4_read_8 (by decide) (fun h8 => ?_) (fun h8 => ?_)
  · refine zg_iconst (v := nI 1) dX4_read_21 (by decide) ?_
    refine zg_goto (tgt := 26) dX4_read_22 (by decide) ?_
    refine zg_iconst (v := nI 1) dX4_read_26 (by decide) ?_
    refine zg_vrt (M := zm_X4_read) E (ci := 4) dX4_read_27 (mt_fails (w := w) (z := true) (k := nI 1) E HM) wd_X4_102 rfl (congrArg Prod.fst (zl_Mat HM (k := 156) (t := (4, 17)) rfl (by decide) (by decide))) (by decide) (zl_Mlt HM (by decide)) rfl dh_X4_fails dn_X4_fails (Nat.le_of_ble_eq_true rfl) (Nat.le_of_ble_eq_true rfl) (Nat.le_of_ble_eq_true rfl) (zl_capM HM) rfl (fun w27 g27 => ?_)
    subst w27
    obtain ⟨J1, e1, r1, t1, f1⟩ := zu_th (w := w) hM (nI 1)
    refine zg_w e1.symm ?_
    refine zg_if_ne (tgt := 45) dX4_read_30 (by decide) (fun h30 => ?_) (fun h30 => ?_)
    · refine zg_iconst (v := nI 0) dX4_read_45 (by decide) ?_
      exact zg_iret rfl dX4_read_46 ⟨rfl, J1, rfl, r1, t1, zu_frW (f1)⟩
    · exact absurd h30 (by decide)
  · exact absurd rfl h8
set_option maxHeartbeats 4000000 in
set_option maxRecDepth 100000 in
theorem qr_2 {V : zv_V} (E : zv_OK V) {w : zw_W} (HM : zl_M w) {D : Nat → Nat → Nat} {H : za_H} {b : Bool} {L S : za_T} {C : za_C} {t : Bool} (hM : zu_X (zw_i w) D H b L S C t) {p : Nat} (hp : p < 16) {x : Int32} (hx : ∀ n, n < 16 → x ≠ nI n) {v : Int32} : zg_C V zm_X4_read yX4_read 8 190 [.ref 156, .int (nI p), .int x, .int v] w (zq_p (.inl (some (.int (nI 0)))) (zu_pub w D H b L S C t 1)) := by
  refine zg_of (by decide +kernel) rfl (Nat.le_of_ble_eq_true rfl) ?_
  show zg_G V zm_X4_read 8 190 w.1 w.2.1 0 [] [(0, .ref 156), (1, .int (nI p)), (2, .int x), (3, .int v)] w _
  refine zg_aload_n dX4_read_0 rfl ?_
  refine zg_iload_n dX4_read_1 rfl ?_
  refine zg_iconst (v := nI 0) dX4_read_2 (by decide) ?_
  refine zg_bipush (v := nI 15) dX4_read_3 (by decide) ?_
  refine zg_sret (M := zm_X4_read) E dX4_read_5 (mt_within (w := w) E (z := true) (zw_y (n := 15) hp (by decide))) wd_X4_67 dh_X4_within dn_X4_within (Nat.le_of_ble_eq_true rfl) (Nat.le_of_ble_eq_true rfl) (Nat.le_of_ble_eq_true rfl) (zl_capM HM) rfl (fun w5 g5 => ?_)
  subst w5
  refine zg_if_eq (tgt := 21) dX4_read_8 (by decide) (fun h8 => ?_) (fun h8 => ?_)
  · exact absurd h8 (by decide)
  · refine zg_iload_n dX4_read_11 rfl ?_
    refine zg_iconst (v := nI 0) dX4_read_12 (by decide) ?_
    refine zg_bipush (v := nI 15) dX4_read_13 (by decide) ?_
    refine zg_sret (M := zm_X4_read) E dX4_read_15 (mt_within (w := w) E (z := false) (zw_x (n := 15) hx (by decide))) wd_X4_67 dh_X4_within dn_X4_within (Nat.le_of_ble_eq_true rfl) (Nat.le_of_ble_eq_true rfl) (Nat.le_of_ble_eq_true rfl) (zl_capM HM) rfl (fun w15 g15 => ?_)
    subst w15
    refine zg_if_ne (tgt := 25) dX4_read_18 (by decide) (fun h18 => ?_) (fun h18 => ?_)
    · exact absurd rfl h18
    · refine zg_iconst (v := nI 1) dX4_read_21 (by decide) ?_
      refine zg_goto (tgt := 26) dX4_read_22 (by decide) ?_
      refine zg_iconst (v := nI 1) dX4_read_26 (by decide) ?_
      refine zg_vrt (M := zm_X4_read) E (ci := 4) dX4_read_27 (mt_fails (w := w) (z := true) (k := nI 1) E HM) wd_X4_102 rfl (congrArg Prod.fst (zl_Mat HM (k := 156) (t := (4, 17)) rfl (by decide) (by decide))) (by decide) (zl_Mlt HM (by decide)) rfl dh_X4_fails dn_X4_fails (Nat.le_of_ble_eq_true rfl) (Nat.le_of_ble_eq_true rfl) (Nat.le_of_ble_eq_true rfl) (zl_capM HM) rfl (fun w27 g27 => ?_)
      subst w27
      obtain ⟨J1, e1, r1, t1, f1⟩ := zu_th (w := w) hM (nI 1)
      refine zg_w e1.symm ?_
      refine zg_if_ne (tgt := 45) dX4_read_30 (by decide) (fun h30 => ?_) (fun h30 => ?_)
      · refine zg_iconst (v := nI 0) dX4_read_45 (by decide) ?_
        exact zg_iret rfl dX4_read_46 ⟨rfl, J1, rfl, r1, t1, zu_frW (f1)⟩
      · exact absurd h30 (by decide)
set_option maxHeartbeats 4000000 in
set_option maxRecDepth 100000 in
theorem qr_3 {V : zv_V} (E : zv_OK V) {w : zw_W} (HM : zl_M w) {D : Nat → Nat → Nat} {H : za_H} {b : Bool} {L S : za_T} {C : za_C} {t : Bool} (hM : zu_X (zw_i w) D H b L S C t) {p : Nat} (hp : p < 16) {i : Nat} (hi : i < 16) (hb : b = true) {v : Int32} : zg_C V zm_X4_read yX4_read 8 190 [.ref 156, .int (nI p), .int (nI i), .int v] w (zq_p (.inl (some (.int (nI 0)))) (zu_pub w D H b L S C t 2)) := by
  refine zg_of (by decide +kernel) rfl (Nat.le_of_ble_eq_true rfl) ?_
  show zg_G V zm_X4_read 8 190 w.1 w.2.1 0 [] [(0, .ref 156), (1, .int (nI p)), (2, .int (nI i)), (3, .int v)] w _
  refine zg_aload_n dX4_read_0 rfl ?_
  refine zg_iload_n dX4_read_1 rfl ?_
  refine zg_iconst (v := nI 0) dX4_read_2 (by decide) ?_
  refine zg_bipush (v := nI 15) dX4_read_3 (by decide) ?_
  refine zg_sret (M := zm_X4_read) E dX4_read_5 (mt_within (w := w) E (z := true) (zw_y (n := 15) hp (by decide))) wd_X4_67 dh_X4_within dn_X4_within (Nat.le_of_ble_eq_true rfl) (Nat.le_of_ble_eq_true rfl) (Nat.le_of_ble_eq_true rfl) (zl_capM HM) rfl (fun w5 g5 => ?_)
  subst w5
  refine zg_if_eq (tgt := 21) dX4_read_8 (by decide) (fun h8 => ?_) (fun h8 => ?_)
  · exact absurd h8 (by decide)
  · refine zg_iload_n dX4_read_11 rfl ?_
    refine zg_iconst (v := nI 0) dX4_read_12 (by decide) ?_
    refine zg_bipush (v := nI 15) dX4_read_13 (by decide) ?_
    refine zg_sret (M := zm_X4_read) E dX4_read_15 (mt_within (w := w) E (z := true) (zw_y (n := 15) hi (by decide))) wd_X4_67 dh_X4_within dn_X4_within (Nat.le_of_ble_eq_true rfl) (Nat.le_of_ble_eq_true rfl) (Nat.le_of_ble_eq_true rfl) (zl_capM HM) rfl (fun w15 g15 => ?_)
    subst w15
    refine zg_if_ne (tgt := 25) dX4_read_18 (by decide) (fun h18 => ?_) (fun h18 => ?_)
    · refine zg_iconst (v := nI 0) dX4_read_25 (by decide) ?_
      refine zg_iconst (v := nI 1) dX4_read_26 (by decide) ?_
      refine zg_vrt (M := zm_X4_read) E (ci := 4) dX4_read_27 (mt_fails (w := w) (z := false) (k := nI 1) E HM) wd_X4_102 rfl (congrArg Prod.fst (zl_Mat HM (k := 156) (t := (4, 17)) rfl (by decide) (by decide))) (by decide) (zl_Mlt HM (by decide)) rfl dh_X4_fails dn_X4_fails (Nat.le_of_ble_eq_true rfl) (Nat.le_of_ble_eq_true rfl) (Nat.le_of_ble_eq_true rfl) (zl_capM HM) rfl (fun w27 g27 => ?_)
      subst w27
      obtain ⟨J1, e1, r1, t1, f1⟩ := zu_th (w := w) hM (nI 0)
      refine zg_w e1.symm ?_
      refine zg_if_ne (tgt := 45) dX4_read_30 (by decide) (fun h30 => ?_) (fun h30 => ?_)
      · exact absurd rfl h30
      · refine zg_aload_n dX4_read_33 rfl ?_
        refine zg_aload_n dX4_read_34 rfl ?_
        refine zg_getI E (ci := 4) (j := 7) dX4_read_35 rfl (congrArg Prod.fst (zl_Mat HM (k := 156) (t := (4, 17)) rfl (by decide) (by decide))) (by decide) (zl_Mlt HM (by decide)) (by decide) fl_X4_64 rfl ?_
        refine zg_v (x' := za_bit true) (r1.2.2.1.trans (congrArg za_bit hb)) ?_
        refine zg_iconst (v := nI 2) dX4_read_38 (by decide) ?_
        refine zg_vrt (M := zm_X4_read) E (ci := 4) dX4_read_39 (mt_fails (w := zw_I w J1) (z := true) (k := nI 2) E HM) wd_X4_102 rfl (congrArg Prod.fst (zl_Mat HM (k := 156) (t := (4, 17)) rfl (by decide) (by decide))) (by decide) (zl_Mlt HM (by decide)) rfl dh_X4_fails dn_X4_fails (Nat.le_of_ble_eq_true rfl) (Nat.le_of_ble_eq_true rfl) (Nat.le_of_ble_eq_true rfl) (zl_capM HM) rfl (fun w39 g39 => ?_)
        subst w39
        obtain ⟨J2, e2, r2, t2, f2⟩ := zu_th (w := w) r1 (nI 2)
        refine zg_w e2.symm ?_
        refine zg_if_eq (tgt := 47) dX4_read_42 (by decide) (fun h42 => ?_) (fun h42 => ?_)
        · exact absurd h42 (by decide)
        · refine zg_iconst (v := nI 0) dX4_read_45 (by decide) ?_
          exact zg_iret rfl dX4_read_46 ⟨rfl, J2, rfl, r2, t2, zu_frW (zu_frT f1 f2)⟩
    · exact absurd h18 (by decide)
set_option maxHeartbeats 4000000 in
set_option maxRecDepth 100000 in
theorem qr_4 {V : zv_V} (E : zv_OK V) {w : zw_W} (HM : zl_M w) {D : Nat → Nat → Nat} {H : za_H} {b : Bool} {L S : za_T} {C : za_C} {t : Bool} (hM : zu_X (zw_i w) D H b L S C t) {p : Nat} (hp : p < 16) {i : Nat} (hi : i < 16) (hb : b = false) (wC : za_WC C) (h0 : C.1 p ≠ 0) : zg_C V zm_X4_read yX4_read 8 190 [.ref 156, .int (nI p), .int (nI i), .int (za_bit false)] w (zq_p (.inl (some (.int (nI (C.2.1 p i))))) (zu_pub w D H b L S C t 0)) := by
  refine zg_of (by decide +kernel) rfl (Nat.le_of_ble_eq_true rfl) ?_
  show zg_G V zm_X4_read 8 190 w.1 w.2.1 0 [] [(0, .ref 156), (1, .int (nI p)), (2, .int (nI i)), (3, .int (za_bit false))] w _
  refine zg_aload_n dX4_read_0 rfl ?_
  refine zg_iload_n dX4_read_1 rfl ?_
  refine zg_iconst (v := nI 0) dX4_read_2 (by decide) ?_
  refine zg_bipush (v := nI 15) dX4_read_3 (by decide) ?_
  refine zg_sret (M := zm_X4_read) E dX4_read_5 (mt_within (w := w) E (z := true) (zw_y (n := 15) hp (by decide))) wd_X4_67 dh_X4_within dn_X4_within (Nat.le_of_ble_eq_true rfl) (Nat.le_of_ble_eq_true rfl) (Nat.le_of_ble_eq_true rfl) (zl_capM HM) rfl (fun w5 g5 => ?_)
  subst w5
  refine zg_if_eq (tgt := 21) dX4_read_8 (by decide) (fun h8 => ?_) (fun h8 => ?_)
  · exact absurd h8 (by decide)
  · refine zg_iload_n dX4_read_11 rfl ?_
    refine zg_iconst (v := nI 0) dX4_read_12 (by decide) ?_
    refine zg_bipush (v := nI 15) dX4_read_13 (by decide) ?_
    refine zg_sret (M := zm_X4_read) E dX4_read_15 (mt_within (w := w) E (z := true) (zw_y (n := 15) hi (by decide))) wd_X4_67 dh_X4_within dn_X4_within (Nat.le_of_ble_eq_true rfl) (Nat.le_of_ble_eq_true rfl) (Nat.le_of_ble_eq_true rfl) (zl_capM HM) rfl (fun w15 g15 => ?_)
    subst w15
    refine zg_if_ne (tgt := 25) dX4_read_18 (by decide) (fun h18 => ?_) (fun h18 => ?_)
    · refine zg_iconst (v := nI 0) dX4_read_25 (by decide) ?_
      refine zg_iconst (v := nI 1) dX4_read_26 (by decide) ?_
      refine zg_vrt (M := zm_X4_read) E (ci := 4) dX4_read_27 (mt_fails (w := w) (z := false) (k := nI 1) E HM) wd_X4_102 rfl (congrArg Prod.fst (zl_Mat HM (k := 156) (t := (4, 17)) rfl (by decide) (by decide))) (by decide) (zl_Mlt HM (by decide)) rfl dh_X4_fails dn_X4_fails (Nat.le_of_ble_eq_true rfl) (Nat.le_of_ble_eq_true rfl) (Nat.le_of_ble_eq_true rfl) (zl_capM HM) rfl (fun w27 g27 => ?_)
      subst w27
      obtain ⟨J1, e1, r1, t1, f1⟩ := zu_th (w := w) hM (nI 0)
      refine zg_w e1.symm ?_
      refine zg_if_ne (tgt := 45) dX4_read_30 (by decide) (fun h30 => ?_) (fun h30 => ?_)
      · exact absurd rfl h30
      · refine zg_aload_n dX4_read_33 rfl ?_
        refine zg_aload_n dX4_read_34 rfl ?_
        refine zg_getI E (ci := 4) (j := 7) dX4_read_35 rfl (congrArg Prod.fst (zl_Mat HM (k := 156) (t := (4, 17)) rfl (by decide) (by decide))) (by decide) (zl_Mlt HM (by decide)) (by decide) fl_X4_64 rfl ?_
        refine zg_v (x' := za_bit false) (r1.2.2.1.trans (congrArg za_bit hb)) ?_
        refine zg_iconst (v := nI 2) dX4_read_38 (by decide) ?_
        refine zg_vrt (M := zm_X4_read) E (ci := 4) dX4_read_39 (mt_fails (w := zw_I w J1) (z := false) (k := nI 2) E HM) wd_X4_102 rfl (congrArg Prod.fst (zl_Mat HM (k := 156) (t := (4, 17)) rfl (by decide) (by decide))) (by decide) (zl_Mlt HM (by decide)) rfl dh_X4_fails dn_X4_fails (Nat.le_of_ble_eq_true rfl) (Nat.le_of_ble_eq_true rfl) (Nat.le_of_ble_eq_true rfl) (zl_capM HM) rfl (fun w39 g39 => ?_)
        subst w39
        obtain ⟨J2, e2, r2, t2, f2⟩ := zu_th (w := w) r1 (nI 0)
        refine zg_w e2.symm ?_
        refine zg_if_eq (tgt := 47) dX4_read_42 (by decide) (fun h42 => ?_) (fun h42 => ?_)
        · refine zg_aload_n dX4_read_47 rfl ?_
          refine zg_iload_n dX4_read_48 rfl ?_
          refine zg_iload_n dX4_read_49 rfl ?_
          refine zg_iload_n dX4_read_50 rfl ?_
          refine zg_vrt (M := zm_X4_read) E (ci := 4) dX4_read_51 (mt_byteO (w := zw_I w J2) E HM hp hi r2.2.2.2.2.2.1 wC h0) wd_X4_98 rfl (congrArg Prod.fst (zl_Mat HM (k := 156) (t := (4, 17)) rfl (by decide) (by decide))) (by decide) (zl_Mlt HM (by decide)) rfl dh_X4_byteAt dn_X4_byteAt (Nat.le_of_ble_eq_true rfl) (Nat.le_of_ble_eq_true rfl) (Nat.le_of_ble_eq_true rfl) (zl_capM HM) rfl (fun w51 g51 => ?_)
          subst w51
          exact zg_iret rfl dX4_read_54 ⟨rfl, J2, rfl, r2, t2, zu_frW (zu_frT f1 f2)⟩
        · exact absurd rfl h42
    · exact absurd h18 (by decide)
set_option maxHeartbeats 4000000 in
set_option maxRecDepth 100000 in
theorem qr_5 {V : zv_V} (E : zv_OK V) {w : zw_W} (HM : zl_M w) {D : Nat → Nat → Nat} {H : za_H} {b : Bool} {L S : za_T} {C : za_C} {t : Bool} (hM : zu_X (zw_i w) D H b L S C t) {p : Nat} (hp : p < 16) {i : Nat} (hi : i < 16) (hb : b = false) {z : Bool} (wL : za_WT L) (hz : z = true ∨ C.1 p = 0) : zg_C V zm_X4_read yX4_read 8 190 [.ref 156, .int (nI p), .int (nI i), .int (za_bit z)] w (zq_p (.inl (some (.int (nI (za_lt D L p i))))) (zu_pub w D H b L S C t 0)) := by
  refine zg_of (by decide +kernel) rfl (Nat.le_of_ble_eq_true rfl) ?_
  show zg_G V zm_X4_read 8 190 w.1 w.2.1 0 [] [(0, .ref 156), (1, .int (nI p)), (2, .int (nI i)), (3, .int (za_bit z))] w _
  refine zg_aload_n dX4_read_0 rfl ?_
  refine zg_iload_n dX4_read_1 rfl ?_
  refine zg_iconst (v := nI 0) dX4_read_2 (by decide) ?_
  refine zg_bipush (v := nI 15) dX4_read_3 (by decide) ?_
  refine zg_sret (M := zm_X4_read) E dX4_read_5 (mt_within (w := w) E (z := true) (zw_y (n := 15) hp (by decide))) wd_X4_67 dh_X4_within dn_X4_within (Nat.le_of_ble_eq_true rfl) (Nat.le_of_ble_eq_true rfl) (Nat.le_of_ble_eq_true rfl) (zl_capM HM) rfl (fun w5 g5 => ?_)
  subst w5
  refine zg_if_eq (tgt := 21) dX4_read_8 (by decide) (fun h8 => ?_) (fun h8 => ?_)
  · exact absurd h8 (by decide)
  · refine zg_iload_n dX4_read_11 rfl ?_
    refine zg_iconst (v := nI 0) dX4_read_12 (by decide) ?_
    refine zg_bipush (v := nI 15) dX4_read_13 (by decide) ?_
    refine zg_sret (M := zm_X4_read) E dX4_read_15 (mt_within (w := w) E (z := true) (zw_y (n := 15) hi (by decide))) wd_X4_67 dh_X4_within dn_X4_within (Nat.le_of_ble_eq_true rfl) (Nat.le_of_ble_eq_true rfl) (Nat.le_of_ble_eq_true rfl) (zl_capM HM) rfl (fun w15 g15 => ?_)
    subst w15
    refine zg_if_ne (tgt := 25) dX4_read_18 (by decide) (fun h18 => ?_) (fun h18 => ?_)
    · refine zg_iconst (v := nI 0) dX4_read_25 (by decide) ?_
      refine zg_iconst (v := nI 1) dX4_read_26 (by decide) ?_
      refine zg_vrt (M := zm_X4_read) E (ci := 4) dX4_read_27 (mt_fails (w := w) (z := false) (k := nI 1) E HM) wd_X4_102 rfl (congrArg Prod.fst (zl_Mat HM (k := 156) (t := (4, 17)) rfl (by decide) (by decide))) (by decide) (zl_Mlt HM (by decide)) rfl dh_X4_fails dn_X4_fails (Nat.le_of_ble_eq_true rfl) (Nat.le_of_ble_eq_true rfl) (Nat.le_of_ble_eq_true rfl) (zl_capM HM) rfl (fun w27 g27 => ?_)
      subst w27
      obtain ⟨J1, e1, r1, t1, f1⟩ := zu_th (w := w) hM (nI 0)
      refine zg_w e1.symm ?_
      refine zg_if_ne (tgt := 45) dX4_read_30 (by decide) (fun h30 => ?_) (fun h30 => ?_)
      · exact absurd rfl h30
      · refine zg_aload_n dX4_read_33 rfl ?_
        refine zg_aload_n dX4_read_34 rfl ?_
        refine zg_getI E (ci := 4) (j := 7) dX4_read_35 rfl (congrArg Prod.fst (zl_Mat HM (k := 156) (t := (4, 17)) rfl (by decide) (by decide))) (by decide) (zl_Mlt HM (by decide)) (by decide) fl_X4_64 rfl ?_
        refine zg_v (x' := za_bit false) (r1.2.2.1.trans (congrArg za_bit hb)) ?_
        refine zg_iconst (v := nI 2) dX4_read_38 (by decide) ?_
        refine zg_vrt (M := zm_X4_read) E (ci := 4) dX4_read_39 (mt_fails (w := zw_I w J1) (z := false) (k := nI 2) E HM) wd_X4_102 rfl (congrArg Prod.fst (zl_Mat HM (k := 156) (t := (4, 17)) rfl (by decide) (by decide))) (by decide) (zl_Mlt HM (by decide)) rfl dh_X4_fails dn_X4_fails (Nat.le_of_ble_eq_true rfl) (Nat.le_of_ble_eq_true rfl) (Nat.le_of_ble_eq_true rfl) (zl_capM HM) rfl (fun w39 g39 => ?_)
        subst w39
        obtain ⟨J2, e2, r2, t2, f2⟩ := zu_th (w := w) r1 (nI 0)
        refine zg_w e2.symm ?_
        refine zg_if_eq (tgt := 47) dX4_read_42 (by decide) (fun h42 => ?_) (fun h42 => ?_)
        · refine zg_aload_n dX4_read_47 rfl ?_
          refine zg_iload_n dX4_read_48 rfl ?_
          refine zg_iload_n dX4_read_49 rfl ?_
          refine zg_iload_n dX4_read_50 rfl ?_
          refine zg_vrt (M := zm_X4_read) E (ci := 4) dX4_read_51 (mt_byteN (w := zw_I w J2) E HM r2.1 r2.2.2.2.1 wL hp hi r2.2.2.2.2.2.1 hz) wd_X4_98 rfl (congrArg Prod.fst (zl_Mat HM (k := 156) (t := (4, 17)) rfl (by decide) (by decide))) (by decide) (zl_Mlt HM (by decide)) rfl dh_X4_byteAt dn_X4_byteAt (Nat.le_of_ble_eq_true rfl) (Nat.le_of_ble_eq_true rfl) (Nat.le_of_ble_eq_true rfl) (zl_capM HM) rfl (fun w51 g51 => ?_)
          subst w51
          exact zg_iret rfl dX4_read_54 ⟨rfl, J2, rfl, r2, t2, zu_frW (zu_frT f1 f2)⟩
        · exact absurd rfl h42
    · exact absurd h18 (by decide)
set_option maxHeartbeats 4000000 in
set_option maxRecDepth 100000 in
theorem qa_1 {V : zv_V} (E : zv_OK V) {w : zw_W} (HM : zl_M w) {D : Nat → Nat → Nat} {H : za_H} {b : Bool} {L S : za_T} {C : za_C} {t : Bool} (hM : zu_X (zw_i w) D H b L S C t) (hb : b = true)  : zg_C V zm_X4_abort yX4_abort 8 190 [.ref 156] w (zq_p (.inl (some (.int (nI 0)))) (zu_pub w D H b L S C t 1)) := by
  refine zg_of (by decide +kernel) rfl (Nat.le_of_ble_eq_true rfl) ?_
  show zg_G V zm_X4_abort 8 190 w.1 w.2.1 0 [] [(0, .ref 156)] w _
  refine zg_aload_n dX4_abort_0 rfl ?_
  refine zg_aload_n dX4_abort_1 rfl ?_
  refine zg_getI E (ci := 4) (j := 7) dX4_abort_2 rfl (congrArg Prod.fst (zl_Mat HM (k := 156) (t := (4, 17)) rfl (by decide) (by decide))) (by decide) (zl_Mlt HM (by decide)) (by decide) fl_X4_64 rfl ?_
  refine zg_v (x' := za_bit b) hM.2.2.1 ?_
  refine zg_if_ne (tgt := 15) dX4_abort_5 (by decide) (fun h5 => ?_) (fun h5 => ?_)
  · refine zg_iconst (v := nI 1) dX4_abort_15 (by decide) ?_
    refine zg_goto (tgt := 20) dX4_abort_16 (by decide) ?_
    refine zg_iconst (v := nI 1) dX4_abort_20 (by decide) ?_
    refine zg_vrt (M := zm_X4_abort) E (ci := 4) dX4_abort_21 (mt_fails (w := w) (z := true) (k := nI 1) E HM) wd_X4_102 rfl (congrArg Prod.fst (zl_Mat HM (k := 156) (t := (4, 17)) rfl (by decide) (by decide))) (by decide) (zl_Mlt HM (by decide)) rfl dh_X4_fails dn_X4_fails (Nat.le_of_ble_eq_true rfl) (Nat.le_of_ble_eq_true rfl) (Nat.le_of_ble_eq_true rfl) (zl_capM HM) rfl (fun w21 g21 => ?_)
    subst w21
    obtain ⟨J1, e1, r1, t1, f1⟩ := zu_th (w := w) hM (nI 1)
    refine zg_w e1.symm ?_
    refine zg_if_eq (tgt := 29) dX4_abort_24 (by decide) (fun h24 => ?_) (fun h24 => ?_)
    · exact absurd h24 (by decide)
    · refine zg_iconst (v := nI 0) dX4_abort_27 (by decide) ?_
      exact zg_iret rfl dX4_abort_28 ⟨rfl, J1, rfl, r1, t1, zu_frW (f1)⟩
  · exact absurd h5 (by rw [hb]; decide)
set_option maxHeartbeats 4000000 in
set_option maxRecDepth 100000 in
theorem qa_2 {V : zv_V} (E : zv_OK V) {w : zw_W} (HM : zl_M w) {D : Nat → Nat → Nat} {H : za_H} {b : Bool} {L S : za_T} {C : za_C} {t : Bool} (hM : zu_X (zw_i w) D H b L S C t) (hb : b = false) (h0 : za_n C.1 16 = 0)  : zg_C V zm_X4_abort yX4_abort 8 190 [.ref 156] w (zq_p (.inl (some (.int (nI 0)))) (zu_pub w D H b L S C t 1)) := by
  refine zg_of (by decide +kernel) rfl (Nat.le_of_ble_eq_true rfl) ?_
  show zg_G V zm_X4_abort 8 190 w.1 w.2.1 0 [] [(0, .ref 156)] w _
  refine zg_aload_n dX4_abort_0 rfl ?_
  refine zg_aload_n dX4_abort_1 rfl ?_
  refine zg_getI E (ci := 4) (j := 7) dX4_abort_2 rfl (congrArg Prod.fst (zl_Mat HM (k := 156) (t := (4, 17)) rfl (by decide) (by decide))) (by decide) (zl_Mlt HM (by decide)) (by decide) fl_X4_64 rfl ?_
  refine zg_v (x' := za_bit b) hM.2.2.1 ?_
  refine zg_if_ne (tgt := 15) dX4_abort_5 (by decide) (fun h5 => ?_) (fun h5 => ?_)
  · exact absurd (by rw [hb]; rfl) h5
  · refine zg_aload_n dX4_abort_8 rfl ?_
    refine zg_getI E (ci := 4) (j := 8) dX4_abort_9 rfl (congrArg Prod.fst (zl_Mat HM (k := 156) (t := (4, 17)) rfl (by decide) (by decide))) (by decide) (zl_Mlt HM (by decide)) (by decide) fl_X4_61 rfl ?_
    refine zg_v (x' := za_bit (decide (0 < za_n C.1 16))) hM.2.2.2.2.2.1.1 ?_
    refine zg_if_ne (tgt := 19) dX4_abort_12 (by decide) (fun h12 => ?_) (fun h12 => ?_)
    · exact absurd (by rw [h0]; rfl) h12
    · refine zg_iconst (v := nI 1) dX4_abort_15 (by decide) ?_
      refine zg_goto (tgt := 20) dX4_abort_16 (by decide) ?_
      refine zg_iconst (v := nI 1) dX4_abort_20 (by decide) ?_
      refine zg_vrt (M := zm_X4_abort) E (ci := 4) dX4_abort_21 (mt_fails (w := w) (z := true) (k := nI 1) E HM) wd_X4_102 rfl (congrArg Prod.fst (zl_Mat HM (k := 156) (t := (4, 17)) rfl (by decide) (by decide))) (by decide) (zl_Mlt HM (by decide)) rfl dh_X4_fails dn_X4_fails (Nat.le_of_ble_eq_true rfl) (Nat.le_of_ble_eq_true rfl) (Nat.le_of_ble_eq_true rfl) (zl_capM HM) rfl (fun w21 g21 => ?_)
      subst w21
      obtain ⟨J1, e1, r1, t1, f1⟩ := zu_th (w := w) hM (nI 1)
      refine zg_w e1.symm ?_
      refine zg_if_eq (tgt := 29) dX4_abort_24 (by decide) (fun h24 => ?_) (fun h24 => ?_)
      · exact absurd h24 (by decide)
      · refine zg_iconst (v := nI 0) dX4_abort_27 (by decide) ?_
        exact zg_iret rfl dX4_abort_28 ⟨rfl, J1, rfl, r1, t1, zu_frW (f1)⟩
set_option maxHeartbeats 4000000 in
set_option maxRecDepth 100000 in
theorem qc_1 {V : zv_V} (E : zv_OK V) {w : zw_W} (HM : zl_M w) {D : Nat → Nat → Nat} {H : za_H} {b : Bool} {L S : za_T} {C : za_C} {t : Bool} (hM : zu_X (zw_i w) D H b L S C t) (hb : b = true) {u : Int32}  : zg_C V zm_X4_commit yX4_commit 8 190 [.ref 156, .int u] w (zq_p (.inl (some (.int (nI 0)))) (zu_pub w D H b L S C t 1)) := by
  refine zg_of (by decide +kernel) rfl (Nat.le_of_ble_eq_true rfl) ?_
  show zg_G V zm_X4_commit 8 190 w.1 w.2.1 0 [] [(0, .ref 156), (1, .int u)] w _
  refine zg_aload_n dX4_commit_0 rfl ?_
  refine zg_aload_n dX4_commit_1 rfl ?_
  refine zg_getI E (ci := 4) (j := 7) dX4_commit_2 rfl (congrArg Prod.fst (zl_Mat HM (k := 156) (t := (4, 17)) rfl (by decide) (by decide))) (by decide) (zl_Mlt HM (by decide)) (by decide) fl_X4_64 rfl ?_
  refine zg_v (x' := za_bit b) hM.2.2.1 ?_
  refine zg_if_ne (tgt := 15) dX4_commit_5 (by decide) (fun h5 => ?_) (fun h5 => ?_)
  · refine zg_iconst (v := nI 1) dX4_commit_15 (by decide) ?_
    refine zg_goto (tgt := 20) dX4_commit_16 (by decide) ?_
    refine zg_iconst (v := nI 1) dX4_commit_20 (by decide) ?_
    refine zg_vrt (M := zm_X4_commit) E (ci := 4) dX4_commit_21 (mt_fails (w := w) (z := true) (k := nI 1) E HM) wd_X4_102 rfl (congrArg Prod.fst (zl_Mat HM (k := 156) (t := (4, 17)) rfl (by decide) (by decide))) (by decide) (zl_Mlt HM (by decide)) rfl dh_X4_fails dn_X4_fails (Nat.le_of_ble_eq_true rfl) (Nat.le_of_ble_eq_true rfl) (Nat.le_of_ble_eq_true rfl) (zl_capM HM) rfl (fun w21 g21 => ?_)
    subst w21
    obtain ⟨J1, e1, r1, t1, f1⟩ := zu_th (w := w) hM (nI 1)
    refine zg_w e1.symm ?_
    refine zg_if_eq (tgt := 29) dX4_commit_24 (by decide) (fun h24 => ?_) (fun h24 => ?_)
    · exact absurd h24 (by decide)
    · refine zg_iconst (v := nI 0) dX4_commit_27 (by decide) ?_
      exact zg_iret rfl dX4_commit_28 ⟨rfl, J1, rfl, r1, t1, zu_frW (f1)⟩
  · exact absurd h5 (by rw [hb]; decide)
set_option maxHeartbeats 4000000 in
set_option maxRecDepth 100000 in
theorem qc_2 {V : zv_V} (E : zv_OK V) {w : zw_W} (HM : zl_M w) {D : Nat → Nat → Nat} {H : za_H} {b : Bool} {L S : za_T} {C : za_C} {t : Bool} (hM : zu_X (zw_i w) D H b L S C t) (hb : b = false) (h0 : za_n C.1 16 = 0) {u : Int32}  : zg_C V zm_X4_commit yX4_commit 8 190 [.ref 156, .int u] w (zq_p (.inl (some (.int (nI 0)))) (zu_pub w D H b L S C t 1)) := by
  refine zg_of (by decide +kernel) rfl (Nat.le_of_ble_eq_true rfl) ?_
  show zg_G V zm_X4_commit 8 190 w.1 w.2.1 0 [] [(0, .ref 156), (1, .int u)] w _
  refine zg_aload_n dX4_commit_0 rfl ?_
  refine zg_aload_n dX4_commit_1 rfl ?_
  refine zg_getI E (ci := 4) (j := 7) dX4_commit_2 rfl (congrArg Prod.fst (zl_Mat HM (k := 156) (t := (4, 17)) rfl (by decide) (by decide))) (by decide) (zl_Mlt HM (by decide)) (by decide) fl_X4_64 rfl ?_
  refine zg_v (x' := za_bit b) hM.2.2.1 ?_
  refine zg_if_ne (tgt := 15) dX4_commit_5 (by decide) (fun h5 => ?_) (fun h5 => ?_)
  · exact absurd (by rw [hb]; rfl) h5
  · refine zg_aload_n dX4_commit_8 rfl ?_
    refine zg_getI E (ci := 4) (j := 8) dX4_commit_9 rfl (congrArg Prod.fst (zl_Mat HM (k := 156) (t := (4, 17)) rfl (by decide) (by decide))) (by decide) (zl_Mlt HM (by decide)) (by decide) fl_X4_61 rfl ?_
    refine zg_v (x' := za_bit (decide (0 < za_n C.1 16))) hM.2.2.2.2.2.1.1 ?_
    refine zg_if_ne (tgt := 19) dX4_commit_12 (by decide) (fun h12 => ?_) (fun h12 => ?_)
    · exact absurd (by rw [h0]; rfl) h12
    · refine zg_iconst (v := nI 1) dX4_commit_15 (by decide) ?_
      refine zg_goto (tgt := 20) dX4_commit_16 (by decide) ?_
      refine zg_iconst (v := nI 1) dX4_commit_20 (by decide) ?_
      refine zg_vrt (M := zm_X4_commit) E (ci := 4) dX4_commit_21 (mt_fails (w := w) (z := true) (k := nI 1) E HM) wd_X4_102 rfl (congrArg Prod.fst (zl_Mat HM (k := 156) (t := (4, 17)) rfl (by decide) (by decide))) (by decide) (zl_Mlt HM (by decide)) rfl dh_X4_fails dn_X4_fails (Nat.le_of_ble_eq_true rfl) (Nat.le_of_ble_eq_true rfl) (Nat.le_of_ble_eq_true rfl) (zl_capM HM) rfl (fun w21 g21 => ?_)
      subst w21
      obtain ⟨J1, e1, r1, t1, f1⟩ := zu_th (w := w) hM (nI 1)
      refine zg_w e1.symm ?_
      refine zg_if_eq (tgt := 29) dX4_commit_24 (by decide) (fun h24 => ?_) (fun h24 => ?_)
      · exact absurd h24 (by decide)
      · refine zg_iconst (v := nI 0) dX4_commit_27 (by decide) ?_
        exact zg_iret rfl dX4_commit_28 ⟨rfl, J1, rfl, r1, t1, zu_frW (f1)⟩
set_option maxHeartbeats 4000000 in
set_option maxRecDepth 100000 in
theorem qa_3 {V : zv_V} (E : zv_OK V) {w : zw_W} (HM : zl_M w) {D : Nat → Nat → Nat} {H : za_H} {b : Bool} {L S : za_T} {C : za_C} {t : Bool} (hM : zu_X (zw_i w) D H b L S C t) (hb : b = false) (h0 : 0 < za_n C.1 16) (wC : za_WC C)  : zg_C V zm_X4_abort yX4_abort 8 190 [.ref 156] w (zq_p (.inl (some (.int (nI (za_n C.1 16))))) (zu_pub w D H b L S za_C0 t 0)) := by
  refine zg_of (by decide +kernel) rfl (Nat.le_of_ble_eq_true rfl) ?_
  show zg_G V zm_X4_abort 8 190 w.1 w.2.1 0 [] [(0, .ref 156)] w _
  refine zg_aload_n dX4_abort_0 rfl ?_
  refine zg_aload_n dX4_abort_1 rfl ?_
  refine zg_getI E (ci := 4) (j := 7) dX4_abort_2 rfl (congrArg Prod.fst (zl_Mat HM (k := 156) (t := (4, 17)) rfl (by decide) (by decide))) (by decide) (zl_Mlt HM (by decide)) (by decide) fl_X4_64 rfl ?_
  refine zg_v (x' := za_bit b) hM.2.2.1 ?_
  refine zg_if_ne (tgt := 15) dX4_abort_5 (by decide) (fun h5 => ?_) (fun h5 => ?_)
  · exact absurd (by rw [hb]; rfl) h5
  · refine zg_aload_n dX4_abort_8 rfl ?_
    refine zg_getI E (ci := 4) (j := 8) dX4_abort_9 rfl (congrArg Prod.fst (zl_Mat HM (k := 156) (t := (4, 17)) rfl (by decide) (by decide))) (by decide) (zl_Mlt HM (by decide)) (by decide) fl_X4_61 rfl ?_
    refine zg_v (x' := za_bit (decide (0 < za_n C.1 16))) hM.2.2.2.2.2.1.1 ?_
    refine zg_if_ne (tgt := 19) dX4_abort_12 (by decide) (fun h12 => ?_) (fun h12 => ?_)
    · refine zg_iconst (v := nI 0) dX4_abort_19 (by decide) ?_
      refine zg_iconst (v := nI 1) dX4_abort_20 (by decide) ?_
      refine zg_vrt (M := zm_X4_abort) E (ci := 4) dX4_abort_21 (mt_fails (w := w) (z := false) (k := nI 1) E HM) wd_X4_102 rfl (congrArg Prod.fst (zl_Mat HM (k := 156) (t := (4, 17)) rfl (by decide) (by decide))) (by decide) (zl_Mlt HM (by decide)) rfl dh_X4_fails dn_X4_fails (Nat.le_of_ble_eq_true rfl) (Nat.le_of_ble_eq_true rfl) (Nat.le_of_ble_eq_true rfl) (zl_capM HM) rfl (fun w21 g21 => ?_)
      subst w21
      obtain ⟨J1, e1, r1, t1, f1⟩ := zu_th (w := w) hM (nI 0)
      refine zg_w e1.symm ?_
      refine zg_if_eq (tgt := 29) dX4_abort_24 (by decide) (fun h24 => ?_) (fun h24 => ?_)
      · refine zg_aload_n dX4_abort_29 rfl ?_
        refine zg_iconst (v := nI 0) dX4_abort_30 (by decide) ?_
        refine zg_putI E (ci := 4) (j := 8) dX4_abort_31 rfl (congrArg Prod.fst (zl_Mat HM (k := 156) (t := (4, 17)) rfl (by decide) (by decide))) (by decide) (zl_Mlt HM (by decide)) (by decide) fl_X4_61 rfl rfl rfl rfl ?_
        refine zg_aload_n dX4_abort_34 rfl ?_
        refine zg_vrt (M := zm_X4_abort) E (ci := 4) dX4_abort_35 (mt_changed (w := zw_I w (zw_up J1 156 8 (nI 0))) (O := C.1) E HM (fun p hp => (zw_up_n J1 (k := 156) (j := 8) (nI 0) (Or.inl (by decide))).trans (r1.2.2.2.2.2.1.2.1 h0 p hp)) wC.1) wd_X4_111 rfl (congrArg Prod.fst (zl_Mat HM (k := 156) (t := (4, 17)) rfl (by decide) (by decide))) (by decide) (zl_Mlt HM (by decide)) rfl dh_X4_changed dn_X4_changed (Nat.le_of_ble_eq_true rfl) (Nat.le_of_ble_eq_true rfl) (Nat.le_of_ble_eq_true rfl) (zl_capM HM) rfl (fun w35 g35 => ?_)
        subst w35
        exact zg_iret rfl dX4_abort_38 ⟨rfl, _, rfl, ⟨zu_fD r1.1 (zu_frS J1 8 (nI 0)), zu_fH r1.2.1 (zu_frS J1 8 (nI 0)), zu_fs r1.2.2.1 (zu_frS J1 8 (nI 0)), zu_fL r1.2.2.2.1 (zu_frS J1 8 (nI 0)), zu_fS r1.2.2.2.2.1 (zu_frS J1 8 (nI 0)), zu_c0 (zw_up_s _ _ _ _), zu_fs r1.2.2.2.2.2.2 (zu_frS J1 8 (nI 0))⟩, zu_fs t1 (zu_frS J1 8 (nI 0)), zu_frW (zu_frT f1 (zu_frS J1 8 (nI 0)))⟩
      · exact absurd rfl h24
    · exact absurd h12 (by rw [decide_eq_true h0]; decide)
set_option maxHeartbeats 4000000 in
set_option maxRecDepth 100000 in
theorem ql_1 {V : zv_V} (E : zv_OK V) {w : zw_W} (HM : zl_M w) {D : Nat → Nat → Nat} {H : za_H} {b : Bool} {L S : za_T} {C : za_C} {t : Bool} (hM : zu_X (zw_i w) D H b L S C t) (hb : b = true)  : zg_C V zm_X4_flush yX4_flush 8 190 [.ref 156] w (zq_p (.inl (some (.int (nI 0)))) (zu_pub w D H b L S C t 1)) := by
  refine zg_of (by decide +kernel) rfl (Nat.le_of_ble_eq_true rfl) ?_
  show zg_G V zm_X4_flush 8 190 w.1 w.2.1 0 [] [(0, .ref 156)] w _
  refine zg_aload_n dX4_flush_0 rfl ?_
  refine zg_aload_n dX4_flush_1 rfl ?_
  refine zg_getI E (ci := 4) (j := 7) dX4_flush_2 rfl (congrArg Prod.fst (zl_Mat HM (k := 156) (t := (4, 17)) rfl (by decide) (by decide))) (by decide) (zl_Mlt HM (by decide)) (by decide) fl_X4_64 rfl ?_
  refine zg_v (x' := za_bit true) (hM.2.2.1.trans (congrArg za_bit hb)) ?_
  refine zg_iconst (v := nI 1) dX4_flush_5 (by decide) ?_
  refine zg_vrt (M := zm_X4_flush) E (ci := 4) dX4_flush_6 (mt_fails (w := w) (z := true) (k := nI 1) E HM) wd_X4_102 rfl (congrArg Prod.fst (zl_Mat HM (k := 156) (t := (4, 17)) rfl (by decide) (by decide))) (by decide) (zl_Mlt HM (by decide)) rfl dh_X4_fails dn_X4_fails (Nat.le_of_ble_eq_true rfl) (Nat.le_of_ble_eq_true rfl) (Nat.le_of_ble_eq_true rfl) (zl_capM HM) rfl (fun w6 g6 => ?_)
  subst w6
  obtain ⟨J1, e1, r1, t1, f1⟩ := zu_th (w := w) hM (nI 1)
  refine zg_w e1.symm ?_
  refine zg_if_eq (tgt := 14) dX4_flush_9 (by decide) (fun h9 => ?_) (fun h9 => ?_)
  · exact absurd h9 (by decide)
  · refine zg_iconst (v := nI 0) dX4_flush_12 (by decide) ?_
    exact zg_iret rfl dX4_flush_13 ⟨rfl, J1, rfl, r1, t1, zu_frW (f1)⟩
set_option maxHeartbeats 4000000 in
set_option maxRecDepth 100000 in
theorem ql_2 {V : zv_V} (E : zv_OK V) {w : zw_W} (HM : zl_M w) {D : Nat → Nat → Nat} {H : za_H} {b : Bool} {L S : za_T} {C : za_C} {t : Bool} (hM : zu_X (zw_i w) D H b L S C t) (hb : b = false) (hW : za_WH H) : zg_C V zm_X4_flush yX4_flush 8 190 [.ref 156] w (zq_p (.inl (some (.int (nI H.1)))) (zu_pub w (za_car D H za_all H.1) (0, H.2) b L (if t then L else S) C false 0)) := by
  refine zg_of (by decide +kernel) rfl (Nat.le_of_ble_eq_true rfl) ?_
  show zg_G V zm_X4_flush 8 190 w.1 w.2.1 0 [] [(0, .ref 156)] w _
  refine zg_aload_n dX4_flush_0 rfl ?_
  refine zg_aload_n dX4_flush_1 rfl ?_
  refine zg_getI E (ci := 4) (j := 7) dX4_flush_2 rfl (congrArg Prod.fst (zl_Mat HM (k := 156) (t := (4, 17)) rfl (by decide) (by decide))) (by decide) (zl_Mlt HM (by decide)) (by decide) fl_X4_64 rfl ?_
  refine zg_v (x' := za_bit false) (hM.2.2.1.trans (congrArg za_bit hb)) ?_
  refine zg_iconst (v := nI 1) dX4_flush_5 (by decide) ?_
  refine zg_vrt (M := zm_X4_flush) E (ci := 4) dX4_flush_6 (mt_fails (w := w) (z := false) (k := nI 1) E HM) wd_X4_102 rfl (congrArg Prod.fst (zl_Mat HM (k := 156) (t := (4, 17)) rfl (by decide) (by decide))) (by decide) (zl_Mlt HM (by decide)) rfl dh_X4_fails dn_X4_fails (Nat.le_of_ble_eq_true rfl) (Nat.le_of_ble_eq_true rfl) (Nat.le_of_ble_eq_true rfl) (zl_capM HM) rfl (fun w6 g6 => ?_)
  subst w6
  obtain ⟨J1, e1, r1, t1, f1⟩ := zu_th (w := w) hM (nI 0)
  refine zg_w e1.symm ?_
  refine zg_if_eq (tgt := 14) dX4_flush_9 (by decide) (fun h9 => ?_) (fun h9 => ?_)
  · refine zg_aload_n dX4_flush_14 rfl ?_
    refine zg_vrt (M := zm_X4_flush) E (ci := 4) dX4_flush_15 (mt_flushed (w := zw_I w J1) E HM r1 hW) wd_X4_118 rfl (congrArg Prod.fst (zl_Mat HM (k := 156) (t := (4, 17)) rfl (by decide) (by decide))) (by decide) (zl_Mlt HM (by decide)) rfl dh_X4_flushed dn_X4_flushed (Nat.le_of_ble_eq_true rfl) (Nat.le_of_ble_eq_true rfl) (Nat.le_of_ble_eq_true rfl) (zl_capM HM) rfl (fun w15 g15 => ?_)
    obtain ⟨J2, rfl, r2, f2⟩ := g15
    refine zg_w (w' := zw_I w J2) rfl ?_
    exact zg_iret rfl dX4_flush_18 ⟨rfl, J2, rfl, r2, (zu_fs t1 f2), zu_frW (zu_frT f1 f2)⟩
  · exact absurd rfl h9

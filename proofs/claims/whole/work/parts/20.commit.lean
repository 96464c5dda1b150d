/-! The class's commit: pages and table held back, turned over. -/
set_option maxHeartbeats 4000000 in
set_option maxRecDepth 100000 in
theorem kt_holdBack {V : zv_V} (E : zv_OK V) {w : zw_W} (HX : zl_X w) {D : Nat → Nat → Nat} {H : za_H} {b : Bool} {L S : za_T} {C : za_C} {p : Nat} (hp : p < 16) (hX : zr_X (zw_i w) D H b L S C) (hH : za_WH H) (h : C.1 p ≠ 0) (h77 : H.1 < 77) : zg_C V zm_X3_holdBackPage yX3_holdBackPage 2 130 [.ref 1, .int (nI p)] w (zq_p (.inl none) (zr_to w 0 156 (zr_X · D (za_hold H (C.1 p) (C.2.1 p)) b L S (za_spl C p true)))) := by
  refine zg_of (by decide +kernel) rfl (Nat.le_of_ble_eq_true rfl) ?_
  show zg_G V zm_X3_holdBackPage 2 130 w.1 w.2.1 0 [] [(0, .ref 1), (1, .int (nI p))] w _
  refine zg_aload_n dX3_holdBackPage_0 rfl ?_
  refine zg_getR E (ci := 3) (j := 1) (r := 51) dX3_holdBackPage_1 rfl (congrArg Prod.fst (zl_at HX (k := 1) (t := (3, 7)) rfl (by decide) (by decide))) (by decide) (zl_lt HX (by decide)) (by decide) fl_X3_17 rfl (zl_rf HX rfl (by decide) (by decide)) ?_
  refine zg_aload_n dX3_holdBackPage_4 rfl ?_
  refine zg_getR E (ci := 3) (j := 4) (r := 135) dX3_holdBackPage_5 rfl (congrArg Prod.fst (zl_at HX (k := 1) (t := (3, 7)) rfl (by decide) (by decide))) (by decide) (zl_lt HX (by decide)) (by decide) fl_X3_34 rfl (zl_rf HX rfl (by decide) (by decide)) ?_
  refine zg_getR E (ci := 0) (j := 0) (r := 136) dX3_holdBackPage_8 rfl (congrArg Prod.fst (zl_at HX (k := 135) (t := (0, 4)) rfl (by decide) (by decide))) (by decide) (zl_lt HX (by decide)) (by decide) fl_X3_222 rfl (zl_rf HX rfl (by decide) (by decide)) ?_
  refine zg_iload_n dX3_holdBackPage_11 rfl ?_
  refine zg_iald E (j := p) dX3_holdBackPage_12 (zl_at HX (k := 136) (t := (10, 16)) rfl (by decide) (by decide)) (by decide) (zl_lt HX (by decide)) rfl (by omega) (by decide) ?_
  refine zg_v (x' := nI (C.1 p)) (hX.2.2.2.2.2.1 p hp) ?_
  refine zg_aload_n dX3_holdBackPage_13 rfl ?_
  refine zg_getR E (ci := 3) (j := 4) (r := 135) dX3_holdBackPage_14 rfl (congrArg Prod.fst (zl_at HX (k := 1) (t := (3, 7)) rfl (by decide) (by decide))) (by decide) (zl_lt HX (by decide)) (by decide) fl_X3_34 rfl (zl_rf HX rfl (by decide) (by decide)) ?_
  refine zg_getR E (ci := 0) (j := 1) (r := 137) dX3_holdBackPage_17 rfl (congrArg Prod.fst (zl_at HX (k := 135) (t := (0, 4)) rfl (by decide) (by decide))) (by decide) (zl_lt HX (by decide)) (by decide) fl_X3_61 rfl (zl_rf HX rfl (by decide) (by decide)) ?_
  refine zg_iload_n dX3_holdBackPage_20 rfl ?_
  refine zg_aald E (j := p) (r := 138 + p) dX3_holdBackPage_21 (zl_at HX (k := 137) (t := (13, 16)) rfl (by decide) (by decide)) (by decide) (zl_lt HX (by decide)) rfl (by omega) (by decide) (zl_rf HX (zl_pag (by omega)).2 (by decide) (by decide)) ?_
  refine zg_vrt (M := zm_X3_holdBackPage) E (ci := 1) dX3_holdBackPage_22 (kt_rowadd E HX hX.2.1 h77 (zl_at HX (zl_pag hp).1 (by omega) (by omega)) (by omega) (zl_lt HX (by omega)) (by omega) (hX.2.2.2.2.2.2.2 p hp h).1) wd_X3_239 rfl (congrArg Prod.fst (zl_at HX (k := 51) (t := (1, 3)) rfl (by decide) (by decide))) (by decide) (zl_lt HX (by decide)) rfl dh_X1_add dn_X1_add (Nat.le_of_ble_eq_true rfl) (Nat.le_of_ble_eq_true rfl) (Nat.le_of_ble_eq_true rfl) (zl_cap HX) rfl (fun w22 g22 => ?_)
  obtain ⟨J1, rfl, r1, f1⟩ := g22
  have hx1 := zr_Xh hX r1 f1
  refine zg_w (w' := zw_I w J1) rfl ?_
  refine zg_aload_n dX3_holdBackPage_25 rfl ?_
  refine zg_getR E (ci := 3) (j := 4) (r := 135) dX3_holdBackPage_26 rfl (congrArg Prod.fst (zl_at HX (k := 1) (t := (3, 7)) rfl (by decide) (by decide))) (by decide) (zl_lt HX (by decide)) (by decide) fl_X3_34 rfl (zl_rf HX rfl (by decide) (by decide)) ?_
  refine zg_getR E (ci := 0) (j := 2) (r := 154) dX3_holdBackPage_29 rfl (congrArg Prod.fst (zl_at HX (k := 135) (t := (0, 4)) rfl (by decide) (by decide))) (by decide) (zl_lt HX (by decide)) (by decide) fl_X3_75 rfl (zl_rf HX rfl (by decide) (by decide)) ?_
  refine zg_iload_n dX3_holdBackPage_32 rfl ?_
  refine zg_iconst (v := nI 1) dX3_holdBackPage_33 (by decide) ?_
  refine zg_zast E (j := p) (y := nI 1) dX3_holdBackPage_34 (zl_at HX (k := 154) (t := (11, 16)) rfl (by decide) (by decide)) (by decide) (zl_lt HX (by decide)) rfl (by omega) (by decide) rfl ?_
  exact zg_vret rfl dX3_holdBackPage_35 ⟨rfl, _, rfl, zr_Xc hx1 h77 (zk_spl (z := true) hx1.2.2.2.2.2 rfl) (fun a ha => zw_up_row _ _ _ (by omega)), fun a ha => (zw_up_row _ _ _ (by omega)).trans (f1 a (by omega))⟩
theorem kt_has {V : zv_V} (E : zv_OK V) {w : zw_W} (HX : zl_X w) {C : za_C} {p : Nat} (hp : p < 16) (hC : zr_C (zw_i w) C) (wC : za_WC C) {bz : Bool} (hb : bz = true ↔ C.1 p ≠ 0) : zg_C V zm_X0_has yX0_has 0 0 [.ref 135, .int (nI p)] w (zq_p (.inl (some (.int (za_bit bz)))) (· = w)) := by
  cases bz
  · have h : C.1 p = 0 := Classical.byContradiction fun z => absurd (hb.mpr z) (by decide)
    exact ct_has_n E HX hp ((hC.1 p hp).trans (congrArg nI h))
  · exact ct_has_y E HX hp (fun z => hb.mp rfl ((nI_eq (by have := wC.1 p hp; omega) (by decide)).mp ((hC.1 p hp).symm.trans z)))
theorem kt_openPlace {V : zv_V} (E : zv_OK V) {w : zw_W} (HX : zl_X w) {L : za_T} {C : za_C} {p : Nat} (hp : p < 16) (hL : zw_i w 132 p = nI (L.1 p)) (hC : zr_C (zw_i w) C) (wC : za_WC C) : zg_C V zm_X3_openPlace yX3_openPlace 1 21 [.ref 1, .int (nI p)] w (zq_p (.inl (some (.int (nI (za_op L C p))))) (· = w)) := by
  unfold za_op
  by_cases h : C.1 p = 0
  · rw [if_pos h, ← hL]
    exact ct_openPlace_n E HX hp ((hC.1 p hp).trans (congrArg nI h))
  · rw [if_neg h, ← hC.1 p hp]
    exact ct_openPlace_y E HX hp (fun z => h ((nI_eq (by have := wC.1 p hp; omega) (by decide)).mp ((hC.1 p hp).symm.trans z)))
set_option maxHeartbeats 4000000 in
set_option maxRecDepth 100000 in
theorem lp_unsp {V : zv_V} (E : zv_OK V) {w : zw_W} {n0 u0 : Nat} {Q : zg_O → zw_W → Prop} (HX : zl_X w) {D : Nat → Nat → Nat} {H : za_H} {b : Bool} {L S : za_T} {C : za_C} (hH : za_WH H) (h60 : H.1 ≤ 60) (wC : za_WC C) (hq : ∀ J Z, zr_X J D (za_un C H 16) b L S (C.1, C.2.1, Z) → (∀ a, 156 ≤ a → J a = zw_i w a) → Q (.inl none) (zw_I w J)) : ∀ (n i : Nat) (J : Nat → Nat → Int32) (Z : Nat → Bool), i ≤ 16 → 16 + 1 ≤ i + n → zr_X J D (za_un C H i) b L S (C.1, C.2.1, Z) → (∀ q, i ≤ q → Z q = C.2.2 q) → (∀ a, 156 ≤ a → J a = zw_i w a) → zg_G V zm_X3_holdBackUnspilledPages 3 160 n0 u0 2 [] [(1, .int (nI i)), (0, .ref 1)] (zw_I w J) Q := by
  intro n
  induction n with
  | zero =>
    intro i J Z hi hn
    exact absurd hn (by omega)
  | succ n ih =>
    intro i J Z hi hn k0 k1 k2
    refine zg_iload_n dX3_holdBackUnspilledPages_2 rfl ?_
    refine zg_bipush (v := nI 16) dX3_holdBackUnspilledPages_3 (by decide) ?_
    refine zg_icmp_ge (tgt := 42) dX3_holdBackUnspilledPages_5 (by decide) (fun h5 => ?_) (fun h5 => ?_)
    · obtain rfl : i = 16 := by have := zn_ge h5 (by omega) (by omega); omega
      exact zg_vret rfl dX3_holdBackUnspilledPages_42 (hq J Z k0 k2)
    · have hlt : i < 16 := zn_lt h5 (by omega) (by omega)
      have hle := za_un_le C H i
      have hWi := za_un_W hH h60 wC i (by omega)
      have hbz : ∃ bz : Bool, bz = true ↔ C.1 i ≠ 0 := zb_ex _
      obtain ⟨bz, hbz⟩ := hbz
      refine zg_aload_n dX3_holdBackUnspilledPages_8 rfl ?_
      refine zg_getR E (ci := 3) (j := 4) (r := 135) dX3_holdBackUnspilledPages_9 rfl (congrArg Prod.fst (zl_at HX (k := 1) (t := (3, 7)) rfl (by decide) (by decide))) (by decide) (zl_lt HX (by decide)) (by decide) fl_X3_34 rfl (zl_rf HX rfl (by decide) (by decide)) ?_
      refine zg_iload_n dX3_holdBackUnspilledPages_12 rfl ?_
      refine zg_vrt (M := zm_X3_holdBackUnspilledPages) E (ci := 0) dX3_holdBackUnspilledPages_13 (kt_has (w := zw_I w J) E HX hlt k0.2.2.2.2.2 wC hbz) wd_X3_68 rfl (congrArg Prod.fst (zl_at HX (k := 135) (t := (0, 4)) rfl (by decide) (by decide))) (by decide) (zl_lt HX (by decide)) rfl dh_X0_has dn_X0_has (Nat.le_of_ble_eq_true rfl) (Nat.le_of_ble_eq_true rfl) (Nat.le_of_ble_eq_true rfl) (zl_cap HX) rfl (fun w13 g13 => ?_)
      subst w13
      refine zg_if_eq (tgt := 36) dX3_holdBackUnspilledPages_16 (by decide) (fun h16 => ?_) (fun h16 => ?_)
      · have hun : za_un C H (i + 1) = za_un C H i := if_neg (fun z => absurd (hbz.mpr z.1) (by rw [za_bit0 h16]; decide))
        refine zg_iinc (v := nI (i + 1)) (lv' := [(1, .int (nI (i + 1))), (0, .ref 1)]) dX3_holdBackUnspilledPages_36 rfl (nI_1 i) (by decide) rfl ?_
        refine zg_goto (tgt := 2) dX3_holdBackUnspilledPages_39 (by decide) ?_
        refine zg_l [0, 1] rfl ?_
        exact zg_s rfl rfl rfl (ih (i + 1) J Z (by omega) (by omega) (by rw [hun]; exact k0) (fun q hq => k1 q (by omega)) k2)
      · have h0 := hbz.mp (za_bit1 h16)
        refine zg_aload_n dX3_holdBackUnspilledPages_19 rfl ?_
        refine zg_getR E (ci := 3) (j := 4) (r := 135) dX3_holdBackUnspilledPages_20 rfl (congrArg Prod.fst (zl_at HX (k := 1) (t := (3, 7)) rfl (by decide) (by decide))) (by decide) (zl_lt HX (by decide)) (by decide) fl_X3_34 rfl (zl_rf HX rfl (by decide) (by decide)) ?_
        refine zg_getR E (ci := 0) (j := 2) (r := 154) dX3_holdBackUnspilledPages_23 rfl (congrArg Prod.fst (zl_at HX (k := 135) (t := (0, 4)) rfl (by decide) (by decide))) (by decide) (zl_lt HX (by decide)) (by decide) fl_X3_75 rfl (zl_rf HX rfl (by decide) (by decide)) ?_
        refine zg_iload_n dX3_holdBackUnspilledPages_26 rfl ?_
        refine zg_zald E (j := i) dX3_holdBackUnspilledPages_27 (zl_at HX (k := 154) (t := (11, 16)) rfl (by decide) (by decide)) (by decide) (zl_lt HX (by decide)) rfl (by omega) (by decide) ?_
        refine zg_v (x' := za_bit (Z i)) (k0.2.2.2.2.2.2.2 i hlt h0).2 ?_
        refine zg_if_ne (tgt := 36) dX3_holdBackUnspilledPages_28 (by decide) (fun h28 => ?_) (fun h28 => ?_)
        · have hun : za_un C H (i + 1) = za_un C H i := if_neg (fun z => absurd (k1 i (Nat.le_refl i)) (by rw [za_bit1 h28, z.2]; decide))
          refine zg_iinc (v := nI (i + 1)) (lv' := [(1, .int (nI (i + 1))), (0, .ref 1)]) dX3_holdBackUnspilledPages_36 rfl (nI_1 i) (by decide) rfl ?_
          refine zg_goto (tgt := 2) dX3_holdBackUnspilledPages_39 (by decide) ?_
          refine zg_l [0, 1] rfl ?_
          exact zg_s rfl rfl rfl (ih (i + 1) J Z (by omega) (by omega) (by rw [hun]; exact k0) (fun q hq => k1 q (by omega)) k2)
        · have hun : za_un C H (i + 1) = za_hold (za_un C H i) (C.1 i) (C.2.1 i) := if_pos ⟨h0, (k1 i (Nat.le_refl i)).symm.trans (za_bit0 h28)⟩
          refine zg_aload_n dX3_holdBackUnspilledPages_31 rfl ?_
          refine zg_iload_n dX3_holdBackUnspilledPages_32 rfl ?_
          refine zg_vrt (M := zm_X3_holdBackUnspilledPages) E (ci := 3) dX3_holdBackUnspilledPages_33 (kt_holdBack (w := zw_I w J) E HX hlt k0 hWi h0 (by omega)) wd_X3_94 rfl (congrArg Prod.fst (zl_at HX (k := 1) (t := (3, 7)) rfl (by decide) (by decide))) (by decide) (zl_lt HX (by decide)) rfl dh_X3_holdBackPage dn_X3_holdBackPage (Nat.le_of_ble_eq_true rfl) (Nat.le_of_ble_eq_true rfl) (Nat.le_of_ble_eq_true rfl) (zl_cap HX) rfl (fun w33 g33 => ?_)
          obtain ⟨J1, rfl, r1, f1⟩ := g33
          refine zg_w (w' := zw_I w J1) rfl ?_
          refine zg_iinc (v := nI (i + 1)) (lv' := [(1, .int (nI (i + 1))), (0, .ref 1)]) dX3_holdBackUnspilledPages_36 rfl (nI_1 i) (by decide) rfl ?_
          refine zg_goto (tgt := 2) dX3_holdBackUnspilledPages_39 (by decide) ?_
          refine zg_l [0, 1] rfl ?_
          exact zg_s rfl rfl rfl (ih (i + 1) J1 (zw_ro Z i true) (by omega) (by omega) (by rw [hun]; exact r1) (fun q hq => (zw_ro_n _ _ (by omega)).trans (k1 q (by omega))) (fun a ha => (f1 a (Or.inr ha)).trans (k2 a ha)))
set_option maxHeartbeats 4000000 in
set_option maxRecDepth 100000 in
theorem kt_unsp {V : zv_V} (E : zv_OK V) {w : zw_W} (HX : zl_X w) {D : Nat → Nat → Nat} {H : za_H} {b : Bool} {L S : za_T} {C : za_C} (hX : zr_X (zw_i w) D H b L S C) (hH : za_WH H) (h60 : H.1 ≤ 60) (wC : za_WC C) : zg_C V zm_X3_holdBackUnspilledPages yX3_holdBackUnspilledPages 3 160 [.ref 1] w (zq_p (.inl none) (zr_to w 0 156 (fun J => ∃ Z, zr_X J D (za_un C H 16) b L S (C.1, C.2.1, Z)))) := by
  refine zg_of (by decide +kernel) rfl (Nat.le_of_ble_eq_true rfl) ?_
  show zg_G V zm_X3_holdBackUnspilledPages 3 160 w.1 w.2.1 0 [] [(0, .ref 1)] w _
  refine zg_iconst (v := nI 0) dX3_holdBackUnspilledPages_0 (by decide) ?_
  refine zg_istore_n (lv' := [(1, .int (nI 0)), (0, .ref 1)]) dX3_holdBackUnspilledPages_1 (by decide) rfl ?_
  exact zg_s rfl rfl rfl (lp_unsp E HX hH h60 wC (fun J Z h1 h2 => ⟨rfl, J, rfl, ⟨Z, h1⟩, fun a ha => (ha.elim (fun z => absurd z (Nat.not_lt_zero _)) (h2 a) : J a = zw_i w a)⟩) 17 0 (zw_i w) C.2.2 (by omega) (by omega) hX (fun q _ => rfl) (fun a _ => rfl))
set_option maxHeartbeats 4000000 in
set_option maxRecDepth 100000 in
theorem lp_table {V : zv_V} (E : zv_OK V) {w : zw_W} {n0 u0 : Nat} {Q : zg_O → zw_W → Prop} (HX : zl_X w) {D : Nat → Nat → Nat} {H : za_H} {b : Bool} {L S : za_T} {C : za_C} (hX : zr_X (zw_i w) D H b L S C) (hH : za_WH H) (h77 : H.1 < 77) (wC : za_WC C) {t : Nat} (hq : ∀ J, zr_X J D (za_hold H t (za_op L C)) b L S C → (∀ a, 156 ≤ a → J a = zw_i w a) → Q (.inl none) (zw_I w J)) : ∀ (n i : Nat) (J : Nat → Nat → Int32), i ≤ 16 → 16 + 1 ≤ i + n → (∀ q, q < i → J 155 q = nI (za_op L C q)) → (∀ a, a < 155 ∨ 156 ≤ a → J a = zw_i w a) → zg_G V zm_X3_holdBackTable 2 130 n0 u0 2 [] [(2, .int (nI i)), (0, .ref 1), (1, .int (nI t))] (zw_I w J) Q := by
  intro n
  induction n with
  | zero =>
    intro i J hi hn
    exact absurd hn (by omega)
  | succ n ih =>
    intro i J hi hn k0 k1
    have hx : zr_X J D H b L S C := zr_Xf hX hH.1 k1
    refine zg_iload_n dX3_holdBackTable_2 rfl ?_
    refine zg_bipush (v := nI 16) dX3_holdBackTable_3 (by decide) ?_
    refine zg_icmp_ge (tgt := 25) dX3_holdBackTable_5 (by decide) (fun h5 => ?_) (fun h5 => ?_)
    · obtain rfl : i = 16 := by have := zn_ge h5 (by omega) (by omega); omega
      refine zg_aload_n dX3_holdBackTable_25 rfl ?_
      refine zg_getR E (ci := 3) (j := 1) (r := 51) dX3_holdBackTable_26 rfl (congrArg Prod.fst (zl_at HX (k := 1) (t := (3, 7)) rfl (by decide) (by decide))) (by decide) (zl_lt HX (by decide)) (by decide) fl_X3_17 rfl (zl_rf HX rfl (by decide) (by decide)) ?_
      refine zg_iload_n dX3_holdBackTable_29 rfl ?_
      refine zg_aload_n dX3_holdBackTable_30 rfl ?_
      refine zg_getR E (ci := 3) (j := 5) (r := 155) dX3_holdBackTable_31 rfl (congrArg Prod.fst (zl_at HX (k := 1) (t := (3, 7)) rfl (by decide) (by decide))) (by decide) (zl_lt HX (by decide)) (by decide) fl_X3_38 rfl (zl_rf HX rfl (by decide) (by decide)) ?_
      refine zg_vrt (M := zm_X3_holdBackTable) E (ci := 1) dX3_holdBackTable_34 (kt_rowadd (w := zw_I w J) E HX hx.2.1 h77 (zl_at HX (k := 155) (t := (10, 16)) rfl (by decide) (by decide)) (by decide) (zl_lt HX (by decide)) (by decide) k0) wd_X3_239 rfl (congrArg Prod.fst (zl_at HX (k := 51) (t := (1, 3)) rfl (by decide) (by decide))) (by decide) (zl_lt HX (by decide)) rfl dh_X1_add dn_X1_add (Nat.le_of_ble_eq_true rfl) (Nat.le_of_ble_eq_true rfl) (Nat.le_of_ble_eq_true rfl) (zl_cap HX) rfl (fun w34 g34 => ?_)
      obtain ⟨J1, rfl, r1, f1⟩ := g34
      refine zg_w (w' := zw_I w J1) rfl ?_
      exact zg_vret rfl dX3_holdBackTable_37 (hq J1 (zr_Xh hx r1 f1) (fun a ha => (f1 a (by omega)).trans (k1 a (by omega))))
    · have hlt : i < 16 := zn_lt h5 (by omega) (by omega)
      refine zg_aload_n dX3_holdBackTable_8 rfl ?_
      refine zg_getR E (ci := 3) (j := 5) (r := 155) dX3_holdBackTable_9 rfl (congrArg Prod.fst (zl_at HX (k := 1) (t := (3, 7)) rfl (by decide) (by decide))) (by decide) (zl_lt HX (by decide)) (by decide) fl_X3_38 rfl (zl_rf HX rfl (by decide) (by decide)) ?_
      refine zg_iload_n dX3_holdBackTable_12 rfl ?_
      refine zg_aload_n dX3_holdBackTable_13 rfl ?_
      refine zg_iload_n dX3_holdBackTable_14 rfl ?_
      refine zg_vrt (M := zm_X3_holdBackTable) E (ci := 3) dX3_holdBackTable_15 (kt_openPlace (w := zw_I w J) (L := L) E HX hlt (hx.2.2.2.1.1 i hlt) hx.2.2.2.2.2 wC) wd_X3_140 rfl (congrArg Prod.fst (zl_at HX (k := 1) (t := (3, 7)) rfl (by decide) (by decide))) (by decide) (zl_lt HX (by decide)) rfl dh_X3_openPlace dn_X3_openPlace (Nat.le_of_ble_eq_true rfl) (Nat.le_of_ble_eq_true rfl) (Nat.le_of_ble_eq_true rfl) (zl_cap HX) rfl (fun w15 g15 => ?_)
      subst w15
      refine zg_iast E (j := i) dX3_holdBackTable_18 (zl_at HX (k := 155) (t := (10, 16)) rfl (by decide) (by decide)) (by decide) (zl_lt HX (by decide)) rfl (by omega) (by decide) ?_
      refine zg_iinc (v := nI (i + 1)) (lv' := [(2, .int (nI (i + 1))), (0, .ref 1), (1, .int (nI t))]) dX3_holdBackTable_19 rfl (nI_1 i) (by decide) rfl ?_
      refine zg_goto (tgt := 2) dX3_holdBackTable_22 (by decide) ?_
      refine zg_l [0, 1, 2] rfl ?_
      exact zg_s rfl rfl rfl (ih (i + 1) _ (by omega) (by omega) (fun q hq => (Nat.lt_or_ge q i).elim (fun z => (zw_up_n _ _ (Or.inr (by omega))).trans (k0 q z)) (fun z => by have e : q = i := (by omega); subst e; exact zw_up_s _ _ _ _)) (fun a ha => (zw_up_row _ _ _ (by omega)).trans (k1 a ha)))
set_option maxHeartbeats 4000000 in
set_option maxRecDepth 100000 in
theorem kt_table {V : zv_V} (E : zv_OK V) {w : zw_W} (HX : zl_X w) {D : Nat → Nat → Nat} {H : za_H} {b : Bool} {L S : za_T} {C : za_C} (hX : zr_X (zw_i w) D H b L S C) (hH : za_WH H) (h77 : H.1 < 77) (wC : za_WC C) {t : Nat} : zg_C V zm_X3_holdBackTable yX3_holdBackTable 2 130 [.ref 1, .int (nI t)] w (zq_p (.inl none) (zr_to w 0 156 (zr_X · D (za_hold H t (za_op L C)) b L S C))) := by
  refine zg_of (by decide +kernel) rfl (Nat.le_of_ble_eq_true rfl) ?_
  show zg_G V zm_X3_holdBackTable 2 130 w.1 w.2.1 0 [] [(0, .ref 1), (1, .int (nI t))] w _
  refine zg_iconst (v := nI 0) dX3_holdBackTable_0 (by decide) ?_
  refine zg_istore_n (lv' := [(2, .int (nI 0)), (0, .ref 1), (1, .int (nI t))]) dX3_holdBackTable_1 (by decide) rfl ?_
  exact zg_s rfl rfl rfl (lp_table E HX hX hH h77 wC (fun J h1 h2 => ⟨rfl, J, rfl, h1, fun a ha => (ha.elim (fun z => absurd z (Nat.not_lt_zero _)) (h2 a) : J a = zw_i w a)⟩) 17 0 (zw_i w) (by omega) (by omega) (fun q hq => absurd hq (Nat.not_lt_zero q)) (fun a _ => rfl))
theorem zk_tu {J : Nat → Nat → Int32} {L : za_T} {C : za_C} {i : Nat} (h : ∀ q, q < 16 → J 132 q = nI (if q < i then za_op L C q else L.1 q)) : ∀ q, q < 16 → zw_up J 132 i (nI (za_op L C i)) 132 q = nI (if q < i + 1 then za_op L C q else L.1 q) := by
  intro q hq
  by_cases e : q = i
  · rw [e, zw_up_s, if_pos (Nat.lt_succ_self i)]
  · rw [zw_up_n _ _ (Or.inr e), h q hq]
    by_cases g : q < i
    · rw [if_pos g, if_pos (by omega)]
    · rw [if_neg g, if_neg (by omega)]
theorem zk_t2 {I J K : Nat → Nat → Int32} {D : Nat → Nat → Nat} {H : za_H} {b : Bool} {L S : za_T} {C : za_C} {t : Nat} (hX : zr_X I D H b L S C) (w : H.1 ≤ 77) (h : ∀ q, q < 16 → J 132 q = nI (if q < 16 then za_op L C q else L.1 q)) (g : ∀ a, a < 132 ∨ 133 ≤ a → J a = I a) (e : K = zw_up (zw_up J 131 1 (nI t)) 131 2 (zw_up J 131 1 (nI t) 131 2 + nI 1)) : zr_X K D H b (za_op L C, t, L.2.2 + nI 1) S C := by
  subst e
  refine zr_Xl hX w ⟨fun p hp => ?_, ?_, ?_⟩ (fun a ha => (zw_up_row _ _ _ (by omega)).trans ((zw_up_row _ _ _ (by omega)).trans (g a (by omega))))
  · rw [zw_up_row _ _ _ (by decide), zw_up_row _ _ _ (by decide), h p hp, if_pos hp]
  · rw [zw_up_n _ _ (by decide), zw_up_s]
  · rw [zw_up_s, zw_up_n _ _ (by decide), g 131 (by omega), hX.2.2.2.1.2.2]
set_option maxHeartbeats 4000000 in
set_option maxRecDepth 100000 in
theorem lp_turn {V : zv_V} (E : zv_OK V) {w : zw_W} {n0 u0 : Nat} {Q : zg_O → zw_W → Prop} (HX : zl_X w) {D : Nat → Nat → Nat} {H : za_H} {b : Bool} {L S : za_T} {C : za_C} (hX : zr_X (zw_i w) D H b L S C) (hH : za_WH H) (h77 : H.1 < 77) (wC : za_WC C) {t : Nat} (ht : t < 48) (hq : ∀ J, zr_X J D (za_hold H 0 (za_ms (L.2.2 + nI 1) t)) b (za_op L C, t, L.2.2 + nI 1) S za_C0 → (∀ a, 156 ≤ a → J a = zw_i w a) → Q (.inl none) (zw_I w J)) : ∀ (n i : Nat) (J : Nat → Nat → Int32), i ≤ 16 → 16 + 1 ≤ i + n → (∀ q, q < 16 → J 132 q = nI (if q < i then za_op L C q else L.1 q)) → (∀ a, a < 132 ∨ 133 ≤ a → J a = zw_i w a) → zg_G V zm_X3_turnOver 2 130 n0 u0 2 [] [(2, .int (nI i)), (0, .ref 1), (1, .int (nI t))] (zw_I w J) Q := by
  intro n
  induction n with
  | zero =>
    intro i J hi hn
    exact absurd hn (by omega)
  | succ n ih =>
    intro i J hi hn k0 k1
    have hc : zr_C J C := zr_Ce hX.2.2.2.2.2 (fun a h1 h2 i => congrFun (k1 a (by omega)) i)
    refine zg_iload_n dX3_turnOver_2 rfl ?_
    refine zg_bipush (v := nI 16) dX3_turnOver_3 (by decide) ?_
    refine zg_icmp_ge (tgt := 28) dX3_turnOver_5 (by decide) (fun h5 => ?_) (fun h5 => ?_)
    · obtain rfl : i = 16 := by have := zn_ge h5 (by omega) (by omega); omega
      refine zg_aload_n dX3_turnOver_28 rfl ?_
      refine zg_getR E (ci := 3) (j := 2) (r := 131) dX3_turnOver_29 rfl (congrArg Prod.fst (zl_at HX (k := 1) (t := (3, 7)) rfl (by decide) (by decide))) (by decide) (zl_lt HX (by decide)) (by decide) fl_X3_24 rfl (zl_rf HX rfl (by decide) (by decide)) ?_
      refine zg_iload_n dX3_turnOver_32 rfl ?_
      refine zg_putI E (ci := 2) (j := 1) dX3_turnOver_33 rfl (congrArg Prod.fst (zl_at HX (k := 131) (t := (2, 3)) rfl (by decide) (by decide))) (by decide) (zl_lt HX (by decide)) (by decide) fl_X3_173 rfl rfl rfl rfl ?_
      refine zg_aload_n dX3_turnOver_36 rfl ?_
      refine zg_getR E (ci := 3) (j := 2) (r := 131) dX3_turnOver_37 rfl (congrArg Prod.fst (zl_at HX (k := 1) (t := (3, 7)) rfl (by decide) (by decide))) (by decide) (zl_lt HX (by decide)) (by decide) fl_X3_24 rfl (zl_rf HX rfl (by decide) (by decide)) ?_
      refine zg_dup dX3_turnOver_40 rfl ?_
      refine zg_getI E (ci := 2) (j := 2) dX3_turnOver_41 rfl (congrArg Prod.fst (zl_at HX (k := 131) (t := (2, 3)) rfl (by decide) (by decide))) (by decide) (zl_lt HX (by decide)) (by decide) fl_X3_118 rfl ?_
      refine zg_iconst (v := nI 1) dX3_turnOver_44 (by decide) ?_
      refine zg_iadd dX3_turnOver_45 ?_
      refine zg_putI E (ci := 2) (j := 2) dX3_turnOver_46 rfl (congrArg Prod.fst (zl_at HX (k := 131) (t := (2, 3)) rfl (by decide) (by decide))) (by decide) (zl_lt HX (by decide)) (by decide) fl_X3_118 rfl rfl rfl rfl ?_
      obtain ⟨J2, e2, hx2, hf2⟩ : ∃ K, zw_si (zw_si (zw_I w J) 131 1 (nI t)) 131 2 ((zw_i (zw_si (zw_I w J) 131 1 (nI t)) 131 2) + (nI 1)) = zw_I w K ∧ (zr_X K D H b (za_op L C, t, L.2.2 + nI 1) S C) ∧ ∀ a, 156 ≤ a → K a = zw_i w a := ⟨_, rfl, zk_t2 hX hH.1 k0 k1 rfl, fun a ha => (zw_up_row _ _ _ (by omega)).trans ((zw_up_row _ _ _ (by omega)).trans (k1 a (by omega)))⟩
      refine zg_w e2.symm ?_
      refine zg_aload_n dX3_turnOver_49 rfl ?_
      refine zg_getR E (ci := 3) (j := 4) (r := 135) dX3_turnOver_50 rfl (congrArg Prod.fst (zl_at HX (k := 1) (t := (3, 7)) rfl (by decide) (by decide))) (by decide) (zl_lt HX (by decide)) (by decide) fl_X3_34 rfl (zl_rf HX rfl (by decide) (by decide)) ?_
      refine zg_vrt (M := zm_X3_turnOver) E (ci := 0) dX3_turnOver_53 (kt_close (w := zw_I w J2) E HX) wd_X3_121 rfl (congrArg Prod.fst (zl_at HX (k := 135) (t := (0, 4)) rfl (by decide) (by decide))) (by decide) (zl_lt HX (by decide)) rfl dh_X0_close dn_X0_close (Nat.le_of_ble_eq_true rfl) (Nat.le_of_ble_eq_true rfl) (Nat.le_of_ble_eq_true rfl) (zl_cap HX) rfl (fun w53 g53 => ?_)
      obtain ⟨J3, rfl, r3, f3⟩ := g53
      have hx3 := zr_Xc hx2 hH.1 r3 f3
      refine zg_w (w' := zw_I w J3) rfl ?_
      refine zg_aload_n dX3_turnOver_56 rfl ?_
      refine zg_getR E (ci := 3) (j := 5) (r := 155) dX3_turnOver_57 rfl (congrArg Prod.fst (zl_at HX (k := 1) (t := (3, 7)) rfl (by decide) (by decide))) (by decide) (zl_lt HX (by decide)) (by decide) fl_X3_38 rfl (zl_rf HX rfl (by decide) (by decide)) ?_
      refine zg_aload_n dX3_turnOver_60 rfl ?_
      refine zg_getR E (ci := 3) (j := 2) (r := 131) dX3_turnOver_61 rfl (congrArg Prod.fst (zl_at HX (k := 1) (t := (3, 7)) rfl (by decide) (by decide))) (by decide) (zl_lt HX (by decide)) (by decide) fl_X3_24 rfl (zl_rf HX rfl (by decide) (by decide)) ?_
      refine zg_getI E (ci := 2) (j := 2) dX3_turnOver_64 rfl (congrArg Prod.fst (zl_at HX (k := 131) (t := (2, 3)) rfl (by decide) (by decide))) (by decide) (zl_lt HX (by decide)) (by decide) fl_X3_118 rfl ?_
      refine zg_v (x' := L.2.2 + nI 1) hx3.2.2.2.1.2.2 ?_
      refine zg_iload_n dX3_turnOver_67 rfl ?_
      refine zg_sret (M := zm_X3_turnOver) E dX3_turnOver_68 (ct_putMaster (w := zw_I w J3) (k := 155) E (zl_at HX (k := 155) (t := (10, 16)) rfl (by decide) (by decide)) (by decide) (zl_lt HX (by decide)) ht (zl_cap HX)) wd_X3_194 dh_X3_putMaster dn_X3_putMaster (Nat.le_of_ble_eq_true rfl) (Nat.le_of_ble_eq_true rfl) (Nat.le_of_ble_eq_true rfl) (zl_cap HX) rfl (fun w68 g68 => ?_)
      obtain ⟨f, hf, rfl⟩ := g68
      have hx4 : zr_X (zw_ro J3 155 f) D H b (za_op L C, t, L.2.2 + nI 1) S za_C0 := zr_Xf hx3 hH.1 (fun a ha => zw_ro_n _ _ (by omega))
      refine zg_w (w' := zw_I w (zw_ro J3 155 f)) rfl ?_
      refine zg_aload_n dX3_turnOver_71 rfl ?_
      refine zg_getR E (ci := 3) (j := 1) (r := 51) dX3_turnOver_72 rfl (congrArg Prod.fst (zl_at HX (k := 1) (t := (3, 7)) rfl (by decide) (by decide))) (by decide) (zl_lt HX (by decide)) (by decide) fl_X3_17 rfl (zl_rf HX rfl (by decide) (by decide)) ?_
      refine zg_iconst (v := nI 0) dX3_turnOver_75 (by decide) ?_
      refine zg_aload_n dX3_turnOver_76 rfl ?_
      refine zg_getR E (ci := 3) (j := 5) (r := 155) dX3_turnOver_77 rfl (congrArg Prod.fst (zl_at HX (k := 1) (t := (3, 7)) rfl (by decide) (by decide))) (by decide) (zl_lt HX (by decide)) (by decide) fl_X3_38 rfl (zl_rf HX rfl (by decide) (by decide)) ?_
      refine zg_vrt (M := zm_X3_turnOver) E (ci := 1) dX3_turnOver_80 (kt_rowadd (w := zw_I w (zw_ro J3 155 f)) (t := 0) (b := za_ms (L.2.2 + nI 1) t) E HX hx4.2.1 h77 (zl_at HX (k := 155) (t := (10, 16)) rfl (by decide) (by decide)) (by decide) (zl_lt HX (by decide)) (by decide) (fun i hi => (congrFun (zw_ro_s J3 155 f) i).trans (hf i hi))) wd_X3_239 rfl (congrArg Prod.fst (zl_at HX (k := 51) (t := (1, 3)) rfl (by decide) (by decide))) (by decide) (zl_lt HX (by decide)) rfl dh_X1_add dn_X1_add (Nat.le_of_ble_eq_true rfl) (Nat.le_of_ble_eq_true rfl) (Nat.le_of_ble_eq_true rfl) (zl_cap HX) rfl (fun w80 g80 => ?_)
      obtain ⟨J5, rfl, r5, f5⟩ := g80
      refine zg_w (w' := zw_I w J5) rfl ?_
      exact zg_vret rfl dX3_turnOver_83 (hq J5 (zr_Xh hx4 r5 f5) (fun a ha => (f5 a (by omega)).trans ((zw_ro_n _ _ (by omega)).trans ((f3 a (by omega)).trans (hf2 a ha)))))
    · have hlt : i < 16 := zn_lt h5 (by omega) (by omega)
      refine zg_aload_n dX3_turnOver_8 rfl ?_
      refine zg_getR E (ci := 3) (j := 2) (r := 131) dX3_turnOver_9 rfl (congrArg Prod.fst (zl_at HX (k := 1) (t := (3, 7)) rfl (by decide) (by decide))) (by decide) (zl_lt HX (by decide)) (by decide) fl_X3_24 rfl (zl_rf HX rfl (by decide) (by decide)) ?_
      refine zg_getR E (ci := 2) (j := 0) (r := 132) dX3_turnOver_12 rfl (congrArg Prod.fst (zl_at HX (k := 131) (t := (2, 3)) rfl (by decide) (by decide))) (by decide) (zl_lt HX (by decide)) (by decide) fl_X3_72 rfl (zl_rf HX rfl (by decide) (by decide)) ?_
      refine zg_iload_n dX3_turnOver_15 rfl ?_
      refine zg_aload_n dX3_turnOver_16 rfl ?_
      refine zg_iload_n dX3_turnOver_17 rfl ?_
      refine zg_vrt (M := zm_X3_turnOver) E (ci := 3) dX3_turnOver_18 (kt_openPlace (w := zw_I w J) (L := L) E HX hlt ((k0 i hlt).trans (congrArg nI (if_neg (by omega)))) hc wC) wd_X3_140 rfl (congrArg Prod.fst (zl_at HX (k := 1) (t := (3, 7)) rfl (by decide) (by decide))) (by decide) (zl_lt HX (by decide)) rfl dh_X3_openPlace dn_X3_openPlace (Nat.le_of_ble_eq_true rfl) (Nat.le_of_ble_eq_true rfl) (Nat.le_of_ble_eq_true rfl) (zl_cap HX) rfl (fun w18 g18 => ?_)
      subst w18
      refine zg_iast E (j := i) dX3_turnOver_21 (zl_at HX (k := 132) (t := (10, 16)) rfl (by decide) (by decide)) (by decide) (zl_lt HX (by decide)) rfl (by omega) (by decide) ?_
      refine zg_iinc (v := nI (i + 1)) (lv' := [(2, .int (nI (i + 1))), (0, .ref 1), (1, .int (nI t))]) dX3_turnOver_22 rfl (nI_1 i) (by decide) rfl ?_
      refine zg_goto (tgt := 2) dX3_turnOver_25 (by decide) ?_
      refine zg_l [0, 1, 2] rfl ?_
      exact zg_s rfl rfl rfl (ih (i + 1) _ (by omega) (by omega) (zk_tu k0) (fun a ha => (zw_up_row _ _ _ (by omega)).trans (k1 a ha)))
set_option maxHeartbeats 4000000 in
set_option maxRecDepth 100000 in
theorem kt_turn {V : zv_V} (E : zv_OK V) {w : zw_W} (HX : zl_X w) {D : Nat → Nat → Nat} {H : za_H} {b : Bool} {L S : za_T} {C : za_C} (hX : zr_X (zw_i w) D H b L S C) (hH : za_WH H) (h77 : H.1 < 77) (wC : za_WC C) {t : Nat} (ht : t < 48) : zg_C V zm_X3_turnOver yX3_turnOver 2 130 [.ref 1, .int (nI t)] w (zq_p (.inl none) (zr_to w 0 156 (zr_X · D (za_hold H 0 (za_ms (L.2.2 + nI 1) t)) b (za_op L C, t, L.2.2 + nI 1) S za_C0))) := by
  refine zg_of (by decide +kernel) rfl (Nat.le_of_ble_eq_true rfl) ?_
  show zg_G V zm_X3_turnOver 2 130 w.1 w.2.1 0 [] [(0, .ref 1), (1, .int (nI t))] w _
  refine zg_iconst (v := nI 0) dX3_turnOver_0 (by decide) ?_
  refine zg_istore_n (lv' := [(2, .int (nI 0)), (0, .ref 1), (1, .int (nI t))]) dX3_turnOver_1 (by decide) rfl ?_
  exact zg_s rfl rfl rfl (lp_turn E HX hX hH h77 wC ht (fun J h1 h2 => ⟨rfl, J, rfl, h1, fun a ha => (ha.elim (fun z => absurd z (Nat.not_lt_zero _)) (h2 a) : J a = zw_i w a)⟩) 17 0 (zw_i w) (by omega) (by omega) (fun q hq => (hX.2.2.2.1.1 q hq).trans (congrArg nI (if_neg (Nat.not_lt_zero q)).symm)) (fun a _ => rfl))

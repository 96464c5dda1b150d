/-! The class's mount, its free sectors, its changes. -/
theorem zb_ex (P : Prop) : ∃ b : Bool, b = true ↔ P := by
  by_cases h : P
  · exact ⟨true, fun _ => h, fun _ => rfl⟩
  · exact ⟨false, fun z => absurd z (by decide), fun z => absurd z h⟩
theorem zb_ff {b : Bool} {P : Prop} (h : b = true ↔ P) (n : ¬ P) : b = false := by
  cases b
  · rfl
  · exact absurd (h.mp rfl) n
set_option maxHeartbeats 4000000 in
set_option maxRecDepth 100000 in
theorem kt_mount {V : zv_V} (E : zv_OK V) {w : zw_W} (HX : zl_X w) {D : Nat → Nat → Nat} {H : za_H} {b : Bool} {L S : za_T} {C : za_C} (hX : zr_X (zw_i w) D H b L S C) (hD : za_WD D) (hH : za_WH H) {ok : Bool} (hok : ok = true ↔ za_mr D ∧ za_tr D)  : zg_C V zm_X3_mount yX3_mount 2 130 [.ref 1] w (zq_p (.inl none) (zr_to w 0 156 (zr_X · D (0, H.2) (!ok) (if ok then za_mt D else L) (if ok then za_mt D else S) za_C0))) := by
  refine zg_of (by decide +kernel) rfl (Nat.le_of_ble_eq_true rfl) ?_
  show zg_G V zm_X3_mount 2 130 w.1 w.2.1 0 [] [(0, .ref 1)] w _
  obtain ⟨bm, hm⟩ := zb_ex (za_mr D)
  obtain ⟨bt, ht⟩ := zb_ex (za_tr D)
  refine zg_aload_n dX3_mount_0 rfl ?_
  refine zg_getR E (ci := 3) (j := 1) (r := 51) dX3_mount_1 rfl (congrArg Prod.fst (zl_at HX (k := 1) (t := (3, 7)) rfl (by decide) (by decide))) (by decide) (zl_lt HX (by decide)) (by decide) fl_X3_17 rfl (zl_rf HX rfl (by decide) (by decide)) ?_
  refine zg_iconst (v := nI 0) dX3_mount_4 (by decide) ?_
  refine zg_putI E (ci := 1) (j := 2) dX3_mount_5 rfl (congrArg Prod.fst (zl_at HX (k := 51) (t := (1, 3)) rfl (by decide) (by decide))) (by decide) (zl_lt HX (by decide)) (by decide) fl_X3_86 rfl rfl rfl rfl ?_
  obtain ⟨J0, e0, hx0, hf0⟩ : ∃ J, zw_si w 51 2 (nI 0) = zw_I w J ∧ (zr_X J D (0, H.2) b L S C) ∧ ∀ a, 156 ≤ a → J a = zw_i w a := ⟨_, rfl, zr_Xh hX ⟨zw_up_s _ _ _ _, fun k hk => absurd hk (Nat.not_lt_zero k), fun k hk => absurd hk (Nat.not_lt_zero k)⟩ (fun a ha => zw_up_row _ _ _ (by omega)), fun a ha => zw_up_row _ _ _ (by omega)⟩
  refine zg_w e0.symm ?_
  refine zg_aload_n dX3_mount_8 rfl ?_
  refine zg_getR E (ci := 3) (j := 4) (r := 135) dX3_mount_9 rfl (congrArg Prod.fst (zl_at HX (k := 1) (t := (3, 7)) rfl (by decide) (by decide))) (by decide) (zl_lt HX (by decide)) (by decide) fl_X3_34 rfl (zl_rf HX rfl (by decide) (by decide)) ?_
  refine zg_vrt (M := zm_X3_mount) E (ci := 0) dX3_mount_12 (kt_close (w := zw_I w J0) E HX) wd_X3_121 rfl (congrArg Prod.fst (zl_at HX (k := 135) (t := (0, 4)) rfl (by decide) (by decide))) (by decide) (zl_lt HX (by decide)) rfl dh_X0_close dn_X0_close (Nat.le_of_ble_eq_true rfl) (Nat.le_of_ble_eq_true rfl) (Nat.le_of_ble_eq_true rfl) (zl_cap HX) rfl (fun w12 g12 => ?_)
  obtain ⟨J1, rfl, r1, f1⟩ := g12
  have hx1 := zr_Xc hx0 (Nat.zero_le _) r1 f1
  have hf1 : ∀ a, 156 ≤ a → J1 a = zw_i w a := fun a ha => (f1 a (by omega)).trans (hf0 a ha)
  refine zg_w (w' := zw_I w J1) rfl ?_
  refine zg_aload_n dX3_mount_15 rfl ?_
  refine zg_aload_n dX3_mount_16 rfl ?_
  refine zg_vrt (M := zm_X3_mount) E (ci := 3) dX3_mount_17 (ct_masterIsRight (w := zw_I w J1) E HX hx1.1 hD hm) wd_X3_198 rfl (congrArg Prod.fst (zl_at HX (k := 1) (t := (3, 7)) rfl (by decide) (by decide))) (by decide) (zl_lt HX (by decide)) rfl dh_X3_masterIsRight dn_X3_masterIsRight (Nat.le_of_ble_eq_true rfl) (Nat.le_of_ble_eq_true rfl) (Nat.le_of_ble_eq_true rfl) (zl_cap HX) rfl (fun w17 g17 => ?_)
  subst w17
  refine zg_if_eq (tgt := 30) dX3_mount_20 (by decide) (fun h20 => ?_) (fun h20 => ?_)
  · have hz : ok = false := zb_ff hok (fun z => absurd (hm.mpr z.1) (by rw [za_bit0 h20]; decide))
    refine zg_iconst (v := nI 1) dX3_mount_30 (by decide) ?_
    refine zg_goto (tgt := 35) dX3_mount_31 (by decide) ?_
    refine zg_putI E (ci := 3) (j := 6) dX3_mount_35 rfl (congrArg Prod.fst (zl_at HX (k := 1) (t := (3, 7)) rfl (by decide) (by decide))) (by decide) (zl_lt HX (by decide)) (by decide) fl_X3_131 rfl rfl rfl rfl ?_
    obtain ⟨J2, e2, hx2, hf2⟩ : ∃ J, zw_si (zw_I w J1) 1 6 (nI 1) = zw_I w J ∧ (zr_X J D (0, H.2) true L S za_C0) ∧ ∀ a, 156 ≤ a → J a = zw_i w a := ⟨_, rfl, zr_Xb hx1 (Nat.zero_le _) (zw_up_s _ _ _ _) (fun a ha => zw_up_row _ _ _ (by omega)), fun a ha => (zw_up_row _ _ _ (by omega)).trans (hf1 a ha)⟩
    refine zg_w e2.symm ?_
    refine zg_aload_n dX3_mount_38 rfl ?_
    refine zg_getI E (ci := 3) (j := 6) dX3_mount_39 rfl (congrArg Prod.fst (zl_at HX (k := 1) (t := (3, 7)) rfl (by decide) (by decide))) (by decide) (zl_lt HX (by decide)) (by decide) fl_X3_131 rfl ?_
    refine zg_v (x' := za_bit true) hx2.2.2.1 ?_
    refine zg_if_ne (tgt := 126) dX3_mount_42 (by decide) (fun h42 => ?_) (fun h42 => ?_)
    · exact zg_vret rfl dX3_mount_126 ⟨rfl, J2, rfl, by rw [hz]; exact hx2, fun a ha => ha.elim (fun z => absurd z (Nat.not_lt_zero _)) (hf2 a)⟩
    · exact absurd h42 (by decide)
  · have hm1 := za_bit1 h20
    refine zg_aload_n dX3_mount_23 rfl ?_
    refine zg_vrt (M := zm_X3_mount) E (ci := 3) dX3_mount_24 (ct_tableIsRight (w := zw_I w J1) E HX hx1.1 hD ht) wd_X3_201 rfl (congrArg Prod.fst (zl_at HX (k := 1) (t := (3, 7)) rfl (by decide) (by decide))) (by decide) (zl_lt HX (by decide)) rfl dh_X3_tableIsRight dn_X3_tableIsRight (Nat.le_of_ble_eq_true rfl) (Nat.le_of_ble_eq_true rfl) (Nat.le_of_ble_eq_true rfl) (zl_cap HX) rfl (fun w24 g24 => ?_)
    subst w24
    refine zg_if_ne (tgt := 34) dX3_mount_27 (by decide) (fun h27 => ?_) (fun h27 => ?_)
    · have hz : ok = true := hok.mpr ⟨hm.mp hm1, ht.mp (za_bit1 h27)⟩
      have htr := ht.mp (za_bit1 h27)
      have hl1 := htr.1
      have hl4 := htr.2.1
      refine zg_iconst (v := nI 0) dX3_mount_34 (by decide) ?_
      refine zg_putI E (ci := 3) (j := 6) dX3_mount_35 rfl (congrArg Prod.fst (zl_at HX (k := 1) (t := (3, 7)) rfl (by decide) (by decide))) (by decide) (zl_lt HX (by decide)) (by decide) fl_X3_131 rfl rfl rfl rfl ?_
      obtain ⟨J2, e2, hx2, hf2⟩ : ∃ J, zw_si (zw_I w J1) 1 6 (nI 0) = zw_I w J ∧ (zr_X J D (0, H.2) false L S za_C0) ∧ ∀ a, 156 ≤ a → J a = zw_i w a := ⟨_, rfl, zr_Xb hx1 (Nat.zero_le _) (zw_up_s _ _ _ _) (fun a ha => zw_up_row _ _ _ (by omega)), fun a ha => (zw_up_row _ _ _ (by omega)).trans (hf1 a ha)⟩
      refine zg_w e2.symm ?_
      refine zg_aload_n dX3_mount_38 rfl ?_
      refine zg_getI E (ci := 3) (j := 6) dX3_mount_39 rfl (congrArg Prod.fst (zl_at HX (k := 1) (t := (3, 7)) rfl (by decide) (by decide))) (by decide) (zl_lt HX (by decide)) (by decide) fl_X3_131 rfl ?_
      refine zg_v (x' := za_bit false) hx2.2.2.1 ?_
      refine zg_if_ne (tgt := 126) dX3_mount_42 (by decide) (fun h42 => ?_) (fun h42 => ?_)
      · exact absurd rfl h42
      · refine zg_aload_n dX3_mount_45 rfl ?_
        refine zg_getR E (ci := 3) (j := 0) (r := 2) dX3_mount_46 rfl (congrArg Prod.fst (zl_at HX (k := 1) (t := (3, 7)) rfl (by decide) (by decide))) (by decide) (zl_lt HX (by decide)) (by decide) fl_X3_11 rfl (zl_rf HX rfl (by decide) (by decide)) ?_
        refine zg_iconst (v := nI 0) dX3_mount_49 (by decide) ?_
        refine zg_aald E (j := 0) (r := 3 + 0) dX3_mount_50 (zl_at HX (k := 2) (t := (13, 48)) rfl (by decide) (by decide)) (by decide) (zl_lt HX (by decide)) rfl (by omega) (by decide) (zl_rf HX (zl_sec (by omega)).2 (by decide) (by decide)) ?_
        refine zg_astore_n (lv' := [(1, .ref (3 + 0)), (0, .ref 1)]) dX3_mount_51 (by decide) rfl ?_
        refine zg_aload_n dX3_mount_52 rfl ?_
        refine zg_iconst (v := nI 4) dX3_mount_53 (by decide) ?_
        refine zg_iald E (j := 4) dX3_mount_54 (zl_at HX (zl_sec (by omega)).1 (by omega) (by omega)) (by omega) (zl_lt HX (by omega)) rfl (by omega) (by decide) ?_
        refine zg_v (x' := nI (D 0 4)) (hx2.1 0 (by omega) 4 (by omega)) ?_
        refine zg_istore_n (lv' := [(2, .int (nI (D 0 4))), (1, .ref (3 + 0)), (0, .ref 1)]) dX3_mount_55 (by decide) rfl ?_
        refine zg_aload_n dX3_mount_56 rfl ?_
        refine zg_getR E (ci := 3) (j := 0) (r := 2) dX3_mount_57 rfl (congrArg Prod.fst (zl_at HX (k := 1) (t := (3, 7)) rfl (by decide) (by decide))) (by decide) (zl_lt HX (by decide)) (by decide) fl_X3_11 rfl (zl_rf HX rfl (by decide) (by decide)) ?_
        refine zg_iload_n dX3_mount_60 rfl ?_
        refine zg_aald E (j := D 0 4) (r := 3 + (D 0 4)) dX3_mount_61 (zl_at HX (k := 2) (t := (13, 48)) rfl (by decide) (by decide)) (by decide) (zl_lt HX (by decide)) rfl hl4 (by decide) (zl_rf HX (zl_sec hl4).2 (by decide) (by decide)) ?_
        refine zg_iconst (v := nI 0) dX3_mount_62 (by decide) ?_
        refine zg_aload_n dX3_mount_63 rfl ?_
        refine zg_getR E (ci := 3) (j := 2) (r := 131) dX3_mount_64 rfl (congrArg Prod.fst (zl_at HX (k := 1) (t := (3, 7)) rfl (by decide) (by decide))) (by decide) (zl_lt HX (by decide)) (by decide) fl_X3_24 rfl (zl_rf HX rfl (by decide) (by decide)) ?_
        refine zg_getR E (ci := 2) (j := 0) (r := 132) dX3_mount_67 rfl (congrArg Prod.fst (zl_at HX (k := 131) (t := (2, 3)) rfl (by decide) (by decide))) (by decide) (zl_lt HX (by decide)) (by decide) fl_X3_72 rfl (zl_rf HX rfl (by decide) (by decide)) ?_
        refine zg_iconst (v := nI 0) dX3_mount_70 (by decide) ?_
        refine zg_bipush (v := nI 16) dX3_mount_71 (by decide) ?_
        refine zg_copy E (n := 16) dX3_mount_73 (by decide +kernel) (zl_at HX (zl_sec (by omega)).1 (by omega) (by omega)) (zl_at HX (k := 132) (t := (10, 16)) rfl (by decide) (by decide)) (by omega) (zl_lt HX (by omega)) (by decide) (zl_lt HX (by decide)) rfl rfl rfl (by decide) (by decide) (by decide) (by decide) (Nat.le_of_ble_eq_true rfl) (Nat.le_of_ble_eq_true rfl) ?_
        refine zg_aload_n dX3_mount_76 rfl ?_
        refine zg_getR E (ci := 3) (j := 2) (r := 131) dX3_mount_77 rfl (congrArg Prod.fst (zl_at HX (k := 1) (t := (3, 7)) rfl (by decide) (by decide))) (by decide) (zl_lt HX (by decide)) (by decide) fl_X3_24 rfl (zl_rf HX rfl (by decide) (by decide)) ?_
        refine zg_iload_n dX3_mount_80 rfl ?_
        refine zg_putI E (ci := 2) (j := 1) dX3_mount_81 rfl (congrArg Prod.fst (zl_at HX (k := 131) (t := (2, 3)) rfl (by decide) (by decide))) (by decide) (zl_lt HX (by decide)) (by decide) fl_X3_173 rfl rfl rfl rfl ?_
        obtain ⟨J3, e3, hx3, hf3⟩ : ∃ J, zw_si (zw_sa (zw_I w  J2) 132 (fun j => if j < 16 then zw_i (zw_I w  J2) (3 + (D 0 4)) j else zw_i (zw_I w  J2) 132 j)) 131 1 (nI (D 0 4)) = zw_I w J ∧ ((∀ s, s < 48 → ∀ i, i < 16 → J (3 + s) i = nI (D s i)) ∧ (∀ p, p < 16 → J 132 p = nI (D (D 0 4) p)) ∧ J 131 1 = nI (D 0 4) ∧ ∀ a, a < 131 ∨ 133 ≤ a → J a = J2 a) ∧ ∀ a, 156 ≤ a → J a = zw_i w a := ⟨_, rfl, ⟨fun s hs i hi => (congrFun ((zw_up_row _ _ _ (by omega)).trans (zw_ro_n _ _ (by omega))) i).trans (hx2.1 s hs i hi), fun p hp => (congrFun ((zw_up_row _ _ _ (by omega)).trans (zw_ro_s _ _ _)) p).trans ((if_pos hp).trans (hx2.1 _ hl4 p hp)), zw_up_s _ _ _ _, fun a ha => (zw_up_row _ _ _ (by omega)).trans (zw_ro_n _ _ (by omega))⟩, fun a ha => ((zw_up_row _ _ _ (by omega)).trans (zw_ro_n _ _ (by omega))).trans (hf2 a ha)⟩
        refine zg_w e3.symm ?_
        refine zg_aload_n dX3_mount_84 rfl ?_
        refine zg_getR E (ci := 3) (j := 2) (r := 131) dX3_mount_85 rfl (congrArg Prod.fst (zl_at HX (k := 1) (t := (3, 7)) rfl (by decide) (by decide))) (by decide) (zl_lt HX (by decide)) (by decide) fl_X3_24 rfl (zl_rf HX rfl (by decide) (by decide)) ?_
        refine zg_aload_n dX3_mount_88 rfl ?_
        refine zg_iconst (v := nI 0) dX3_mount_89 (by decide) ?_
        refine zg_iald E (j := 0) dX3_mount_90 (zl_at HX (zl_sec (by omega)).1 (by omega) (by omega)) (by omega) (zl_lt HX (by omega)) rfl (by omega) (by decide) ?_
        refine zg_v (x' := nI (D 0 0)) (hx3.1 0 (by omega) 0 (by omega)) ?_
        refine zg_bipush (v := nI 24) dX3_mount_91 (by decide) ?_
        refine zg_ishl dX3_mount_93 ?_
        refine zg_aload_n dX3_mount_94 rfl ?_
        refine zg_iconst (v := nI 1) dX3_mount_95 (by decide) ?_
        refine zg_iald E (j := 1) dX3_mount_96 (zl_at HX (zl_sec (by omega)).1 (by omega) (by omega)) (by omega) (zl_lt HX (by omega)) rfl (by omega) (by decide) ?_
        refine zg_v (x' := nI (D 0 1)) (hx3.1 0 (by omega) 1 (by omega)) ?_
        refine zg_bipush (v := nI 16) dX3_mount_97 (by decide) ?_
        refine zg_ishl dX3_mount_99 ?_
        refine zg_ior dX3_mount_100 ?_
        refine zg_aload_n dX3_mount_101 rfl ?_
        refine zg_iconst (v := nI 2) dX3_mount_102 (by decide) ?_
        refine zg_iald E (j := 2) dX3_mount_103 (zl_at HX (zl_sec (by omega)).1 (by omega) (by omega)) (by omega) (zl_lt HX (by omega)) rfl (by omega) (by decide) ?_
        refine zg_v (x' := nI (D 0 2)) (hx3.1 0 (by omega) 2 (by omega)) ?_
        refine zg_bipush (v := nI 8) dX3_mount_104 (by decide) ?_
        refine zg_ishl dX3_mount_106 ?_
        refine zg_ior dX3_mount_107 ?_
        refine zg_aload_n dX3_mount_108 rfl ?_
        refine zg_iconst (v := nI 3) dX3_mount_109 (by decide) ?_
        refine zg_iald E (j := 3) dX3_mount_110 (zl_at HX (zl_sec (by omega)).1 (by omega) (by omega)) (by omega) (zl_lt HX (by omega)) rfl (by omega) (by decide) ?_
        refine zg_v (x' := nI (D 0 3)) (hx3.1 0 (by omega) 3 (by omega)) ?_
        refine zg_ior dX3_mount_111 ?_
        refine zg_putI E (ci := 2) (j := 2) dX3_mount_112 rfl (congrArg Prod.fst (zl_at HX (k := 131) (t := (2, 3)) rfl (by decide) (by decide))) (by decide) (zl_lt HX (by decide)) (by decide) fl_X3_118 rfl rfl rfl rfl ?_
        obtain ⟨J4, e4, hx4, hf4⟩ : ∃ J, zw_si (zw_I w J3) 131 2 (((((nI (D 0 0)) <<< ((nI 24) &&& 31)) ||| ((nI (D 0 1)) <<< ((nI 16) &&& 31))) ||| ((nI (D 0 2)) <<< ((nI 8) &&& 31))) ||| (nI (D 0 3))) = zw_I w J ∧ (zr_X J D (0, H.2) false (za_mt D) S za_C0) ∧ ∀ a, 156 ≤ a → J a = zw_i w a := ⟨_, rfl, zr_Xl hx2 (Nat.zero_le _) ⟨fun p hp => by rw [zw_up_row _ _ _ (by omega)]; exact hx3.2.1 p hp, by rw [zw_up_n _ _ (by decide)]; exact hx3.2.2.1, zw_up_s _ _ _ _⟩ (fun a ha => (zw_up_row _ _ _ (by omega)).trans (hx3.2.2.2 a ha)), fun a ha => (zw_up_row _ _ _ (by omega)).trans (hf3 a ha)⟩
        refine zg_w e4.symm ?_
        refine zg_aload_n dX3_mount_115 rfl ?_
        refine zg_getR E (ci := 3) (j := 3) (r := 133) dX3_mount_116 rfl (congrArg Prod.fst (zl_at HX (k := 1) (t := (3, 7)) rfl (by decide) (by decide))) (by decide) (zl_lt HX (by decide)) (by decide) fl_X3_28 rfl (zl_rf HX rfl (by decide) (by decide)) ?_
        refine zg_aload_n dX3_mount_119 rfl ?_
        refine zg_getR E (ci := 3) (j := 2) (r := 131) dX3_mount_120 rfl (congrArg Prod.fst (zl_at HX (k := 1) (t := (3, 7)) rfl (by decide) (by decide))) (by decide) (zl_lt HX (by decide)) (by decide) fl_X3_24 rfl (zl_rf HX rfl (by decide) (by decide)) ?_
        refine zg_vrt (M := zm_X3_mount) E (ci := 2) dX3_mount_123 (kt_become (w := zw_I w J4) E HX hx4.2.2.2.1) wd_X3_210 rfl (congrArg Prod.fst (zl_at HX (k := 133) (t := (2, 3)) rfl (by decide) (by decide))) (by decide) (zl_lt HX (by decide)) rfl dh_X2_become dn_X2_become (Nat.le_of_ble_eq_true rfl) (Nat.le_of_ble_eq_true rfl) (Nat.le_of_ble_eq_true rfl) (zl_cap HX) rfl (fun w123 g123 => ?_)
        obtain ⟨J5, rfl, r5, f5⟩ := g123
        have hx5 := zr_Xs hx4 (Nat.zero_le _) r5 f5
        have hf5 : ∀ a, 156 ≤ a → J5 a = zw_i w a := fun a ha => (f5 a (by omega)).trans (hf4 a ha)
        refine zg_w (w' := zw_I w J5) rfl ?_
        exact zg_vret rfl dX3_mount_126 ⟨rfl, J5, rfl, by rw [hz]; exact hx5, fun a ha => ha.elim (fun z => absurd z (Nat.not_lt_zero _)) (hf5 a)⟩
    · have hz : ok = false := zb_ff hok (fun z => absurd (ht.mpr z.2) (by rw [za_bit0 h27]; decide))
      refine zg_iconst (v := nI 1) dX3_mount_30 (by decide) ?_
      refine zg_goto (tgt := 35) dX3_mount_31 (by decide) ?_
      refine zg_putI E (ci := 3) (j := 6) dX3_mount_35 rfl (congrArg Prod.fst (zl_at HX (k := 1) (t := (3, 7)) rfl (by decide) (by decide))) (by decide) (zl_lt HX (by decide)) (by decide) fl_X3_131 rfl rfl rfl rfl ?_
      obtain ⟨J2, e2, hx2, hf2⟩ : ∃ J, zw_si (zw_I w J1) 1 6 (nI 1) = zw_I w J ∧ (zr_X J D (0, H.2) true L S za_C0) ∧ ∀ a, 156 ≤ a → J a = zw_i w a := ⟨_, rfl, zr_Xb hx1 (Nat.zero_le _) (zw_up_s _ _ _ _) (fun a ha => zw_up_row _ _ _ (by omega)), fun a ha => (zw_up_row _ _ _ (by omega)).trans (hf1 a ha)⟩
      refine zg_w e2.symm ?_
      refine zg_aload_n dX3_mount_38 rfl ?_
      refine zg_getI E (ci := 3) (j := 6) dX3_mount_39 rfl (congrArg Prod.fst (zl_at HX (k := 1) (t := (3, 7)) rfl (by decide) (by decide))) (by decide) (zl_lt HX (by decide)) (by decide) fl_X3_131 rfl ?_
      refine zg_v (x' := za_bit true) hx2.2.2.1 ?_
      refine zg_if_ne (tgt := 126) dX3_mount_42 (by decide) (fun h42 => ?_) (fun h42 => ?_)
      · exact zg_vret rfl dX3_mount_126 ⟨rfl, J2, rfl, by rw [hz]; exact hx2, fun a ha => ha.elim (fun z => absurd z (Nat.not_lt_zero _)) (hf2 a)⟩
      · exact absurd h42 (by decide)
def za_D0 (s i : Nat) : Nat := if s = 0 then za_ms 0 1 i else 0
theorem za_D0_W : za_WD za_D0 := by
  intro s _ i _
  unfold za_D0
  split
  · exact za_ms_lt 0 (by decide) i
  · decide
theorem za_D0_a : ∀ i, i < 14 → 5 ≤ i → za_D0 0 i = 0 := by decide +kernel
theorem za_D0_m : za_mr za_D0 := ⟨fun i h1 h2 => za_D0_a i h2 h1, by decide +kernel⟩
theorem za_D0_b : za_D0 0 4 = 1 := by decide +kernel
theorem za_D0_t : za_tr za_D0 := by
  refine ⟨by rw [za_D0_b]; decide, by rw [za_D0_b]; decide, fun p hp => ?_⟩
  rw [za_D0_b]
  exact ⟨by show (0 : Nat) < 48; decide, by show (0 : Nat) ≠ 1; decide, fun h => absurd rfl h⟩
set_option maxHeartbeats 4000000 in
set_option maxRecDepth 100000 in
theorem lp_format {V : zv_V} (E : zv_OK V) {w : zw_W} {n0 u0 : Nat} {Q : zg_O → zw_W → Prop} (HX : zl_X w) {D : Nat → Nat → Nat} {H : za_H} {b : Bool} {L S : za_T} {C : za_C} (hX : zr_X (zw_i w) D H b L S C) (hH : za_WH H) (hq : ∀ J, zr_X J za_D0 (0, H.2) false (za_mt za_D0) (za_mt za_D0) za_C0 → (∀ a, 156 ≤ a → J a = zw_i w a) → Q (.inl none) (zw_I w J)) : ∀ (n i : Nat) (J : Nat → Nat → Int32), i ≤ 48 → 48 + 1 ≤ i + n → (∀ s, s < i → ∀ j, j < 16 → J (3 + s) j = nI 0) → (∀ a, a < 3 ∨ 51 ≤ a → J a = zw_i w a) → zg_G V zm_X3_formatAndMount 3 160 n0 u0 2 [] [(1, .int (nI i)), (0, .ref 1)] (zw_I w J) Q := by
  intro n
  induction n with
  | zero =>
    intro i J hi hn
    exact absurd hn (by omega)
  | succ n ih =>
    intro i J hi hn k0 k1
    refine zg_iload_n dX3_formatAndMount_2 rfl ?_
    refine zg_bipush (v := nI 48) dX3_formatAndMount_3 (by decide) ?_
    refine zg_icmp_ge (tgt := 24) dX3_formatAndMount_5 (by decide) (fun h5 => ?_) (fun h5 => ?_)
    · obtain rfl : i = 48 := by have := zn_ge h5 (by omega) (by omega); omega
      refine zg_aload_n dX3_formatAndMount_24 rfl ?_
      refine zg_getR E (ci := 3) (j := 0) (r := 2) dX3_formatAndMount_25 rfl (congrArg Prod.fst (zl_at HX (k := 1) (t := (3, 7)) rfl (by decide) (by decide))) (by decide) (zl_lt HX (by decide)) (by decide) fl_X3_11 rfl (zl_rf HX rfl (by decide) (by decide)) ?_
      refine zg_iconst (v := nI 0) dX3_formatAndMount_28 (by decide) ?_
      refine zg_aald E (j := 0) (r := 3 + 0) dX3_formatAndMount_29 (zl_at HX (k := 2) (t := (13, 48)) rfl (by decide) (by decide)) (by decide) (zl_lt HX (by decide)) rfl (by omega) (by decide) (zl_rf HX (zl_sec (by omega)).2 (by decide) (by decide)) ?_
      refine zg_iconst (v := nI 0) dX3_formatAndMount_30 (by decide) ?_
      refine zg_iconst (v := nI 1) dX3_formatAndMount_31 (by decide) ?_
      refine zg_sret (M := zm_X3_formatAndMount) E dX3_formatAndMount_32 (ct_putMaster (w := zw_I w J) (k := 3 + 0) (a := 1) E (zl_at HX (zl_sec (s := 0) (by omega)).1 (by omega) (by omega)) (by omega) (zl_lt HX (by omega)) (by decide) (zl_cap HX)) wd_X3_194 dh_X3_putMaster dn_X3_putMaster (Nat.le_of_ble_eq_true rfl) (Nat.le_of_ble_eq_true rfl) (Nat.le_of_ble_eq_true rfl) (zl_cap HX) rfl (fun w32 g32 => ?_)
      obtain ⟨f, hf, rfl⟩ := g32
      have hx : zr_X (zw_ro J (3 + 0) f) za_D0 H b L S C := zr_Xd hX hH.1 (fun s hs i hi => by
        unfold za_D0
        by_cases e : s = 0
        · subst e
          rw [zw_ro_s, if_pos rfl]
          exact hf i hi
        · rw [zw_ro_n _ _ (by omega), if_neg e]
          exact k0 s hs i hi) (fun a ha => (zw_ro_n _ _ (by omega)).trans (k1 a ha))
      have hF : ∀ a, 156 ≤ a → zw_ro J (3 + 0) f a = zw_i w a := fun a ha => (zw_ro_n _ _ (by omega)).trans (k1 a (by omega))
      refine zg_w (w' := zw_I w (zw_ro J (3 + 0) f)) rfl ?_
      refine zg_aload_n dX3_formatAndMount_35 rfl ?_
      refine zg_vrt (M := zm_X3_formatAndMount) E (ci := 3) dX3_formatAndMount_36 (kt_mount (w := zw_I w (zw_ro J (3 + 0) f)) E HX hx za_D0_W hH (ok := true) ⟨fun _ => ⟨za_D0_m, za_D0_t⟩, fun _ => rfl⟩) wd_X3_128 rfl (congrArg Prod.fst (zl_at HX (k := 1) (t := (3, 7)) rfl (by decide) (by decide))) (by decide) (zl_lt HX (by decide)) rfl dh_X3_mount dn_X3_mount (Nat.le_of_ble_eq_true rfl) (Nat.le_of_ble_eq_true rfl) (Nat.le_of_ble_eq_true rfl) (zl_cap HX) rfl (fun w36 g36 => ?_)
      obtain ⟨J1, rfl, r1, f1⟩ := g36
      refine zg_w (w' := zw_I w J1) rfl ?_
      exact zg_vret rfl dX3_formatAndMount_39 (hq J1 r1 (fun a ha => (f1 a (Or.inr ha)).trans (hF a ha)))
    · have hlt : i < 48 := zn_lt h5 (by omega) (by omega)
      refine zg_aload_n dX3_formatAndMount_8 rfl ?_
      refine zg_getR E (ci := 3) (j := 0) (r := 2) dX3_formatAndMount_9 rfl (congrArg Prod.fst (zl_at HX (k := 1) (t := (3, 7)) rfl (by decide) (by decide))) (by decide) (zl_lt HX (by decide)) (by decide) fl_X3_11 rfl (zl_rf HX rfl (by decide) (by decide)) ?_
      refine zg_iload_n dX3_formatAndMount_12 rfl ?_
      refine zg_aald E (j := i) (r := 3 + i) dX3_formatAndMount_13 (zl_at HX (k := 2) (t := (13, 48)) rfl (by decide) (by decide)) (by decide) (zl_lt HX (by decide)) rfl (by omega) (by decide) (zl_rf HX (zl_sec (by omega)).2 (by decide) (by decide)) ?_
      refine zg_iconst (v := nI 0) dX3_formatAndMount_14 (by decide) ?_
      refine zg_sret (M := zm_X3_formatAndMount) E dX3_formatAndMount_15 (ct_fill (w := zw_I w J) E (zl_at HX (zl_sec hlt).1 (by omega) (by omega)) (by omega) (zl_lt HX (by omega)) (by decide)) wd_X3_188 dh_J7_fill_53178 dn_J7_fill_53178 (Nat.le_of_ble_eq_true rfl) (Nat.le_of_ble_eq_true rfl) (Nat.le_of_ble_eq_true rfl) (zl_cap HX) rfl (fun w15 g15 => ?_)
      subst w15
      refine zg_iinc (v := nI (i + 1)) (lv' := [(1, .int (nI (i + 1))), (0, .ref 1)]) dX3_formatAndMount_18 rfl (nI_1 i) (by decide) rfl ?_
      refine zg_goto (tgt := 2) dX3_formatAndMount_21 (by decide) ?_
      refine zg_l [0, 1] rfl ?_
      exact zg_s rfl rfl rfl (ih (i + 1) _ (by omega) (by omega) (fun s hs j hj => (Nat.lt_or_ge s i).elim (fun z => (congrFun (zw_ro_n _ _ (by omega)) j).trans (k0 s z j hj)) (fun z => by have e : s = i := (by omega); subst e; exact (congrFun (zw_ro_s _ _ _) j).trans (zs_win _ _ hj))) (fun a ha => (zw_ro_n _ _ (by omega)).trans (k1 a ha)))
set_option maxHeartbeats 4000000 in
set_option maxRecDepth 100000 in
theorem kt_format {V : zv_V} (E : zv_OK V) {w : zw_W} (HX : zl_X w) {D : Nat → Nat → Nat} {H : za_H} {b : Bool} {L S : za_T} {C : za_C} (hX : zr_X (zw_i w) D H b L S C) (hH : za_WH H) : zg_C V zm_X3_formatAndMount yX3_formatAndMount 3 160 [.ref 1] w (zq_p (.inl none) (zr_to w 0 156 (zr_X · za_D0 (0, H.2) false (za_mt za_D0) (za_mt za_D0) za_C0))) := by
  refine zg_of (by decide +kernel) rfl (Nat.le_of_ble_eq_true rfl) ?_
  show zg_G V zm_X3_formatAndMount 3 160 w.1 w.2.1 0 [] [(0, .ref 1)] w _
  refine zg_iconst (v := nI 0) dX3_formatAndMount_0 (by decide) ?_
  refine zg_istore_n (lv' := [(1, .int (nI 0)), (0, .ref 1)]) dX3_formatAndMount_1 (by decide) rfl ?_
  exact zg_s rfl rfl rfl (lp_format E HX hX hH (fun J h1 h2 => ⟨rfl, J, rfl, h1, fun a ha => (ha.elim (fun z => absurd z (Nat.not_lt_zero _)) (h2 a) : J a = zw_i w a)⟩) 49 0 (zw_i w) (by omega) (by omega) (fun s hs => absurd hs (Nat.not_lt_zero s)) (fun a _ => rfl))

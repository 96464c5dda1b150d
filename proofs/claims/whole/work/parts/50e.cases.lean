/-! The law's cases, on. -/
set_option maxHeartbeats 4000000 in
set_option maxRecDepth 100000 in
theorem cs_abort {V : zv_V} (E : zv_OK V) (hL : zv_L V ≤ 3072) {n0 u0 i n : Nat} {w : zw_W} {Q : zg_O → zw_W → Prop} (hi : i + 6 ≤ zv_L V) (hI : zy_I n w) (hn : n ≤ 600) (K : ∀ w2, zy_I (n + 1) w2 → zg_G V zm_L_law 10 260 n0 u0 1123 [] [(0, .ref 0), (1, .ref 1), (2, .ref 156), (3, .ref 165), (4, .int (nI i))] w2 Q) : zg_G V zm_L_law 10 260 n0 u0 575 [] [(0, .ref 0), (1, .ref 1), (2, .ref 156), (3, .ref 165), (4, .int (nI i))] w Q := by
  have HX := (zy_IL hI).1
  have HM := (zy_IL hI).2.1
  refine zg_aload_n dL_law_575 rfl ?_
  refine zg_aload_n dL_law_576 rfl ?_
  obtain ⟨kd, a, a', hk, ha, -, hC⟩ := sp_abort E hI hn 
  refine zg_sret (M := zm_L_law) E dL_law_577 hC wd_L_95 dh_L_abort dn_L_abort (Nat.le_of_ble_eq_true rfl) (Nat.le_of_ble_eq_true rfl) (Nat.le_of_ble_eq_true rfl) (zl_capM HM) rfl (fun w577 g577 => ?_)
  obtain ⟨HL1, hv1, hC1⟩ := g577
  have HM := HL1.2.1
  refine zg_istore (lv' := [(5, .int (nI kd)), (0, .ref 0), (1, .ref 1), (2, .ref 156), (3, .ref 165), (4, .int (nI i))]) dL_law_580 (by decide) rfl ?_
  refine zg_aload_n dL_law_582 rfl ?_
  refine zg_vrt (M := zm_L_law) E (ci := 4) dL_law_583 hC1 wd_L_98 rfl (congrArg Prod.fst (zl_Mat HM (k := 156) (t := (4, 17)) rfl (by decide) (by decide))) (by decide) (zl_Mlt HM (by decide)) rfl dh_X4_abort dn_X4_abort (Nat.le_of_ble_eq_true rfl) (Nat.le_of_ble_eq_true rfl) (Nat.le_of_ble_eq_true rfl) (zl_capM HM) rfl (fun w583 g583 => ?_)
  obtain ⟨I9, t9, l9⟩ := g583
  have HL2 := zy_IL I9
  have HM := HL2.2.1
  refine zg_istore (lv' := [(6, .int a'), (5, .int (nI kd)), (0, .ref 0), (1, .ref 1), (2, .ref 156), (3, .ref 165), (4, .int (nI i))]) dL_law_586 (by decide) rfl ?_
  refine zg_aload_n dL_law_588 rfl ?_
  refine zg_vrt (M := zm_L_law) E (ci := 4) dL_law_589 (mt_thrown E HM) wd_L_74 rfl (congrArg Prod.fst (zl_Mat HM (k := 156) (t := (4, 17)) rfl (by decide) (by decide))) (by decide) (zl_Mlt HM (by decide)) rfl dh_X4_thrown dn_X4_thrown (Nat.le_of_ble_eq_true rfl) (Nat.le_of_ble_eq_true rfl) (Nat.le_of_ble_eq_true rfl) (zl_capM HM) rfl (fun w589 g589 => ?_)
  subst w589
  refine zg_v (x' := nI kd) t9 ?_
  refine zg_iload dL_law_592 rfl ?_
  refine zg_icmp_eq (tgt := 599) dL_law_594 (by decide) (fun h594 => ?_) (fun h594 => ?_)
  · refine zg_iload dL_law_599 rfl ?_
    refine zg_if_ne (tgt := 616) dL_law_601 (by decide) (fun h601 => ?_) (fun h601 => ?_)
    · refine zg_goto (tgt := 1123) dL_law_616 (by decide) ?_
      refine zg_l [2, 3, 4, 5, 6] rfl ?_
      exact K w583 I9
    · have k0 : kd = 0 := zy_k0 hk h601
      refine zg_aload_n dL_law_604 rfl ?_
      refine zg_iconst (v := nI 0) dL_law_605 (by decide) ?_
      refine zg_lald E (j := 0) dL_law_606 HL2.2.2.2.1 (by decide) (by have := HL2.2.2.1; omega) rfl (by omega) (by decide) ?_
      refine zg_vl (x' := (a').toInt64) (by rw [l9, hv1 k0, ha k0]) ?_
      refine zg_iload dL_law_607 rfl ?_
      refine zg_i2l dL_law_609 ?_
      refine zg_lcmp dL_law_610 ?_
      refine zg_if_eq (tgt := 616) dL_law_611 (by decide) (fun h611 => ?_) (fun h611 => ?_)
      · refine zg_goto (tgt := 1123) dL_law_616 (by decide) ?_
        refine zg_l [2, 3, 4, 5, 6] rfl ?_
        exact K w583 I9
      · exact absurd (zy_cmp _) h611
  · exact absurd rfl h594
set_option maxHeartbeats 4000000 in
set_option maxRecDepth 100000 in
theorem cs_flush {V : zv_V} (E : zv_OK V) (hL : zv_L V ≤ 3072) {n0 u0 i n : Nat} {w : zw_W} {Q : zg_O → zw_W → Prop} (hi : i + 6 ≤ zv_L V) (hI : zy_I n w) (hn : n ≤ 600) (K : ∀ w2, zy_I (n + 1) w2 → zg_G V zm_L_law 10 260 n0 u0 1123 [] [(0, .ref 0), (1, .ref 1), (2, .ref 156), (3, .ref 165), (4, .int (nI i))] w2 Q) : zg_G V zm_L_law 10 260 n0 u0 619 [] [(0, .ref 0), (1, .ref 1), (2, .ref 156), (3, .ref 165), (4, .int (nI i))] w Q := by
  have HX := (zy_IL hI).1
  have HM := (zy_IL hI).2.1
  refine zg_aload_n dL_law_619 rfl ?_
  refine zg_aload_n dL_law_620 rfl ?_
  obtain ⟨kd, a, a', hk, ha, -, hC⟩ := sp_flush E hI hn 
  refine zg_sret (M := zm_L_law) E dL_law_621 hC wd_L_99 dh_L_flush dn_L_flush (Nat.le_of_ble_eq_true rfl) (Nat.le_of_ble_eq_true rfl) (Nat.le_of_ble_eq_true rfl) (zl_capM HM) rfl (fun w621 g621 => ?_)
  obtain ⟨HL1, hv1, hC1⟩ := g621
  have HM := HL1.2.1
  refine zg_istore (lv' := [(5, .int (nI kd)), (0, .ref 0), (1, .ref 1), (2, .ref 156), (3, .ref 165), (4, .int (nI i))]) dL_law_624 (by decide) rfl ?_
  refine zg_aload_n dL_law_626 rfl ?_
  refine zg_vrt (M := zm_L_law) E (ci := 4) dL_law_627 hC1 wd_L_101 rfl (congrArg Prod.fst (zl_Mat HM (k := 156) (t := (4, 17)) rfl (by decide) (by decide))) (by decide) (zl_Mlt HM (by decide)) rfl dh_X4_flush dn_X4_flush (Nat.le_of_ble_eq_true rfl) (Nat.le_of_ble_eq_true rfl) (Nat.le_of_ble_eq_true rfl) (zl_capM HM) rfl (fun w627 g627 => ?_)
  obtain ⟨I9, t9, l9⟩ := g627
  have HL2 := zy_IL I9
  have HM := HL2.2.1
  refine zg_istore (lv' := [(6, .int a'), (5, .int (nI kd)), (0, .ref 0), (1, .ref 1), (2, .ref 156), (3, .ref 165), (4, .int (nI i))]) dL_law_630 (by decide) rfl ?_
  refine zg_aload_n dL_law_632 rfl ?_
  refine zg_vrt (M := zm_L_law) E (ci := 4) dL_law_633 (mt_thrown E HM) wd_L_74 rfl (congrArg Prod.fst (zl_Mat HM (k := 156) (t := (4, 17)) rfl (by decide) (by decide))) (by decide) (zl_Mlt HM (by decide)) rfl dh_X4_thrown dn_X4_thrown (Nat.le_of_ble_eq_true rfl) (Nat.le_of_ble_eq_true rfl) (Nat.le_of_ble_eq_true rfl) (zl_capM HM) rfl (fun w633 g633 => ?_)
  subst w633
  refine zg_v (x' := nI kd) t9 ?_
  refine zg_iload dL_law_636 rfl ?_
  refine zg_icmp_eq (tgt := 643) dL_law_638 (by decide) (fun h638 => ?_) (fun h638 => ?_)
  · refine zg_iload dL_law_643 rfl ?_
    refine zg_if_ne (tgt := 660) dL_law_645 (by decide) (fun h645 => ?_) (fun h645 => ?_)
    · refine zg_goto (tgt := 1123) dL_law_660 (by decide) ?_
      refine zg_l [2, 3, 4, 5, 6] rfl ?_
      exact K w627 I9
    · have k0 : kd = 0 := zy_k0 hk h645
      refine zg_aload_n dL_law_648 rfl ?_
      refine zg_iconst (v := nI 0) dL_law_649 (by decide) ?_
      refine zg_lald E (j := 0) dL_law_650 HL2.2.2.2.1 (by decide) (by have := HL2.2.2.1; omega) rfl (by omega) (by decide) ?_
      refine zg_vl (x' := (a').toInt64) (by rw [l9, hv1 k0, ha k0]) ?_
      refine zg_iload dL_law_651 rfl ?_
      refine zg_i2l dL_law_653 ?_
      refine zg_lcmp dL_law_654 ?_
      refine zg_if_eq (tgt := 660) dL_law_655 (by decide) (fun h655 => ?_) (fun h655 => ?_)
      · refine zg_goto (tgt := 1123) dL_law_660 (by decide) ?_
        refine zg_l [2, 3, 4, 5, 6] rfl ?_
        exact K w627 I9
      · exact absurd (zy_cmp _) h655
  · exact absurd rfl h638
set_option maxHeartbeats 4000000 in
set_option maxRecDepth 100000 in
theorem cs_damage {V : zv_V} (E : zv_OK V) (hL : zv_L V ≤ 3072) {n0 u0 i n : Nat} {w : zw_W} {Q : zg_O → zw_W → Prop} (hi : i + 6 ≤ zv_L V) (hI : zy_I n w) (hn : n ≤ 600) (K : ∀ w2, zy_I (n + 1) w2 → zg_G V zm_L_law 10 260 n0 u0 1123 [] [(0, .ref 0), (1, .ref 1), (2, .ref 156), (3, .ref 165), (4, .int (nI i))] w2 Q) : zg_G V zm_L_law 10 260 n0 u0 720 [] [(0, .ref 0), (1, .ref 1), (2, .ref 156), (3, .ref 165), (4, .int (nI i))] w Q := by
  have HX := (zy_IL hI).1
  have HM := (zy_IL hI).2.1
  refine zg_aload_n dL_law_720 rfl ?_
  refine zg_aload_n dL_law_721 rfl ?_
  refine zg_iload dL_law_722 rfl ?_
  refine zg_iconst (v := nI 1) dL_law_724 (by decide) ?_
  refine zg_iadd dL_law_725 ?_
  refine zg_v (x' := nI (i + 1)) (nI_add _ _) ?_
  refine zg_sld E (j := i + 1) dL_law_726 rfl (by omega) (by omega) ?_
  refine zg_aload_n dL_law_727 rfl ?_
  refine zg_iload dL_law_728 rfl ?_
  refine zg_iconst (v := nI 2) dL_law_730 (by decide) ?_
  refine zg_iadd dL_law_731 ?_
  refine zg_v (x' := nI (i + 2)) (nI_add _ _) ?_
  refine zg_sld E (j := i + 2) dL_law_732 rfl (by omega) (by omega) ?_
  refine zg_aload_n dL_law_733 rfl ?_
  refine zg_iload dL_law_734 rfl ?_
  refine zg_iconst (v := nI 3) dL_law_736 (by decide) ?_
  refine zg_iadd dL_law_737 ?_
  refine zg_v (x' := nI (i + 3)) (nI_add _ _) ?_
  refine zg_sld E (j := i + 3) dL_law_738 rfl (by omega) (by omega) ?_
  refine zg_aload_n dL_law_739 rfl ?_
  obtain ⟨kd, a, a', hk, ha, -, hC⟩ := sp_damage E hI hn (zv_x V (i + 1)) (zv_x V (i + 2)) (zv_x V (i + 3))
  refine zg_sret (M := zm_L_law) E dL_law_740 hC wd_L_107 dh_L_damage dn_L_damage (Nat.le_of_ble_eq_true rfl) (Nat.le_of_ble_eq_true rfl) (Nat.le_of_ble_eq_true rfl) (zl_capM HM) rfl (fun w740 g740 => ?_)
  obtain ⟨HL1, hv1, hC1⟩ := g740
  have HM := HL1.2.1
  refine zg_istore (lv' := [(5, .int (nI kd)), (0, .ref 0), (1, .ref 1), (2, .ref 156), (3, .ref 165), (4, .int (nI i))]) dL_law_743 (by decide) rfl ?_
  refine zg_aload_n dL_law_745 rfl ?_
  refine zg_aload_n dL_law_746 rfl ?_
  refine zg_iload dL_law_747 rfl ?_
  refine zg_iconst (v := nI 1) dL_law_749 (by decide) ?_
  refine zg_iadd dL_law_750 ?_
  refine zg_v (x' := nI (i + 1)) (nI_add _ _) ?_
  refine zg_sld E (j := i + 1) dL_law_751 rfl (by omega) (by omega) ?_
  refine zg_aload_n dL_law_752 rfl ?_
  refine zg_iload dL_law_753 rfl ?_
  refine zg_iconst (v := nI 2) dL_law_755 (by decide) ?_
  refine zg_iadd dL_law_756 ?_
  refine zg_v (x' := nI (i + 2)) (nI_add _ _) ?_
  refine zg_sld E (j := i + 2) dL_law_757 rfl (by omega) (by omega) ?_
  refine zg_aload_n dL_law_758 rfl ?_
  refine zg_iload dL_law_759 rfl ?_
  refine zg_iconst (v := nI 3) dL_law_761 (by decide) ?_
  refine zg_iadd dL_law_762 ?_
  refine zg_v (x' := nI (i + 3)) (nI_add _ _) ?_
  refine zg_sld E (j := i + 3) dL_law_763 rfl (by omega) (by omega) ?_
  refine zg_vrt (M := zm_L_law) E (ci := 4) dL_law_764 hC1 wd_L_109 rfl (congrArg Prod.fst (zl_Mat HM (k := 156) (t := (4, 17)) rfl (by decide) (by decide))) (by decide) (zl_Mlt HM (by decide)) rfl dh_X4_damage dn_X4_damage (Nat.le_of_ble_eq_true rfl) (Nat.le_of_ble_eq_true rfl) (Nat.le_of_ble_eq_true rfl) (zl_capM HM) rfl (fun w764 g764 => ?_)
  obtain ⟨I9, t9, l9⟩ := g764
  have HL2 := zy_IL I9
  have HM := HL2.2.1
  refine zg_istore (lv' := [(6, .int a'), (5, .int (nI kd)), (0, .ref 0), (1, .ref 1), (2, .ref 156), (3, .ref 165), (4, .int (nI i))]) dL_law_767 (by decide) rfl ?_
  refine zg_aload_n dL_law_769 rfl ?_
  refine zg_vrt (M := zm_L_law) E (ci := 4) dL_law_770 (mt_thrown E HM) wd_L_74 rfl (congrArg Prod.fst (zl_Mat HM (k := 156) (t := (4, 17)) rfl (by decide) (by decide))) (by decide) (zl_Mlt HM (by decide)) rfl dh_X4_thrown dn_X4_thrown (Nat.le_of_ble_eq_true rfl) (Nat.le_of_ble_eq_true rfl) (Nat.le_of_ble_eq_true rfl) (zl_capM HM) rfl (fun w770 g770 => ?_)
  subst w770
  refine zg_v (x' := nI kd) t9 ?_
  refine zg_iload dL_law_773 rfl ?_
  refine zg_icmp_eq (tgt := 780) dL_law_775 (by decide) (fun h775 => ?_) (fun h775 => ?_)
  · refine zg_iload dL_law_780 rfl ?_
    refine zg_if_ne (tgt := 797) dL_law_782 (by decide) (fun h782 => ?_) (fun h782 => ?_)
    · refine zg_goto (tgt := 1123) dL_law_797 (by decide) ?_
      refine zg_l [2, 3, 4, 5, 6] rfl ?_
      exact K w764 I9
    · have k0 : kd = 0 := zy_k0 hk h782
      refine zg_aload_n dL_law_785 rfl ?_
      refine zg_iconst (v := nI 0) dL_law_786 (by decide) ?_
      refine zg_lald E (j := 0) dL_law_787 HL2.2.2.2.1 (by decide) (by have := HL2.2.2.1; omega) rfl (by omega) (by decide) ?_
      refine zg_vl (x' := (a').toInt64) (by rw [l9, hv1 k0, ha k0]) ?_
      refine zg_iload dL_law_788 rfl ?_
      refine zg_i2l dL_law_790 ?_
      refine zg_lcmp dL_law_791 ?_
      refine zg_if_eq (tgt := 797) dL_law_792 (by decide) (fun h792 => ?_) (fun h792 => ?_)
      · refine zg_goto (tgt := 1123) dL_law_797 (by decide) ?_
        refine zg_l [2, 3, 4, 5, 6] rfl ?_
        exact K w764 I9
      · exact absurd (zy_cmp _) h792
  · exact absurd rfl h775

/-! The law's cases, on. -/
set_option maxHeartbeats 4000000 in
set_option maxRecDepth 100000 in
theorem cs_spill {V : zv_V} (E : zv_OK V) (hL : zv_L V ≤ 3072) {n0 u0 i n : Nat} {w : zw_W} {Q : zg_O → zw_W → Prop} (hi : i + 6 ≤ zv_L V) (hI : zy_I n w) (hn : n ≤ 600) (K : ∀ w2, zy_I (n + 1) w2 → zg_G V zm_L_law 10 260 n0 u0 1123 [] [(0, .ref 0), (1, .ref 1), (2, .ref 156), (3, .ref 165), (4, .int (nI i))] w2 Q) : zg_G V zm_L_law 10 260 n0 u0 447 [] [(0, .ref 0), (1, .ref 1), (2, .ref 156), (3, .ref 165), (4, .int (nI i))] w Q := by
  have HX := (zy_IL hI).1
  have HM := (zy_IL hI).2.1
  refine zg_aload_n dL_law_447 rfl ?_
  refine zg_aload_n dL_law_448 rfl ?_
  refine zg_iload dL_law_449 rfl ?_
  refine zg_iconst (v := nI 1) dL_law_451 (by decide) ?_
  refine zg_iadd dL_law_452 ?_
  refine zg_v (x' := nI (i + 1)) (nI_add _ _) ?_
  refine zg_sld E (j := i + 1) dL_law_453 rfl (by omega) (by omega) ?_
  refine zg_aload_n dL_law_454 rfl ?_
  obtain ⟨kd, a, a', hk, ha, -, hC⟩ := sp_spill E hI hn (zv_x V (i + 1))
  refine zg_sret (M := zm_L_law) E dL_law_455 hC wd_L_87 dh_L_spill dn_L_spill (Nat.le_of_ble_eq_true rfl) (Nat.le_of_ble_eq_true rfl) (Nat.le_of_ble_eq_true rfl) (zl_capM HM) rfl (fun w455 g455 => ?_)
  obtain ⟨HL1, hv1, hC1⟩ := g455
  have HM := HL1.2.1
  refine zg_istore (lv' := [(5, .int (nI kd)), (0, .ref 0), (1, .ref 1), (2, .ref 156), (3, .ref 165), (4, .int (nI i))]) dL_law_458 (by decide) rfl ?_
  refine zg_aload_n dL_law_460 rfl ?_
  refine zg_aload_n dL_law_461 rfl ?_
  refine zg_iload dL_law_462 rfl ?_
  refine zg_iconst (v := nI 1) dL_law_464 (by decide) ?_
  refine zg_iadd dL_law_465 ?_
  refine zg_v (x' := nI (i + 1)) (nI_add _ _) ?_
  refine zg_sld E (j := i + 1) dL_law_466 rfl (by omega) (by omega) ?_
  refine zg_vrt (M := zm_L_law) E (ci := 4) dL_law_467 hC1 wd_L_90 rfl (congrArg Prod.fst (zl_Mat HM (k := 156) (t := (4, 17)) rfl (by decide) (by decide))) (by decide) (zl_Mlt HM (by decide)) rfl dh_X4_spill dn_X4_spill (Nat.le_of_ble_eq_true rfl) (Nat.le_of_ble_eq_true rfl) (Nat.le_of_ble_eq_true rfl) (zl_capM HM) rfl (fun w467 g467 => ?_)
  obtain ⟨I9, t9, l9⟩ := g467
  have HL2 := zy_IL I9
  have HM := HL2.2.1
  refine zg_istore (lv' := [(6, .int a'), (5, .int (nI kd)), (0, .ref 0), (1, .ref 1), (2, .ref 156), (3, .ref 165), (4, .int (nI i))]) dL_law_470 (by decide) rfl ?_
  refine zg_aload_n dL_law_472 rfl ?_
  refine zg_vrt (M := zm_L_law) E (ci := 4) dL_law_473 (mt_thrown E HM) wd_L_74 rfl (congrArg Prod.fst (zl_Mat HM (k := 156) (t := (4, 17)) rfl (by decide) (by decide))) (by decide) (zl_Mlt HM (by decide)) rfl dh_X4_thrown dn_X4_thrown (Nat.le_of_ble_eq_true rfl) (Nat.le_of_ble_eq_true rfl) (Nat.le_of_ble_eq_true rfl) (zl_capM HM) rfl (fun w473 g473 => ?_)
  subst w473
  refine zg_v (x' := nI kd) t9 ?_
  refine zg_iload dL_law_476 rfl ?_
  refine zg_icmp_eq (tgt := 483) dL_law_478 (by decide) (fun h478 => ?_) (fun h478 => ?_)
  · refine zg_iload dL_law_483 rfl ?_
    refine zg_if_ne (tgt := 500) dL_law_485 (by decide) (fun h485 => ?_) (fun h485 => ?_)
    · refine zg_goto (tgt := 1123) dL_law_500 (by decide) ?_
      refine zg_l [2, 3, 4, 5, 6] rfl ?_
      exact K w467 I9
    · have k0 : kd = 0 := zy_k0 hk h485
      refine zg_aload_n dL_law_488 rfl ?_
      refine zg_iconst (v := nI 0) dL_law_489 (by decide) ?_
      refine zg_lald E (j := 0) dL_law_490 HL2.2.2.2.1 (by decide) (by have := HL2.2.2.1; omega) rfl (by omega) (by decide) ?_
      refine zg_vl (x' := (a').toInt64) (by rw [l9, hv1 k0, ha k0]) ?_
      refine zg_iload dL_law_491 rfl ?_
      refine zg_i2l dL_law_493 ?_
      refine zg_lcmp dL_law_494 ?_
      refine zg_if_eq (tgt := 500) dL_law_495 (by decide) (fun h495 => ?_) (fun h495 => ?_)
      · refine zg_goto (tgt := 1123) dL_law_500 (by decide) ?_
        refine zg_l [2, 3, 4, 5, 6] rfl ?_
        exact K w467 I9
      · exact absurd (zy_cmp _) h495
  · exact absurd rfl h478
set_option maxHeartbeats 4000000 in
set_option maxRecDepth 100000 in
theorem cs_commit {V : zv_V} (E : zv_OK V) (hL : zv_L V ≤ 3072) {n0 u0 i n : Nat} {w : zw_W} {Q : zg_O → zw_W → Prop} (hi : i + 6 ≤ zv_L V) (hI : zy_I n w) (hn : n ≤ 600) (K : ∀ w2, zy_I (n + 1) w2 → zg_G V zm_L_law 10 260 n0 u0 1123 [] [(0, .ref 0), (1, .ref 1), (2, .ref 156), (3, .ref 165), (4, .int (nI i))] w2 Q) : zg_G V zm_L_law 10 260 n0 u0 503 [] [(0, .ref 0), (1, .ref 1), (2, .ref 156), (3, .ref 165), (4, .int (nI i))] w Q := by
  have HX := (zy_IL hI).1
  have HM := (zy_IL hI).2.1
  refine zg_aload_n dL_law_503 rfl ?_
  refine zg_aload_n dL_law_504 rfl ?_
  refine zg_iload dL_law_505 rfl ?_
  refine zg_iconst (v := nI 1) dL_law_507 (by decide) ?_
  refine zg_iadd dL_law_508 ?_
  refine zg_v (x' := nI (i + 1)) (nI_add _ _) ?_
  refine zg_sld E (j := i + 1) dL_law_509 rfl (by omega) (by omega) ?_
  refine zg_if_eq (tgt := 517) dL_law_510 (by decide) (fun h510 => ?_) (fun h510 => ?_)
  · refine zg_iconst (v := nI 0) dL_law_517 (by decide) ?_
    refine zg_aload_n dL_law_518 rfl ?_
    obtain ⟨kd, a, a', hk, ha, -, hC⟩ := sp_commit E hI hn false
    refine zg_sret (M := zm_L_law) E dL_law_519 hC wd_L_91 dh_L_commit dn_L_commit (Nat.le_of_ble_eq_true rfl) (Nat.le_of_ble_eq_true rfl) (Nat.le_of_ble_eq_true rfl) (zl_capM HM) rfl (fun w519 g519 => ?_)
    obtain ⟨HL1, hv1, hC1⟩ := g519
    have HM := HL1.2.1
    refine zg_istore (lv' := [(5, .int (nI kd)), (0, .ref 0), (1, .ref 1), (2, .ref 156), (3, .ref 165), (4, .int (nI i))]) dL_law_522 (by decide) rfl ?_
    refine zg_aload_n dL_law_524 rfl ?_
    refine zg_aload_n dL_law_525 rfl ?_
    refine zg_iload dL_law_526 rfl ?_
    refine zg_iconst (v := nI 1) dL_law_528 (by decide) ?_
    refine zg_iadd dL_law_529 ?_
    refine zg_v (x' := nI (i + 1)) (nI_add _ _) ?_
    refine zg_sld E (j := i + 1) dL_law_530 rfl (by omega) (by omega) ?_
    refine zg_if_eq (tgt := 538) dL_law_531 (by decide) (fun h531 => ?_) (fun h531 => ?_)
    · refine zg_iconst (v := nI 0) dL_law_538 (by decide) ?_
      refine zg_vrt (M := zm_L_law) E (ci := 4) dL_law_539 hC1 wd_L_94 rfl (congrArg Prod.fst (zl_Mat HM (k := 156) (t := (4, 17)) rfl (by decide) (by decide))) (by decide) (zl_Mlt HM (by decide)) rfl dh_X4_commit dn_X4_commit (Nat.le_of_ble_eq_true rfl) (Nat.le_of_ble_eq_true rfl) (Nat.le_of_ble_eq_true rfl) (zl_capM HM) rfl (fun w539 g539 => ?_)
      obtain ⟨I9, t9, l9⟩ := g539
      have HL2 := zy_IL I9
      have HM := HL2.2.1
      refine zg_istore (lv' := [(6, .int a'), (5, .int (nI kd)), (0, .ref 0), (1, .ref 1), (2, .ref 156), (3, .ref 165), (4, .int (nI i))]) dL_law_542 (by decide) rfl ?_
      refine zg_aload_n dL_law_544 rfl ?_
      refine zg_vrt (M := zm_L_law) E (ci := 4) dL_law_545 (mt_thrown E HM) wd_L_74 rfl (congrArg Prod.fst (zl_Mat HM (k := 156) (t := (4, 17)) rfl (by decide) (by decide))) (by decide) (zl_Mlt HM (by decide)) rfl dh_X4_thrown dn_X4_thrown (Nat.le_of_ble_eq_true rfl) (Nat.le_of_ble_eq_true rfl) (Nat.le_of_ble_eq_true rfl) (zl_capM HM) rfl (fun w545 g545 => ?_)
      subst w545
      refine zg_v (x' := nI kd) t9 ?_
      refine zg_iload dL_law_548 rfl ?_
      refine zg_icmp_eq (tgt := 555) dL_law_550 (by decide) (fun h550 => ?_) (fun h550 => ?_)
      · refine zg_iload dL_law_555 rfl ?_
        refine zg_if_ne (tgt := 572) dL_law_557 (by decide) (fun h557 => ?_) (fun h557 => ?_)
        · refine zg_goto (tgt := 1123) dL_law_572 (by decide) ?_
          refine zg_l [2, 3, 4, 5, 6] rfl ?_
          exact K w539 I9
        · have k0 : kd = 0 := zy_k0 hk h557
          refine zg_aload_n dL_law_560 rfl ?_
          refine zg_iconst (v := nI 0) dL_law_561 (by decide) ?_
          refine zg_lald E (j := 0) dL_law_562 HL2.2.2.2.1 (by decide) (by have := HL2.2.2.1; omega) rfl (by omega) (by decide) ?_
          refine zg_vl (x' := (a').toInt64) (by rw [l9, hv1 k0, ha k0]) ?_
          refine zg_iload dL_law_563 rfl ?_
          refine zg_i2l dL_law_565 ?_
          refine zg_lcmp dL_law_566 ?_
          refine zg_if_eq (tgt := 572) dL_law_567 (by decide) (fun h567 => ?_) (fun h567 => ?_)
          · refine zg_goto (tgt := 1123) dL_law_572 (by decide) ?_
            refine zg_l [2, 3, 4, 5, 6] rfl ?_
            exact K w539 I9
          · exact absurd (zy_cmp _) h567
      · exact absurd rfl h550
    · exact absurd h510 h531
  · refine zg_iconst (v := nI 1) dL_law_513 (by decide) ?_
    refine zg_goto (tgt := 518) dL_law_514 (by decide) ?_
    refine zg_aload_n dL_law_518 rfl ?_
    obtain ⟨kd, a, a', hk, ha, -, hC⟩ := sp_commit E hI hn true
    refine zg_sret (M := zm_L_law) E dL_law_519 hC wd_L_91 dh_L_commit dn_L_commit (Nat.le_of_ble_eq_true rfl) (Nat.le_of_ble_eq_true rfl) (Nat.le_of_ble_eq_true rfl) (zl_capM HM) rfl (fun w519 g519 => ?_)
    obtain ⟨HL1, hv1, hC1⟩ := g519
    have HM := HL1.2.1
    refine zg_istore (lv' := [(5, .int (nI kd)), (0, .ref 0), (1, .ref 1), (2, .ref 156), (3, .ref 165), (4, .int (nI i))]) dL_law_522 (by decide) rfl ?_
    refine zg_aload_n dL_law_524 rfl ?_
    refine zg_aload_n dL_law_525 rfl ?_
    refine zg_iload dL_law_526 rfl ?_
    refine zg_iconst (v := nI 1) dL_law_528 (by decide) ?_
    refine zg_iadd dL_law_529 ?_
    refine zg_v (x' := nI (i + 1)) (nI_add _ _) ?_
    refine zg_sld E (j := i + 1) dL_law_530 rfl (by omega) (by omega) ?_
    refine zg_if_eq (tgt := 538) dL_law_531 (by decide) (fun h531 => ?_) (fun h531 => ?_)
    · exact absurd h531 h510
    · refine zg_iconst (v := nI 1) dL_law_534 (by decide) ?_
      refine zg_goto (tgt := 539) dL_law_535 (by decide) ?_
      refine zg_vrt (M := zm_L_law) E (ci := 4) dL_law_539 hC1 wd_L_94 rfl (congrArg Prod.fst (zl_Mat HM (k := 156) (t := (4, 17)) rfl (by decide) (by decide))) (by decide) (zl_Mlt HM (by decide)) rfl dh_X4_commit dn_X4_commit (Nat.le_of_ble_eq_true rfl) (Nat.le_of_ble_eq_true rfl) (Nat.le_of_ble_eq_true rfl) (zl_capM HM) rfl (fun w539 g539 => ?_)
      obtain ⟨I9, t9, l9⟩ := g539
      have HL2 := zy_IL I9
      have HM := HL2.2.1
      refine zg_istore (lv' := [(6, .int a'), (5, .int (nI kd)), (0, .ref 0), (1, .ref 1), (2, .ref 156), (3, .ref 165), (4, .int (nI i))]) dL_law_542 (by decide) rfl ?_
      refine zg_aload_n dL_law_544 rfl ?_
      refine zg_vrt (M := zm_L_law) E (ci := 4) dL_law_545 (mt_thrown E HM) wd_L_74 rfl (congrArg Prod.fst (zl_Mat HM (k := 156) (t := (4, 17)) rfl (by decide) (by decide))) (by decide) (zl_Mlt HM (by decide)) rfl dh_X4_thrown dn_X4_thrown (Nat.le_of_ble_eq_true rfl) (Nat.le_of_ble_eq_true rfl) (Nat.le_of_ble_eq_true rfl) (zl_capM HM) rfl (fun w545 g545 => ?_)
      subst w545
      refine zg_v (x' := nI kd) t9 ?_
      refine zg_iload dL_law_548 rfl ?_
      refine zg_icmp_eq (tgt := 555) dL_law_550 (by decide) (fun h550 => ?_) (fun h550 => ?_)
      · refine zg_iload dL_law_555 rfl ?_
        refine zg_if_ne (tgt := 572) dL_law_557 (by decide) (fun h557 => ?_) (fun h557 => ?_)
        · refine zg_goto (tgt := 1123) dL_law_572 (by decide) ?_
          refine zg_l [2, 3, 4, 5, 6] rfl ?_
          exact K w539 I9
        · have k0 : kd = 0 := zy_k0 hk h557
          refine zg_aload_n dL_law_560 rfl ?_
          refine zg_iconst (v := nI 0) dL_law_561 (by decide) ?_
          refine zg_lald E (j := 0) dL_law_562 HL2.2.2.2.1 (by decide) (by have := HL2.2.2.1; omega) rfl (by omega) (by decide) ?_
          refine zg_vl (x' := (a').toInt64) (by rw [l9, hv1 k0, ha k0]) ?_
          refine zg_iload dL_law_563 rfl ?_
          refine zg_i2l dL_law_565 ?_
          refine zg_lcmp dL_law_566 ?_
          refine zg_if_eq (tgt := 572) dL_law_567 (by decide) (fun h567 => ?_) (fun h567 => ?_)
          · refine zg_goto (tgt := 1123) dL_law_572 (by decide) ?_
            refine zg_l [2, 3, 4, 5, 6] rfl ?_
            exact K w539 I9
          · exact absurd (zy_cmp _) h567
      · exact absurd rfl h550

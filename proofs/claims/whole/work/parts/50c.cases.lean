/-! The law's cases, on. -/
set_option maxHeartbeats 4000000 in
set_option maxRecDepth 100000 in
theorem cs_read {V : zv_V} (E : zv_OK V) (hL : zv_L V ≤ 3072) {n0 u0 i n : Nat} {w : zw_W} {Q : zg_O → zw_W → Prop} (hi : i + 6 ≤ zv_L V) (hI : zy_I n w) (hn : n ≤ 600) (K : ∀ w2, zy_I (n + 1) w2 → zg_G V zm_L_law 10 260 n0 u0 1123 [] [(0, .ref 0), (1, .ref 1), (2, .ref 156), (3, .ref 165), (4, .int (nI i))] w2 Q) : zg_G V zm_L_law 10 260 n0 u0 351 [] [(0, .ref 0), (1, .ref 1), (2, .ref 156), (3, .ref 165), (4, .int (nI i))] w Q := by
  have HX := (zy_IL hI).1
  have HM := (zy_IL hI).2.1
  refine zg_aload_n dL_law_351 rfl ?_
  refine zg_aload_n dL_law_352 rfl ?_
  refine zg_iload dL_law_353 rfl ?_
  refine zg_iconst (v := nI 1) dL_law_355 (by decide) ?_
  refine zg_iadd dL_law_356 ?_
  refine zg_v (x' := nI (i + 1)) (nI_add _ _) ?_
  refine zg_sld E (j := i + 1) dL_law_357 rfl (by omega) (by omega) ?_
  refine zg_aload_n dL_law_358 rfl ?_
  refine zg_iload dL_law_359 rfl ?_
  refine zg_iconst (v := nI 2) dL_law_361 (by decide) ?_
  refine zg_iadd dL_law_362 ?_
  refine zg_v (x' := nI (i + 2)) (nI_add _ _) ?_
  refine zg_sld E (j := i + 2) dL_law_363 rfl (by omega) (by omega) ?_
  refine zg_aload_n dL_law_364 rfl ?_
  refine zg_iload dL_law_365 rfl ?_
  refine zg_iconst (v := nI 3) dL_law_367 (by decide) ?_
  refine zg_iadd dL_law_368 ?_
  refine zg_v (x' := nI (i + 3)) (nI_add _ _) ?_
  refine zg_sld E (j := i + 3) dL_law_369 rfl (by omega) (by omega) ?_
  refine zg_if_eq (tgt := 377) dL_law_370 (by decide) (fun h370 => ?_) (fun h370 => ?_)
  · refine zg_iconst (v := nI 0) dL_law_377 (by decide) ?_
    refine zg_aload_n dL_law_378 rfl ?_
    obtain ⟨kd, a, a', hk, ha, -, hC⟩ := sp_read E hI hn (zv_x V (i + 1)) (zv_x V (i + 2)) false
    refine zg_sret (M := zm_L_law) E dL_law_379 hC wd_L_83 dh_L_read dn_L_read (Nat.le_of_ble_eq_true rfl) (Nat.le_of_ble_eq_true rfl) (Nat.le_of_ble_eq_true rfl) (zl_capM HM) rfl (fun w379 g379 => ?_)
    obtain ⟨HL1, hv1, hC1⟩ := g379
    have HM := HL1.2.1
    refine zg_istore (lv' := [(5, .int (nI kd)), (0, .ref 0), (1, .ref 1), (2, .ref 156), (3, .ref 165), (4, .int (nI i))]) dL_law_382 (by decide) rfl ?_
    refine zg_aload_n dL_law_384 rfl ?_
    refine zg_aload_n dL_law_385 rfl ?_
    refine zg_iload dL_law_386 rfl ?_
    refine zg_iconst (v := nI 1) dL_law_388 (by decide) ?_
    refine zg_iadd dL_law_389 ?_
    refine zg_v (x' := nI (i + 1)) (nI_add _ _) ?_
    refine zg_sld E (j := i + 1) dL_law_390 rfl (by omega) (by omega) ?_
    refine zg_aload_n dL_law_391 rfl ?_
    refine zg_iload dL_law_392 rfl ?_
    refine zg_iconst (v := nI 2) dL_law_394 (by decide) ?_
    refine zg_iadd dL_law_395 ?_
    refine zg_v (x' := nI (i + 2)) (nI_add _ _) ?_
    refine zg_sld E (j := i + 2) dL_law_396 rfl (by omega) (by omega) ?_
    refine zg_aload_n dL_law_397 rfl ?_
    refine zg_iload dL_law_398 rfl ?_
    refine zg_iconst (v := nI 3) dL_law_400 (by decide) ?_
    refine zg_iadd dL_law_401 ?_
    refine zg_v (x' := nI (i + 3)) (nI_add _ _) ?_
    refine zg_sld E (j := i + 3) dL_law_402 rfl (by omega) (by omega) ?_
    refine zg_if_eq (tgt := 410) dL_law_403 (by decide) (fun h403 => ?_) (fun h403 => ?_)
    · refine zg_iconst (v := nI 0) dL_law_410 (by decide) ?_
      refine zg_vrt (M := zm_L_law) E (ci := 4) dL_law_411 hC1 wd_L_86 rfl (congrArg Prod.fst (zl_Mat HM (k := 156) (t := (4, 17)) rfl (by decide) (by decide))) (by decide) (zl_Mlt HM (by decide)) rfl dh_X4_read dn_X4_read (Nat.le_of_ble_eq_true rfl) (Nat.le_of_ble_eq_true rfl) (Nat.le_of_ble_eq_true rfl) (zl_capM HM) rfl (fun w411 g411 => ?_)
      obtain ⟨I9, t9, l9⟩ := g411
      have HL2 := zy_IL I9
      have HM := HL2.2.1
      refine zg_istore (lv' := [(6, .int a'), (5, .int (nI kd)), (0, .ref 0), (1, .ref 1), (2, .ref 156), (3, .ref 165), (4, .int (nI i))]) dL_law_414 (by decide) rfl ?_
      refine zg_aload_n dL_law_416 rfl ?_
      refine zg_vrt (M := zm_L_law) E (ci := 4) dL_law_417 (mt_thrown E HM) wd_L_74 rfl (congrArg Prod.fst (zl_Mat HM (k := 156) (t := (4, 17)) rfl (by decide) (by decide))) (by decide) (zl_Mlt HM (by decide)) rfl dh_X4_thrown dn_X4_thrown (Nat.le_of_ble_eq_true rfl) (Nat.le_of_ble_eq_true rfl) (Nat.le_of_ble_eq_true rfl) (zl_capM HM) rfl (fun w417 g417 => ?_)
      subst w417
      refine zg_v (x' := nI kd) t9 ?_
      refine zg_iload dL_law_420 rfl ?_
      refine zg_icmp_eq (tgt := 427) dL_law_422 (by decide) (fun h422 => ?_) (fun h422 => ?_)
      · refine zg_iload dL_law_427 rfl ?_
        refine zg_if_ne (tgt := 444) dL_law_429 (by decide) (fun h429 => ?_) (fun h429 => ?_)
        · refine zg_goto (tgt := 1123) dL_law_444 (by decide) ?_
          refine zg_l [2, 3, 4, 5, 6] rfl ?_
          exact K w411 I9
        · have k0 : kd = 0 := zy_k0 hk h429
          refine zg_aload_n dL_law_432 rfl ?_
          refine zg_iconst (v := nI 0) dL_law_433 (by decide) ?_
          refine zg_lald E (j := 0) dL_law_434 HL2.2.2.2.1 (by decide) (by have := HL2.2.2.1; omega) rfl (by omega) (by decide) ?_
          refine zg_vl (x' := (a').toInt64) (by rw [l9, hv1 k0, ha k0]) ?_
          refine zg_iload dL_law_435 rfl ?_
          refine zg_i2l dL_law_437 ?_
          refine zg_lcmp dL_law_438 ?_
          refine zg_if_eq (tgt := 444) dL_law_439 (by decide) (fun h439 => ?_) (fun h439 => ?_)
          · refine zg_goto (tgt := 1123) dL_law_444 (by decide) ?_
            refine zg_l [2, 3, 4, 5, 6] rfl ?_
            exact K w411 I9
          · exact absurd (zy_cmp _) h439
      · exact absurd rfl h422
    · exact absurd h370 h403
  · refine zg_iconst (v := nI 1) dL_law_373 (by decide) ?_
    refine zg_goto (tgt := 378) dL_law_374 (by decide) ?_
    refine zg_aload_n dL_law_378 rfl ?_
    obtain ⟨kd, a, a', hk, ha, -, hC⟩ := sp_read E hI hn (zv_x V (i + 1)) (zv_x V (i + 2)) true
    refine zg_sret (M := zm_L_law) E dL_law_379 hC wd_L_83 dh_L_read dn_L_read (Nat.le_of_ble_eq_true rfl) (Nat.le_of_ble_eq_true rfl) (Nat.le_of_ble_eq_true rfl) (zl_capM HM) rfl (fun w379 g379 => ?_)
    obtain ⟨HL1, hv1, hC1⟩ := g379
    have HM := HL1.2.1
    refine zg_istore (lv' := [(5, .int (nI kd)), (0, .ref 0), (1, .ref 1), (2, .ref 156), (3, .ref 165), (4, .int (nI i))]) dL_law_382 (by decide) rfl ?_
    refine zg_aload_n dL_law_384 rfl ?_
    refine zg_aload_n dL_law_385 rfl ?_
    refine zg_iload dL_law_386 rfl ?_
    refine zg_iconst (v := nI 1) dL_law_388 (by decide) ?_
    refine zg_iadd dL_law_389 ?_
    refine zg_v (x' := nI (i + 1)) (nI_add _ _) ?_
    refine zg_sld E (j := i + 1) dL_law_390 rfl (by omega) (by omega) ?_
    refine zg_aload_n dL_law_391 rfl ?_
    refine zg_iload dL_law_392 rfl ?_
    refine zg_iconst (v := nI 2) dL_law_394 (by decide) ?_
    refine zg_iadd dL_law_395 ?_
    refine zg_v (x' := nI (i + 2)) (nI_add _ _) ?_
    refine zg_sld E (j := i + 2) dL_law_396 rfl (by omega) (by omega) ?_
    refine zg_aload_n dL_law_397 rfl ?_
    refine zg_iload dL_law_398 rfl ?_
    refine zg_iconst (v := nI 3) dL_law_400 (by decide) ?_
    refine zg_iadd dL_law_401 ?_
    refine zg_v (x' := nI (i + 3)) (nI_add _ _) ?_
    refine zg_sld E (j := i + 3) dL_law_402 rfl (by omega) (by omega) ?_
    refine zg_if_eq (tgt := 410) dL_law_403 (by decide) (fun h403 => ?_) (fun h403 => ?_)
    · exact absurd h403 h370
    · refine zg_iconst (v := nI 1) dL_law_406 (by decide) ?_
      refine zg_goto (tgt := 411) dL_law_407 (by decide) ?_
      refine zg_vrt (M := zm_L_law) E (ci := 4) dL_law_411 hC1 wd_L_86 rfl (congrArg Prod.fst (zl_Mat HM (k := 156) (t := (4, 17)) rfl (by decide) (by decide))) (by decide) (zl_Mlt HM (by decide)) rfl dh_X4_read dn_X4_read (Nat.le_of_ble_eq_true rfl) (Nat.le_of_ble_eq_true rfl) (Nat.le_of_ble_eq_true rfl) (zl_capM HM) rfl (fun w411 g411 => ?_)
      obtain ⟨I9, t9, l9⟩ := g411
      have HL2 := zy_IL I9
      have HM := HL2.2.1
      refine zg_istore (lv' := [(6, .int a'), (5, .int (nI kd)), (0, .ref 0), (1, .ref 1), (2, .ref 156), (3, .ref 165), (4, .int (nI i))]) dL_law_414 (by decide) rfl ?_
      refine zg_aload_n dL_law_416 rfl ?_
      refine zg_vrt (M := zm_L_law) E (ci := 4) dL_law_417 (mt_thrown E HM) wd_L_74 rfl (congrArg Prod.fst (zl_Mat HM (k := 156) (t := (4, 17)) rfl (by decide) (by decide))) (by decide) (zl_Mlt HM (by decide)) rfl dh_X4_thrown dn_X4_thrown (Nat.le_of_ble_eq_true rfl) (Nat.le_of_ble_eq_true rfl) (Nat.le_of_ble_eq_true rfl) (zl_capM HM) rfl (fun w417 g417 => ?_)
      subst w417
      refine zg_v (x' := nI kd) t9 ?_
      refine zg_iload dL_law_420 rfl ?_
      refine zg_icmp_eq (tgt := 427) dL_law_422 (by decide) (fun h422 => ?_) (fun h422 => ?_)
      · refine zg_iload dL_law_427 rfl ?_
        refine zg_if_ne (tgt := 444) dL_law_429 (by decide) (fun h429 => ?_) (fun h429 => ?_)
        · refine zg_goto (tgt := 1123) dL_law_444 (by decide) ?_
          refine zg_l [2, 3, 4, 5, 6] rfl ?_
          exact K w411 I9
        · have k0 : kd = 0 := zy_k0 hk h429
          refine zg_aload_n dL_law_432 rfl ?_
          refine zg_iconst (v := nI 0) dL_law_433 (by decide) ?_
          refine zg_lald E (j := 0) dL_law_434 HL2.2.2.2.1 (by decide) (by have := HL2.2.2.1; omega) rfl (by omega) (by decide) ?_
          refine zg_vl (x' := (a').toInt64) (by rw [l9, hv1 k0, ha k0]) ?_
          refine zg_iload dL_law_435 rfl ?_
          refine zg_i2l dL_law_437 ?_
          refine zg_lcmp dL_law_438 ?_
          refine zg_if_eq (tgt := 444) dL_law_439 (by decide) (fun h439 => ?_) (fun h439 => ?_)
          · refine zg_goto (tgt := 1123) dL_law_444 (by decide) ?_
            refine zg_l [2, 3, 4, 5, 6] rfl ?_
            exact K w411 I9
          · exact absurd (zy_cmp _) h439
      · exact absurd rfl h422
set_option maxHeartbeats 4000000 in
set_option maxRecDepth 100000 in
theorem cs_fail {V : zv_V} (E : zv_OK V) (hL : zv_L V ≤ 3072) {n0 u0 i n : Nat} {w : zw_W} {Q : zg_O → zw_W → Prop} (hi : i + 6 ≤ zv_L V) (hI : zy_I n w) (hn : n ≤ 600) (K : ∀ w2, zy_I (n + 1) w2 → zg_G V zm_L_law 10 260 n0 u0 1123 [] [(0, .ref 0), (1, .ref 1), (2, .ref 156), (3, .ref 165), (4, .int (nI i))] w2 Q) : zg_G V zm_L_law 10 260 n0 u0 663 [] [(0, .ref 0), (1, .ref 1), (2, .ref 156), (3, .ref 165), (4, .int (nI i))] w Q := by
  have HX := (zy_IL hI).1
  have HM := (zy_IL hI).2.1
  refine zg_aload_n dL_law_663 rfl ?_
  refine zg_aload_n dL_law_664 rfl ?_
  refine zg_iload dL_law_665 rfl ?_
  refine zg_iconst (v := nI 1) dL_law_667 (by decide) ?_
  refine zg_iadd dL_law_668 ?_
  refine zg_v (x' := nI (i + 1)) (nI_add _ _) ?_
  refine zg_sld E (j := i + 1) dL_law_669 rfl (by omega) (by omega) ?_
  refine zg_i2l dL_law_670 ?_
  refine zg_bipush (v := nI 32) dL_law_671 (by decide) ?_
  refine zg_lshl dL_law_673 ?_
  refine zg_aload_n dL_law_674 rfl ?_
  refine zg_iload dL_law_675 rfl ?_
  refine zg_iconst (v := nI 2) dL_law_677 (by decide) ?_
  refine zg_iadd dL_law_678 ?_
  refine zg_v (x' := nI (i + 2)) (nI_add _ _) ?_
  refine zg_sld E (j := i + 2) dL_law_679 rfl (by omega) (by omega) ?_
  refine zg_i2l dL_law_680 ?_
  refine zg_ldc2 E (v := 4294967295) dL_law_681 (by decide +kernel) ?_
  refine zg_land dL_law_684 ?_
  refine zg_lor dL_law_685 ?_
  obtain ⟨ok, hC⟩ := sp_fail E hI hn ((((zv_x V (i + 1)).toInt64) <<< ((nI 32).toInt64 &&& 63)) ||| (((zv_x V (i + 2)).toInt64) &&& ((4294967295))))
  refine zg_vrt (M := zm_L_law) E (ci := 3) dL_law_686 hC wd_L_102 rfl (congrArg Prod.fst (zl_at HX (k := 1) (t := (3, 7)) rfl (by decide) (by decide))) (by decide) (zl_lt HX (by decide)) rfl dh_X3_fail dn_X3_fail (Nat.le_of_ble_eq_true rfl) (Nat.le_of_ble_eq_true rfl) (Nat.le_of_ble_eq_true rfl) (zl_capM HM) rfl (fun w686 g686 => ?_)
  obtain ⟨HL1, hC1⟩ := g686
  have HM := HL1.2.1
  refine zg_aload_n dL_law_689 rfl ?_
  refine zg_aload_n dL_law_690 rfl ?_
  refine zg_iload dL_law_691 rfl ?_
  refine zg_iconst (v := nI 1) dL_law_693 (by decide) ?_
  refine zg_iadd dL_law_694 ?_
  refine zg_v (x' := nI (i + 1)) (nI_add _ _) ?_
  refine zg_sld E (j := i + 1) dL_law_695 rfl (by omega) (by omega) ?_
  refine zg_i2l dL_law_696 ?_
  refine zg_bipush (v := nI 32) dL_law_697 (by decide) ?_
  refine zg_lshl dL_law_699 ?_
  refine zg_aload_n dL_law_700 rfl ?_
  refine zg_iload dL_law_701 rfl ?_
  refine zg_iconst (v := nI 2) dL_law_703 (by decide) ?_
  refine zg_iadd dL_law_704 ?_
  refine zg_v (x' := nI (i + 2)) (nI_add _ _) ?_
  refine zg_sld E (j := i + 2) dL_law_705 rfl (by omega) (by omega) ?_
  refine zg_i2l dL_law_706 ?_
  refine zg_ldc2 E (v := 4294967295) dL_law_707 (by decide +kernel) ?_
  refine zg_land dL_law_710 ?_
  refine zg_lor dL_law_711 ?_
  refine zg_vrt (M := zm_L_law) E (ci := 4) dL_law_712 hC1 wd_L_106 rfl (congrArg Prod.fst (zl_Mat HM (k := 156) (t := (4, 17)) rfl (by decide) (by decide))) (by decide) (zl_Mlt HM (by decide)) rfl dh_X4_fail dn_X4_fail (Nat.le_of_ble_eq_true rfl) (Nat.le_of_ble_eq_true rfl) (Nat.le_of_ble_eq_true rfl) (zl_capM HM) rfl (fun w712 g712 => ?_)
  have I9 := g712
  refine zg_icmp_eq (tgt := 1123) dL_law_715 (by decide) (fun h715 => ?_) (fun h715 => ?_)
  · refine zg_l [0, 1, 2, 3, 4] rfl ?_
    exact K w712 I9
  · exact absurd rfl h715

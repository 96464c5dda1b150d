/-! The law's cases, on. -/
set_option maxHeartbeats 4000000 in
set_option maxRecDepth 100000 in
theorem cs_held {V : zv_V} (E : zv_OK V) (hL : zv_L V ≤ 3072) {n0 u0 i n : Nat} {w : zw_W} {Q : zg_O → zw_W → Prop} (hi : i + 6 ≤ zv_L V) (hI : zy_I n w) (hn : n ≤ 600) (K : ∀ w2, zy_I (n + 1) w2 → zg_G V zm_L_law 10 260 n0 u0 1123 [] [(0, .ref 0), (1, .ref 1), (2, .ref 156), (3, .ref 165), (4, .int (nI i))] w2 Q) : zg_G V zm_L_law 10 260 n0 u0 999 [] [(0, .ref 0), (1, .ref 1), (2, .ref 156), (3, .ref 165), (4, .int (nI i))] w Q := by
  have HX := (zy_IL hI).1
  have HM := (zy_IL hI).2.1
  refine zg_aload_n dL_law_999 rfl ?_
  refine zg_aload_n dL_law_1000 rfl ?_
  refine zg_iload dL_law_1001 rfl ?_
  refine zg_iconst (v := nI 1) dL_law_1003 (by decide) ?_
  refine zg_iadd dL_law_1004 ?_
  refine zg_v (x' := nI (i + 1)) (nI_add _ _) ?_
  refine zg_sld E (j := i + 1) dL_law_1005 rfl (by omega) (by omega) ?_
  refine zg_aload_n dL_law_1006 rfl ?_
  refine zg_iload dL_law_1007 rfl ?_
  refine zg_iconst (v := nI 2) dL_law_1009 (by decide) ?_
  refine zg_iadd dL_law_1010 ?_
  refine zg_v (x' := nI (i + 2)) (nI_add _ _) ?_
  refine zg_sld E (j := i + 2) dL_law_1011 rfl (by omega) (by omega) ?_
  refine zg_aload_n dL_law_1012 rfl ?_
  obtain ⟨kd, a, a', hk, ha, -, hC⟩ := sp_held E hI hn (zv_x V (i + 1)) (zv_x V (i + 2))
  refine zg_sret (M := zm_L_law) E dL_law_1013 hC wd_L_120 dh_L_held dn_L_held (Nat.le_of_ble_eq_true rfl) (Nat.le_of_ble_eq_true rfl) (Nat.le_of_ble_eq_true rfl) (zl_capM HM) rfl (fun w1013 g1013 => ?_)
  obtain ⟨HL1, hv1, hC1⟩ := g1013
  have HM := HL1.2.1
  refine zg_istore (lv' := [(5, .int (nI kd)), (0, .ref 0), (1, .ref 1), (2, .ref 156), (3, .ref 165), (4, .int (nI i))]) dL_law_1016 (by decide) rfl ?_
  refine zg_aload_n dL_law_1018 rfl ?_
  refine zg_aload_n dL_law_1019 rfl ?_
  refine zg_iload dL_law_1020 rfl ?_
  refine zg_iconst (v := nI 1) dL_law_1022 (by decide) ?_
  refine zg_iadd dL_law_1023 ?_
  refine zg_v (x' := nI (i + 1)) (nI_add _ _) ?_
  refine zg_sld E (j := i + 1) dL_law_1024 rfl (by omega) (by omega) ?_
  refine zg_aload_n dL_law_1025 rfl ?_
  refine zg_iload dL_law_1026 rfl ?_
  refine zg_iconst (v := nI 2) dL_law_1028 (by decide) ?_
  refine zg_iadd dL_law_1029 ?_
  refine zg_v (x' := nI (i + 2)) (nI_add _ _) ?_
  refine zg_sld E (j := i + 2) dL_law_1030 rfl (by omega) (by omega) ?_
  refine zg_vrt (M := zm_L_law) E (ci := 4) dL_law_1031 hC1 wd_L_122 rfl (congrArg Prod.fst (zl_Mat HM (k := 156) (t := (4, 17)) rfl (by decide) (by decide))) (by decide) (zl_Mlt HM (by decide)) rfl dh_X4_held dn_X4_held (Nat.le_of_ble_eq_true rfl) (Nat.le_of_ble_eq_true rfl) (Nat.le_of_ble_eq_true rfl) (zl_capM HM) rfl (fun w1031 g1031 => ?_)
  obtain ⟨I9, t9, l9⟩ := g1031
  have HL2 := zy_IL I9
  have HM := HL2.2.1
  refine zg_istore (lv' := [(6, .int a'), (5, .int (nI kd)), (0, .ref 0), (1, .ref 1), (2, .ref 156), (3, .ref 165), (4, .int (nI i))]) dL_law_1034 (by decide) rfl ?_
  refine zg_aload_n dL_law_1036 rfl ?_
  refine zg_vrt (M := zm_L_law) E (ci := 4) dL_law_1037 (mt_thrown E HM) wd_L_74 rfl (congrArg Prod.fst (zl_Mat HM (k := 156) (t := (4, 17)) rfl (by decide) (by decide))) (by decide) (zl_Mlt HM (by decide)) rfl dh_X4_thrown dn_X4_thrown (Nat.le_of_ble_eq_true rfl) (Nat.le_of_ble_eq_true rfl) (Nat.le_of_ble_eq_true rfl) (zl_capM HM) rfl (fun w1037 g1037 => ?_)
  subst w1037
  refine zg_v (x' := nI kd) t9 ?_
  refine zg_iload dL_law_1040 rfl ?_
  refine zg_icmp_eq (tgt := 1047) dL_law_1042 (by decide) (fun h1042 => ?_) (fun h1042 => ?_)
  · refine zg_iload dL_law_1047 rfl ?_
    refine zg_if_ne (tgt := 1064) dL_law_1049 (by decide) (fun h1049 => ?_) (fun h1049 => ?_)
    · refine zg_goto (tgt := 1123) dL_law_1064 (by decide) ?_
      refine zg_l [2, 3, 4, 5, 6] rfl ?_
      exact K w1031 I9
    · have k0 : kd = 0 := zy_k0 hk h1049
      refine zg_aload_n dL_law_1052 rfl ?_
      refine zg_iconst (v := nI 0) dL_law_1053 (by decide) ?_
      refine zg_lald E (j := 0) dL_law_1054 HL2.2.2.2.1 (by decide) (by have := HL2.2.2.1; omega) rfl (by omega) (by decide) ?_
      refine zg_vl (x' := (a').toInt64) (by rw [l9, hv1 k0, ha k0]) ?_
      refine zg_iload dL_law_1055 rfl ?_
      refine zg_i2l dL_law_1057 ?_
      refine zg_lcmp dL_law_1058 ?_
      refine zg_if_eq (tgt := 1064) dL_law_1059 (by decide) (fun h1059 => ?_) (fun h1059 => ?_)
      · refine zg_goto (tgt := 1123) dL_law_1064 (by decide) ?_
        refine zg_l [2, 3, 4, 5, 6] rfl ?_
        exact K w1031 I9
      · exact absurd (zy_cmp _) h1059
  · exact absurd rfl h1042
set_option maxHeartbeats 4000000 in
set_option maxRecDepth 100000 in
theorem cs_total {V : zv_V} (E : zv_OK V) (hL : zv_L V ≤ 3072) {n0 u0 i n : Nat} {w : zw_W} {Q : zg_O → zw_W → Prop} (hi : i + 6 ≤ zv_L V) (hI : zy_I n w) (hn : n ≤ 600) (K : ∀ w2, zy_I (n + 1) w2 → zg_G V zm_L_law 10 260 n0 u0 1123 [] [(0, .ref 0), (1, .ref 1), (2, .ref 156), (3, .ref 165), (4, .int (nI i))] w2 Q) : zg_G V zm_L_law 10 260 n0 u0 1067 [] [(0, .ref 0), (1, .ref 1), (2, .ref 156), (3, .ref 165), (4, .int (nI i))] w Q := by
  have HX := (zy_IL hI).1
  have HM := (zy_IL hI).2.1
  refine zg_aload_n dL_law_1067 rfl ?_
  refine zg_aload_n dL_law_1068 rfl ?_
  refine zg_iload dL_law_1069 rfl ?_
  refine zg_iconst (v := nI 1) dL_law_1071 (by decide) ?_
  refine zg_iadd dL_law_1072 ?_
  refine zg_v (x' := nI (i + 1)) (nI_add _ _) ?_
  refine zg_sld E (j := i + 1) dL_law_1073 rfl (by omega) (by omega) ?_
  refine zg_aload_n dL_law_1074 rfl ?_
  obtain ⟨kd, a, a', hk, ha, -, hC⟩ := sp_total E hI hn (zv_x V (i + 1))
  refine zg_sret (M := zm_L_law) E dL_law_1075 hC wd_L_123 dh_L_total dn_L_total (Nat.le_of_ble_eq_true rfl) (Nat.le_of_ble_eq_true rfl) (Nat.le_of_ble_eq_true rfl) (zl_capM HM) rfl (fun w1075 g1075 => ?_)
  obtain ⟨HL1, hv1, hC1⟩ := g1075
  have HM := HL1.2.1
  refine zg_istore (lv' := [(5, .int (nI kd)), (0, .ref 0), (1, .ref 1), (2, .ref 156), (3, .ref 165), (4, .int (nI i))]) dL_law_1078 (by decide) rfl ?_
  refine zg_aload_n dL_law_1080 rfl ?_
  refine zg_aload_n dL_law_1081 rfl ?_
  refine zg_iload dL_law_1082 rfl ?_
  refine zg_iconst (v := nI 1) dL_law_1084 (by decide) ?_
  refine zg_iadd dL_law_1085 ?_
  refine zg_v (x' := nI (i + 1)) (nI_add _ _) ?_
  refine zg_sld E (j := i + 1) dL_law_1086 rfl (by omega) (by omega) ?_
  refine zg_vrt (M := zm_L_law) E (ci := 4) dL_law_1087 hC1 wd_L_125 rfl (congrArg Prod.fst (zl_Mat HM (k := 156) (t := (4, 17)) rfl (by decide) (by decide))) (by decide) (zl_Mlt HM (by decide)) rfl dh_X4_total dn_X4_total (Nat.le_of_ble_eq_true rfl) (Nat.le_of_ble_eq_true rfl) (Nat.le_of_ble_eq_true rfl) (zl_capM HM) rfl (fun w1087 g1087 => ?_)
  obtain ⟨I9, t9, l9⟩ := g1087
  have HL2 := zy_IL I9
  have HM := HL2.2.1
  refine zg_istore (lv' := [(6, .int a'), (5, .int (nI kd)), (0, .ref 0), (1, .ref 1), (2, .ref 156), (3, .ref 165), (4, .int (nI i))]) dL_law_1090 (by decide) rfl ?_
  refine zg_aload_n dL_law_1092 rfl ?_
  refine zg_vrt (M := zm_L_law) E (ci := 4) dL_law_1093 (mt_thrown E HM) wd_L_74 rfl (congrArg Prod.fst (zl_Mat HM (k := 156) (t := (4, 17)) rfl (by decide) (by decide))) (by decide) (zl_Mlt HM (by decide)) rfl dh_X4_thrown dn_X4_thrown (Nat.le_of_ble_eq_true rfl) (Nat.le_of_ble_eq_true rfl) (Nat.le_of_ble_eq_true rfl) (zl_capM HM) rfl (fun w1093 g1093 => ?_)
  subst w1093
  refine zg_v (x' := nI kd) t9 ?_
  refine zg_iload dL_law_1096 rfl ?_
  refine zg_icmp_eq (tgt := 1103) dL_law_1098 (by decide) (fun h1098 => ?_) (fun h1098 => ?_)
  · refine zg_iload dL_law_1103 rfl ?_
    refine zg_if_ne (tgt := 1120) dL_law_1105 (by decide) (fun h1105 => ?_) (fun h1105 => ?_)
    · refine zg_goto (tgt := 1123) dL_law_1120 (by decide) ?_
      refine zg_l [2, 3, 4, 5, 6] rfl ?_
      exact K w1087 I9
    · have k0 : kd = 0 := zy_k0 hk h1105
      refine zg_aload_n dL_law_1108 rfl ?_
      refine zg_iconst (v := nI 0) dL_law_1109 (by decide) ?_
      refine zg_lald E (j := 0) dL_law_1110 HL2.2.2.2.1 (by decide) (by have := HL2.2.2.1; omega) rfl (by omega) (by decide) ?_
      refine zg_vl (x' := (a').toInt64) (by rw [l9, hv1 k0, ha k0]) ?_
      refine zg_iload dL_law_1111 rfl ?_
      refine zg_i2l dL_law_1113 ?_
      refine zg_lcmp dL_law_1114 ?_
      refine zg_if_eq (tgt := 1120) dL_law_1115 (by decide) (fun h1115 => ?_) (fun h1115 => ?_)
      · refine zg_goto (tgt := 1123) dL_law_1120 (by decide) ?_
        refine zg_l [2, 3, 4, 5, 6] rfl ?_
        exact K w1087 I9
      · exact absurd (zy_cmp _) h1115
  · exact absurd rfl h1098

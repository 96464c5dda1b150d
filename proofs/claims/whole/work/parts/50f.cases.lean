/-! The law's cases, on. -/
set_option maxHeartbeats 4000000 in
set_option maxRecDepth 100000 in
theorem cs_disk {V : zv_V} (E : zv_OK V) (hL : zv_L V ≤ 3072) {n0 u0 i n : Nat} {w : zw_W} {Q : zg_O → zw_W → Prop} (hi : i + 6 ≤ zv_L V) (hI : zy_I n w) (hn : n ≤ 600) (K : ∀ w2, zy_I (n + 1) w2 → zg_G V zm_L_law 10 260 n0 u0 1123 [] [(0, .ref 0), (1, .ref 1), (2, .ref 156), (3, .ref 165), (4, .int (nI i))] w2 Q) : zg_G V zm_L_law 10 260 n0 u0 800 [] [(0, .ref 0), (1, .ref 1), (2, .ref 156), (3, .ref 165), (4, .int (nI i))] w Q := by
  have HX := (zy_IL hI).1
  have HM := (zy_IL hI).2.1
  refine zg_aload_n dL_law_800 rfl ?_
  refine zg_aload_n dL_law_801 rfl ?_
  refine zg_iload dL_law_802 rfl ?_
  refine zg_iconst (v := nI 1) dL_law_804 (by decide) ?_
  refine zg_iadd dL_law_805 ?_
  refine zg_v (x' := nI (i + 1)) (nI_add _ _) ?_
  refine zg_sld E (j := i + 1) dL_law_806 rfl (by omega) (by omega) ?_
  refine zg_aload_n dL_law_807 rfl ?_
  refine zg_iload dL_law_808 rfl ?_
  refine zg_iconst (v := nI 2) dL_law_810 (by decide) ?_
  refine zg_iadd dL_law_811 ?_
  refine zg_v (x' := nI (i + 2)) (nI_add _ _) ?_
  refine zg_sld E (j := i + 2) dL_law_812 rfl (by omega) (by omega) ?_
  refine zg_aload_n dL_law_813 rfl ?_
  obtain ⟨kd, a, a', hk, ha, -, hC⟩ := sp_disk E hI hn (zv_x V (i + 1)) (zv_x V (i + 2))
  refine zg_sret (M := zm_L_law) E dL_law_814 hC wd_L_110 dh_L_disk dn_L_disk (Nat.le_of_ble_eq_true rfl) (Nat.le_of_ble_eq_true rfl) (Nat.le_of_ble_eq_true rfl) (zl_capM HM) rfl (fun w814 g814 => ?_)
  obtain ⟨HL1, hv1, hC1⟩ := g814
  have HM := HL1.2.1
  refine zg_istore (lv' := [(5, .int (nI kd)), (0, .ref 0), (1, .ref 1), (2, .ref 156), (3, .ref 165), (4, .int (nI i))]) dL_law_817 (by decide) rfl ?_
  refine zg_aload_n dL_law_819 rfl ?_
  refine zg_aload_n dL_law_820 rfl ?_
  refine zg_iload dL_law_821 rfl ?_
  refine zg_iconst (v := nI 1) dL_law_823 (by decide) ?_
  refine zg_iadd dL_law_824 ?_
  refine zg_v (x' := nI (i + 1)) (nI_add _ _) ?_
  refine zg_sld E (j := i + 1) dL_law_825 rfl (by omega) (by omega) ?_
  refine zg_aload_n dL_law_826 rfl ?_
  refine zg_iload dL_law_827 rfl ?_
  refine zg_iconst (v := nI 2) dL_law_829 (by decide) ?_
  refine zg_iadd dL_law_830 ?_
  refine zg_v (x' := nI (i + 2)) (nI_add _ _) ?_
  refine zg_sld E (j := i + 2) dL_law_831 rfl (by omega) (by omega) ?_
  refine zg_vrt (M := zm_L_law) E (ci := 4) dL_law_832 hC1 wd_L_113 rfl (congrArg Prod.fst (zl_Mat HM (k := 156) (t := (4, 17)) rfl (by decide) (by decide))) (by decide) (zl_Mlt HM (by decide)) rfl dh_X4_disk dn_X4_disk (Nat.le_of_ble_eq_true rfl) (Nat.le_of_ble_eq_true rfl) (Nat.le_of_ble_eq_true rfl) (zl_capM HM) rfl (fun w832 g832 => ?_)
  obtain ⟨I9, t9, l9⟩ := g832
  have HL2 := zy_IL I9
  have HM := HL2.2.1
  refine zg_istore (lv' := [(6, .int a'), (5, .int (nI kd)), (0, .ref 0), (1, .ref 1), (2, .ref 156), (3, .ref 165), (4, .int (nI i))]) dL_law_835 (by decide) rfl ?_
  refine zg_aload_n dL_law_837 rfl ?_
  refine zg_vrt (M := zm_L_law) E (ci := 4) dL_law_838 (mt_thrown E HM) wd_L_74 rfl (congrArg Prod.fst (zl_Mat HM (k := 156) (t := (4, 17)) rfl (by decide) (by decide))) (by decide) (zl_Mlt HM (by decide)) rfl dh_X4_thrown dn_X4_thrown (Nat.le_of_ble_eq_true rfl) (Nat.le_of_ble_eq_true rfl) (Nat.le_of_ble_eq_true rfl) (zl_capM HM) rfl (fun w838 g838 => ?_)
  subst w838
  refine zg_v (x' := nI kd) t9 ?_
  refine zg_iload dL_law_841 rfl ?_
  refine zg_icmp_eq (tgt := 848) dL_law_843 (by decide) (fun h843 => ?_) (fun h843 => ?_)
  · refine zg_iload dL_law_848 rfl ?_
    refine zg_if_ne (tgt := 865) dL_law_850 (by decide) (fun h850 => ?_) (fun h850 => ?_)
    · refine zg_goto (tgt := 1123) dL_law_865 (by decide) ?_
      refine zg_l [2, 3, 4, 5, 6] rfl ?_
      exact K w832 I9
    · have k0 : kd = 0 := zy_k0 hk h850
      refine zg_aload_n dL_law_853 rfl ?_
      refine zg_iconst (v := nI 0) dL_law_854 (by decide) ?_
      refine zg_lald E (j := 0) dL_law_855 HL2.2.2.2.1 (by decide) (by have := HL2.2.2.1; omega) rfl (by omega) (by decide) ?_
      refine zg_vl (x' := (a').toInt64) (by rw [l9, hv1 k0, ha k0]) ?_
      refine zg_iload dL_law_856 rfl ?_
      refine zg_i2l dL_law_858 ?_
      refine zg_lcmp dL_law_859 ?_
      refine zg_if_eq (tgt := 865) dL_law_860 (by decide) (fun h860 => ?_) (fun h860 => ?_)
      · refine zg_goto (tgt := 1123) dL_law_865 (by decide) ?_
        refine zg_l [2, 3, 4, 5, 6] rfl ?_
        exact K w832 I9
      · exact absurd (zy_cmp _) h860
  · exact absurd rfl h843
set_option maxHeartbeats 4000000 in
set_option maxRecDepth 100000 in
theorem cs_place {V : zv_V} (E : zv_OK V) (hL : zv_L V ≤ 3072) {n0 u0 i n : Nat} {w : zw_W} {Q : zg_O → zw_W → Prop} (hi : i + 6 ≤ zv_L V) (hI : zy_I n w) (hn : n ≤ 600) (K : ∀ w2, zy_I (n + 1) w2 → zg_G V zm_L_law 10 260 n0 u0 1123 [] [(0, .ref 0), (1, .ref 1), (2, .ref 156), (3, .ref 165), (4, .int (nI i))] w2 Q) : zg_G V zm_L_law 10 260 n0 u0 868 [] [(0, .ref 0), (1, .ref 1), (2, .ref 156), (3, .ref 165), (4, .int (nI i))] w Q := by
  have HX := (zy_IL hI).1
  have HM := (zy_IL hI).2.1
  refine zg_aload_n dL_law_868 rfl ?_
  refine zg_aload_n dL_law_869 rfl ?_
  refine zg_iload dL_law_870 rfl ?_
  refine zg_iconst (v := nI 1) dL_law_872 (by decide) ?_
  refine zg_iadd dL_law_873 ?_
  refine zg_v (x' := nI (i + 1)) (nI_add _ _) ?_
  refine zg_sld E (j := i + 1) dL_law_874 rfl (by omega) (by omega) ?_
  refine zg_aload_n dL_law_875 rfl ?_
  refine zg_iload dL_law_876 rfl ?_
  refine zg_iconst (v := nI 2) dL_law_878 (by decide) ?_
  refine zg_iadd dL_law_879 ?_
  refine zg_v (x' := nI (i + 2)) (nI_add _ _) ?_
  refine zg_sld E (j := i + 2) dL_law_880 rfl (by omega) (by omega) ?_
  refine zg_aload_n dL_law_881 rfl ?_
  obtain ⟨kd, a, a', hk, ha, -, hC⟩ := sp_place E hI hn (zv_x V (i + 1)) (zv_x V (i + 2))
  refine zg_sret (M := zm_L_law) E dL_law_882 hC wd_L_114 dh_L_place dn_L_place (Nat.le_of_ble_eq_true rfl) (Nat.le_of_ble_eq_true rfl) (Nat.le_of_ble_eq_true rfl) (zl_capM HM) rfl (fun w882 g882 => ?_)
  obtain ⟨HL1, hv1, hC1⟩ := g882
  have HM := HL1.2.1
  refine zg_istore (lv' := [(5, .int (nI kd)), (0, .ref 0), (1, .ref 1), (2, .ref 156), (3, .ref 165), (4, .int (nI i))]) dL_law_885 (by decide) rfl ?_
  refine zg_aload_n dL_law_887 rfl ?_
  refine zg_aload_n dL_law_888 rfl ?_
  refine zg_iload dL_law_889 rfl ?_
  refine zg_iconst (v := nI 1) dL_law_891 (by decide) ?_
  refine zg_iadd dL_law_892 ?_
  refine zg_v (x' := nI (i + 1)) (nI_add _ _) ?_
  refine zg_sld E (j := i + 1) dL_law_893 rfl (by omega) (by omega) ?_
  refine zg_aload_n dL_law_894 rfl ?_
  refine zg_iload dL_law_895 rfl ?_
  refine zg_iconst (v := nI 2) dL_law_897 (by decide) ?_
  refine zg_iadd dL_law_898 ?_
  refine zg_v (x' := nI (i + 2)) (nI_add _ _) ?_
  refine zg_sld E (j := i + 2) dL_law_899 rfl (by omega) (by omega) ?_
  refine zg_vrt (M := zm_L_law) E (ci := 4) dL_law_900 hC1 wd_L_116 rfl (congrArg Prod.fst (zl_Mat HM (k := 156) (t := (4, 17)) rfl (by decide) (by decide))) (by decide) (zl_Mlt HM (by decide)) rfl dh_X4_place dn_X4_place (Nat.le_of_ble_eq_true rfl) (Nat.le_of_ble_eq_true rfl) (Nat.le_of_ble_eq_true rfl) (zl_capM HM) rfl (fun w900 g900 => ?_)
  obtain ⟨I9, t9, l9⟩ := g900
  have HL2 := zy_IL I9
  have HM := HL2.2.1
  refine zg_istore (lv' := [(6, .int a'), (5, .int (nI kd)), (0, .ref 0), (1, .ref 1), (2, .ref 156), (3, .ref 165), (4, .int (nI i))]) dL_law_903 (by decide) rfl ?_
  refine zg_aload_n dL_law_905 rfl ?_
  refine zg_vrt (M := zm_L_law) E (ci := 4) dL_law_906 (mt_thrown E HM) wd_L_74 rfl (congrArg Prod.fst (zl_Mat HM (k := 156) (t := (4, 17)) rfl (by decide) (by decide))) (by decide) (zl_Mlt HM (by decide)) rfl dh_X4_thrown dn_X4_thrown (Nat.le_of_ble_eq_true rfl) (Nat.le_of_ble_eq_true rfl) (Nat.le_of_ble_eq_true rfl) (zl_capM HM) rfl (fun w906 g906 => ?_)
  subst w906
  refine zg_v (x' := nI kd) t9 ?_
  refine zg_iload dL_law_909 rfl ?_
  refine zg_icmp_eq (tgt := 916) dL_law_911 (by decide) (fun h911 => ?_) (fun h911 => ?_)
  · refine zg_iload dL_law_916 rfl ?_
    refine zg_if_ne (tgt := 933) dL_law_918 (by decide) (fun h918 => ?_) (fun h918 => ?_)
    · refine zg_goto (tgt := 1123) dL_law_933 (by decide) ?_
      refine zg_l [2, 3, 4, 5, 6] rfl ?_
      exact K w900 I9
    · have k0 : kd = 0 := zy_k0 hk h918
      refine zg_aload_n dL_law_921 rfl ?_
      refine zg_iconst (v := nI 0) dL_law_922 (by decide) ?_
      refine zg_lald E (j := 0) dL_law_923 HL2.2.2.2.1 (by decide) (by have := HL2.2.2.1; omega) rfl (by omega) (by decide) ?_
      refine zg_vl (x' := (a').toInt64) (by rw [l9, hv1 k0, ha k0]) ?_
      refine zg_iload dL_law_924 rfl ?_
      refine zg_i2l dL_law_926 ?_
      refine zg_lcmp dL_law_927 ?_
      refine zg_if_eq (tgt := 933) dL_law_928 (by decide) (fun h928 => ?_) (fun h928 => ?_)
      · refine zg_goto (tgt := 1123) dL_law_933 (by decide) ?_
        refine zg_l [2, 3, 4, 5, 6] rfl ?_
        exact K w900 I9
      · exact absurd (zy_cmp _) h928
  · exact absurd rfl h911
set_option maxHeartbeats 4000000 in
set_option maxRecDepth 100000 in
theorem cs_free {V : zv_V} (E : zv_OK V) (hL : zv_L V ≤ 3072) {n0 u0 i n : Nat} {w : zw_W} {Q : zg_O → zw_W → Prop} (hi : i + 6 ≤ zv_L V) (hI : zy_I n w) (hn : n ≤ 600) (K : ∀ w2, zy_I (n + 1) w2 → zg_G V zm_L_law 10 260 n0 u0 1123 [] [(0, .ref 0), (1, .ref 1), (2, .ref 156), (3, .ref 165), (4, .int (nI i))] w2 Q) : zg_G V zm_L_law 10 260 n0 u0 936 [] [(0, .ref 0), (1, .ref 1), (2, .ref 156), (3, .ref 165), (4, .int (nI i))] w Q := by
  have HX := (zy_IL hI).1
  have HM := (zy_IL hI).2.1
  refine zg_aload_n dL_law_936 rfl ?_
  refine zg_aload_n dL_law_937 rfl ?_
  refine zg_iload dL_law_938 rfl ?_
  refine zg_iconst (v := nI 1) dL_law_940 (by decide) ?_
  refine zg_iadd dL_law_941 ?_
  refine zg_v (x' := nI (i + 1)) (nI_add _ _) ?_
  refine zg_sld E (j := i + 1) dL_law_942 rfl (by omega) (by omega) ?_
  refine zg_aload_n dL_law_943 rfl ?_
  obtain ⟨kd, a, a', hk, ha, ⟨z, rfl⟩, hC⟩ := sp_free E hI hn (zv_x V (i + 1))
  refine zg_sret (M := zm_L_law) E dL_law_944 hC wd_L_117 dh_L_free dn_L_free (Nat.le_of_ble_eq_true rfl) (Nat.le_of_ble_eq_true rfl) (Nat.le_of_ble_eq_true rfl) (zl_capM HM) rfl (fun w944 g944 => ?_)
  obtain ⟨HL1, hv1, hC1⟩ := g944
  have HM := HL1.2.1
  refine zg_istore (lv' := [(5, .int (nI kd)), (0, .ref 0), (1, .ref 1), (2, .ref 156), (3, .ref 165), (4, .int (nI i))]) dL_law_947 (by decide) rfl ?_
  refine zg_aload_n dL_law_949 rfl ?_
  refine zg_aload_n dL_law_950 rfl ?_
  refine zg_iload dL_law_951 rfl ?_
  refine zg_iconst (v := nI 1) dL_law_953 (by decide) ?_
  refine zg_iadd dL_law_954 ?_
  refine zg_v (x' := nI (i + 1)) (nI_add _ _) ?_
  refine zg_sld E (j := i + 1) dL_law_955 rfl (by omega) (by omega) ?_
  refine zg_vrt (M := zm_L_law) E (ci := 4) dL_law_956 hC1 wd_L_119 rfl (congrArg Prod.fst (zl_Mat HM (k := 156) (t := (4, 17)) rfl (by decide) (by decide))) (by decide) (zl_Mlt HM (by decide)) rfl dh_X4_free dn_X4_free (Nat.le_of_ble_eq_true rfl) (Nat.le_of_ble_eq_true rfl) (Nat.le_of_ble_eq_true rfl) (zl_capM HM) rfl (fun w956 g956 => ?_)
  obtain ⟨I9, t9, l9⟩ := g956
  have HL2 := zy_IL I9
  have HM := HL2.2.1
  refine zg_istore (lv' := [(6, .int (za_bit z)), (5, .int (nI kd)), (0, .ref 0), (1, .ref 1), (2, .ref 156), (3, .ref 165), (4, .int (nI i))]) dL_law_959 (by decide) rfl ?_
  refine zg_aload_n dL_law_961 rfl ?_
  refine zg_vrt (M := zm_L_law) E (ci := 4) dL_law_962 (mt_thrown E HM) wd_L_74 rfl (congrArg Prod.fst (zl_Mat HM (k := 156) (t := (4, 17)) rfl (by decide) (by decide))) (by decide) (zl_Mlt HM (by decide)) rfl dh_X4_thrown dn_X4_thrown (Nat.le_of_ble_eq_true rfl) (Nat.le_of_ble_eq_true rfl) (Nat.le_of_ble_eq_true rfl) (zl_capM HM) rfl (fun w962 g962 => ?_)
  subst w962
  refine zg_v (x' := nI kd) t9 ?_
  refine zg_iload dL_law_965 rfl ?_
  refine zg_icmp_eq (tgt := 972) dL_law_967 (by decide) (fun h967 => ?_) (fun h967 => ?_)
  · refine zg_iload dL_law_972 rfl ?_
    refine zg_if_ne (tgt := 996) dL_law_974 (by decide) (fun h974 => ?_) (fun h974 => ?_)
    · refine zg_goto (tgt := 1123) dL_law_996 (by decide) ?_
      refine zg_l [2, 3, 4, 5, 6] rfl ?_
      exact K w956 I9
    · have k0 : kd = 0 := zy_k0 hk h974
      refine zg_aload_n dL_law_977 rfl ?_
      refine zg_iconst (v := nI 0) dL_law_978 (by decide) ?_
      refine zg_lald E (j := 0) dL_law_979 HL2.2.2.2.1 (by decide) (by have := HL2.2.2.1; omega) rfl (by omega) (by decide) ?_
      refine zg_vl (x' := (za_bit z).toInt64) (by rw [l9, hv1 k0, ha k0]) ?_
      refine zg_iload dL_law_980 rfl ?_
      refine zg_if_eq (tgt := 989) dL_law_982 (by decide) (fun h982 => ?_) (fun h982 => ?_)
      · refine zg_lconst (v := 0) dL_law_989 (by decide) ?_
        refine zg_vl (x' := (za_bit z).toInt64) (by revert h982; cases z <;> decide) ?_
        refine zg_lcmp dL_law_990 ?_
        refine zg_if_eq (tgt := 996) dL_law_991 (by decide) (fun h991 => ?_) (fun h991 => ?_)
        · refine zg_goto (tgt := 1123) dL_law_996 (by decide) ?_
          refine zg_l [2, 3, 4, 5, 6] rfl ?_
          exact K w956 I9
        · exact absurd (zy_cmp _) h991
      · refine zg_lconst (v := 1) dL_law_985 (by decide) ?_
        refine zg_goto (tgt := 990) dL_law_986 (by decide) ?_
        refine zg_vl (x' := (za_bit z).toInt64) (by revert h982; cases z <;> decide) ?_
        refine zg_lcmp dL_law_990 ?_
        refine zg_if_eq (tgt := 996) dL_law_991 (by decide) (fun h991 => ?_) (fun h991 => ?_)
        · refine zg_goto (tgt := 1123) dL_law_996 (by decide) ?_
          refine zg_l [2, 3, 4, 5, 6] rfl ?_
          exact K w956 I9
        · exact absurd (zy_cmp _) h991
  · exact absurd rfl h967

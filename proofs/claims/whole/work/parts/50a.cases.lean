/-! The law's cases. -/
abbrev zm_L_law : zg_M := (RL, cL_law, 7, some .boolean, [])
theorem zy_k0 {kd : Nat} (hk : kd < 3) (h : nI kd = 0) : kd = 0 := by
  have := congrArg Int32.toInt h
  rw [nI_toInt (by omega)] at this
  have e : (0 : Int32).toInt = 0 := by decide
  rw [e] at this
  omega
theorem zy_cmp (x : Int64) : lg_cmp x x = 0 := by
  unfold lg_cmp
  simp
set_option maxHeartbeats 4000000 in
set_option maxRecDepth 100000 in
theorem cs_write {V : zv_V} (E : zv_OK V) (hL : zv_L V ≤ 3072) {n0 u0 i n : Nat} {w : zw_W} {Q : zg_O → zw_W → Prop} (hi : i + 6 ≤ zv_L V) (hI : zy_I n w) (hn : n ≤ 600) (K : ∀ w2, zy_I (n + 1) w2 → zg_G V zm_L_law 10 260 n0 u0 1123 [] [(0, .ref 0), (1, .ref 1), (2, .ref 156), (3, .ref 165), (4, .int (nI i))] w2 Q) : zg_G V zm_L_law 10 260 n0 u0 127 [] [(0, .ref 0), (1, .ref 1), (2, .ref 156), (3, .ref 165), (4, .int (nI i))] w Q := by
  have HX := (zy_IL hI).1
  have HM := (zy_IL hI).2.1
  refine zg_aload_n dL_law_127 rfl ?_
  refine zg_aload_n dL_law_128 rfl ?_
  refine zg_iload dL_law_129 rfl ?_
  refine zg_iconst (v := nI 1) dL_law_131 (by decide) ?_
  refine zg_iadd dL_law_132 ?_
  refine zg_v (x' := nI (i + 1)) (nI_add _ _) ?_
  refine zg_sld E (j := i + 1) dL_law_133 rfl (by omega) (by omega) ?_
  refine zg_aload_n dL_law_134 rfl ?_
  refine zg_iload dL_law_135 rfl ?_
  refine zg_iconst (v := nI 2) dL_law_137 (by decide) ?_
  refine zg_iadd dL_law_138 ?_
  refine zg_v (x' := nI (i + 2)) (nI_add _ _) ?_
  refine zg_sld E (j := i + 2) dL_law_139 rfl (by omega) (by omega) ?_
  refine zg_aload_n dL_law_140 rfl ?_
  refine zg_iload dL_law_141 rfl ?_
  refine zg_iconst (v := nI 3) dL_law_143 (by decide) ?_
  refine zg_iadd dL_law_144 ?_
  refine zg_v (x' := nI (i + 3)) (nI_add _ _) ?_
  refine zg_sld E (j := i + 3) dL_law_145 rfl (by omega) (by omega) ?_
  refine zg_aload_n dL_law_146 rfl ?_
  obtain ⟨kd, a, a', hk, ha, -, hC⟩ := sp_write E hI hn (zv_x V (i + 1)) (zv_x V (i + 2)) (zv_x V (i + 3))
  refine zg_sret (M := zm_L_law) E dL_law_147 hC wd_L_68 dh_L_write dn_L_write (Nat.le_of_ble_eq_true rfl) (Nat.le_of_ble_eq_true rfl) (Nat.le_of_ble_eq_true rfl) (zl_capM HM) rfl (fun w147 g147 => ?_)
  obtain ⟨HL1, hv1, hC1⟩ := g147
  have HM := HL1.2.1
  refine zg_istore (lv' := [(5, .int (nI kd)), (0, .ref 0), (1, .ref 1), (2, .ref 156), (3, .ref 165), (4, .int (nI i))]) dL_law_150 (by decide) rfl ?_
  refine zg_aload_n dL_law_152 rfl ?_
  refine zg_aload_n dL_law_153 rfl ?_
  refine zg_iload dL_law_154 rfl ?_
  refine zg_iconst (v := nI 1) dL_law_156 (by decide) ?_
  refine zg_iadd dL_law_157 ?_
  refine zg_v (x' := nI (i + 1)) (nI_add _ _) ?_
  refine zg_sld E (j := i + 1) dL_law_158 rfl (by omega) (by omega) ?_
  refine zg_aload_n dL_law_159 rfl ?_
  refine zg_iload dL_law_160 rfl ?_
  refine zg_iconst (v := nI 2) dL_law_162 (by decide) ?_
  refine zg_iadd dL_law_163 ?_
  refine zg_v (x' := nI (i + 2)) (nI_add _ _) ?_
  refine zg_sld E (j := i + 2) dL_law_164 rfl (by omega) (by omega) ?_
  refine zg_aload_n dL_law_165 rfl ?_
  refine zg_iload dL_law_166 rfl ?_
  refine zg_iconst (v := nI 3) dL_law_168 (by decide) ?_
  refine zg_iadd dL_law_169 ?_
  refine zg_v (x' := nI (i + 3)) (nI_add _ _) ?_
  refine zg_sld E (j := i + 3) dL_law_170 rfl (by omega) (by omega) ?_
  refine zg_vrt (M := zm_L_law) E (ci := 4) dL_law_171 hC1 wd_L_73 rfl (congrArg Prod.fst (zl_Mat HM (k := 156) (t := (4, 17)) rfl (by decide) (by decide))) (by decide) (zl_Mlt HM (by decide)) rfl dh_X4_write dn_X4_write (Nat.le_of_ble_eq_true rfl) (Nat.le_of_ble_eq_true rfl) (Nat.le_of_ble_eq_true rfl) (zl_capM HM) rfl (fun w171 g171 => ?_)
  obtain ⟨I9, t9, l9⟩ := g171
  have HL2 := zy_IL I9
  have HM := HL2.2.1
  refine zg_istore (lv' := [(6, .int a'), (5, .int (nI kd)), (0, .ref 0), (1, .ref 1), (2, .ref 156), (3, .ref 165), (4, .int (nI i))]) dL_law_174 (by decide) rfl ?_
  refine zg_aload_n dL_law_176 rfl ?_
  refine zg_vrt (M := zm_L_law) E (ci := 4) dL_law_177 (mt_thrown E HM) wd_L_74 rfl (congrArg Prod.fst (zl_Mat HM (k := 156) (t := (4, 17)) rfl (by decide) (by decide))) (by decide) (zl_Mlt HM (by decide)) rfl dh_X4_thrown dn_X4_thrown (Nat.le_of_ble_eq_true rfl) (Nat.le_of_ble_eq_true rfl) (Nat.le_of_ble_eq_true rfl) (zl_capM HM) rfl (fun w177 g177 => ?_)
  subst w177
  refine zg_v (x' := nI kd) t9 ?_
  refine zg_iload dL_law_180 rfl ?_
  refine zg_icmp_eq (tgt := 187) dL_law_182 (by decide) (fun h182 => ?_) (fun h182 => ?_)
  · refine zg_iload dL_law_187 rfl ?_
    refine zg_if_ne (tgt := 204) dL_law_189 (by decide) (fun h189 => ?_) (fun h189 => ?_)
    · refine zg_goto (tgt := 1123) dL_law_204 (by decide) ?_
      refine zg_l [2, 3, 4, 5, 6] rfl ?_
      exact K w171 I9
    · have k0 : kd = 0 := zy_k0 hk h189
      refine zg_aload_n dL_law_192 rfl ?_
      refine zg_iconst (v := nI 0) dL_law_193 (by decide) ?_
      refine zg_lald E (j := 0) dL_law_194 HL2.2.2.2.1 (by decide) (by have := HL2.2.2.1; omega) rfl (by omega) (by decide) ?_
      refine zg_vl (x' := (a').toInt64) (by rw [l9, hv1 k0, ha k0]) ?_
      refine zg_iload dL_law_195 rfl ?_
      refine zg_i2l dL_law_197 ?_
      refine zg_lcmp dL_law_198 ?_
      refine zg_if_eq (tgt := 204) dL_law_199 (by decide) (fun h199 => ?_) (fun h199 => ?_)
      · refine zg_goto (tgt := 1123) dL_law_204 (by decide) ?_
        refine zg_l [2, 3, 4, 5, 6] rfl ?_
        exact K w171 I9
      · exact absurd (zy_cmp _) h199
  · exact absurd rfl h182
set_option maxHeartbeats 4000000 in
set_option maxRecDepth 100000 in
theorem cs_format {V : zv_V} (E : zv_OK V) (hL : zv_L V ≤ 3072) {n0 u0 i n : Nat} {w : zw_W} {Q : zg_O → zw_W → Prop} (hi : i + 6 ≤ zv_L V) (hI : zy_I n w) (hn : n ≤ 600) (K : ∀ w2, zy_I (n + 1) w2 → zg_G V zm_L_law 10 260 n0 u0 1123 [] [(0, .ref 0), (1, .ref 1), (2, .ref 156), (3, .ref 165), (4, .int (nI i))] w2 Q) : zg_G V zm_L_law 10 260 n0 u0 116 [] [(0, .ref 0), (1, .ref 1), (2, .ref 156), (3, .ref 165), (4, .int (nI i))] w Q := by
  have HX := (zy_IL hI).1
  have HM := (zy_IL hI).2.1
  refine zg_aload_n dL_law_116 rfl ?_
  refine zg_vrt (M := zm_L_law) E (ci := 3) dL_law_117 (sp_format E hI hn) wd_L_64 rfl (congrArg Prod.fst (zl_at HX (k := 1) (t := (3, 7)) rfl (by decide) (by decide))) (by decide) (zl_lt HX (by decide)) rfl dh_X3_format dn_X3_format (Nat.le_of_ble_eq_true rfl) (Nat.le_of_ble_eq_true rfl) (Nat.le_of_ble_eq_true rfl) (zl_capM HM) rfl (fun w117 g117 => ?_)
  obtain ⟨HL1, hC1⟩ := g117
  have HM := HL1.2.1
  refine zg_aload_n dL_law_120 rfl ?_
  refine zg_vrt (M := zm_L_law) E (ci := 4) dL_law_121 hC1 wd_L_67 rfl (congrArg Prod.fst (zl_Mat HM (k := 156) (t := (4, 17)) rfl (by decide) (by decide))) (by decide) (zl_Mlt HM (by decide)) rfl dh_X4_format dn_X4_format (Nat.le_of_ble_eq_true rfl) (Nat.le_of_ble_eq_true rfl) (Nat.le_of_ble_eq_true rfl) (zl_capM HM) rfl (fun w121 g121 => ?_)
  have I9 := g121
  refine zg_goto (tgt := 1123) dL_law_124 (by decide) ?_
  refine zg_l [0, 1, 2, 3, 4] rfl ?_
  exact K w121 I9

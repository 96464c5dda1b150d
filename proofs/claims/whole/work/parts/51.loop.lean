/-! The law's loop and its start. -/
theorem zy_gt {i l : Nat} (h : ¬ (nI l - nI 6 < nI i)) (hi : i ≤ 4000) (hl : l ≤ 3072) : i + 6 ≤ l := by
  rw [Int32.lt_iff_toInt_lt, Int32.toInt_sub, nI_toInt (by omega), nI_toInt (by omega), nI_toInt (by omega), Int.bmod_def] at h
  split at h <;> omega
theorem zy_and (x : Int32) : ∃ k, k < 16 ∧ x &&& nI 15 = nI k := ⟨x.toBitVec.toNat % 2 ^ 4, Nat.mod_lt _ (by decide), pk_and _ 4 (by decide)⟩
set_option maxHeartbeats 4000000 in
set_option maxRecDepth 100000 in
theorem law_head {V : zv_V} (E : zv_OK V) (hL : zv_L V ≤ 3072) {n0 u0 : Nat} {Q : zg_O → zw_W → Prop} (hQ : ∀ w, zl_X w → Q (.inl (some (.int (nI 1)))) w) : ∀ (f n : Nat) (w : zw_W), n ≤ 512 → 513 ≤ n + f → zy_I n w → zg_G V zm_L_law 10 260 n0 u0 23 [] [(0, .ref 0), (1, .ref 1), (2, .ref 156), (3, .ref 165), (4, .int (nI (6 * n)))] w Q := by
  intro f
  induction f with
  | zero =>
    intro n w h1 h2
    exact absurd h2 (by omega)
  | succ f ih =>
    intro n w h1 h2 hI
    refine zg_iload dL_law_23 rfl ?_
    refine zg_aload_n dL_law_25 rfl ?_
    refine zg_slen E dL_law_26 ?_
    refine zg_bipush (v := nI 6) dL_law_27 (by decide) ?_
    refine zg_isub dL_law_29 ?_
    refine zg_icmp_gt (tgt := 1129) dL_law_30 (by decide) (fun h30 => ?_) (fun h30 => ?_)
    · refine zg_iconst (v := nI 1) dL_law_1129 (by decide) ?_
      exact zg_zret rfl rfl dL_law_1130 (hQ w (zy_IL hI).1)
    · have hi : 6 * n + 6 ≤ zv_L V := zy_gt h30 (by omega) hL
      have K : ∀ w2, zy_I (n + 1) w2 → zg_G V zm_L_law 10 260 n0 u0 1123 [] [(0, .ref 0), (1, .ref 1), (2, .ref 156), (3, .ref 165), (4, .int (nI (6 * n)))] w2 Q := by
        intro w2 h
        refine zg_iinc (v := nI (6 * (n + 1))) (lv' := [(4, .int (nI (6 * (n + 1)))), (0, .ref 0), (1, .ref 1), (2, .ref 156), (3, .ref 165)]) dL_law_1123 rfl (nI_add (6 * n) 6) (by decide) rfl ?_
        refine zg_goto (tgt := 23) dL_law_1126 (by decide) ?_
        refine zg_l [1, 2, 3, 4, 0] rfl ?_
        exact ih (n + 1) w2 (by omega) (by omega) h
      refine zg_aload_n dL_law_33 rfl ?_
      refine zg_iload dL_law_34 rfl ?_
      refine zg_sld E (j := 6 * n) dL_law_36 rfl (by omega) (by omega) ?_
      refine zg_bipush (v := nI 15) dL_law_37 (by decide) ?_
      refine zg_iand dL_law_39 ?_
      obtain ⟨k, hk, e⟩ := zy_and (zv_x V (6 * n))
      refine zg_v e ?_
      obtain rfl | rfl | rfl | rfl | rfl | rfl | rfl | rfl | rfl | rfl | rfl | rfl | rfl | rfl | rfl | rfl : k = 0 ∨ k = 1 ∨ k = 2 ∨ k = 3 ∨ k = 4 ∨ k = 5 ∨ k = 6 ∨ k = 7 ∨ k = 8 ∨ k = 9 ∨ k = 10 ∨ k = 11 ∨ k = 12 ∨ k = 13 ∨ k = 14 ∨ k = 15 := by omega
      · refine zg_tabIn (off := 76) (tgt := 116) dL_law_40 (by decide) (by decide) rfl (by decide) ?_
        exact cs_format E hL hi hI (by omega) K
      · refine zg_tabIn (off := 87) (tgt := 127) dL_law_40 (by decide) (by decide) rfl (by decide) ?_
        exact cs_write E hL hi hI (by omega) K
      · refine zg_tabIn (off := 167) (tgt := 207) dL_law_40 (by decide) (by decide) rfl (by decide) ?_
        exact cs_fill E hL hi hI (by omega) K
      · refine zg_tabIn (off := 311) (tgt := 351) dL_law_40 (by decide) (by decide) rfl (by decide) ?_
        exact cs_read E hL hi hI (by omega) K
      · refine zg_tabIn (off := 407) (tgt := 447) dL_law_40 (by decide) (by decide) rfl (by decide) ?_
        exact cs_spill E hL hi hI (by omega) K
      · refine zg_tabIn (off := 463) (tgt := 503) dL_law_40 (by decide) (by decide) rfl (by decide) ?_
        exact cs_commit E hL hi hI (by omega) K
      · refine zg_tabIn (off := 535) (tgt := 575) dL_law_40 (by decide) (by decide) rfl (by decide) ?_
        exact cs_abort E hL hi hI (by omega) K
      · refine zg_tabIn (off := 579) (tgt := 619) dL_law_40 (by decide) (by decide) rfl (by decide) ?_
        exact cs_flush E hL hi hI (by omega) K
      · refine zg_tabIn (off := 623) (tgt := 663) dL_law_40 (by decide) (by decide) rfl (by decide) ?_
        exact cs_fail E hL hi hI (by omega) K
      · refine zg_tabIn (off := 680) (tgt := 720) dL_law_40 (by decide) (by decide) rfl (by decide) ?_
        exact cs_damage E hL hi hI (by omega) K
      · refine zg_tabIn (off := 760) (tgt := 800) dL_law_40 (by decide) (by decide) rfl (by decide) ?_
        exact cs_disk E hL hi hI (by omega) K
      · refine zg_tabIn (off := 828) (tgt := 868) dL_law_40 (by decide) (by decide) rfl (by decide) ?_
        exact cs_place E hL hi hI (by omega) K
      · refine zg_tabIn (off := 896) (tgt := 936) dL_law_40 (by decide) (by decide) rfl (by decide) ?_
        exact cs_free E hL hi hI (by omega) K
      · refine zg_tabIn (off := 959) (tgt := 999) dL_law_40 (by decide) (by decide) rfl (by decide) ?_
        exact cs_held E hL hi hI (by omega) K
      · refine zg_tabIn (off := 1027) (tgt := 1067) dL_law_40 (by decide) (by decide) rfl (by decide) ?_
        exact cs_total E hL hi hI (by omega) K
      · refine zg_tabOut (tgt := 1123) dL_law_40 (Or.inr (by decide)) (by decide) ?_
        exact K w (zy_up hI)
set_option maxHeartbeats 4000000 in
set_option maxRecDepth 100000 in
theorem law_body {V : zv_V} (E : zv_OK V) (hL : zv_L V ≤ 3072) {Q : zg_O → zw_W → Prop} (hQ : ∀ w, zl_X w → Q (.inl (some (.int (nI 1)))) w) : zg_G V zm_L_law 10 260 1 0 0 [] [(0, .ref 0)] ((1, 0, fun _ => (0, 0), fun _ _ => none, fun _ _ => 0, fun _ _ => 0) : zw_W) Q := by
  have c1 : zc_cn = 601025 := rfl
  have c2 : zc_cs = 7293034 := rfl
  refine zg_new E (ci := 3) dL_law_0 rfl (Nat.le_refl 1) (by decide +kernel) (by decide +kernel) (by decide +kernel) (by decide) (by decide) ?_
  refine zg_dup dL_law_3 rfl ?_
  have P0 : zi_P 2 (zi_F 0) (zw_nw ((1, 0, fun _ => (0, 0), fun _ _ => none, fun _ _ => 0, fun _ _ => 0) : zw_W) (3, 7)) := by
    refine ⟨rfl, fun k h1 h2 => ?_, fun k h1 => ?_, fun k h1 h2 j r h e => ?_⟩
    · have e : k = 1 := by omega
      subst e
      rfl
    · by_cases e : k = 1
      · subst e
        rfl
      · exact zw_ro_n _ _ e
    · have e : k = 1 := by omega
      subst e
      exfalso
      unfold zi_F at h
      have h := of_decide_eq_true h
      unfold zi_o at h
      rw [if_neg (by decide), if_neg (by decide), if_neg (by decide), if_pos rfl] at h
      revert h
      repeat' split
      all_goals omega
  refine zg_irt (M := zm_L_law) E false dL_law_4 (ct_X3_init (w := zw_nw ((1, 0, fun _ => (0, 0), fun _ _ => none, fun _ _ => 0, fun _ _ => 0) : zw_W) (3, 7)) E P0 (by decide)) wd_L_60 wl_L_60 rfl rfl rfl dh_X3_init dn_X3_init (Nat.le_of_ble_eq_true rfl) (Nat.le_of_ble_eq_true rfl) (Nat.le_of_ble_eq_true rfl) ⟨by decide, by decide⟩ rfl (fun w4 g4 => ?_)
  obtain ⟨HX, hX, n4, s4⟩ := g4
  refine zg_astore_n (lv' := [(1, .ref 1), (0, .ref 0)]) dL_law_7 (by decide) rfl ?_
  have s4 : w4.2.1 ≤ 7 + 5000 := s4
  have hw8 : w4.1 + 1 ≤ zc_cn := by omega
  refine zg_new E (ci := 4) dL_law_8 rfl (by omega) (by decide +kernel) (by decide +kernel) (by decide +kernel) hw8 (by show w4.2.1 + 17 ≤ zc_cs; omega) ?_
  refine zg_dup dL_law_11 rfl ?_
  obtain ⟨n, u, t, r, ii, l⟩ := w4
  obtain rfl : n = 156 := n4
  have s4 : u ≤ 5007 := s4
  have HX1 : zl_X (zw_nw ((156, u, t, r, ii, l) : zw_W) (4, 17)) := by
    refine ⟨by show 156 ≤ 156 + 1; omega, fun k h1 h2 => ?_, by show 156 + 1 + 2000 ≤ zc_cn; omega, by show u + 17 + 20000 ≤ zc_cs; omega⟩
    show zw_ro t 156 (4, 17) k = _ ∧ ∀ j q, zl_r k j = some q → zw_ro r 156 (fun _ => none) k j = some q
    rw [zw_ro_n _ _ (by omega), zw_ro_n _ _ (by omega)]
    exact HX.2.1 k h1 h2
  have hX1 : zr_X (zw_i (zw_nw ((156, u, t, r, ii, l) : zw_W) (4, 17))) za_D0 (0, fun _ => 0, fun _ _ => 0) false (za_mt za_D0) (za_mt za_D0) za_C0 := zr_Xe hX (Nat.zero_le _) (fun a h1 h2 i => congrFun (zw_ro_n _ _ (by omega)) i)
  refine zg_irt (M := zm_L_law) E false dL_law_12 (ct_X4_init (w := zw_nw ((156, u, t, r, ii, l) : zw_W) (4, 17)) E HX1 hX1 (Nat.zero_le _) rfl (zw_ro_s t 156 (4, 17)) (zw_ro_s ii 156 (fun _ => 0)) (by show u + 17 + 30000 ≤ zc_cs; omega)) wd_L_63 wl_L_63 rfl rfl rfl dh_X4_init dn_X4_init (Nat.le_of_ble_eq_true rfl) (Nat.le_of_ble_eq_true rfl) (Nat.le_of_ble_eq_true rfl) ⟨by show 156 + 1 ≤ zc_cn; omega, by show u + 17 ≤ zc_cs; omega⟩ rfl (fun w12 g12 => ?_)
  obtain ⟨HX2, hX2, HM2, hM2, n12, s12⟩ := g12
  have s12 : w12.2.1 ≤ u + 17 + 5000 := s12
  refine zg_astore_n (lv' := [(2, .ref 156), (1, .ref 1), (0, .ref 0)]) dL_law_15 (by decide) rfl ?_
  refine zg_iconst (v := nI 1) dL_law_16 (by decide) ?_
  refine zg_newL E (n := 1) dL_law_17 (by omega) rfl (by decide) (by omega) (by omega) ?_
  obtain ⟨n, u2, t2, r2, i2, l2⟩ := w12
  obtain rfl : n = 165 := n12
  have s12 : u2 ≤ u + 17 + 5000 := s12
  refine zg_astore_n (lv' := [(3, .ref 165), (2, .ref 156), (1, .ref 1), (0, .ref 0)]) dL_law_19 (by decide) rfl ?_
  refine zg_iconst (v := nI 0) dL_law_20 (by decide) ?_
  refine zg_istore (lv' := [(4, .int (nI 0)), (3, .ref 165), (2, .ref 156), (1, .ref 1), (0, .ref 0)]) dL_law_21 (by decide) rfl ?_
  refine zg_l [4, 3, 2, 1, 0] rfl ?_
  have w9 : za_WT (za_mt za_D0) := za_mt_W za_D0_t
  refine law_head E hL hQ 513 0 _ (by decide) (by decide) ⟨za_D0, (0, fun _ => 0, fun _ _ => 0), false, za_mt za_D0, za_mt za_D0, za_C0, ⟨⟨by show 156 ≤ 165 + 1; omega, fun k h1 h2 => ?_, by show 165 + 1 + 2000 ≤ zc_cn; omega, by show u2 + 1 + 20000 ≤ zc_cs; omega⟩, ⟨by show 165 ≤ 165 + 1; omega, fun k h1 h2 => ?_, by show 165 + 1 + 2000 ≤ zc_cn; omega, by show u2 + 1 + 20000 ≤ zc_cs; omega⟩, Nat.le_refl _, zw_ro_s t2 165 (12, 1), Nat.le_refl _, by show u2 + 1 ≤ 20000 + 6 * 0; omega⟩, ?_, ?_, ⟨za_D0_W, za_H0_W _, Nat.zero_le _, w9, w9, za_C0_W⟩⟩
  · show zw_ro t2 165 (12, 1) k = _ ∧ ∀ j q, zl_r k j = some q → zw_ro r2 165 (fun _ => none) k j = some q
    rw [zw_ro_n _ _ (by omega), zw_ro_n _ _ (by omega)]
    exact HX2.2.1 k h1 h2
  · show zw_ro t2 165 (12, 1) k = _ ∧ ∀ j q, zl_r k j = some q → zw_ro r2 165 (fun _ => none) k j = some q
    rw [zw_ro_n _ _ (by omega), zw_ro_n _ _ (by omega)]
    exact HM2.2.1 k h1 h2
  · exact zr_Xe hX2 (Nat.zero_le _) (fun a h1 h2 i => congrFun (zw_ro_n _ _ (by omega)) i)
  · exact zy_ue hM2 (fun a h1 h2 i => congrFun (zw_ro_n _ _ (by omega)) i)

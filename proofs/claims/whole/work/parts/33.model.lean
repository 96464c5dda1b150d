/-! The reference's fail and fill. -/
theorem zb_sam : ∀ i, i < 64 → (((nI i).toInt64 &&& 63).toBitVec.smod 64#64).toNat = i := by decide +kernel
theorem zb_ssr (v : Int64) {i : Nat} (hi : i < 64) : (v >>> ((nI i).toInt64 &&& 63)).toBitVec = v.toBitVec.sshiftRight i := by
  rw [Int64.toBitVec_shiftRight]
  show v.toBitVec.sshiftRight _ = _
  exact congrArg (BitVec.sshiftRight v.toBitVec) (zb_sam i hi)
theorem zb_sb (v : Int64) {i : Nat} (hi : i < 64) : ((v >>> ((nI i).toInt64 &&& 63)) &&& 1 = 1) ↔ zb v i = true := by
  have e0 : (v >>> ((nI i).toInt64 &&& 63)).toBitVec.getLsbD 0 = v.toBitVec.getLsbD i := by
    rw [zb_ssr v hi, BitVec.getLsbD_sshiftRight]
    simp [hi]
  rw [← Int64.toBitVec_inj, Int64.toBitVec_and]
  unfold zb
  rw [← e0]
  generalize (v >>> ((nI i).toInt64 &&& 63)).toBitVec = x
  constructor
  · intro h
    have := congrArg (fun y => BitVec.getLsbD y 0) h
    simp only [BitVec.getLsbD_and] at this
    simpa using this
  · intro h
    refine BitVec.eq_of_getLsbD_eq fun j hj => ?_
    rw [BitVec.getLsbD_and]
    rcases j with _ | j
    · rw [h]
      rfl
    · rw [show (Int64.toBitVec 1).getLsbD (j + 1) = false by
        show (1#64).getLsbD (j + 1) = false
        rw [BitVec.getLsbD_one]
        simp, Bool.and_false]
theorem zs_cm1 {x : Int64} (h : lg_cmp x 1 = 0) : x = 1 := by
  unfold lg_cmp at h
  split at h
  · exact absurd h (by decide)
  · split at h
    · assumption
    · exact absurd h (by decide)
theorem zs_cm2 {x : Int64} (h : ¬ lg_cmp x 1 = 0) : ¬ x = 1 := fun e => h (by rw [e]; decide)
set_option maxHeartbeats 4000000 in
set_option maxRecDepth 100000 in
theorem lm_fail {V : zv_V} (E : zv_OK V) {w : zw_W} {n0 u0 : Nat} {Q : zg_O → zw_W → Prop} (HM : zl_M w) {D : Nat → Nat → Nat} {H : za_H} {b : Bool} {L S : za_T} {C : za_C} {t : Bool} (hH : za_WH H) (h60 : H.1 ≤ 60) (hD : za_WD D) {v : Int64} {ok : Bool} (hok : ok = true ↔ za_mr (za_car D H (zb v) H.1) ∧ za_tr (za_car D H (zb v) H.1)) (hq : ∀ J, zu_X J (za_car D H (zb v) H.1) (0, H.2) (!ok) (if ok then za_mt (za_car D H (zb v) H.1) else L) (if ok then za_mt (za_car D H (zb v) H.1) else S) za_C0 false → J 156 16 = nI 0 → zu_fr [157, 158, 159] [3, 4, 5, 6, 7, 8, 14, 15, 16] (zw_i w) J → Q (.inl (some (.int (za_bit ok)))) (zw_I w J))  : ∀ (n i : Nat) (J : Nat → Nat → Int32), i ≤ H.1 → H.1 + 1 ≤ i + n → zu_X J (za_car D H (zb v) i) H b L S C t → J 156 16 = nI 0 → zu_fr [157] [16] (zw_i w) J → zg_G V zm_X4_fail 8 190 n0 u0 7 [] [(3, .int (nI i)), (0, .ref 156), (1, .long v)] (zw_I w J) Q := by
  intro nn
  induction nn with
  | zero =>
    intro i J hii hnn
    exact absurd hnn (by omega)
  | succ nn ih =>
    intro i J hii hnn k0 k1 k2
    refine zg_iload_n dX4_fail_7 rfl ?_
    refine zg_aload_n dX4_fail_8 rfl ?_
    refine zg_getI E (ci := 4) (j := 14) dX4_fail_9 rfl (congrArg Prod.fst (zl_Mat HM (k := 156) (t := (4, 17)) rfl (by decide) (by decide))) (by decide) (zl_Mlt HM (by decide)) (by decide) fl_X4_54 rfl ?_
    refine zg_v (x' := nI H.1) k0.2.1.1 ?_
    refine zg_icmp_ge (tgt := 42) dX4_fail_12 (by decide) (fun h12 => ?_) (fun h12 => ?_)
    · obtain rfl : i = H.1 := by have := zn_ge h12 (by omega) (by omega); omega
      refine zg_aload_n dX4_fail_42 rfl ?_
      refine zg_vrt (M := zm_X4_fail) E (ci := 4) dX4_fail_43 (mt_mount (w := zw_I w J) E HM k0 (za_car_W _ hD hH _ (Nat.le_refl _)) hok) wd_X4_51 rfl (congrArg Prod.fst (zl_Mat HM (k := 156) (t := (4, 17)) rfl (by decide) (by decide))) (by decide) (zl_Mlt HM (by decide)) rfl dh_X4_mount dn_X4_mount (Nat.le_of_ble_eq_true rfl) (Nat.le_of_ble_eq_true rfl) (Nat.le_of_ble_eq_true rfl) (zl_capM HM) rfl (fun w43 g43 => ?_)
      obtain ⟨J2, rfl, r2, f2⟩ := g43
      refine zg_w (w' := zw_I w J2) rfl ?_
      refine zg_aload_n dX4_fail_46 rfl ?_
      refine zg_getI E (ci := 4) (j := 7) dX4_fail_47 rfl (congrArg Prod.fst (zl_Mat HM (k := 156) (t := (4, 17)) rfl (by decide) (by decide))) (by decide) (zl_Mlt HM (by decide)) (by decide) fl_X4_64 rfl ?_
      refine zg_v (x' := za_bit (!ok)) r2.2.2.1 ?_
      refine zg_if_ne (tgt := 57) dX4_fail_50 (by decide) (fun h50 => ?_) (fun h50 => ?_)
      · have e : ok = false := by cases ok with | false => rfl | true => exact absurd rfl h50
        refine zg_iconst (v := nI 0) dX4_fail_57 (by decide) ?_
        exact zg_zret rfl rfl dX4_fail_58 ((show za_bit ok = nI 0 by rw [e]; rfl) ▸ hq J2 r2 (zu_fs k1 f2) (zu_frW (zu_frT k2 f2)))
      · have e : ok = true := by cases ok with | true => rfl | false => exact absurd h50 (by decide)
        refine zg_iconst (v := nI 1) dX4_fail_53 (by decide) ?_
        refine zg_goto (tgt := 58) dX4_fail_54 (by decide) ?_
        exact zg_zret rfl rfl dX4_fail_58 ((show za_bit ok = nI 1 by rw [e]; rfl) ▸ hq J2 r2 (zu_fs k1 f2) (zu_frW (zu_frT k2 f2)))
    · have hlt : i < H.1 := zn_lt h12 (by omega) (by omega)
      refine zg_iload_n dX4_fail_15 rfl ?_
      refine zg_bipush (v := nI 64) dX4_fail_16 (by decide) ?_
      refine zg_icmp_ge (tgt := 36) dX4_fail_18 (by decide) (fun h18 => ?_) (fun h18 => ?_)
      · exact absurd h18 (nI_ge (by omega) (by decide))
      · refine zg_lload_n dX4_fail_21 rfl ?_
        refine zg_iload_n dX4_fail_22 rfl ?_
        refine zg_lshr dX4_fail_23 ?_
        refine zg_lconst (v := 1) dX4_fail_24 (by decide) ?_
        refine zg_land dX4_fail_25 ?_
        refine zg_lconst (v := 1) dX4_fail_26 (by decide) ?_
        refine zg_lcmp dX4_fail_27 ?_
        refine zg_if_ne (tgt := 36) dX4_fail_28 (by decide) (fun h28 => ?_) (fun h28 => ?_)
        · have hc : za_car D H (zb v) (i + 1) = za_car D H (zb v) i := if_neg (fun z => zs_cm2 h28 ((zb_sb v (by omega)).mpr z))
          refine zg_iinc (v := nI (i + 1)) (lv' := [(3, .int (nI (i + 1))), (0, .ref 156), (1, .long v)]) dX4_fail_36 rfl (nI_1 i) (by decide) rfl ?_
          refine zg_goto (tgt := 7) dX4_fail_39 (by decide) ?_
          refine zg_l [0, 1, 2] rfl ?_
          exact zg_s rfl rfl rfl (ih (i + 1) J (by omega) (by omega) (by rw [hc]; exact k0) k1 k2)
        · have hc : za_car D H (zb v) (i + 1) = zw_ro (za_car D H (zb v) i) (H.2.1 i) (H.2.2 i) := if_pos ((zb_sb v (by omega)).mp (zs_cm1 h28))
          refine zg_aload_n dX4_fail_31 rfl ?_
          refine zg_iload_n dX4_fail_32 rfl ?_
          refine zg_vrt (M := zm_X4_fail) E (ci := 4) dX4_fail_33 (mt_writes (w := zw_I w J) E HM k0.1 k0.2.1 hlt hH) wd_X4_90 rfl (congrArg Prod.fst (zl_Mat HM (k := 156) (t := (4, 17)) rfl (by decide) (by decide))) (by decide) (zl_Mlt HM (by decide)) rfl dh_X4_writes dn_X4_writes (Nat.le_of_ble_eq_true rfl) (Nat.le_of_ble_eq_true rfl) (Nat.le_of_ble_eq_true rfl) (zl_capM HM) rfl (fun w33 g33 => ?_)
          obtain ⟨J1, rfl, r1, f1⟩ := g33
          refine zg_w (w' := zw_I w J1) rfl ?_
          refine zg_iinc (v := nI (i + 1)) (lv' := [(3, .int (nI (i + 1))), (0, .ref 156), (1, .long v)]) dX4_fail_36 rfl (nI_1 i) (by decide) rfl ?_
          refine zg_goto (tgt := 7) dX4_fail_39 (by decide) ?_
          refine zg_l [0, 1, 2] rfl ?_
          exact zg_s rfl rfl rfl (ih (i + 1) J1 (by omega) (by omega) (by rw [hc]; exact ⟨r1, zu_fH k0.2.1 f1, zu_fs k0.2.2.1 f1, zu_fL k0.2.2.2.1 f1, zu_fS k0.2.2.2.2.1 f1, zu_fC k0.2.2.2.2.2.1 f1, zu_fs k0.2.2.2.2.2.2 f1⟩) (zu_fs k1 f1) (zu_frW (zu_frT k2 f1)))
set_option maxHeartbeats 4000000 in
set_option maxRecDepth 100000 in
theorem qx_1 {V : zv_V} (E : zv_OK V) {w : zw_W} (HM : zl_M w) {D : Nat → Nat → Nat} {H : za_H} {b : Bool} {L S : za_T} {C : za_C} {t : Bool} (hM : zu_X (zw_i w) D H b L S C t) (hH : za_WH H) (h60 : H.1 ≤ 60) (hD : za_WD D) {v : Int64} {ok : Bool} (hok : ok = true ↔ za_mr (za_car D H (zb v) H.1) ∧ za_tr (za_car D H (zb v) H.1)) : zg_C V zm_X4_fail yX4_fail 8 190 [.ref 156, .long v] w (zq_p (.inl (some (.int (za_bit ok)))) (zu_pub w (za_car D H (zb v) H.1) (0, H.2) (!ok) (if ok then za_mt (za_car D H (zb v) H.1) else L) (if ok then za_mt (za_car D H (zb v) H.1) else S) za_C0 false 0)) := by
  refine zg_of (by decide +kernel) rfl (Nat.le_of_ble_eq_true rfl) ?_
  show zg_G V zm_X4_fail 8 190 w.1 w.2.1 0 [] [(0, .ref 156), (1, .long v)] w _
  refine zg_aload_n dX4_fail_0 rfl ?_
  refine zg_iconst (v := nI 0) dX4_fail_1 (by decide) ?_
  refine zg_putI E (ci := 4) (j := 16) dX4_fail_2 rfl (congrArg Prod.fst (zl_Mat HM (k := 156) (t := (4, 17)) rfl (by decide) (by decide))) (by decide) (zl_Mlt HM (by decide)) (by decide) fl_X4_38 rfl rfl rfl rfl ?_
  obtain ⟨J1, e1, r1, t1, f1⟩ := zu_th (w := w) hM (nI 0)
  refine zg_w e1.symm ?_
  refine zg_iconst (v := nI 0) dX4_fail_5 (by decide) ?_
  refine zg_istore_n (lv' := [(3, .int (nI 0)), (0, .ref 156), (1, .long v)]) dX4_fail_6 (by decide) rfl ?_
  refine zg_l [0, 1, 2] rfl ?_
  exact zg_s rfl rfl rfl (lm_fail E HM hH h60 hD hok (fun J h1 h2 h3 => ⟨rfl, J, rfl, h1, h2, zu_frW h3⟩) (H.1 + 1) 0 J1 (by omega) (by omega) r1 t1 (zu_frW f1))
theorem zn_fl (u : Int64) {i : Nat} (hi : i < 8) : ((u >>> ((nI (8 * i)).toInt64 &&& 63)) &&& 255).toInt32 = nI (u.toBitVec.toNat / 2 ^ (8 * i) % 256) := by
  refine Int32.toBitVec_inj.mp (BitVec.eq_of_toNat_eq ?_)
  rw [pk_tn (by omega), Int64.toBitVec_toInt32, BitVec.signExtend_eq_setWidth_of_le _ (by decide), BitVec.toNat_setWidth, zk_andn, show (255 : Int64).toBitVec.toNat = 2 ^ 8 - 1 from rfl, Nat.and_two_pow_sub_one_eq_mod, zb_ssr u (by omega)]
  rw [Nat.mod_eq_of_lt (Nat.lt_of_lt_of_le (Nat.mod_lt _ (by decide)) (by decide))]
  refine Nat.eq_of_testBit_eq fun j => ?_
  show _ = Nat.testBit (u.toBitVec.toNat / 2 ^ (8 * i) % 2 ^ 8) j
  rw [Nat.testBit_mod_two_pow, Nat.testBit_mod_two_pow, Nat.testBit_div_two_pow]
  by_cases h : j < 8
  · rw [decide_eq_true h, Bool.true_and, Bool.true_and]
    show (u.toBitVec.sshiftRight (8 * i)).getLsbD j = u.toBitVec.getLsbD (j + 8 * i)
    rw [BitVec.getLsbD_sshiftRight, if_pos (by omega), Nat.add_comm]
    simp
    omega
  · rw [decide_eq_false h, Bool.false_and, Bool.false_and]
theorem zu_fil {I J : Nat → Nat → Int32} {C : za_C} {p : Nat} {f : Nat → Nat} (h : zu_C I C) (h1 : ∀ i, i < 16 → J 162 (16 * p + i) = nI (f i)) (h2 : ∀ j, (j < 16 * p ∨ 16 * p + 16 ≤ j) → J 162 j = I 162 j) (F : zu_fr [162] [] I J) : zu_C J (za_fil C p f) := by
  refine ⟨zu_fs h.1 F, fun o q hq => (F _ _ (by decide) (Or.inl (by decide))).trans (h.2.1 o q hq), fun q hq e => ⟨fun j hj => ?_, (F _ _ (by decide) (Or.inl (by decide))).trans (h.2.2 q hq e).2⟩⟩
  show _ = nI (zw_ro C.2.1 p f q j)
  by_cases k : q = p
  · rw [k, zw_ro_s]
    exact h1 j hj
  · rw [zw_ro_n _ _ k, h2 _ (by omega)]
    exact (h.2.2 q hq e).1 j hj
set_option maxHeartbeats 4000000 in
set_option maxRecDepth 100000 in
theorem qi_1 {V : zv_V} (E : zv_OK V) {w : zw_W} (HM : zl_M w) {D : Nat → Nat → Nat} {H : za_H} {b : Bool} {L S : za_T} {C : za_C} {t : Bool} (hM : zu_X (zw_i w) D H b L S C t) {x : Int32} (hx : ∀ n, n < 16 → x ≠ nI n) {u v : Int64}  : zg_C V zm_X4_fill yX4_fill 8 190 [.ref 156, .int x, .long u, .long v] w (zq_p (.inl (some (.int (nI 0)))) (zu_pub w D H b L S C t 1)) := by
  refine zg_of (by decide +kernel) rfl (Nat.le_of_ble_eq_true rfl) ?_
  show zg_G V zm_X4_fill 8 190 w.1 w.2.1 0 [] [(0, .ref 156), (1, .int x), (2, .long u), (4, .long v)] w _
  refine zg_aload_n dX4_fill_0 rfl ?_
  refine zg_iload_n dX4_fill_1 rfl ?_
  refine zg_iconst (v := nI 0) dX4_fill_2 (by decide) ?_
  refine zg_bipush (v := nI 15) dX4_fill_3 (by decide) ?_
  refine zg_sret (M := zm_X4_fill) E dX4_fill_5 (mt_within (w := w) E (z := false) (zw_x (n := 15) hx (by decide))) wd_X4_67 dh_X4_within dn_X4_within (Nat.le_of_ble_eq_true rfl) (Nat.le_of_ble_eq_true rfl) (Nat.le_of_ble_eq_true rfl) (zl_capM HM) rfl (fun w5 g5 => ?_)
  subst w5
  refine zg_if_ne (tgt := 15) dX4_fill_8 (by decide) (fun h8 => ?_) (fun h8 => ?_)
  · exact absurd rfl h8
  · refine zg_iconst (v := nI 1) dX4_fill_11 (by decide) ?_
    refine zg_goto (tgt := 16) dX4_fill_12 (by decide) ?_
    refine zg_iconst (v := nI 1) dX4_fill_16 (by decide) ?_
    refine zg_vrt (M := zm_X4_fill) E (ci := 4) dX4_fill_17 (mt_fails (w := w) (z := true) (k := nI 1) E HM) wd_X4_102 rfl (congrArg Prod.fst (zl_Mat HM (k := 156) (t := (4, 17)) rfl (by decide) (by decide))) (by decide) (zl_Mlt HM (by decide)) rfl dh_X4_fails dn_X4_fails (Nat.le_of_ble_eq_true rfl) (Nat.le_of_ble_eq_true rfl) (Nat.le_of_ble_eq_true rfl) (zl_capM HM) rfl (fun w17 g17 => ?_)
    subst w17
    obtain ⟨J1, e1, r1, t1, f1⟩ := zu_th (w := w) hM (nI 1)
    refine zg_w e1.symm ?_
    refine zg_if_ne (tgt := 51) dX4_fill_20 (by decide) (fun h20 => ?_) (fun h20 => ?_)
    · refine zg_iconst (v := nI 0) dX4_fill_51 (by decide) ?_
      exact zg_iret rfl dX4_fill_52 ⟨rfl, J1, rfl, r1, t1, zu_frW (f1)⟩
    · exact absurd h20 (by decide)
set_option maxHeartbeats 4000000 in
set_option maxRecDepth 100000 in
theorem qi_2 {V : zv_V} (E : zv_OK V) {w : zw_W} (HM : zl_M w) {D : Nat → Nat → Nat} {H : za_H} {b : Bool} {L S : za_T} {C : za_C} {t : Bool} (hM : zu_X (zw_i w) D H b L S C t) {p : Nat} (hp : p < 16) {u v : Int64} (hb : b = true)  : zg_C V zm_X4_fill yX4_fill 8 190 [.ref 156, .int (nI p), .long u, .long v] w (zq_p (.inl (some (.int (nI 0)))) (zu_pub w D H b L S C t 2)) := by
  refine zg_of (by decide +kernel) rfl (Nat.le_of_ble_eq_true rfl) ?_
  show zg_G V zm_X4_fill 8 190 w.1 w.2.1 0 [] [(0, .ref 156), (1, .int (nI p)), (2, .long u), (4, .long v)] w _
  refine zg_aload_n dX4_fill_0 rfl ?_
  refine zg_iload_n dX4_fill_1 rfl ?_
  refine zg_iconst (v := nI 0) dX4_fill_2 (by decide) ?_
  refine zg_bipush (v := nI 15) dX4_fill_3 (by decide) ?_
  refine zg_sret (M := zm_X4_fill) E dX4_fill_5 (mt_within (w := w) E (z := true) (zw_y (n := 15) hp (by decide))) wd_X4_67 dh_X4_within dn_X4_within (Nat.le_of_ble_eq_true rfl) (Nat.le_of_ble_eq_true rfl) (Nat.le_of_ble_eq_true rfl) (zl_capM HM) rfl (fun w5 g5 => ?_)
  subst w5
  refine zg_if_ne (tgt := 15) dX4_fill_8 (by decide) (fun h8 => ?_) (fun h8 => ?_)
  · refine zg_iconst (v := nI 0) dX4_fill_15 (by decide) ?_
    refine zg_iconst (v := nI 1) dX4_fill_16 (by decide) ?_
    refine zg_vrt (M := zm_X4_fill) E (ci := 4) dX4_fill_17 (mt_fails (w := w) (z := false) (k := nI 1) E HM) wd_X4_102 rfl (congrArg Prod.fst (zl_Mat HM (k := 156) (t := (4, 17)) rfl (by decide) (by decide))) (by decide) (zl_Mlt HM (by decide)) rfl dh_X4_fails dn_X4_fails (Nat.le_of_ble_eq_true rfl) (Nat.le_of_ble_eq_true rfl) (Nat.le_of_ble_eq_true rfl) (zl_capM HM) rfl (fun w17 g17 => ?_)
    subst w17
    obtain ⟨J1, e1, r1, t1, f1⟩ := zu_th (w := w) hM (nI 0)
    refine zg_w e1.symm ?_
    refine zg_if_ne (tgt := 51) dX4_fill_20 (by decide) (fun h20 => ?_) (fun h20 => ?_)
    · exact absurd rfl h20
    · refine zg_aload_n dX4_fill_23 rfl ?_
      refine zg_aload_n dX4_fill_24 rfl ?_
      refine zg_getI E (ci := 4) (j := 7) dX4_fill_25 rfl (congrArg Prod.fst (zl_Mat HM (k := 156) (t := (4, 17)) rfl (by decide) (by decide))) (by decide) (zl_Mlt HM (by decide)) (by decide) fl_X4_64 rfl ?_
      refine zg_v (x' := za_bit true) (r1.2.2.1.trans (congrArg za_bit hb)) ?_
      refine zg_if_ne (tgt := 39) dX4_fill_28 (by decide) (fun h28 => ?_) (fun h28 => ?_)
      · refine zg_iconst (v := nI 1) dX4_fill_39 (by decide) ?_
        refine zg_goto (tgt := 44) dX4_fill_40 (by decide) ?_
        refine zg_iconst (v := nI 2) dX4_fill_44 (by decide) ?_
        refine zg_vrt (M := zm_X4_fill) E (ci := 4) dX4_fill_45 (mt_fails (w := zw_I w J1) (z := true) (k := nI 2) E HM) wd_X4_102 rfl (congrArg Prod.fst (zl_Mat HM (k := 156) (t := (4, 17)) rfl (by decide) (by decide))) (by decide) (zl_Mlt HM (by decide)) rfl dh_X4_fails dn_X4_fails (Nat.le_of_ble_eq_true rfl) (Nat.le_of_ble_eq_true rfl) (Nat.le_of_ble_eq_true rfl) (zl_capM HM) rfl (fun w45 g45 => ?_)
        subst w45
        obtain ⟨J2, e2, r2, t2, f2⟩ := zu_th (w := w) r1 (nI 2)
        refine zg_w e2.symm ?_
        refine zg_if_eq (tgt := 53) dX4_fill_48 (by decide) (fun h48 => ?_) (fun h48 => ?_)
        · exact absurd h48 (by decide)
        · refine zg_iconst (v := nI 0) dX4_fill_51 (by decide) ?_
          exact zg_iret rfl dX4_fill_52 ⟨rfl, J2, rfl, r2, t2, zu_frW (zu_frT f1 f2)⟩
      · exact absurd h28 (by decide)
  · exact absurd h8 (by decide)
set_option maxHeartbeats 4000000 in
set_option maxRecDepth 100000 in
theorem qi_3 {V : zv_V} (E : zv_OK V) {w : zw_W} (HM : zl_M w) {D : Nat → Nat → Nat} {H : za_H} {b : Bool} {L S : za_T} {C : za_C} {t : Bool} (hM : zu_X (zw_i w) D H b L S C t) {p : Nat} (hp : p < 16) {u v : Int64} (hb : b = false) (wL : za_WT L) (wS : za_WT S) (wC : za_WC C) (h0 : C.1 p = 0) (hr : za_ff L S C.1 (-1))  : zg_C V zm_X4_fill yX4_fill 8 190 [.ref 156, .int (nI p), .long u, .long v] w (zq_p (.inl (some (.int (nI 0)))) (zu_pub w D H b L S C t 2)) := by
  refine zg_of (by decide +kernel) rfl (Nat.le_of_ble_eq_true rfl) ?_
  show zg_G V zm_X4_fill 8 190 w.1 w.2.1 0 [] [(0, .ref 156), (1, .int (nI p)), (2, .long u), (4, .long v)] w _
  refine zg_aload_n dX4_fill_0 rfl ?_
  refine zg_iload_n dX4_fill_1 rfl ?_
  refine zg_iconst (v := nI 0) dX4_fill_2 (by decide) ?_
  refine zg_bipush (v := nI 15) dX4_fill_3 (by decide) ?_
  refine zg_sret (M := zm_X4_fill) E dX4_fill_5 (mt_within (w := w) E (z := true) (zw_y (n := 15) hp (by decide))) wd_X4_67 dh_X4_within dn_X4_within (Nat.le_of_ble_eq_true rfl) (Nat.le_of_ble_eq_true rfl) (Nat.le_of_ble_eq_true rfl) (zl_capM HM) rfl (fun w5 g5 => ?_)
  subst w5
  refine zg_if_ne (tgt := 15) dX4_fill_8 (by decide) (fun h8 => ?_) (fun h8 => ?_)
  · refine zg_iconst (v := nI 0) dX4_fill_15 (by decide) ?_
    refine zg_iconst (v := nI 1) dX4_fill_16 (by decide) ?_
    refine zg_vrt (M := zm_X4_fill) E (ci := 4) dX4_fill_17 (mt_fails (w := w) (z := false) (k := nI 1) E HM) wd_X4_102 rfl (congrArg Prod.fst (zl_Mat HM (k := 156) (t := (4, 17)) rfl (by decide) (by decide))) (by decide) (zl_Mlt HM (by decide)) rfl dh_X4_fails dn_X4_fails (Nat.le_of_ble_eq_true rfl) (Nat.le_of_ble_eq_true rfl) (Nat.le_of_ble_eq_true rfl) (zl_capM HM) rfl (fun w17 g17 => ?_)
    subst w17
    obtain ⟨J1, e1, r1, t1, f1⟩ := zu_th (w := w) hM (nI 0)
    refine zg_w e1.symm ?_
    refine zg_if_ne (tgt := 51) dX4_fill_20 (by decide) (fun h20 => ?_) (fun h20 => ?_)
    · exact absurd rfl h20
    · refine zg_aload_n dX4_fill_23 rfl ?_
      refine zg_aload_n dX4_fill_24 rfl ?_
      refine zg_getI E (ci := 4) (j := 7) dX4_fill_25 rfl (congrArg Prod.fst (zl_Mat HM (k := 156) (t := (4, 17)) rfl (by decide) (by decide))) (by decide) (zl_Mlt HM (by decide)) (by decide) fl_X4_64 rfl ?_
      refine zg_v (x' := za_bit false) (r1.2.2.1.trans (congrArg za_bit hb)) ?_
      refine zg_if_ne (tgt := 39) dX4_fill_28 (by decide) (fun h28 => ?_) (fun h28 => ?_)
      · exact absurd rfl h28
      · refine zg_aload_n dX4_fill_31 rfl ?_
        refine zg_iload_n dX4_fill_32 rfl ?_
        refine zg_vrt (M := zm_X4_fill) E (ci := 4) dX4_fill_33 (mt_change_n (w := zw_I w J1) E HM r1 hp wL wS wC h0 hr) wd_X4_106 rfl (congrArg Prod.fst (zl_Mat HM (k := 156) (t := (4, 17)) rfl (by decide) (by decide))) (by decide) (zl_Mlt HM (by decide)) rfl dh_X4_changes dn_X4_changes (Nat.le_of_ble_eq_true rfl) (Nat.le_of_ble_eq_true rfl) (Nat.le_of_ble_eq_true rfl) (zl_capM HM) rfl (fun w33 g33 => ?_)
        subst w33
        refine zg_if_ne (tgt := 43) dX4_fill_36 (by decide) (fun h36 => ?_) (fun h36 => ?_)
        · exact absurd rfl h36
        · refine zg_iconst (v := nI 1) dX4_fill_39 (by decide) ?_
          refine zg_goto (tgt := 44) dX4_fill_40 (by decide) ?_
          refine zg_iconst (v := nI 2) dX4_fill_44 (by decide) ?_
          refine zg_vrt (M := zm_X4_fill) E (ci := 4) dX4_fill_45 (mt_fails (w := zw_I w J1) (z := true) (k := nI 2) E HM) wd_X4_102 rfl (congrArg Prod.fst (zl_Mat HM (k := 156) (t := (4, 17)) rfl (by decide) (by decide))) (by decide) (zl_Mlt HM (by decide)) rfl dh_X4_fails dn_X4_fails (Nat.le_of_ble_eq_true rfl) (Nat.le_of_ble_eq_true rfl) (Nat.le_of_ble_eq_true rfl) (zl_capM HM) rfl (fun w45 g45 => ?_)
          subst w45
          obtain ⟨J2, e2, r2, t2, f2⟩ := zu_th (w := w) r1 (nI 2)
          refine zg_w e2.symm ?_
          refine zg_if_eq (tgt := 53) dX4_fill_48 (by decide) (fun h48 => ?_) (fun h48 => ?_)
          · exact absurd h48 (by decide)
          · refine zg_iconst (v := nI 0) dX4_fill_51 (by decide) ?_
            exact zg_iret rfl dX4_fill_52 ⟨rfl, J2, rfl, r2, t2, zu_frW (zu_frT f1 f2)⟩
  · exact absurd h8 (by decide)
set_option maxHeartbeats 4000000 in
set_option maxRecDepth 100000 in
theorem lm_fill {V : zv_V} (E : zv_OK V) {w : zw_W} {n0 u0 : Nat} {Q : zg_O → zw_W → Prop} (HM : zl_M w) {D : Nat → Nat → Nat} {H : za_H} {b : Bool} {L S : za_T} {C : za_C} {t : Bool} {u v : Int64} {p : Nat} (hp : p < 16) {J0 : Nat → Nat → Int32} {C1 : za_C} (h1 : C1.1 p ≠ 0) (w1 : ∀ q, q < 16 → C1.1 q < 48) (r0 : zu_X J0 D H b L S C1 t) (hq : ∀ J, zu_X J D H b L S (za_fil C1 p (za_fb u v)) t → zu_fr [162] [] J0 J → Q (.inl (some (.int (nI (za_n C1.1 16))))) (zw_I w J))  : ∀ (n i : Nat) (J : Nat → Nat → Int32), i ≤ 16 → 16 + 1 ≤ i + n → (∀ j, j < i → J 162 (16 * p + j) = nI (za_fb u v j)) → (∀ j, (j < 16 * p ∨ 16 * p + i ≤ j) → J 162 j = J0 162 j) → zu_fr [162] [] J0 J → zg_G V zm_X4_fill 8 190 n0 u0 56 [] [(6, .int (nI i)), (0, .ref 156), (1, .int (nI p)), (2, .long u), (4, .long v)] (zw_I w J) Q := by
  intro nn
  induction nn with
  | zero =>
    intro i J hii hnn
    exact absurd hnn (by omega)
  | succ nn ih =>
    intro i J hii hnn k0 k1 k2
    refine zg_iload dX4_fill_56 rfl ?_
    refine zg_bipush (v := nI 16) dX4_fill_58 (by decide) ?_
    refine zg_icmp_ge (tgt := 108) dX4_fill_60 (by decide) (fun h60 => ?_) (fun h60 => ?_)
    · obtain rfl : i = 16 := by have := zn_ge h60 (by omega) (by omega); omega
      refine zg_aload_n dX4_fill_108 rfl ?_
      refine zg_vrt (M := zm_X4_fill) E (ci := 4) dX4_fill_109 (mt_changed (w := zw_I w J) (O := C1.1) E HM (fun q hq => (k2 _ _ (by decide) (Or.inl (by decide))).trans (r0.2.2.2.2.2.1.2.1 (za_n_p hp h1) q hq)) w1) wd_X4_111 rfl (congrArg Prod.fst (zl_Mat HM (k := 156) (t := (4, 17)) rfl (by decide) (by decide))) (by decide) (zl_Mlt HM (by decide)) rfl dh_X4_changed dn_X4_changed (Nat.le_of_ble_eq_true rfl) (Nat.le_of_ble_eq_true rfl) (Nat.le_of_ble_eq_true rfl) (zl_capM HM) rfl (fun w109 g109 => ?_)
      subst w109
      exact zg_iret rfl dX4_fill_112 (hq J ⟨zu_fD r0.1 (k2), zu_fH r0.2.1 (k2), zu_fs r0.2.2.1 (k2), zu_fL r0.2.2.2.1 (k2), zu_fS r0.2.2.2.2.1 (k2), zu_fil r0.2.2.2.2.2.1 k0 k1 k2, zu_fs r0.2.2.2.2.2.2 (k2)⟩ k2)
    · have hlt : i < 16 := zn_lt h60 (by omega) (by omega)
      refine zg_aload_n dX4_fill_63 rfl ?_
      refine zg_getR E (ci := 4) (j := 11) (r := 162) dX4_fill_64 rfl (congrArg Prod.fst (zl_Mat HM (k := 156) (t := (4, 17)) rfl (by decide) (by decide))) (by decide) (zl_Mlt HM (by decide)) (by decide) fl_X4_26 rfl (zl_Mrf HM rfl (by decide) (by decide)) ?_
      refine zg_bipush (v := nI 16) dX4_fill_67 (by decide) ?_
      refine zg_iload_n dX4_fill_69 rfl ?_
      refine zg_imul dX4_fill_70 ?_
      refine zg_v (x' := nI (16 * p)) (pk_mul _ _) ?_
      refine zg_iload dX4_fill_71 rfl ?_
      refine zg_iadd dX4_fill_73 ?_
      refine zg_v (x' := nI ((16 * p) + i)) (nI_add _ _) ?_
      refine zg_iload dX4_fill_74 rfl ?_
      refine zg_bipush (v := nI 8) dX4_fill_76 (by decide) ?_
      refine zg_icmp_ge (tgt := 85) dX4_fill_78 (by decide) (fun h78 => ?_) (fun h78 => ?_)
      · have h8 : 8 ≤ i := zn_ge h78 (by omega) (by omega)
        refine zg_lload dX4_fill_85 rfl ?_
        refine zg_bipush (v := nI 8) dX4_fill_87 (by decide) ?_
        refine zg_iload dX4_fill_89 rfl ?_
        refine zg_bipush (v := nI 8) dX4_fill_91 (by decide) ?_
        refine zg_irem dX4_fill_93 (by decide) ?_
        refine zg_v (x' := nI (i % 8)) (pk_rem (by omega) (by decide) (by decide)) ?_
        refine zg_imul dX4_fill_94 ?_
        refine zg_v (x' := nI (8 * (i % 8))) (pk_mul _ _) ?_
        refine zg_lshr dX4_fill_95 ?_
        refine zg_ldc2 E (v := 255) dX4_fill_96 (by decide +kernel) ?_
        refine zg_land dX4_fill_99 ?_
        refine zg_l2i dX4_fill_100 ?_
        refine zg_v (x' := nI (za_fb u v i)) ((zn_fl v (Nat.mod_lt i (by decide))).trans (congrArg nI (by unfold za_fb; rw [if_neg (by omega), show i % 8 = i - 8 by omega]))) ?_
        refine zg_iast E (j := (16 * p) + i) dX4_fill_101 (zl_Mat HM (k := 162) (t := (10, 256)) rfl (by decide) (by decide)) (by decide) (zl_Mlt HM (by decide)) rfl (by omega) (by decide) ?_
        refine zg_iinc (v := nI (i + 1)) (lv' := [(6, .int (nI (i + 1))), (0, .ref 156), (1, .int (nI p)), (2, .long u), (4, .long v)]) dX4_fill_102 rfl (nI_1 i) (by decide) rfl ?_
        refine zg_goto (tgt := 56) dX4_fill_105 (by decide) ?_
        refine zg_l [0, 1, 2, 3, 4] rfl ?_
        exact zg_s rfl rfl rfl (ih (i + 1) _ (by omega) (by omega) (fun j hj => (Nat.lt_or_ge j i).elim (fun z => (zw_up_n _ _ (Or.inr (by omega))).trans (k0 j z)) (fun z => by have e : j = i := (by omega); subst e; exact zw_up_s _ _ _ _)) (fun j hj => (zw_up_n _ _ (Or.inr (by omega))).trans (k1 j (by omega))) (fun a j h1 h2 => (zw_up_n _ _ (Or.inl (fun z => h1 (by rw [z]; decide)))).trans (k2 a j h1 h2)))
      · have h8 : i < 8 := zn_lt h78 (by omega) (by omega)
        refine zg_lload_n dX4_fill_81 rfl ?_
        refine zg_goto (tgt := 87) dX4_fill_82 (by decide) ?_
        refine zg_bipush (v := nI 8) dX4_fill_87 (by decide) ?_
        refine zg_iload dX4_fill_89 rfl ?_
        refine zg_bipush (v := nI 8) dX4_fill_91 (by decide) ?_
        refine zg_irem dX4_fill_93 (by decide) ?_
        refine zg_v (x' := nI (i % 8)) (pk_rem (by omega) (by decide) (by decide)) ?_
        refine zg_imul dX4_fill_94 ?_
        refine zg_v (x' := nI (8 * (i % 8))) (pk_mul _ _) ?_
        refine zg_lshr dX4_fill_95 ?_
        refine zg_ldc2 E (v := 255) dX4_fill_96 (by decide +kernel) ?_
        refine zg_land dX4_fill_99 ?_
        refine zg_l2i dX4_fill_100 ?_
        refine zg_v (x' := nI (za_fb u v i)) ((zn_fl u (Nat.mod_lt i (by decide))).trans (congrArg nI (by unfold za_fb; rw [if_pos h8, Nat.mod_eq_of_lt h8]))) ?_
        refine zg_iast E (j := (16 * p) + i) dX4_fill_101 (zl_Mat HM (k := 162) (t := (10, 256)) rfl (by decide) (by decide)) (by decide) (zl_Mlt HM (by decide)) rfl (by omega) (by decide) ?_
        refine zg_iinc (v := nI (i + 1)) (lv' := [(6, .int (nI (i + 1))), (0, .ref 156), (1, .int (nI p)), (2, .long u), (4, .long v)]) dX4_fill_102 rfl (nI_1 i) (by decide) rfl ?_
        refine zg_goto (tgt := 56) dX4_fill_105 (by decide) ?_
        refine zg_l [0, 1, 2, 3, 4] rfl ?_
        exact zg_s rfl rfl rfl (ih (i + 1) _ (by omega) (by omega) (fun j hj => (Nat.lt_or_ge j i).elim (fun z => (zw_up_n _ _ (Or.inr (by omega))).trans (k0 j z)) (fun z => by have e : j = i := (by omega); subst e; exact zw_up_s _ _ _ _)) (fun j hj => (zw_up_n _ _ (Or.inr (by omega))).trans (k1 j (by omega))) (fun a j h1 h2 => (zw_up_n _ _ (Or.inl (fun z => h1 (by rw [z]; decide)))).trans (k2 a j h1 h2)))
set_option maxHeartbeats 4000000 in
set_option maxRecDepth 100000 in
theorem qi_4 {V : zv_V} (E : zv_OK V) {w : zw_W} (HM : zl_M w) {D : Nat → Nat → Nat} {H : za_H} {b : Bool} {L S : za_T} {C : za_C} {t : Bool} (hM : zu_X (zw_i w) D H b L S C t) {p : Nat} (hp : p < 16) {u v : Int64} (hb : b = false) (wL : za_WT L) (wS : za_WT S) (wC : za_WC C) {C1 : za_C} (hc : za_chg D L S C p C1) (w1 : ∀ q, q < 16 → C1.1 q < 48) : zg_C V zm_X4_fill yX4_fill 8 190 [.ref 156, .int (nI p), .long u, .long v] w (zq_p (.inl (some (.int (nI (za_n C1.1 16))))) (zu_pub w D H b L S (za_fil C1 p (za_fb u v)) t 0)) := by
  refine zg_of (by decide +kernel) rfl (Nat.le_of_ble_eq_true rfl) ?_
  show zg_G V zm_X4_fill 8 190 w.1 w.2.1 0 [] [(0, .ref 156), (1, .int (nI p)), (2, .long u), (4, .long v)] w _
  refine zg_aload_n dX4_fill_0 rfl ?_
  refine zg_iload_n dX4_fill_1 rfl ?_
  refine zg_iconst (v := nI 0) dX4_fill_2 (by decide) ?_
  refine zg_bipush (v := nI 15) dX4_fill_3 (by decide) ?_
  refine zg_sret (M := zm_X4_fill) E dX4_fill_5 (mt_within (w := w) E (z := true) (zw_y (n := 15) hp (by decide))) wd_X4_67 dh_X4_within dn_X4_within (Nat.le_of_ble_eq_true rfl) (Nat.le_of_ble_eq_true rfl) (Nat.le_of_ble_eq_true rfl) (zl_capM HM) rfl (fun w5 g5 => ?_)
  subst w5
  refine zg_if_ne (tgt := 15) dX4_fill_8 (by decide) (fun h8 => ?_) (fun h8 => ?_)
  · refine zg_iconst (v := nI 0) dX4_fill_15 (by decide) ?_
    refine zg_iconst (v := nI 1) dX4_fill_16 (by decide) ?_
    refine zg_vrt (M := zm_X4_fill) E (ci := 4) dX4_fill_17 (mt_fails (w := w) (z := false) (k := nI 1) E HM) wd_X4_102 rfl (congrArg Prod.fst (zl_Mat HM (k := 156) (t := (4, 17)) rfl (by decide) (by decide))) (by decide) (zl_Mlt HM (by decide)) rfl dh_X4_fails dn_X4_fails (Nat.le_of_ble_eq_true rfl) (Nat.le_of_ble_eq_true rfl) (Nat.le_of_ble_eq_true rfl) (zl_capM HM) rfl (fun w17 g17 => ?_)
    subst w17
    obtain ⟨J1, e1, r1, t1, f1⟩ := zu_th (w := w) hM (nI 0)
    refine zg_w e1.symm ?_
    refine zg_if_ne (tgt := 51) dX4_fill_20 (by decide) (fun h20 => ?_) (fun h20 => ?_)
    · exact absurd rfl h20
    · refine zg_aload_n dX4_fill_23 rfl ?_
      refine zg_aload_n dX4_fill_24 rfl ?_
      refine zg_getI E (ci := 4) (j := 7) dX4_fill_25 rfl (congrArg Prod.fst (zl_Mat HM (k := 156) (t := (4, 17)) rfl (by decide) (by decide))) (by decide) (zl_Mlt HM (by decide)) (by decide) fl_X4_64 rfl ?_
      refine zg_v (x' := za_bit false) (r1.2.2.1.trans (congrArg za_bit hb)) ?_
      refine zg_if_ne (tgt := 39) dX4_fill_28 (by decide) (fun h28 => ?_) (fun h28 => ?_)
      · exact absurd rfl h28
      · refine zg_aload_n dX4_fill_31 rfl ?_
        refine zg_iload_n dX4_fill_32 rfl ?_
        refine zg_vrt (M := zm_X4_fill) E (ci := 4) dX4_fill_33 (mt_chy (w := zw_I w J1) E HM r1 hp wL wS wC hc) wd_X4_106 rfl (congrArg Prod.fst (zl_Mat HM (k := 156) (t := (4, 17)) rfl (by decide) (by decide))) (by decide) (zl_Mlt HM (by decide)) rfl dh_X4_changes dn_X4_changes (Nat.le_of_ble_eq_true rfl) (Nat.le_of_ble_eq_true rfl) (Nat.le_of_ble_eq_true rfl) (zl_capM HM) rfl (fun w33 g33 => ?_)
        obtain ⟨J2, rfl, r2, f2⟩ := g33
        refine zg_w (w' := zw_I w J2) rfl ?_
        refine zg_if_ne (tgt := 43) dX4_fill_36 (by decide) (fun h36 => ?_) (fun h36 => ?_)
        · refine zg_iconst (v := nI 0) dX4_fill_43 (by decide) ?_
          refine zg_iconst (v := nI 2) dX4_fill_44 (by decide) ?_
          refine zg_vrt (M := zm_X4_fill) E (ci := 4) dX4_fill_45 (mt_fails (w := zw_I w J2) (z := false) (k := nI 2) E HM) wd_X4_102 rfl (congrArg Prod.fst (zl_Mat HM (k := 156) (t := (4, 17)) rfl (by decide) (by decide))) (by decide) (zl_Mlt HM (by decide)) rfl dh_X4_fails dn_X4_fails (Nat.le_of_ble_eq_true rfl) (Nat.le_of_ble_eq_true rfl) (Nat.le_of_ble_eq_true rfl) (zl_capM HM) rfl (fun w45 g45 => ?_)
          subst w45
          obtain ⟨J3, e3, r3, t3, f3⟩ := zu_th (w := w) r2 (nI 0)
          refine zg_w e3.symm ?_
          refine zg_if_eq (tgt := 53) dX4_fill_48 (by decide) (fun h48 => ?_) (fun h48 => ?_)
          · refine zg_iconst (v := nI 0) dX4_fill_53 (by decide) ?_
            refine zg_istore (lv' := [(6, .int (nI 0)), (0, .ref 156), (1, .int (nI p)), (2, .long u), (4, .long v)]) dX4_fill_54 (by decide) rfl ?_
            refine zg_l [0, 1, 2, 3, 4] rfl ?_
            exact zg_s rfl rfl rfl (lm_fill (C := C) E HM hp (za_chg_0 hc) w1 r3 (fun J h2 h3 => ⟨rfl, J, rfl, h2, zu_fs t3 h3, zu_frW (zu_frT (zu_frT (zu_frT f1 f2) f3) h3)⟩) 17 0 J3 (by omega) (by omega) (fun j hj => absurd hj (Nat.not_lt_zero j)) (fun _ _ => rfl) (zu_frn [162] []))
          · exact absurd rfl h48
        · exact absurd h36 (by decide)
  · exact absurd h8 (by decide)

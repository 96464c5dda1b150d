/-! The reference's first change of a page, master, mount. -/
theorem zu_cy {I J0 J K : Nat → Nat → Int32} {D : Nat → Nat → Nat} {H : za_H} {b : Bool} {L S : za_T} {C : za_C} {t : Bool} {p s : Nat} {f : Nat → Nat} (hM : zu_X I D H b L S C t) (hp : p < 16) (h : C.1 p = 0) (hs0 : s ≠ 0) (g8 : J0 156 8 = nI 1) (g0 : ∀ q, q < 16 → J0 160 q = nI (C.1 q)) (f0 : zu_fr [160] [8] I J0) (k0 : ∀ j, j < 16 → J 162 (16 * p + j) = nI (f j)) (k1 : ∀ j, (j < 16 * p ∨ 16 * p + 16 ≤ j) → J 162 j = J0 162 j) (k2 : zu_fr [162] [] J0 J) (e : K = zw_up (zw_up J 160 p (nI s)) 161 p (nI 0)) : zu_X K D H b L S (za_add C p s f) t := by
  subst e
  have F := zu_frT (zu_frT (zu_frT f0 k2) (zu_frC J 160 p (nI s))) (zu_frC (zw_up J 160 p (nI s)) 161 p (nI 0))
  refine ⟨zu_fD hM.1 F, zu_fH hM.2.1 F, zu_fs hM.2.2.1 F, zu_fL hM.2.2.2.1 F, zu_fS hM.2.2.2.2.1 F, zu_add hM.2.2.2.2.2.1 hp h hs0 ?_ (fun q hq => ?_) (fun i hi => ?_) (fun j hj => ?_) (fun q => ?_), zu_fs hM.2.2.2.2.2.2 F⟩
  · rw [zw_up_n _ _ (Or.inl (by decide)), zw_up_n _ _ (Or.inl (by decide)), k2 _ _ (by decide) (Or.inr (by decide))]
    exact g8
  · rw [zw_up_n _ _ (Or.inl (by decide))]
    by_cases k : q = p
    · rw [k, zw_up_s, zw_ro_s]
    · rw [zw_up_n _ _ (Or.inr k), zw_ro_n _ _ k, k2 _ _ (by decide) (Or.inl (by decide))]
      exact g0 q hq
  · rw [zw_up_n _ _ (Or.inl (by decide)), zw_up_n _ _ (Or.inl (by decide))]
    exact k0 i hi
  · rw [zw_up_n _ _ (Or.inl (by decide)), zw_up_n _ _ (Or.inl (by decide)), k1 j hj, f0 _ _ (by decide) (Or.inl (by decide))]
  · by_cases k : q = p
    · rw [k, zw_up_s, zw_up_s]
    · rw [zw_up_n _ _ (Or.inr k), zw_up_n _ _ (Or.inr k), zw_up_n _ _ (Or.inr k), k2 _ _ (by decide) (Or.inl (by decide)), f0 _ _ (by decide) (Or.inl (by decide))]
set_option maxHeartbeats 4000000 in
set_option maxRecDepth 100000 in
theorem lm_chB {V : zv_V} (E : zv_OK V) {w : zw_W} {n0 u0 : Nat} {Q : zg_O → zw_W → Prop} (HM : zl_M w) {D : Nat → Nat → Nat} {H : za_H} {b : Bool} {L S : za_T} {C : za_C} {t : Bool} (hM : zu_X (zw_i w) D H b L S C t) {p : Nat} (hp : p < 16) (wL : za_WT L) (h : C.1 p = 0) {s : Nat} (hs : s < 48) (hs0 : s ≠ 0) {J0 : Nat → Nat → Int32} (g8 : J0 156 8 = nI 1) (g0 : ∀ q, q < 16 → J0 160 q = nI (C.1 q)) (f0 : zu_fr [160] [8] (zw_i w) J0) (hq : ∀ J, zu_X J D H b L S (za_add C p s (za_lt D L p)) t → zu_fr [160, 161, 162] [8] (zw_i w) J → Q (.inl (some (.int (nI 1)))) (zw_I w J)) : ∀ (n i : Nat) (J : Nat → Nat → Int32), i ≤ 16 → 16 + 1 ≤ i + n → (∀ j, j < i → J 162 (16 * p + j) = nI (za_lt D L p j)) → (∀ j, (j < 16 * p ∨ 16 * p + i ≤ j) → J 162 j = J0 162 j) → zu_fr [162] [] J0 J → zg_G V zm_X4_changes 2 60 n0 u0 72 [] [(3, .int (nI i)), (0, .ref 156), (1, .int (nI p)), (2, .int (nI s))] (zw_I w J) Q := by
  intro nn
  induction nn with
  | zero =>
    intro i J hii hnn
    exact absurd hnn (by omega)
  | succ nn ih =>
    intro i J hii hnn k0 k1 k2
    have fJ := zu_frT f0 k2
    refine zg_iload_n dX4_changes_72 rfl ?_
    refine zg_bipush (v := nI 16) dX4_changes_73 (by decide) ?_
    refine zg_icmp_ge (tgt := 102) dX4_changes_75 (by decide) (fun h75 => ?_) (fun h75 => ?_)
    · obtain rfl : i = 16 := by have := zn_ge h75 (by omega) (by omega); omega
      refine zg_aload_n dX4_changes_102 rfl ?_
      refine zg_getR E (ci := 4) (j := 9) (r := 160) dX4_changes_103 rfl (congrArg Prod.fst (zl_Mat HM (k := 156) (t := (4, 17)) rfl (by decide) (by decide))) (by decide) (zl_Mlt HM (by decide)) (by decide) fl_X4_19 rfl (zl_Mrf HM rfl (by decide) (by decide)) ?_
      refine zg_iload_n dX4_changes_106 rfl ?_
      refine zg_iload_n dX4_changes_107 rfl ?_
      refine zg_iast E (j := p) dX4_changes_108 (zl_Mat HM (k := 160) (t := (10, 16)) rfl (by decide) (by decide)) (by decide) (zl_Mlt HM (by decide)) rfl (by omega) (by decide) ?_
      refine zg_aload_n dX4_changes_109 rfl ?_
      refine zg_getR E (ci := 4) (j := 10) (r := 161) dX4_changes_110 rfl (congrArg Prod.fst (zl_Mat HM (k := 156) (t := (4, 17)) rfl (by decide) (by decide))) (by decide) (zl_Mlt HM (by decide)) (by decide) fl_X4_22 rfl (zl_Mrf HM rfl (by decide) (by decide)) ?_
      refine zg_iload_n dX4_changes_113 rfl ?_
      refine zg_iconst (v := nI 0) dX4_changes_114 (by decide) ?_
      refine zg_zast E (j := p) (y := nI 0) dX4_changes_115 (zl_Mat HM (k := 161) (t := (11, 16)) rfl (by decide) (by decide)) (by decide) (zl_Mlt HM (by decide)) rfl (by omega) (by decide) rfl ?_
      refine zg_iconst (v := nI 1) dX4_changes_116 (by decide) ?_
      exact zg_zret rfl rfl dX4_changes_117 (hq _ (zu_cy hM hp h hs0 g8 g0 f0 k0 k1 k2 rfl) (zu_frW (zu_frT (zu_frT fJ (zu_frC J 160 _ _)) (zu_frC _ 161 _ _))))
    · have hlt : i < 16 := zn_lt h75 (by omega) (by omega)
      refine zg_aload_n dX4_changes_78 rfl ?_
      refine zg_getR E (ci := 4) (j := 11) (r := 162) dX4_changes_79 rfl (congrArg Prod.fst (zl_Mat HM (k := 156) (t := (4, 17)) rfl (by decide) (by decide))) (by decide) (zl_Mlt HM (by decide)) (by decide) fl_X4_26 rfl (zl_Mrf HM rfl (by decide) (by decide)) ?_
      refine zg_bipush (v := nI 16) dX4_changes_82 (by decide) ?_
      refine zg_iload_n dX4_changes_84 rfl ?_
      refine zg_imul dX4_changes_85 ?_
      refine zg_v (x' := nI (16 * p)) (pk_mul _ _) ?_
      refine zg_iload_n dX4_changes_86 rfl ?_
      refine zg_iadd dX4_changes_87 ?_
      refine zg_v (x' := nI ((16 * p) + i)) (nI_add _ _) ?_
      refine zg_aload_n dX4_changes_88 rfl ?_
      refine zg_iload_n dX4_changes_89 rfl ?_
      refine zg_iload_n dX4_changes_90 rfl ?_
      refine zg_iconst (v := nI 1) dX4_changes_91 (by decide) ?_
      refine zg_vrt (M := zm_X4_changes) E (ci := 4) dX4_changes_92 (mt_byteT (w := zw_I w J) E HM (zu_fD hM.1 fJ) (zu_fL hM.2.2.2.1 fJ) wL hp hlt) wd_X4_98 rfl (congrArg Prod.fst (zl_Mat HM (k := 156) (t := (4, 17)) rfl (by decide) (by decide))) (by decide) (zl_Mlt HM (by decide)) rfl dh_X4_byteAt dn_X4_byteAt (Nat.le_of_ble_eq_true rfl) (Nat.le_of_ble_eq_true rfl) (Nat.le_of_ble_eq_true rfl) (zl_capM HM) rfl (fun w92 g92 => ?_)
      subst w92
      refine zg_iast E (j := (16 * p) + i) dX4_changes_95 (zl_Mat HM (k := 162) (t := (10, 256)) rfl (by decide) (by decide)) (by decide) (zl_Mlt HM (by decide)) rfl (by omega) (by decide) ?_
      refine zg_iinc (v := nI (i + 1)) (lv' := [(3, .int (nI (i + 1))), (0, .ref 156), (1, .int (nI p)), (2, .int (nI s))]) dX4_changes_96 rfl (nI_1 i) (by decide) rfl ?_
      refine zg_goto (tgt := 72) dX4_changes_99 (by decide) ?_
      refine zg_l [0, 1, 2, 3] rfl ?_
      exact zg_s rfl rfl rfl (ih (i + 1) _ (by omega) (by omega) (fun j hj => (Nat.lt_or_ge j i).elim (fun z => (zw_up_n _ _ (Or.inr (by omega))).trans (k0 j z)) (fun z => by have e : j = i := (by omega); subst e; exact zw_up_s _ _ _ _)) (fun j hj => (zw_up_n _ _ (Or.inr (by omega))).trans (k1 j (by omega))) (fun a j h1 h2 => (zw_up_n _ _ (Or.inl (fun z => h1 (by rw [z]; decide)))).trans (k2 a j h1 h2)))
set_option maxHeartbeats 4000000 in
set_option maxRecDepth 100000 in
theorem lm_chO {V : zv_V} (E : zv_OK V) {w : zw_W} {n0 u0 : Nat} {Q : zg_O → zw_W → Prop} (HM : zl_M w) {D : Nat → Nat → Nat} {H : za_H} {b : Bool} {L S : za_T} {C : za_C} {t : Bool} (hM : zu_X (zw_i w) D H b L S C t) {p : Nat} (hp : p < 16) (wL : za_WT L) (h : C.1 p = 0) {s : Nat} (hs : s < 48) (hs0 : s ≠ 0) (hn : ¬ 0 < za_n C.1 16) (hq : ∀ J, zu_X J D H b L S (za_add C p s (za_lt D L p)) t → zu_fr [160, 161, 162] [8] (zw_i w) J → Q (.inl (some (.int (nI 1)))) (zw_I w J)) : ∀ (n i : Nat) (J : Nat → Nat → Int32), i ≤ 16 → 16 + 1 ≤ i + n → (∀ j, j < i → J 160 j = nI 0) → zu_fr [160] [] (zw_i w) J → zg_G V zm_X4_changes 2 60 n0 u0 46 [] [(3, .int (nI i)), (0, .ref 156), (1, .int (nI p)), (2, .int (nI s))] (zw_I w J) Q := by
  intro nn
  induction nn with
  | zero =>
    intro i J hii hnn
    exact absurd hnn (by omega)
  | succ nn ih =>
    intro i J hii hnn k0 k1
    refine zg_iload_n dX4_changes_46 rfl ?_
    refine zg_bipush (v := nI 16) dX4_changes_47 (by decide) ?_
    refine zg_icmp_ge (tgt := 65) dX4_changes_49 (by decide) (fun h49 => ?_) (fun h49 => ?_)
    · obtain rfl : i = 16 := by have := zn_ge h49 (by omega) (by omega); omega
      refine zg_aload_n dX4_changes_65 rfl ?_
      refine zg_iconst (v := nI 1) dX4_changes_66 (by decide) ?_
      refine zg_putI E (ci := 4) (j := 8) dX4_changes_67 rfl (congrArg Prod.fst (zl_Mat HM (k := 156) (t := (4, 17)) rfl (by decide) (by decide))) (by decide) (zl_Mlt HM (by decide)) (by decide) fl_X4_61 rfl rfl rfl rfl ?_
      refine zg_iconst (v := nI 0) dX4_changes_70 (by decide) ?_
      refine zg_istore_n (lv' := [(3, .int (nI 0)), (0, .ref 156), (1, .int (nI p)), (2, .int (nI s))]) dX4_changes_71 (by decide) rfl ?_
      refine zg_l [0, 1, 2, 3] rfl ?_
      exact zg_s rfl rfl rfl (lm_chB E HM hM hp wL h hs hs0 (J0 := zw_up J 156 8 (nI 1)) (zw_up_s _ _ _ _) (fun q hq => (zw_up_n _ _ (Or.inl (by decide))).trans ((k0 q hq).trans (congrArg nI (za_n_z hn hq).symm))) (zu_frW (zu_frT k1 (zu_frS J 8 _))) hq 17 0 _ (by omega) (by omega) (fun j hj => absurd hj (Nat.not_lt_zero j)) (fun _ _ => rfl) (zu_frn [162] []))
    · have hlt : i < 16 := zn_lt h49 (by omega) (by omega)
      refine zg_aload_n dX4_changes_52 rfl ?_
      refine zg_getR E (ci := 4) (j := 9) (r := 160) dX4_changes_53 rfl (congrArg Prod.fst (zl_Mat HM (k := 156) (t := (4, 17)) rfl (by decide) (by decide))) (by decide) (zl_Mlt HM (by decide)) (by decide) fl_X4_19 rfl (zl_Mrf HM rfl (by decide) (by decide)) ?_
      refine zg_iload_n dX4_changes_56 rfl ?_
      refine zg_iconst (v := nI 0) dX4_changes_57 (by decide) ?_
      refine zg_iast E (j := i) dX4_changes_58 (zl_Mat HM (k := 160) (t := (10, 16)) rfl (by decide) (by decide)) (by decide) (zl_Mlt HM (by decide)) rfl (by omega) (by decide) ?_
      refine zg_iinc (v := nI (i + 1)) (lv' := [(3, .int (nI (i + 1))), (0, .ref 156), (1, .int (nI p)), (2, .int (nI s))]) dX4_changes_59 rfl (nI_1 i) (by decide) rfl ?_
      refine zg_goto (tgt := 46) dX4_changes_62 (by decide) ?_
      refine zg_l [0, 1, 2, 3] rfl ?_
      exact zg_s rfl rfl rfl (ih (i + 1) _ (by omega) (by omega) (fun j hj => (Nat.lt_or_ge j i).elim (fun z => (zw_up_n _ _ (Or.inr (by omega))).trans (k0 j z)) (fun z => by have e : j = i := (by omega); subst e; exact zw_up_s _ _ _ _)) (fun a j h1 h2 => (zw_up_n _ _ (Or.inl (fun z => h1 (by rw [z]; decide)))).trans (k1 a j h1 h2)))
set_option maxHeartbeats 4000000 in
set_option maxRecDepth 100000 in
theorem mt_change_y {V : zv_V} (E : zv_OK V) {w : zw_W} (HM : zl_M w) {D : Nat → Nat → Nat} {H : za_H} {b : Bool} {L S : za_T} {C : za_C} {t : Bool} (hM : zu_X (zw_i w) D H b L S C t) {p : Nat} (hp : p < 16) (wL : za_WT L) (wS : za_WT S) (wC : za_WC C) (h : C.1 p = 0) {s : Nat} (hs : s < 48) (hs0 : s ≠ 0) (hr : za_ff L S C.1 (nI s)) : zg_C V zm_X4_changes yX4_changes 2 60 [.ref 156, .int (nI p)] w (zq_p (.inl (some (.int (nI 1)))) (zu_to w [160, 161, 162] [8] (zu_X · D H b L S (za_add C p s (za_lt D L p)) t))) := by
  refine zg_of (by decide +kernel) rfl (Nat.le_of_ble_eq_true rfl) ?_
  show zg_G V zm_X4_changes 2 60 w.1 w.2.1 0 [] [(0, .ref 156), (1, .int (nI p))] w _
  refine zg_aload_n dX4_changes_0 rfl ?_
  refine zg_getI E (ci := 4) (j := 8) dX4_changes_1 rfl (congrArg Prod.fst (zl_Mat HM (k := 156) (t := (4, 17)) rfl (by decide) (by decide))) (by decide) (zl_Mlt HM (by decide)) (by decide) fl_X4_61 rfl ?_
  refine zg_v (x' := za_bit (decide (0 < za_n C.1 16))) hM.2.2.2.2.2.1.1 ?_
  refine zg_if_eq (tgt := 25) dX4_changes_4 (by decide) (fun h4 => ?_) (fun h4 => ?_)
  · refine zg_aload_n dX4_changes_25 rfl ?_
    refine zg_vrt (M := zm_X4_changes) E (ci := 4) dX4_changes_26 (mt_firstFree E HM hM wL wS wC hr) wd_X4_94 rfl (congrArg Prod.fst (zl_Mat HM (k := 156) (t := (4, 17)) rfl (by decide) (by decide))) (by decide) (zl_Mlt HM (by decide)) rfl dh_X4_firstFree dn_X4_firstFree (Nat.le_of_ble_eq_true rfl) (Nat.le_of_ble_eq_true rfl) (Nat.le_of_ble_eq_true rfl) (zl_capM HM) rfl (fun w26 g26 => ?_)
    subst w26
    refine zg_istore_n (lv' := [(2, .int (nI s)), (0, .ref 156), (1, .int (nI p))]) dX4_changes_29 (by decide) rfl ?_
    refine zg_iload_n dX4_changes_30 rfl ?_
    refine zg_iconst (v := (-1)) dX4_changes_31 (by decide) ?_
    refine zg_icmp_ne (tgt := 37) dX4_changes_32 (by decide) (fun h32 => ?_) (fun h32 => ?_)
    · refine zg_aload_n dX4_changes_37 rfl ?_
      refine zg_getI E (ci := 4) (j := 8) dX4_changes_38 rfl (congrArg Prod.fst (zl_Mat HM (k := 156) (t := (4, 17)) rfl (by decide) (by decide))) (by decide) (zl_Mlt HM (by decide)) (by decide) fl_X4_61 rfl ?_
      refine zg_v (x' := za_bit (decide (0 < za_n C.1 16))) hM.2.2.2.2.2.1.1 ?_
      refine zg_if_ne (tgt := 70) dX4_changes_41 (by decide) (fun h41 => ?_) (fun h41 => ?_)
      · have ho2 := of_decide_eq_true (za_bit1 h41)
        refine zg_iconst (v := nI 0) dX4_changes_70 (by decide) ?_
        refine zg_istore_n (lv' := [(3, .int (nI 0)), (2, .int (nI s)), (0, .ref 156), (1, .int (nI p))]) dX4_changes_71 (by decide) rfl ?_
        refine zg_l [0, 2, 3, 1] rfl ?_
        exact zg_s rfl rfl rfl (lm_chB E HM hM hp wL h hs hs0 (J0 := zw_i w) (hM.2.2.2.2.2.1.1.trans (by rw [decide_eq_true ho2]; rfl)) (hM.2.2.2.2.2.1.2.1 ho2) (zu_frn _ _) (fun J h1 h2 => ⟨rfl, J, rfl, h1, h2⟩) 17 0 (zw_i w) (by omega) (by omega) (fun j hj => absurd hj (Nat.not_lt_zero j)) (fun _ _ => rfl) (zu_frn [162] []))
      · have ho2 := of_decide_eq_false (za_bit0 h41)
        refine zg_iconst (v := nI 0) dX4_changes_44 (by decide) ?_
        refine zg_istore_n (lv' := [(3, .int (nI 0)), (2, .int (nI s)), (0, .ref 156), (1, .int (nI p))]) dX4_changes_45 (by decide) rfl ?_
        refine zg_l [0, 2, 3, 1] rfl ?_
        exact zg_s rfl rfl rfl (lm_chO E HM hM hp wL h hs hs0 ho2 (fun J h1 h2 => ⟨rfl, J, rfl, h1, h2⟩) 17 0 (zw_i w) (by omega) (by omega) (fun j hj => absurd hj (Nat.not_lt_zero j)) (zu_frn [160] []))
    · exact absurd h32 (fun z => absurd (z ▸ nI_pos (by omega : s < 2 ^ 31)) (by decide))
  · have ho := of_decide_eq_true (za_bit1 h4)
    refine zg_aload_n dX4_changes_7 rfl ?_
    refine zg_getR E (ci := 4) (j := 9) (r := 160) dX4_changes_8 rfl (congrArg Prod.fst (zl_Mat HM (k := 156) (t := (4, 17)) rfl (by decide) (by decide))) (by decide) (zl_Mlt HM (by decide)) (by decide) fl_X4_19 rfl (zl_Mrf HM rfl (by decide) (by decide)) ?_
    refine zg_iload_n dX4_changes_11 rfl ?_
    refine zg_iald E (j := p) dX4_changes_12 (zl_Mat HM (k := 160) (t := (10, 16)) rfl (by decide) (by decide)) (by decide) (zl_Mlt HM (by decide)) rfl (by omega) (by decide) ?_
    refine zg_v (x' := nI (C.1 p)) (hM.2.2.2.2.2.1.2.1 ho p hp) ?_
    refine zg_if_le (tgt := 25) dX4_changes_13 (by decide) (fun h13 => ?_) (fun h13 => ?_)
    · refine zg_aload_n dX4_changes_25 rfl ?_
      refine zg_vrt (M := zm_X4_changes) E (ci := 4) dX4_changes_26 (mt_firstFree E HM hM wL wS wC hr) wd_X4_94 rfl (congrArg Prod.fst (zl_Mat HM (k := 156) (t := (4, 17)) rfl (by decide) (by decide))) (by decide) (zl_Mlt HM (by decide)) rfl dh_X4_firstFree dn_X4_firstFree (Nat.le_of_ble_eq_true rfl) (Nat.le_of_ble_eq_true rfl) (Nat.le_of_ble_eq_true rfl) (zl_capM HM) rfl (fun w26 g26 => ?_)
      subst w26
      refine zg_istore_n (lv' := [(2, .int (nI s)), (0, .ref 156), (1, .int (nI p))]) dX4_changes_29 (by decide) rfl ?_
      refine zg_iload_n dX4_changes_30 rfl ?_
      refine zg_iconst (v := (-1)) dX4_changes_31 (by decide) ?_
      refine zg_icmp_ne (tgt := 37) dX4_changes_32 (by decide) (fun h32 => ?_) (fun h32 => ?_)
      · refine zg_aload_n dX4_changes_37 rfl ?_
        refine zg_getI E (ci := 4) (j := 8) dX4_changes_38 rfl (congrArg Prod.fst (zl_Mat HM (k := 156) (t := (4, 17)) rfl (by decide) (by decide))) (by decide) (zl_Mlt HM (by decide)) (by decide) fl_X4_61 rfl ?_
        refine zg_v (x' := za_bit (decide (0 < za_n C.1 16))) hM.2.2.2.2.2.1.1 ?_
        refine zg_if_ne (tgt := 70) dX4_changes_41 (by decide) (fun h41 => ?_) (fun h41 => ?_)
        · have ho2 := of_decide_eq_true (za_bit1 h41)
          refine zg_iconst (v := nI 0) dX4_changes_70 (by decide) ?_
          refine zg_istore_n (lv' := [(3, .int (nI 0)), (2, .int (nI s)), (0, .ref 156), (1, .int (nI p))]) dX4_changes_71 (by decide) rfl ?_
          refine zg_l [0, 2, 3, 1] rfl ?_
          exact zg_s rfl rfl rfl (lm_chB E HM hM hp wL h hs hs0 (J0 := zw_i w) (hM.2.2.2.2.2.1.1.trans (by rw [decide_eq_true ho2]; rfl)) (hM.2.2.2.2.2.1.2.1 ho2) (zu_frn _ _) (fun J h1 h2 => ⟨rfl, J, rfl, h1, h2⟩) 17 0 (zw_i w) (by omega) (by omega) (fun j hj => absurd hj (Nat.not_lt_zero j)) (fun _ _ => rfl) (zu_frn [162] []))
        · have ho2 := of_decide_eq_false (za_bit0 h41)
          refine zg_iconst (v := nI 0) dX4_changes_44 (by decide) ?_
          refine zg_istore_n (lv' := [(3, .int (nI 0)), (2, .int (nI s)), (0, .ref 156), (1, .int (nI p))]) dX4_changes_45 (by decide) rfl ?_
          refine zg_l [0, 2, 3, 1] rfl ?_
          exact zg_s rfl rfl rfl (lm_chO E HM hM hp wL h hs hs0 ho2 (fun J h1 h2 => ⟨rfl, J, rfl, h1, h2⟩) 17 0 (zw_i w) (by omega) (by omega) (fun j hj => absurd hj (Nat.not_lt_zero j)) (zu_frn [160] []))
      · exact absurd h32 (fun z => absurd (z ▸ nI_pos (by omega : s < 2 ^ 31)) (by decide))
    · exact absurd (by rw [h]; decide) h13
theorem zn_gs (g : Int32) {i : Nat} (hi : i < 4) : g >>> (nI (24 - 8 * i) &&& 31) &&& nI 255 = nI (g.toBitVec.toNat / 2 ^ (24 - 8 * i) % 256) := by
  rw [pk_and _ 8 (by decide)]
  refine congrArg nI ?_
  have e : (g >>> (nI (24 - 8 * i) &&& 31)).toBitVec = g.toBitVec.sshiftRight (24 - 8 * i) := by
    rw [Int32.toBitVec_shiftRight]
    show g.toBitVec.sshiftRight _ = _
    refine congrArg (BitVec.sshiftRight g.toBitVec) ?_
    rcases i with _ | _ | _ | _ | i
    · decide
    · decide
    · decide
    · decide
    · omega
  rw [e]
  refine Nat.eq_of_testBit_eq fun j => ?_
  show _ = Nat.testBit (g.toBitVec.toNat / 2 ^ (24 - 8 * i) % 2 ^ 8) j
  rw [Nat.testBit_mod_two_pow, Nat.testBit_mod_two_pow, Nat.testBit_div_two_pow]
  by_cases h : j < 8
  · rw [decide_eq_true h, Bool.true_and, Bool.true_and]
    show (g.toBitVec.sshiftRight (24 - 8 * i)).getLsbD j = g.toBitVec.getLsbD (j + (24 - 8 * i))
    rw [BitVec.getLsbD_sshiftRight, if_pos (by omega), Nat.add_comm]
    simp
    omega
  · rw [decide_eq_false h, Bool.false_and, Bool.false_and]
theorem zu_ms {J : Nat → Nat → Int32} {k q a i : Nat} {g : Int32} (hi : i < 16) (h : ∀ j, j < 16 → J k (q + j) = nI (za_m0 g a j)) : zw_up (zw_up J k (q + 14) (nI (za_ck (za_m0 g a) 14 / 256))) k (q + 15) (nI (za_ck (za_m0 g a) 14 % 256)) k (q + i) = nI (za_ms g a i) := by
  unfold za_ms
  by_cases e1 : i = 15
  · subst e1
    rw [zw_up_s, if_neg (by decide), if_neg (by decide)]
  · rw [zw_up_n _ _ (Or.inr (by omega))]
    by_cases e2 : i = 14
    · subst e2
      rw [zw_up_s, if_neg (by decide), if_pos rfl]
    · rw [zw_up_n _ _ (Or.inr (by omega)), if_pos (by omega)]
      exact h i hi
set_option maxHeartbeats 4000000 in
set_option maxRecDepth 100000 in
theorem lm_master {V : zv_V} (E : zv_OK V) {w : zw_W} {n0 u0 : Nat} {Q : zg_O → zw_W → Prop} (HM : zl_M w) {k n q a : Nat} {g : Int32} (ht : zw_t w k = (10, n)) (hk : 1 ≤ k) (hkn : k < w.1) (hn : n < 2 ^ 31) (hq1 : q + 16 ≤ n) (ha : a < 48) (hq : ∀ J, ((∀ i, i < 16 → J k (q + i) = nI (za_ms g a i)) ∧ ∀ j, (j < q ∨ q + 16 ≤ j) → J k j = zw_i w k j) → zu_fr [k] [] (zw_i w) J → Q (.inl none) (zw_I w J)) : ∀ (n i : Nat) (J : Nat → Nat → Int32), i ≤ 16 → 16 + 1 ≤ i + n → (∀ j, j < i → J k (q + j) = nI (za_m0 g a j)) → (∀ j, (j < q ∨ q + 16 ≤ j) → J k j = zw_i w k j) → zu_fr [k] [] (zw_i w) J → zg_G V zm_X4_master 1 30 n0 u0 3 [] [(5, .int (nI i)), (0, .ref 156), (1, .ref k), (2, .int (nI q)), (3, .int g), (4, .int (nI a))] (zw_I w J) Q := by
  intro nn
  induction nn with
  | zero =>
    intro i J hii hnn
    exact absurd hnn (by omega)
  | succ nn ih =>
    intro i J hii hnn k0 k1 k2
    refine zg_iload dX4_master_3 rfl ?_
    refine zg_bipush (v := nI 16) dX4_master_5 (by decide) ?_
    refine zg_icmp_ge (tgt := 57) dX4_master_7 (by decide) (fun h7 => ?_) (fun h7 => ?_)
    · obtain rfl : i = 16 := by have := zn_ge h7 (by omega) (by omega); omega
      refine zg_aload_n dX4_master_57 rfl ?_
      refine zg_aload_n dX4_master_58 rfl ?_
      refine zg_iload_n dX4_master_59 rfl ?_
      refine zg_vrt (M := zm_X4_master) E (ci := 4) dX4_master_60 (mt_checkOf (w := zw_I w J) (g := za_m0 g a) E HM ht hk hkn hn (by omega) (fun i hi => k0 i (by omega)) (fun i _ => za_m0_lt g ha i)) wd_X4_43 rfl (congrArg Prod.fst (zl_Mat HM (k := 156) (t := (4, 17)) rfl (by decide) (by decide))) (by decide) (zl_Mlt HM (by decide)) rfl dh_X4_checkOf dn_X4_checkOf (Nat.le_of_ble_eq_true rfl) (Nat.le_of_ble_eq_true rfl) (Nat.le_of_ble_eq_true rfl) (zl_capM HM) rfl (fun w60 g60 => ?_)
      subst w60
      refine zg_istore (lv' := [(5, .int (nI (za_ck (za_m0 g a) 14))), (0, .ref 156), (1, .ref k), (2, .int (nI q)), (3, .int g), (4, .int (nI a))]) dX4_master_63 (by decide) rfl ?_
      refine zg_aload_n dX4_master_65 rfl ?_
      refine zg_iload_n dX4_master_66 rfl ?_
      refine zg_bipush (v := nI 14) dX4_master_67 (by decide) ?_
      refine zg_iadd dX4_master_69 ?_
      refine zg_v (x' := nI (q + 14)) (nI_add _ _) ?_
      refine zg_iload dX4_master_70 rfl ?_
      refine zg_bipush (v := nI 8) dX4_master_72 (by decide) ?_
      refine zg_ishr dX4_master_74 ?_
      refine zg_v (x' := nI (za_ck (za_m0 g a) 14 / 256)) (pk_shrN (by have := za_ck_lt (za_m0 g a) 14; omega) (nI 8 &&& 31) 8 (by decide)) ?_
      refine zg_iast E (j := q + 14) dX4_master_75 ht hk hkn rfl (by omega) (by omega) ?_
      refine zg_aload_n dX4_master_76 rfl ?_
      refine zg_iload_n dX4_master_77 rfl ?_
      refine zg_bipush (v := nI 15) dX4_master_78 (by decide) ?_
      refine zg_iadd dX4_master_80 ?_
      refine zg_v (x' := nI (q + 15)) (nI_add _ _) ?_
      refine zg_iload dX4_master_81 rfl ?_
      refine zg_sipush (v := nI 255) dX4_master_83 (by decide) ?_
      refine zg_iand dX4_master_86 ?_
      refine zg_v (x' := nI (za_ck (za_m0 g a) 14 % 256)) (pk_andN (by have := za_ck_lt (za_m0 g a) 14; omega) 8 (by decide)) ?_
      refine zg_iast E (j := q + 15) dX4_master_87 ht hk hkn rfl (by omega) (by omega) ?_
      exact zg_vret rfl dX4_master_88 (hq _ ⟨fun i hi => zu_ms hi k0, fun j hj => (zw_up_n _ _ (Or.inr (by omega))).trans ((zw_up_n _ _ (Or.inr (by omega))).trans (k1 j hj))⟩ (fun a j h1 h2 => (zw_up_n _ _ (Or.inl (fun z => h1 (by rw [z]; exact List.mem_singleton.mpr rfl)))).trans ((zw_up_n _ _ (Or.inl (fun z => h1 (by rw [z]; exact List.mem_singleton.mpr rfl)))).trans (k2 a j h1 h2))))
    · have hlt : i < 16 := zn_lt h7 (by omega) (by omega)
      refine zg_aload_n dX4_master_10 rfl ?_
      refine zg_iload_n dX4_master_11 rfl ?_
      refine zg_iload dX4_master_12 rfl ?_
      refine zg_iadd dX4_master_14 ?_
      refine zg_v (x' := nI (q + i)) (nI_add _ _) ?_
      refine zg_iload dX4_master_15 rfl ?_
      refine zg_iconst (v := nI 4) dX4_master_17 (by decide) ?_
      refine zg_icmp_ge (tgt := 38) dX4_master_18 (by decide) (fun h18 => ?_) (fun h18 => ?_)
      · have h4 : 4 ≤ i := zn_ge h18 (by omega) (by omega)
        refine zg_iload dX4_master_38 rfl ?_
        refine zg_iconst (v := nI 4) dX4_master_40 (by decide) ?_
        refine zg_icmp_ne (tgt := 49) dX4_master_41 (by decide) (fun h41 => ?_) (fun h41 => ?_)
        · have e4 : i ≠ 4 := fun z => h41 (congrArg nI z)
          have hv : nI 0 = nI (za_m0 g a i) := congrArg nI (show 0 = za_m0 g a i by unfold za_m0; rw [if_neg (by omega), if_neg e4])
          refine zg_iconst (v := nI 0) dX4_master_49 (by decide) ?_
          refine zg_iast E (j := q + i) dX4_master_50 ht hk hkn rfl (by omega) (by omega) ?_
          refine zg_iinc (v := nI (i + 1)) (lv' := [(5, .int (nI (i + 1))), (0, .ref 156), (1, .ref k), (2, .int (nI q)), (3, .int g), (4, .int (nI a))]) dX4_master_51 rfl (nI_1 i) (by decide) rfl ?_
          refine zg_goto (tgt := 3) dX4_master_54 (by decide) ?_
          refine zg_l [0, 1, 2, 3, 4, 5] rfl ?_
          exact zg_s rfl rfl rfl (ih (i + 1) _ (by omega) (by omega) (fun j hj => (Nat.lt_or_ge j i).elim (fun z => (zw_up_n _ _ (Or.inr (by omega))).trans (k0 j z)) (fun z => by have e : j = i := (by omega); subst e; exact (zw_up_s _ _ _ _).trans hv)) (fun j hj => (zw_up_n _ _ (Or.inr (by omega))).trans (k1 j hj)) (fun a j h1 h2 => (zw_up_n _ _ (Or.inl (fun z => h1 (by rw [z]; exact List.mem_singleton.mpr rfl)))).trans (k2 a j h1 h2)))
        · have e4 : i = 4 := (nI_eq (by omega) (by decide)).mp h41
          have hv : nI a = nI (za_m0 g a i) := congrArg nI (show a = za_m0 g a i by rw [e4]; rfl)
          refine zg_iload dX4_master_44 rfl ?_
          refine zg_goto (tgt := 50) dX4_master_46 (by decide) ?_
          refine zg_iast E (j := q + i) dX4_master_50 ht hk hkn rfl (by omega) (by omega) ?_
          refine zg_iinc (v := nI (i + 1)) (lv' := [(5, .int (nI (i + 1))), (0, .ref 156), (1, .ref k), (2, .int (nI q)), (3, .int g), (4, .int (nI a))]) dX4_master_51 rfl (nI_1 i) (by decide) rfl ?_
          refine zg_goto (tgt := 3) dX4_master_54 (by decide) ?_
          refine zg_l [0, 1, 2, 3, 4, 5] rfl ?_
          exact zg_s rfl rfl rfl (ih (i + 1) _ (by omega) (by omega) (fun j hj => (Nat.lt_or_ge j i).elim (fun z => (zw_up_n _ _ (Or.inr (by omega))).trans (k0 j z)) (fun z => by have e : j = i := (by omega); subst e; exact (zw_up_s _ _ _ _).trans hv)) (fun j hj => (zw_up_n _ _ (Or.inr (by omega))).trans (k1 j hj)) (fun a j h1 h2 => (zw_up_n _ _ (Or.inl (fun z => h1 (by rw [z]; exact List.mem_singleton.mpr rfl)))).trans (k2 a j h1 h2)))
      · have h4 : i < 4 := zn_lt h18 (by omega) (by omega)
        have hv : nI (g.toBitVec.toNat / 2 ^ (24 - 8 * i) % 256) = nI (za_m0 g a i) := congrArg nI (if_pos h4).symm
        refine zg_iload_n dX4_master_21 rfl ?_
        refine zg_bipush (v := nI 24) dX4_master_22 (by decide) ?_
        refine zg_bipush (v := nI 8) dX4_master_24 (by decide) ?_
        refine zg_iload dX4_master_26 rfl ?_
        refine zg_imul dX4_master_28 ?_
        refine zg_v (x' := nI (8 * i)) (pk_mul _ _) ?_
        refine zg_isub dX4_master_29 ?_
        refine zg_v (x' := nI (24 - 8 * i)) (pk_sub (by omega)) ?_
        refine zg_ishr dX4_master_30 ?_
        refine zg_sipush (v := nI 255) dX4_master_31 (by decide) ?_
        refine zg_iand dX4_master_34 ?_
        refine zg_v (x' := nI (g.toBitVec.toNat / 2 ^ (24 - 8 * i) % 256)) (zn_gs g h4) ?_
        refine zg_goto (tgt := 50) dX4_master_35 (by decide) ?_
        refine zg_iast E (j := q + i) dX4_master_50 ht hk hkn rfl (by omega) (by omega) ?_
        refine zg_iinc (v := nI (i + 1)) (lv' := [(5, .int (nI (i + 1))), (0, .ref 156), (1, .ref k), (2, .int (nI q)), (3, .int g), (4, .int (nI a))]) dX4_master_51 rfl (nI_1 i) (by decide) rfl ?_
        refine zg_goto (tgt := 3) dX4_master_54 (by decide) ?_
        refine zg_l [0, 1, 2, 3, 4, 5] rfl ?_
        exact zg_s rfl rfl rfl (ih (i + 1) _ (by omega) (by omega) (fun j hj => (Nat.lt_or_ge j i).elim (fun z => (zw_up_n _ _ (Or.inr (by omega))).trans (k0 j z)) (fun z => by have e : j = i := (by omega); subst e; exact (zw_up_s _ _ _ _).trans hv)) (fun j hj => (zw_up_n _ _ (Or.inr (by omega))).trans (k1 j hj)) (fun a j h1 h2 => (zw_up_n _ _ (Or.inl (fun z => h1 (by rw [z]; exact List.mem_singleton.mpr rfl)))).trans (k2 a j h1 h2)))
set_option maxHeartbeats 4000000 in
set_option maxRecDepth 100000 in
theorem mt_master {V : zv_V} (E : zv_OK V) {w : zw_W} (HM : zl_M w) {k n q a : Nat} {g : Int32} (ht : zw_t w k = (10, n)) (hk : 1 ≤ k) (hkn : k < w.1) (hn : n < 2 ^ 31) (hq1 : q + 16 ≤ n) (ha : a < 48)  : zg_C V zm_X4_master yX4_master 1 30 [.ref 156, .ref k, .int (nI q), .int g, .int (nI a)] w (zq_p (.inl none) (zu_to w [k] [] (fun J => ((∀ i, i < 16 → J k (q + i) = nI (za_ms g a i)) ∧ ∀ j, (j < q ∨ q + 16 ≤ j) → J k j = zw_i w k j)))) := by
  refine zg_of (by decide +kernel) rfl (Nat.le_of_ble_eq_true rfl) ?_
  show zg_G V zm_X4_master 1 30 w.1 w.2.1 0 [] [(0, .ref 156), (1, .ref k), (2, .int (nI q)), (3, .int g), (4, .int (nI a))] w _
  refine zg_iconst (v := nI 0) dX4_master_0 (by decide) ?_
  refine zg_istore (lv' := [(5, .int (nI 0)), (0, .ref 156), (1, .ref k), (2, .int (nI q)), (3, .int g), (4, .int (nI a))]) dX4_master_1 (by decide) rfl ?_
  refine zg_l [0, 1, 2, 3, 4, 5] rfl ?_
  exact zg_s rfl rfl rfl (lm_master E HM ht hk hkn hn hq1 ha (fun J h1 h2 => ⟨rfl, J, rfl, h1, h2⟩) 17 0 (zw_i w) (by omega) (by omega) (fun j hj => absurd hj (Nat.not_lt_zero j)) (fun _ _ => rfl) (zu_frn [k] []))

/-! The reference's holds, bytes, master. -/
theorem zu_ho {I J : Nat → Nat → Int32} {H : za_H} {t : Nat} {f : Nat → Nat} (h : zu_H I H) (h1 : J 156 14 = nI (H.1 + 1)) (h2 : ∀ k, J 163 k = zw_up I 163 H.1 (nI t) 163 k) (h3 : ∀ i, i < 16 → J 164 (16 * H.1 + i) = nI (f i)) (h4 : ∀ j, (j < 16 * H.1 ∨ 16 * H.1 + 16 ≤ j) → J 164 j = I 164 j) : zu_H J (za_hold H t f) := by
  refine ⟨h1, fun k hk => ?_, fun k hk i hi => ?_⟩
  · rw [h2]
    show _ = nI (zw_ro H.2.1 H.1 t k)
    by_cases e : k = H.1
    · rw [e, zw_up_s, zw_ro_s]
    · rw [zw_up_n _ _ (Or.inr e), zw_ro_n _ _ e]
      exact h.2.1 k (Nat.lt_of_le_of_ne (Nat.le_of_lt_succ hk) e)
  · show _ = nI (zw_ro H.2.2 H.1 f k i)
    by_cases e : k = H.1
    · rw [e, zw_ro_s]
      exact h3 i hi
    · rw [zw_ro_n _ _ e, h4 _ (by omega)]
      exact h.2.2 k (Nat.lt_of_le_of_ne (Nat.le_of_lt_succ hk) e) i hi
set_option maxHeartbeats 4000000 in
set_option maxRecDepth 100000 in
theorem lm_hold {V : zv_V} (E : zv_OK V) {w : zw_W} {n0 u0 : Nat} {Q : zg_O → zw_W → Prop} (HM : zl_M w) {H : za_H} (hH : zu_H (zw_i w) H) (h77 : H.1 < 77) {k n q t : Nat} {f : Nat → Nat} (ht : zw_t w k = (10, n)) (hk : 1 ≤ k) (hkn : k < w.1) (hn : n < 2 ^ 31) (hq1 : q + 16 ≤ n) (hk2 : k = 162 ∨ k = 164 ∧ 1248 ≤ q) (hf : ∀ i, i < 16 → zw_i w k (q + i) = nI (f i)) (hq : ∀ J, zu_H J (za_hold H t f) → zu_fr [163, 164] [14] (zw_i w) J → Q (.inl none) (zw_I w J)) : ∀ (n i : Nat) (J : Nat → Nat → Int32), i ≤ 16 → 16 + 1 ≤ i + n → (∀ j, j < i → J 164 (16 * H.1 + j) = nI (f j)) → (∀ j, (j < 16 * H.1 ∨ 16 * H.1 + i ≤ j) → J 164 j = zw_i w 164 j) → (∀ j, J 163 j = zw_up (zw_i w) 163 H.1 (nI t) 163 j) → zu_fr [163, 164] [] (zw_i w) J → zg_G V zm_X4_hold 0 0 n0 u0 13 [] [(4, .int (nI i)), (0, .ref 156), (1, .int (nI t)), (2, .ref k), (3, .int (nI q))] (zw_I w J) Q := by
  intro n
  induction n with
  | zero =>
    intro i J hi hn
    exact absurd hn (by omega)
  | succ n ih =>
    intro i J hi hn k0 k1 k2 k3
    have hh : J 156 14 = nI H.1 := zu_fs hH.1 k3
    refine zg_iload dX4_hold_13 rfl ?_
    refine zg_bipush (v := nI 16) dX4_hold_15 (by decide) ?_
    refine zg_icmp_ge (tgt := 47) dX4_hold_17 (by decide) (fun h17 => ?_) (fun h17 => ?_)
    · obtain rfl : i = 16 := by have := zn_ge h17 (by omega) (by omega); omega
      refine zg_aload_n dX4_hold_47 rfl ?_
      refine zg_dup dX4_hold_48 rfl ?_
      refine zg_getI E (ci := 4) (j := 14) dX4_hold_49 rfl (congrArg Prod.fst (zl_Mat HM (k := 156) (t := (4, 17)) rfl (by decide) (by decide))) (by decide) (zl_Mlt HM (by decide)) (by decide) fl_X4_54 rfl ?_
      refine zg_v (x' := nI H.1) hh ?_
      refine zg_iconst (v := nI 1) dX4_hold_52 (by decide) ?_
      refine zg_iadd dX4_hold_53 ?_
      refine zg_v (x' := nI (H.1 + 1)) (nI_add _ _) ?_
      refine zg_putI E (ci := 4) (j := 14) dX4_hold_54 rfl (congrArg Prod.fst (zl_Mat HM (k := 156) (t := (4, 17)) rfl (by decide) (by decide))) (by decide) (zl_Mlt HM (by decide)) (by decide) fl_X4_54 rfl rfl rfl rfl ?_
      exact zg_vret rfl dX4_hold_57 (hq _ (zu_ho (f := f) hH (zw_up_s _ _ _ _) (fun j => (zw_up_n _ _ (Or.inl (by decide))).trans (k2 j)) (fun j hj => (zw_up_n _ _ (Or.inl (by decide))).trans (k0 j hj)) (fun j hj => (zw_up_n _ _ (Or.inl (by decide))).trans (k1 j hj))) (zu_frW (zu_frT k3 (zu_frS J 14 _))))
    · have hlt : i < 16 := zn_lt h17 (by omega) (by omega)
      have hfi : J k (q + i) = nI (f i) := by
        rcases hk2 with e | ⟨e, e2⟩
        · exact (k3 k _ (by rw [e]; decide) (Or.inl (by omega))).trans (hf i hlt)
        · subst e
          exact (k1 _ (by omega)).trans (hf i hlt)
      refine zg_aload_n dX4_hold_20 rfl ?_
      refine zg_getR E (ci := 4) (j := 13) (r := 164) dX4_hold_21 rfl (congrArg Prod.fst (zl_Mat HM (k := 156) (t := (4, 17)) rfl (by decide) (by decide))) (by decide) (zl_Mlt HM (by decide)) (by decide) fl_X4_32 rfl (zl_Mrf HM rfl (by decide) (by decide)) ?_
      refine zg_bipush (v := nI 16) dX4_hold_24 (by decide) ?_
      refine zg_aload_n dX4_hold_26 rfl ?_
      refine zg_getI E (ci := 4) (j := 14) dX4_hold_27 rfl (congrArg Prod.fst (zl_Mat HM (k := 156) (t := (4, 17)) rfl (by decide) (by decide))) (by decide) (zl_Mlt HM (by decide)) (by decide) fl_X4_54 rfl ?_
      refine zg_v (x' := nI H.1) hh ?_
      refine zg_imul dX4_hold_30 ?_
      refine zg_v (x' := nI (16 * H.1)) (pk_mul _ _) ?_
      refine zg_iload dX4_hold_31 rfl ?_
      refine zg_iadd dX4_hold_33 ?_
      refine zg_v (x' := nI ((16 * H.1) + i)) (nI_add _ _) ?_
      refine zg_aload_n dX4_hold_34 rfl ?_
      refine zg_iload_n dX4_hold_35 rfl ?_
      refine zg_iload dX4_hold_36 rfl ?_
      refine zg_iadd dX4_hold_38 ?_
      refine zg_v (x' := nI (q + i)) (nI_add _ _) ?_
      refine zg_iald E (j := q + i) dX4_hold_39 ht hk hkn rfl (by omega) (by omega) ?_
      refine zg_v (x' := nI (f i)) hfi ?_
      refine zg_iast E (j := (16 * H.1) + i) dX4_hold_40 (zl_Mat HM (k := 164) (t := (10, 1600)) rfl (by decide) (by decide)) (by decide) (zl_Mlt HM (by decide)) rfl (by omega) (by decide) ?_
      refine zg_iinc (v := nI (i + 1)) (lv' := [(4, .int (nI (i + 1))), (0, .ref 156), (1, .int (nI t)), (2, .ref k), (3, .int (nI q))]) dX4_hold_41 rfl (nI_1 i) (by decide) rfl ?_
      refine zg_goto (tgt := 13) dX4_hold_44 (by decide) ?_
      refine zg_l [0, 1, 2, 3, 4] rfl ?_
      exact zg_s rfl rfl rfl (ih (i + 1) _ (by omega) (by omega) (fun j hj => (Nat.lt_or_ge j i).elim (fun z => (zw_up_n _ _ (Or.inr (by omega))).trans (k0 j z)) (fun z => by have e : j = i := (by omega); subst e; exact zw_up_s _ _ _ _)) (fun j hj => (zw_up_n _ _ (Or.inr (by omega))).trans (k1 j (by omega))) (fun j => (zw_up_n _ _ (Or.inl (by decide))).trans (k2 j)) (fun a j h1 h2 => (zw_up_n _ _ (Or.inl (fun z => h1 (by rw [z]; decide)))).trans (k3 a j h1 h2)))
set_option maxHeartbeats 4000000 in
set_option maxRecDepth 100000 in
theorem mt_hold {V : zv_V} (E : zv_OK V) {w : zw_W} (HM : zl_M w) {H : za_H} (hH : zu_H (zw_i w) H) (h77 : H.1 < 77) {k n q t : Nat} {f : Nat → Nat} (ht : zw_t w k = (10, n)) (hk : 1 ≤ k) (hkn : k < w.1) (hn : n < 2 ^ 31) (hq1 : q + 16 ≤ n) (hk2 : k = 162 ∨ k = 164 ∧ 1248 ≤ q) (hf : ∀ i, i < 16 → zw_i w k (q + i) = nI (f i))  : zg_C V zm_X4_hold yX4_hold 0 0 [.ref 156, .int (nI t), .ref k, .int (nI q)] w (zq_p (.inl none) (zu_to w [163, 164] [14] (zu_H · (za_hold H t f)))) := by
  refine zg_of (by decide +kernel) rfl (Nat.le_of_ble_eq_true rfl) ?_
  show zg_G V zm_X4_hold 0 0 w.1 w.2.1 0 [] [(0, .ref 156), (1, .int (nI t)), (2, .ref k), (3, .int (nI q))] w _
  refine zg_aload_n dX4_hold_0 rfl ?_
  refine zg_getR E (ci := 4) (j := 12) (r := 163) dX4_hold_1 rfl (congrArg Prod.fst (zl_Mat HM (k := 156) (t := (4, 17)) rfl (by decide) (by decide))) (by decide) (zl_Mlt HM (by decide)) (by decide) fl_X4_29 rfl (zl_Mrf HM rfl (by decide) (by decide)) ?_
  refine zg_aload_n dX4_hold_4 rfl ?_
  refine zg_getI E (ci := 4) (j := 14) dX4_hold_5 rfl (congrArg Prod.fst (zl_Mat HM (k := 156) (t := (4, 17)) rfl (by decide) (by decide))) (by decide) (zl_Mlt HM (by decide)) (by decide) fl_X4_54 rfl ?_
  refine zg_v (x' := nI H.1) hH.1 ?_
  refine zg_iload_n dX4_hold_8 rfl ?_
  refine zg_iast E (j := H.1) dX4_hold_9 (zl_Mat HM (k := 163) (t := (10, 100)) rfl (by decide) (by decide)) (by decide) (zl_Mlt HM (by decide)) rfl (by omega) (by decide) ?_
  refine zg_iconst (v := nI 0) dX4_hold_10 (by decide) ?_
  refine zg_istore (lv' := [(4, .int (nI 0)), (0, .ref 156), (1, .int (nI t)), (2, .ref k), (3, .int (nI q))]) dX4_hold_11 (by decide) rfl ?_
  refine zg_l [0, 1, 2, 3, 4] rfl ?_
  exact zg_s rfl rfl rfl (lm_hold E HM hH h77 ht hk hkn hn hq1 hk2 hf (fun J h1 h2 => ⟨rfl, J, rfl, h1, h2⟩) 17 0 (zw_up (zw_i w) 163 H.1 (nI t)) (by omega) (by omega) (fun j hj => absurd hj (Nat.not_lt_zero j)) (fun j _ => zw_up_n _ _ (Or.inl (by decide))) (fun _ => rfl) (zu_frW (zu_frC (zw_i w) 163 _ _)))
set_option maxHeartbeats 4000000 in
set_option maxRecDepth 100000 in
theorem mt_byteT {V : zv_V} (E : zv_OK V) {w : zw_W} (HM : zl_M w) {D : Nat → Nat → Nat} {L : za_T} (hD : zu_D (zw_i w) D) (hL : zu_L (zw_i w) L) (wL : za_WT L) {p i : Nat} (hp : p < 16) (hi : i < 16)  : zg_C V zm_X4_byteAt yX4_byteAt 0 0 [.ref 156, .int (nI p), .int (nI i), .int (nI 1)] w (zq_p (.inl (some (.int (nI (za_lt D L p i))))) (· = w)) := by
  refine zg_of (by decide +kernel) rfl (Nat.le_of_ble_eq_true rfl) ?_
  show zg_G V zm_X4_byteAt 0 0 w.1 w.2.1 0 [] [(0, .ref 156), (1, .int (nI p)), (2, .int (nI i)), (3, .int (nI 1))] w _
  refine zg_aload_n dX4_byteAt_0 rfl ?_
  refine zg_getI E (ci := 4) (j := 8) dX4_byteAt_1 rfl (congrArg Prod.fst (zl_Mat HM (k := 156) (t := (4, 17)) rfl (by decide) (by decide))) (by decide) (zl_Mlt HM (by decide)) (by decide) fl_X4_61 rfl ?_
  refine zg_if_eq (tgt := 32) dX4_byteAt_4 (by decide) (fun h4 => ?_) (fun h4 => ?_)
  · refine zg_aload_n dX4_byteAt_32 rfl ?_
    refine zg_getR E (ci := 4) (j := 1) (r := 158) dX4_byteAt_33 rfl (congrArg Prod.fst (zl_Mat HM (k := 156) (t := (4, 17)) rfl (by decide) (by decide))) (by decide) (zl_Mlt HM (by decide)) (by decide) fl_X4_13 rfl (zl_Mrf HM rfl (by decide) (by decide)) ?_
    refine zg_iload_n dX4_byteAt_36 rfl ?_
    refine zg_iald E (j := p) dX4_byteAt_37 (zl_Mat HM (k := 158) (t := (10, 16)) rfl (by decide) (by decide)) (by decide) (zl_Mlt HM (by decide)) rfl (by omega) (by decide) ?_
    refine zg_v (x' := nI (L.1 p)) (hL.1 p hp) ?_
    refine zg_if_ne (tgt := 45) dX4_byteAt_38 (by decide) (fun h38 => ?_) (fun h38 => ?_)
    · have e : L.1 p ≠ 0 := fun z => h38 (congrArg nI z)
      have h48 := wL.1 p hp
      refine zg_aload_n dX4_byteAt_45 rfl ?_
      refine zg_getR E (ci := 4) (j := 0) (r := 157) dX4_byteAt_46 rfl (congrArg Prod.fst (zl_Mat HM (k := 156) (t := (4, 17)) rfl (by decide) (by decide))) (by decide) (zl_Mlt HM (by decide)) (by decide) fl_X4_7 rfl (zl_Mrf HM rfl (by decide) (by decide)) ?_
      refine zg_bipush (v := nI 16) dX4_byteAt_49 (by decide) ?_
      refine zg_aload_n dX4_byteAt_51 rfl ?_
      refine zg_getR E (ci := 4) (j := 1) (r := 158) dX4_byteAt_52 rfl (congrArg Prod.fst (zl_Mat HM (k := 156) (t := (4, 17)) rfl (by decide) (by decide))) (by decide) (zl_Mlt HM (by decide)) (by decide) fl_X4_13 rfl (zl_Mrf HM rfl (by decide) (by decide)) ?_
      refine zg_iload_n dX4_byteAt_55 rfl ?_
      refine zg_iald E (j := p) dX4_byteAt_56 (zl_Mat HM (k := 158) (t := (10, 16)) rfl (by decide) (by decide)) (by decide) (zl_Mlt HM (by decide)) rfl (by omega) (by decide) ?_
      refine zg_v (x' := nI (L.1 p)) (hL.1 p hp) ?_
      refine zg_imul dX4_byteAt_57 ?_
      refine zg_v (x' := nI (16 * (L.1 p))) (pk_mul _ _) ?_
      refine zg_iload_n dX4_byteAt_58 rfl ?_
      refine zg_iadd dX4_byteAt_59 ?_
      refine zg_v (x' := nI ((16 * (L.1 p)) + i)) (nI_add _ _) ?_
      refine zg_iald E (j := (16 * (L.1 p)) + i) dX4_byteAt_60 (zl_Mat HM (k := 157) (t := (10, 768)) rfl (by decide) (by decide)) (by decide) (zl_Mlt HM (by decide)) rfl (by omega) (by decide) ?_
      refine zg_v (x' := nI (D (L.1 p) i)) (hD _ h48 i hi) ?_
      exact zg_iret rfl dX4_byteAt_61 ⟨congrArg (fun x => Sum.inl (some (Value.int (nI x)))) (if_neg e).symm, rfl⟩
    · have e : L.1 p = 0 := (nI_eq (by have := wL.1 p hp; omega) (by decide)).mp h38
      refine zg_iconst (v := nI 0) dX4_byteAt_41 (by decide) ?_
      refine zg_goto (tgt := 61) dX4_byteAt_42 (by decide) ?_
      exact zg_iret rfl dX4_byteAt_61 ⟨congrArg (fun x => Sum.inl (some (Value.int (nI x)))) (if_pos e).symm, rfl⟩
  · refine zg_iload_n dX4_byteAt_7 rfl ?_
    refine zg_if_ne (tgt := 32) dX4_byteAt_8 (by decide) (fun h8 => ?_) (fun h8 => ?_)
    · refine zg_aload_n dX4_byteAt_32 rfl ?_
      refine zg_getR E (ci := 4) (j := 1) (r := 158) dX4_byteAt_33 rfl (congrArg Prod.fst (zl_Mat HM (k := 156) (t := (4, 17)) rfl (by decide) (by decide))) (by decide) (zl_Mlt HM (by decide)) (by decide) fl_X4_13 rfl (zl_Mrf HM rfl (by decide) (by decide)) ?_
      refine zg_iload_n dX4_byteAt_36 rfl ?_
      refine zg_iald E (j := p) dX4_byteAt_37 (zl_Mat HM (k := 158) (t := (10, 16)) rfl (by decide) (by decide)) (by decide) (zl_Mlt HM (by decide)) rfl (by omega) (by decide) ?_
      refine zg_v (x' := nI (L.1 p)) (hL.1 p hp) ?_
      refine zg_if_ne (tgt := 45) dX4_byteAt_38 (by decide) (fun h38 => ?_) (fun h38 => ?_)
      · have e : L.1 p ≠ 0 := fun z => h38 (congrArg nI z)
        have h48 := wL.1 p hp
        refine zg_aload_n dX4_byteAt_45 rfl ?_
        refine zg_getR E (ci := 4) (j := 0) (r := 157) dX4_byteAt_46 rfl (congrArg Prod.fst (zl_Mat HM (k := 156) (t := (4, 17)) rfl (by decide) (by decide))) (by decide) (zl_Mlt HM (by decide)) (by decide) fl_X4_7 rfl (zl_Mrf HM rfl (by decide) (by decide)) ?_
        refine zg_bipush (v := nI 16) dX4_byteAt_49 (by decide) ?_
        refine zg_aload_n dX4_byteAt_51 rfl ?_
        refine zg_getR E (ci := 4) (j := 1) (r := 158) dX4_byteAt_52 rfl (congrArg Prod.fst (zl_Mat HM (k := 156) (t := (4, 17)) rfl (by decide) (by decide))) (by decide) (zl_Mlt HM (by decide)) (by decide) fl_X4_13 rfl (zl_Mrf HM rfl (by decide) (by decide)) ?_
        refine zg_iload_n dX4_byteAt_55 rfl ?_
        refine zg_iald E (j := p) dX4_byteAt_56 (zl_Mat HM (k := 158) (t := (10, 16)) rfl (by decide) (by decide)) (by decide) (zl_Mlt HM (by decide)) rfl (by omega) (by decide) ?_
        refine zg_v (x' := nI (L.1 p)) (hL.1 p hp) ?_
        refine zg_imul dX4_byteAt_57 ?_
        refine zg_v (x' := nI (16 * (L.1 p))) (pk_mul _ _) ?_
        refine zg_iload_n dX4_byteAt_58 rfl ?_
        refine zg_iadd dX4_byteAt_59 ?_
        refine zg_v (x' := nI ((16 * (L.1 p)) + i)) (nI_add _ _) ?_
        refine zg_iald E (j := (16 * (L.1 p)) + i) dX4_byteAt_60 (zl_Mat HM (k := 157) (t := (10, 768)) rfl (by decide) (by decide)) (by decide) (zl_Mlt HM (by decide)) rfl (by omega) (by decide) ?_
        refine zg_v (x' := nI (D (L.1 p) i)) (hD _ h48 i hi) ?_
        exact zg_iret rfl dX4_byteAt_61 ⟨congrArg (fun x => Sum.inl (some (Value.int (nI x)))) (if_neg e).symm, rfl⟩
      · have e : L.1 p = 0 := (nI_eq (by have := wL.1 p hp; omega) (by decide)).mp h38
        refine zg_iconst (v := nI 0) dX4_byteAt_41 (by decide) ?_
        refine zg_goto (tgt := 61) dX4_byteAt_42 (by decide) ?_
        exact zg_iret rfl dX4_byteAt_61 ⟨congrArg (fun x => Sum.inl (some (Value.int (nI x)))) (if_pos e).symm, rfl⟩
    · exact absurd h8 (by decide)
set_option maxHeartbeats 4000000 in
set_option maxRecDepth 100000 in
theorem mt_byteN {V : zv_V} (E : zv_OK V) {w : zw_W} (HM : zl_M w) {D : Nat → Nat → Nat} {L : za_T} (hD : zu_D (zw_i w) D) (hL : zu_L (zw_i w) L) (wL : za_WT L) {p i : Nat} (hp : p < 16) (hi : i < 16) {C : za_C} {z : Bool} (hC : zu_C (zw_i w) C) (h : z = true ∨ C.1 p = 0) : zg_C V zm_X4_byteAt yX4_byteAt 0 0 [.ref 156, .int (nI p), .int (nI i), .int (za_bit z)] w (zq_p (.inl (some (.int (nI (za_lt D L p i))))) (· = w)) := by
  refine zg_of (by decide +kernel) rfl (Nat.le_of_ble_eq_true rfl) ?_
  show zg_G V zm_X4_byteAt 0 0 w.1 w.2.1 0 [] [(0, .ref 156), (1, .int (nI p)), (2, .int (nI i)), (3, .int (za_bit z))] w _
  refine zg_aload_n dX4_byteAt_0 rfl ?_
  refine zg_getI E (ci := 4) (j := 8) dX4_byteAt_1 rfl (congrArg Prod.fst (zl_Mat HM (k := 156) (t := (4, 17)) rfl (by decide) (by decide))) (by decide) (zl_Mlt HM (by decide)) (by decide) fl_X4_61 rfl ?_
  refine zg_v (x' := za_bit (decide (0 < za_n C.1 16))) hC.1 ?_
  refine zg_if_eq (tgt := 32) dX4_byteAt_4 (by decide) (fun h4 => ?_) (fun h4 => ?_)
  · refine zg_aload_n dX4_byteAt_32 rfl ?_
    refine zg_getR E (ci := 4) (j := 1) (r := 158) dX4_byteAt_33 rfl (congrArg Prod.fst (zl_Mat HM (k := 156) (t := (4, 17)) rfl (by decide) (by decide))) (by decide) (zl_Mlt HM (by decide)) (by decide) fl_X4_13 rfl (zl_Mrf HM rfl (by decide) (by decide)) ?_
    refine zg_iload_n dX4_byteAt_36 rfl ?_
    refine zg_iald E (j := p) dX4_byteAt_37 (zl_Mat HM (k := 158) (t := (10, 16)) rfl (by decide) (by decide)) (by decide) (zl_Mlt HM (by decide)) rfl (by omega) (by decide) ?_
    refine zg_v (x' := nI (L.1 p)) (hL.1 p hp) ?_
    refine zg_if_ne (tgt := 45) dX4_byteAt_38 (by decide) (fun h38 => ?_) (fun h38 => ?_)
    · have e : L.1 p ≠ 0 := fun z => h38 (congrArg nI z)
      have h48 := wL.1 p hp
      refine zg_aload_n dX4_byteAt_45 rfl ?_
      refine zg_getR E (ci := 4) (j := 0) (r := 157) dX4_byteAt_46 rfl (congrArg Prod.fst (zl_Mat HM (k := 156) (t := (4, 17)) rfl (by decide) (by decide))) (by decide) (zl_Mlt HM (by decide)) (by decide) fl_X4_7 rfl (zl_Mrf HM rfl (by decide) (by decide)) ?_
      refine zg_bipush (v := nI 16) dX4_byteAt_49 (by decide) ?_
      refine zg_aload_n dX4_byteAt_51 rfl ?_
      refine zg_getR E (ci := 4) (j := 1) (r := 158) dX4_byteAt_52 rfl (congrArg Prod.fst (zl_Mat HM (k := 156) (t := (4, 17)) rfl (by decide) (by decide))) (by decide) (zl_Mlt HM (by decide)) (by decide) fl_X4_13 rfl (zl_Mrf HM rfl (by decide) (by decide)) ?_
      refine zg_iload_n dX4_byteAt_55 rfl ?_
      refine zg_iald E (j := p) dX4_byteAt_56 (zl_Mat HM (k := 158) (t := (10, 16)) rfl (by decide) (by decide)) (by decide) (zl_Mlt HM (by decide)) rfl (by omega) (by decide) ?_
      refine zg_v (x' := nI (L.1 p)) (hL.1 p hp) ?_
      refine zg_imul dX4_byteAt_57 ?_
      refine zg_v (x' := nI (16 * (L.1 p))) (pk_mul _ _) ?_
      refine zg_iload_n dX4_byteAt_58 rfl ?_
      refine zg_iadd dX4_byteAt_59 ?_
      refine zg_v (x' := nI ((16 * (L.1 p)) + i)) (nI_add _ _) ?_
      refine zg_iald E (j := (16 * (L.1 p)) + i) dX4_byteAt_60 (zl_Mat HM (k := 157) (t := (10, 768)) rfl (by decide) (by decide)) (by decide) (zl_Mlt HM (by decide)) rfl (by omega) (by decide) ?_
      refine zg_v (x' := nI (D (L.1 p) i)) (hD _ h48 i hi) ?_
      exact zg_iret rfl dX4_byteAt_61 ⟨congrArg (fun x => Sum.inl (some (Value.int (nI x)))) (if_neg e).symm, rfl⟩
    · have e : L.1 p = 0 := (nI_eq (by have := wL.1 p hp; omega) (by decide)).mp h38
      refine zg_iconst (v := nI 0) dX4_byteAt_41 (by decide) ?_
      refine zg_goto (tgt := 61) dX4_byteAt_42 (by decide) ?_
      exact zg_iret rfl dX4_byteAt_61 ⟨congrArg (fun x => Sum.inl (some (Value.int (nI x)))) (if_pos e).symm, rfl⟩
  · have ho := of_decide_eq_true (za_bit1 h4)
    refine zg_iload_n dX4_byteAt_7 rfl ?_
    refine zg_if_ne (tgt := 32) dX4_byteAt_8 (by decide) (fun h8 => ?_) (fun h8 => ?_)
    · refine zg_aload_n dX4_byteAt_32 rfl ?_
      refine zg_getR E (ci := 4) (j := 1) (r := 158) dX4_byteAt_33 rfl (congrArg Prod.fst (zl_Mat HM (k := 156) (t := (4, 17)) rfl (by decide) (by decide))) (by decide) (zl_Mlt HM (by decide)) (by decide) fl_X4_13 rfl (zl_Mrf HM rfl (by decide) (by decide)) ?_
      refine zg_iload_n dX4_byteAt_36 rfl ?_
      refine zg_iald E (j := p) dX4_byteAt_37 (zl_Mat HM (k := 158) (t := (10, 16)) rfl (by decide) (by decide)) (by decide) (zl_Mlt HM (by decide)) rfl (by omega) (by decide) ?_
      refine zg_v (x' := nI (L.1 p)) (hL.1 p hp) ?_
      refine zg_if_ne (tgt := 45) dX4_byteAt_38 (by decide) (fun h38 => ?_) (fun h38 => ?_)
      · have e : L.1 p ≠ 0 := fun z => h38 (congrArg nI z)
        have h48 := wL.1 p hp
        refine zg_aload_n dX4_byteAt_45 rfl ?_
        refine zg_getR E (ci := 4) (j := 0) (r := 157) dX4_byteAt_46 rfl (congrArg Prod.fst (zl_Mat HM (k := 156) (t := (4, 17)) rfl (by decide) (by decide))) (by decide) (zl_Mlt HM (by decide)) (by decide) fl_X4_7 rfl (zl_Mrf HM rfl (by decide) (by decide)) ?_
        refine zg_bipush (v := nI 16) dX4_byteAt_49 (by decide) ?_
        refine zg_aload_n dX4_byteAt_51 rfl ?_
        refine zg_getR E (ci := 4) (j := 1) (r := 158) dX4_byteAt_52 rfl (congrArg Prod.fst (zl_Mat HM (k := 156) (t := (4, 17)) rfl (by decide) (by decide))) (by decide) (zl_Mlt HM (by decide)) (by decide) fl_X4_13 rfl (zl_Mrf HM rfl (by decide) (by decide)) ?_
        refine zg_iload_n dX4_byteAt_55 rfl ?_
        refine zg_iald E (j := p) dX4_byteAt_56 (zl_Mat HM (k := 158) (t := (10, 16)) rfl (by decide) (by decide)) (by decide) (zl_Mlt HM (by decide)) rfl (by omega) (by decide) ?_
        refine zg_v (x' := nI (L.1 p)) (hL.1 p hp) ?_
        refine zg_imul dX4_byteAt_57 ?_
        refine zg_v (x' := nI (16 * (L.1 p))) (pk_mul _ _) ?_
        refine zg_iload_n dX4_byteAt_58 rfl ?_
        refine zg_iadd dX4_byteAt_59 ?_
        refine zg_v (x' := nI ((16 * (L.1 p)) + i)) (nI_add _ _) ?_
        refine zg_iald E (j := (16 * (L.1 p)) + i) dX4_byteAt_60 (zl_Mat HM (k := 157) (t := (10, 768)) rfl (by decide) (by decide)) (by decide) (zl_Mlt HM (by decide)) rfl (by omega) (by decide) ?_
        refine zg_v (x' := nI (D (L.1 p) i)) (hD _ h48 i hi) ?_
        exact zg_iret rfl dX4_byteAt_61 ⟨congrArg (fun x => Sum.inl (some (Value.int (nI x)))) (if_neg e).symm, rfl⟩
      · have e : L.1 p = 0 := (nI_eq (by have := wL.1 p hp; omega) (by decide)).mp h38
        refine zg_iconst (v := nI 0) dX4_byteAt_41 (by decide) ?_
        refine zg_goto (tgt := 61) dX4_byteAt_42 (by decide) ?_
        exact zg_iret rfl dX4_byteAt_61 ⟨congrArg (fun x => Sum.inl (some (Value.int (nI x)))) (if_pos e).symm, rfl⟩
    · have hz : C.1 p = 0 := h.resolve_left (by rw [za_bit0 h8]; decide)
      refine zg_aload_n dX4_byteAt_11 rfl ?_
      refine zg_getR E (ci := 4) (j := 9) (r := 160) dX4_byteAt_12 rfl (congrArg Prod.fst (zl_Mat HM (k := 156) (t := (4, 17)) rfl (by decide) (by decide))) (by decide) (zl_Mlt HM (by decide)) (by decide) fl_X4_19 rfl (zl_Mrf HM rfl (by decide) (by decide)) ?_
      refine zg_iload_n dX4_byteAt_15 rfl ?_
      refine zg_iald E (j := p) dX4_byteAt_16 (zl_Mat HM (k := 160) (t := (10, 16)) rfl (by decide) (by decide)) (by decide) (zl_Mlt HM (by decide)) rfl (by omega) (by decide) ?_
      refine zg_v (x' := nI (C.1 p)) (hC.2.1 ho p hp) ?_
      refine zg_if_le (tgt := 32) dX4_byteAt_17 (by decide) (fun h17 => ?_) (fun h17 => ?_)
      · refine zg_aload_n dX4_byteAt_32 rfl ?_
        refine zg_getR E (ci := 4) (j := 1) (r := 158) dX4_byteAt_33 rfl (congrArg Prod.fst (zl_Mat HM (k := 156) (t := (4, 17)) rfl (by decide) (by decide))) (by decide) (zl_Mlt HM (by decide)) (by decide) fl_X4_13 rfl (zl_Mrf HM rfl (by decide) (by decide)) ?_
        refine zg_iload_n dX4_byteAt_36 rfl ?_
        refine zg_iald E (j := p) dX4_byteAt_37 (zl_Mat HM (k := 158) (t := (10, 16)) rfl (by decide) (by decide)) (by decide) (zl_Mlt HM (by decide)) rfl (by omega) (by decide) ?_
        refine zg_v (x' := nI (L.1 p)) (hL.1 p hp) ?_
        refine zg_if_ne (tgt := 45) dX4_byteAt_38 (by decide) (fun h38 => ?_) (fun h38 => ?_)
        · have e : L.1 p ≠ 0 := fun z => h38 (congrArg nI z)
          have h48 := wL.1 p hp
          refine zg_aload_n dX4_byteAt_45 rfl ?_
          refine zg_getR E (ci := 4) (j := 0) (r := 157) dX4_byteAt_46 rfl (congrArg Prod.fst (zl_Mat HM (k := 156) (t := (4, 17)) rfl (by decide) (by decide))) (by decide) (zl_Mlt HM (by decide)) (by decide) fl_X4_7 rfl (zl_Mrf HM rfl (by decide) (by decide)) ?_
          refine zg_bipush (v := nI 16) dX4_byteAt_49 (by decide) ?_
          refine zg_aload_n dX4_byteAt_51 rfl ?_
          refine zg_getR E (ci := 4) (j := 1) (r := 158) dX4_byteAt_52 rfl (congrArg Prod.fst (zl_Mat HM (k := 156) (t := (4, 17)) rfl (by decide) (by decide))) (by decide) (zl_Mlt HM (by decide)) (by decide) fl_X4_13 rfl (zl_Mrf HM rfl (by decide) (by decide)) ?_
          refine zg_iload_n dX4_byteAt_55 rfl ?_
          refine zg_iald E (j := p) dX4_byteAt_56 (zl_Mat HM (k := 158) (t := (10, 16)) rfl (by decide) (by decide)) (by decide) (zl_Mlt HM (by decide)) rfl (by omega) (by decide) ?_
          refine zg_v (x' := nI (L.1 p)) (hL.1 p hp) ?_
          refine zg_imul dX4_byteAt_57 ?_
          refine zg_v (x' := nI (16 * (L.1 p))) (pk_mul _ _) ?_
          refine zg_iload_n dX4_byteAt_58 rfl ?_
          refine zg_iadd dX4_byteAt_59 ?_
          refine zg_v (x' := nI ((16 * (L.1 p)) + i)) (nI_add _ _) ?_
          refine zg_iald E (j := (16 * (L.1 p)) + i) dX4_byteAt_60 (zl_Mat HM (k := 157) (t := (10, 768)) rfl (by decide) (by decide)) (by decide) (zl_Mlt HM (by decide)) rfl (by omega) (by decide) ?_
          refine zg_v (x' := nI (D (L.1 p) i)) (hD _ h48 i hi) ?_
          exact zg_iret rfl dX4_byteAt_61 ⟨congrArg (fun x => Sum.inl (some (Value.int (nI x)))) (if_neg e).symm, rfl⟩
        · have e : L.1 p = 0 := (nI_eq (by have := wL.1 p hp; omega) (by decide)).mp h38
          refine zg_iconst (v := nI 0) dX4_byteAt_41 (by decide) ?_
          refine zg_goto (tgt := 61) dX4_byteAt_42 (by decide) ?_
          exact zg_iret rfl dX4_byteAt_61 ⟨congrArg (fun x => Sum.inl (some (Value.int (nI x)))) (if_pos e).symm, rfl⟩
      · exact absurd (by rw [hz]; decide) h17
set_option maxHeartbeats 4000000 in
set_option maxRecDepth 100000 in
theorem mt_byteO {V : zv_V} (E : zv_OK V) {w : zw_W} (HM : zl_M w) {p i : Nat} (hp : p < 16) (hi : i < 16) {C : za_C} (hC : zu_C (zw_i w) C) (wC : za_WC C) (h : C.1 p ≠ 0) : zg_C V zm_X4_byteAt yX4_byteAt 0 0 [.ref 156, .int (nI p), .int (nI i), .int (za_bit false)] w (zq_p (.inl (some (.int (nI (C.2.1 p i))))) (· = w)) := by
  refine zg_of (by decide +kernel) rfl (Nat.le_of_ble_eq_true rfl) ?_
  show zg_G V zm_X4_byteAt 0 0 w.1 w.2.1 0 [] [(0, .ref 156), (1, .int (nI p)), (2, .int (nI i)), (3, .int (za_bit false))] w _
  refine zg_aload_n dX4_byteAt_0 rfl ?_
  refine zg_getI E (ci := 4) (j := 8) dX4_byteAt_1 rfl (congrArg Prod.fst (zl_Mat HM (k := 156) (t := (4, 17)) rfl (by decide) (by decide))) (by decide) (zl_Mlt HM (by decide)) (by decide) fl_X4_61 rfl ?_
  refine zg_v (x' := za_bit (decide (0 < za_n C.1 16))) hC.1 ?_
  refine zg_if_eq (tgt := 32) dX4_byteAt_4 (by decide) (fun h4 => ?_) (fun h4 => ?_)
  · exact absurd (za_n_p hp h) (of_decide_eq_false (za_bit0 h4))
  · refine zg_iload_n dX4_byteAt_7 rfl ?_
    refine zg_if_ne (tgt := 32) dX4_byteAt_8 (by decide) (fun h8 => ?_) (fun h8 => ?_)
    · exact absurd rfl h8
    · refine zg_aload_n dX4_byteAt_11 rfl ?_
      refine zg_getR E (ci := 4) (j := 9) (r := 160) dX4_byteAt_12 rfl (congrArg Prod.fst (zl_Mat HM (k := 156) (t := (4, 17)) rfl (by decide) (by decide))) (by decide) (zl_Mlt HM (by decide)) (by decide) fl_X4_19 rfl (zl_Mrf HM rfl (by decide) (by decide)) ?_
      refine zg_iload_n dX4_byteAt_15 rfl ?_
      refine zg_iald E (j := p) dX4_byteAt_16 (zl_Mat HM (k := 160) (t := (10, 16)) rfl (by decide) (by decide)) (by decide) (zl_Mlt HM (by decide)) rfl (by omega) (by decide) ?_
      refine zg_v (x' := nI (C.1 p)) (hC.2.1 (za_n_p hp h) p hp) ?_
      refine zg_if_le (tgt := 32) dX4_byteAt_17 (by decide) (fun h17 => ?_) (fun h17 => ?_)
      · exact absurd h17 (nI_nle (by omega) (by have := wC.1 p hp; omega))
      · refine zg_aload_n dX4_byteAt_20 rfl ?_
        refine zg_getR E (ci := 4) (j := 11) (r := 162) dX4_byteAt_21 rfl (congrArg Prod.fst (zl_Mat HM (k := 156) (t := (4, 17)) rfl (by decide) (by decide))) (by decide) (zl_Mlt HM (by decide)) (by decide) fl_X4_26 rfl (zl_Mrf HM rfl (by decide) (by decide)) ?_
        refine zg_bipush (v := nI 16) dX4_byteAt_24 (by decide) ?_
        refine zg_iload_n dX4_byteAt_26 rfl ?_
        refine zg_imul dX4_byteAt_27 ?_
        refine zg_v (x' := nI (16 * p)) (pk_mul _ _) ?_
        refine zg_iload_n dX4_byteAt_28 rfl ?_
        refine zg_iadd dX4_byteAt_29 ?_
        refine zg_v (x' := nI ((16 * p) + i)) (nI_add _ _) ?_
        refine zg_iald E (j := (16 * p) + i) dX4_byteAt_30 (zl_Mat HM (k := 162) (t := (10, 256)) rfl (by decide) (by decide)) (by decide) (zl_Mlt HM (by decide)) rfl (by omega) (by decide) ?_
        refine zg_v (x' := nI (C.2.1 p i)) ((hC.2.2 p hp h).1 i hi) ?_
        exact zg_iret rfl dX4_byteAt_31 ⟨rfl, rfl⟩
theorem zu_spl {I J : Nat → Nat → Int32} {C : za_C} {p : Nat} {z : Bool} (h : zu_C I C) (g : J = zw_up I 161 p (za_bit z)) : zu_C J (za_spl C p z) := by
  subst g
  refine ⟨(zw_up_n _ _ (Or.inl (by decide))).trans h.1, fun o q hq => (zw_up_n _ _ (Or.inl (by decide))).trans (h.2.1 o q hq), fun q hq e => ⟨fun i hi => (zw_up_n _ _ (Or.inl (by decide))).trans ((h.2.2 q hq e).1 i hi), ?_⟩⟩
  show zw_up I 161 p (za_bit z) 161 q = za_bit (zw_ro C.2.2 p z q)
  by_cases k : q = p
  · rw [k, zw_up_s, zw_ro_s]
  · rw [zw_up_n _ _ (Or.inr k), zw_ro_n _ _ k]
    exact (h.2.2 q hq e).2
theorem zu_add {I J : Nat → Nat → Int32} {C : za_C} {p s : Nat} {f : Nat → Nat} (h : zu_C I C) (hp : p < 16) (h0 : C.1 p = 0) (hs : s ≠ 0) (g8 : J 156 8 = nI 1) (g0 : ∀ q, q < 16 → J 160 q = nI (zw_ro C.1 p s q)) (g1 : ∀ i, i < 16 → J 162 (16 * p + i) = nI (f i)) (g2 : ∀ j, (j < 16 * p ∨ 16 * p + 16 ≤ j) → J 162 j = I 162 j) (g3 : ∀ q, J 161 q = zw_up I 161 p (nI 0) 161 q) : zu_C J (za_add C p s f) := by
  have hn : 0 < za_n (zw_ro C.1 p s) 16 := za_n_p hp (by rw [zw_ro_s]; exact hs)
  refine ⟨?_, fun _ q hq => g0 q hq, fun q hq e => ⟨fun i hi => ?_, ?_⟩⟩
  · rw [g8, show decide (0 < za_n (za_add C p s f).1 16) = true from decide_eq_true hn]
    rfl
  · show _ = nI (zw_ro C.2.1 p f q i)
    by_cases k : q = p
    · rw [k, zw_ro_s]
      exact g1 i hi
    · rw [zw_ro_n _ _ k, g2 _ (by omega)]
      exact (h.2.2 q hq (fun z => e ((zw_ro_n _ _ k).trans z))).1 i hi
  · rw [g3]
    show _ = za_bit (zw_ro C.2.2 p false q)
    by_cases k : q = p
    · rw [k, zw_up_s, zw_ro_s]
      rfl
    · rw [zw_up_n _ _ (Or.inr k), zw_ro_n _ _ k]
      exact (h.2.2 q hq (fun z => e ((zw_ro_n _ _ k).trans z))).2
set_option maxHeartbeats 4000000 in
set_option maxRecDepth 100000 in
theorem mt_change_h {V : zv_V} (E : zv_OK V) {w : zw_W} (HM : zl_M w) {D : Nat → Nat → Nat} {H : za_H} {b : Bool} {L S : za_T} {C : za_C} {t : Bool} (hM : zu_X (zw_i w) D H b L S C t) {p : Nat} (hp : p < 16) (wC : za_WC C) (h : C.1 p ≠ 0) : zg_C V zm_X4_changes yX4_changes 2 60 [.ref 156, .int (nI p)] w (zq_p (.inl (some (.int (nI 1)))) (zu_to w [161] [] (zu_X · D H b L S (za_spl C p false) t))) := by
  refine zg_of (by decide +kernel) rfl (Nat.le_of_ble_eq_true rfl) ?_
  show zg_G V zm_X4_changes 2 60 w.1 w.2.1 0 [] [(0, .ref 156), (1, .int (nI p))] w _
  refine zg_aload_n dX4_changes_0 rfl ?_
  refine zg_getI E (ci := 4) (j := 8) dX4_changes_1 rfl (congrArg Prod.fst (zl_Mat HM (k := 156) (t := (4, 17)) rfl (by decide) (by decide))) (by decide) (zl_Mlt HM (by decide)) (by decide) fl_X4_61 rfl ?_
  refine zg_v (x' := za_bit (decide (0 < za_n C.1 16))) hM.2.2.2.2.2.1.1 ?_
  refine zg_if_eq (tgt := 25) dX4_changes_4 (by decide) (fun h4 => ?_) (fun h4 => ?_)
  · exact absurd (za_n_p hp h) (of_decide_eq_false (za_bit0 h4))
  · have ho := za_n_p hp h
    refine zg_aload_n dX4_changes_7 rfl ?_
    refine zg_getR E (ci := 4) (j := 9) (r := 160) dX4_changes_8 rfl (congrArg Prod.fst (zl_Mat HM (k := 156) (t := (4, 17)) rfl (by decide) (by decide))) (by decide) (zl_Mlt HM (by decide)) (by decide) fl_X4_19 rfl (zl_Mrf HM rfl (by decide) (by decide)) ?_
    refine zg_iload_n dX4_changes_11 rfl ?_
    refine zg_iald E (j := p) dX4_changes_12 (zl_Mat HM (k := 160) (t := (10, 16)) rfl (by decide) (by decide)) (by decide) (zl_Mlt HM (by decide)) rfl (by omega) (by decide) ?_
    refine zg_v (x' := nI (C.1 p)) (hM.2.2.2.2.2.1.2.1 ho p hp) ?_
    refine zg_if_le (tgt := 25) dX4_changes_13 (by decide) (fun h13 => ?_) (fun h13 => ?_)
    · exact absurd h13 (nI_nle (by omega) (by have := wC.1 p hp; omega))
    · refine zg_aload_n dX4_changes_16 rfl ?_
      refine zg_getR E (ci := 4) (j := 10) (r := 161) dX4_changes_17 rfl (congrArg Prod.fst (zl_Mat HM (k := 156) (t := (4, 17)) rfl (by decide) (by decide))) (by decide) (zl_Mlt HM (by decide)) (by decide) fl_X4_22 rfl (zl_Mrf HM rfl (by decide) (by decide)) ?_
      refine zg_iload_n dX4_changes_20 rfl ?_
      refine zg_iconst (v := nI 0) dX4_changes_21 (by decide) ?_
      refine zg_zast E (j := p) (y := nI 0) dX4_changes_22 (zl_Mat HM (k := 161) (t := (11, 16)) rfl (by decide) (by decide)) (by decide) (zl_Mlt HM (by decide)) rfl (by omega) (by decide) rfl ?_
      refine zg_iconst (v := nI 1) dX4_changes_23 (by decide) ?_
      exact zg_zret rfl rfl dX4_changes_24 ⟨rfl, _, rfl, ⟨zu_fD hM.1 (zu_frC _ 161 _ _), zu_fH hM.2.1 (zu_frC _ 161 _ _), zu_fs hM.2.2.1 (zu_frC _ 161 _ _), zu_fL hM.2.2.2.1 (zu_frC _ 161 _ _), zu_fS hM.2.2.2.2.1 (zu_frC _ 161 _ _), zu_spl (z := false) hM.2.2.2.2.2.1 rfl, zu_fs hM.2.2.2.2.2.2 (zu_frC _ 161 _ _)⟩, zu_frC _ 161 _ _⟩
set_option maxHeartbeats 4000000 in
set_option maxRecDepth 100000 in
theorem mt_change_n {V : zv_V} (E : zv_OK V) {w : zw_W} (HM : zl_M w) {D : Nat → Nat → Nat} {H : za_H} {b : Bool} {L S : za_T} {C : za_C} {t : Bool} (hM : zu_X (zw_i w) D H b L S C t) {p : Nat} (hp : p < 16) (wL : za_WT L) (wS : za_WT S) (wC : za_WC C) (h : C.1 p = 0) (hr : za_ff L S C.1 (-1)) : zg_C V zm_X4_changes yX4_changes 2 60 [.ref 156, .int (nI p)] w (zq_p (.inl (some (.int (nI 0)))) (· = w)) := by
  refine zg_of (by decide +kernel) rfl (Nat.le_of_ble_eq_true rfl) ?_
  show zg_G V zm_X4_changes 2 60 w.1 w.2.1 0 [] [(0, .ref 156), (1, .int (nI p))] w _
  refine zg_aload_n dX4_changes_0 rfl ?_
  refine zg_getI E (ci := 4) (j := 8) dX4_changes_1 rfl (congrArg Prod.fst (zl_Mat HM (k := 156) (t := (4, 17)) rfl (by decide) (by decide))) (by decide) (zl_Mlt HM (by decide)) (by decide) fl_X4_61 rfl ?_
  refine zg_v (x' := za_bit (decide (0 < za_n C.1 16))) hM.2.2.2.2.2.1.1 ?_
  refine zg_if_eq (tgt := 25) dX4_changes_4 (by decide) (fun h4 => ?_) (fun h4 => ?_)
  · refine zg_aload_n dX4_changes_25 rfl ?_
    refine zg_vrt (M := zm_X4_changes) E (ci := 4) dX4_changes_26 (mt_firstFree E HM hM wL wS wC hr) wd_X4_94 rfl (congrArg Prod.fst (zl_Mat HM (k := 156) (t := (4, 17)) rfl (by decide) (by decide))) (by decide) (zl_Mlt HM (by decide)) rfl dh_X4_firstFree dn_X4_firstFree (Nat.le_of_ble_eq_true rfl) (Nat.le_of_ble_eq_true rfl) (Nat.le_of_ble_eq_true rfl) (zl_capM HM) rfl (fun w26 g26 => ?_)
    subst w26
    refine zg_istore_n (lv' := [(2, .int ((-1))), (0, .ref 156), (1, .int (nI p))]) dX4_changes_29 (by decide) rfl ?_
    refine zg_iload_n dX4_changes_30 rfl ?_
    refine zg_iconst (v := (-1)) dX4_changes_31 (by decide) ?_
    refine zg_icmp_ne (tgt := 37) dX4_changes_32 (by decide) (fun h32 => ?_) (fun h32 => ?_)
    · exact absurd rfl h32
    · refine zg_iconst (v := nI 0) dX4_changes_35 (by decide) ?_
      exact zg_zret rfl rfl dX4_changes_36 ⟨rfl, rfl⟩
  · have ho := of_decide_eq_true (za_bit1 h4)
    refine zg_aload_n dX4_changes_7 rfl ?_
    refine zg_getR E (ci := 4) (j := 9) (r := 160) dX4_changes_8 rfl (congrArg Prod.fst (zl_Mat HM (k := 156) (t := (4, 17)) rfl (by decide) (by decide))) (by decide) (zl_Mlt HM (by decide)) (by decide) fl_X4_19 rfl (zl_Mrf HM rfl (by decide) (by decide)) ?_
    refine zg_iload_n dX4_changes_11 rfl ?_
    refine zg_iald E (j := p) dX4_changes_12 (zl_Mat HM (k := 160) (t := (10, 16)) rfl (by decide) (by decide)) (by decide) (zl_Mlt HM (by decide)) rfl (by omega) (by decide) ?_
    refine zg_v (x' := nI (C.1 p)) (hM.2.2.2.2.2.1.2.1 ho p hp) ?_
    refine zg_if_le (tgt := 25) dX4_changes_13 (by decide) (fun h13 => ?_) (fun h13 => ?_)
    · refine zg_aload_n dX4_changes_25 rfl ?_
      refine zg_vrt (M := zm_X4_changes) E (ci := 4) dX4_changes_26 (mt_firstFree E HM hM wL wS wC hr) wd_X4_94 rfl (congrArg Prod.fst (zl_Mat HM (k := 156) (t := (4, 17)) rfl (by decide) (by decide))) (by decide) (zl_Mlt HM (by decide)) rfl dh_X4_firstFree dn_X4_firstFree (Nat.le_of_ble_eq_true rfl) (Nat.le_of_ble_eq_true rfl) (Nat.le_of_ble_eq_true rfl) (zl_capM HM) rfl (fun w26 g26 => ?_)
      subst w26
      refine zg_istore_n (lv' := [(2, .int ((-1))), (0, .ref 156), (1, .int (nI p))]) dX4_changes_29 (by decide) rfl ?_
      refine zg_iload_n dX4_changes_30 rfl ?_
      refine zg_iconst (v := (-1)) dX4_changes_31 (by decide) ?_
      refine zg_icmp_ne (tgt := 37) dX4_changes_32 (by decide) (fun h32 => ?_) (fun h32 => ?_)
      · exact absurd rfl h32
      · refine zg_iconst (v := nI 0) dX4_changes_35 (by decide) ?_
        exact zg_zret rfl rfl dX4_changes_36 ⟨rfl, rfl⟩
    · exact absurd (by rw [h]; decide) h13

/-! The class's master, table, mount. -/
theorem zp_end {w : zw_W} {k a : Nat} {g : Int32} {f : Nat → Int32} (h : ∀ j, j < 14 → f j = nI (za_m0 g a j)) : ∃ f', zw_si (zw_si (zw_sa w k f) k 14 (nI (za_ck (za_m0 g a) 14 / 256))) k 15 (nI (za_ck (za_m0 g a) 14 % 256)) = zw_sa w k f' ∧ ∀ i, i < 16 → f' i = nI (za_ms g a i) := by
  refine ⟨zw_ro (zw_ro f 14 (nI (za_ck (za_m0 g a) 14 / 256))) 15 (nI (za_ck (za_m0 g a) 14 % 256)), ?_, fun i hi => ?_⟩
  · rw [zw_si_sa, zw_si_sa]
  · unfold za_ms
    by_cases e1 : i = 15
    · subst e1
      rw [zw_ro_s]
      rfl
    · rw [zw_ro_n _ _ e1]
      by_cases e2 : i = 14
      · subst e2
        rw [zw_ro_s]
        rfl
      · rw [zw_ro_n _ _ e2, if_pos (by omega)]
        exact h i (by omega)
theorem zp_st {f : Nat → Int32} {g : Int32} {a i : Nat} (hi : i < 4) (h : ∀ j, j < 16 → f j = nI (if j < i then za_m0 g a j else 0)) : ∀ j, j < 16 → zw_ro f i (nI (g.toBitVec.toNat / 2 ^ (24 - 8 * i) % 256)) j = nI (if j < i + 1 then za_m0 g a j else 0) := by
  intro j hj
  by_cases e : j = i
  · subst e
    rw [zw_ro_s, if_pos (by omega)]
    unfold za_m0
    rw [if_pos hi]
  · rw [zw_ro_n _ _ e, h j hj]
    by_cases q : j < i
    · rw [if_pos q, if_pos (by omega)]
    · rw [if_neg q, if_neg (by omega)]
theorem zp_4 {f : Nat → Int32} {g : Int32} {a : Nat} (h : ∀ j, j < 16 → f j = nI (if j < 4 then za_m0 g a j else 0)) : ∀ j, j < 14 → zw_ro f 4 (nI a) j = nI (za_m0 g a j) := by
  intro j hj
  by_cases e : j = 4
  · subst e
    rw [zw_ro_s]
    rfl
  · rw [zw_ro_n _ _ e, h j (by omega)]
    unfold za_m0
    by_cases q : j < 4
    · rw [if_pos q, if_pos q]
    · rw [if_neg q, if_neg q, if_neg e]
set_option maxHeartbeats 4000000 in
set_option maxRecDepth 100000 in
theorem lp_putMaster {V : zv_V} (E : zv_OK V) {w : zw_W} {n0 u0 : Nat} {Q : zg_O → zw_W → Prop} {k a : Nat} {g : Int32} (ht : zw_t w k = (10, 16)) (hk : 1 ≤ k) (hkn : k < w.1) (ha : a < 48) (hcp : w.1 ≤ zc_cn ∧ w.2.1 ≤ zc_cs) (hq : ∀ f, (∀ i, i < 16 → f i = nI (za_ms g a i)) → Q (.inl none) (zw_sa w k f)) : ∀ (n i : Nat) (f : Nat → Int32), i ≤ 4 → 4 + 1 ≤ i + n → (∀ j, j < 16 → f j = nI (if j < i then za_m0 g a j else 0)) → zg_G V zm_X3_putMaster 1 23 n0 u0 7 [] [(3, .int (nI i)), (0, .ref k), (1, .int g), (2, .int (nI a))] (zw_sa w k f) Q := by
  intro n
  induction n with
  | zero =>
    intro i f hi hn
    exact absurd hn (by omega)
  | succ n ih =>
    intro i f hi hn k0
    refine zg_iload_n dX3_putMaster_7 rfl ?_
    refine zg_iconst (v := nI 4) dX3_putMaster_8 (by decide) ?_
    refine zg_icmp_ge (tgt := 34) dX3_putMaster_9 (by decide) (fun h9 => ?_) (fun h9 => ?_)
    · obtain rfl : i = 4 := by have := zn_ge h9 (by omega) (by omega); omega
      refine zg_aload_n dX3_putMaster_34 rfl ?_
      refine zg_iconst (v := nI 4) dX3_putMaster_35 (by decide) ?_
      refine zg_iload_n dX3_putMaster_36 rfl ?_
      refine zg_iast E (j := 4) dX3_putMaster_37 ht hk hkn rfl (by omega) (by decide) ?_
      refine zg_w (zw_si_sa w k 4 f (nI a)).symm ?_
      have hf := zp_4 k0
      generalize zw_ro f 4 (nI a) = f1 at hf ⊢
      refine zg_aload_n dX3_putMaster_38 rfl ?_
      refine zg_sret (M := zm_X3_putMaster) E dX3_putMaster_39 (ct_checkOf (w := zw_sa w k f1) E ht hk hkn) wd_X3_214 dh_X3_checkOf dn_X3_checkOf (Nat.le_of_ble_eq_true rfl) (Nat.le_of_ble_eq_true rfl) (Nat.le_of_ble_eq_true rfl) hcp rfl (fun w39 g39 => ?_)
      subst g39
      refine zg_v (x' := nI (za_ck (za_m0 g a) 14)) ((congrArg (zs_ck · 14) (zw_i_sa w k f1)).trans (zn_ck hf (fun i _ => za_m0_lt g ha i))) ?_
      refine zg_istore_n (lv' := [(3, .int (nI (za_ck (za_m0 g a) 14))), (0, .ref k), (1, .int g), (2, .int (nI a))]) dX3_putMaster_42 (by decide) rfl ?_
      refine zg_aload_n dX3_putMaster_43 rfl ?_
      refine zg_bipush (v := nI 14) dX3_putMaster_44 (by decide) ?_
      refine zg_iload_n dX3_putMaster_46 rfl ?_
      refine zg_bipush (v := nI 8) dX3_putMaster_47 (by decide) ?_
      refine zg_iushr dX3_putMaster_49 ?_
      refine zg_v (x' := nI (za_ck (za_m0 g a) 14 / 256)) (pk_ushrN (by have := za_ck_lt (za_m0 g a) 14; omega) (nI 8) 8 (by decide)) ?_
      refine zg_iast E (j := 14) dX3_putMaster_50 ht hk hkn rfl (by omega) (by decide) ?_
      refine zg_aload_n dX3_putMaster_51 rfl ?_
      refine zg_bipush (v := nI 15) dX3_putMaster_52 (by decide) ?_
      refine zg_iload_n dX3_putMaster_54 rfl ?_
      refine zg_sipush (v := nI 255) dX3_putMaster_55 (by decide) ?_
      refine zg_iand dX3_putMaster_58 ?_
      refine zg_v (x' := nI (za_ck (za_m0 g a) 14 % 256)) (pk_andN (by have := za_ck_lt (za_m0 g a) 14; omega) 8 (by decide)) ?_
      refine zg_iast E (j := 15) dX3_putMaster_59 ht hk hkn rfl (by omega) (by decide) ?_
      exact zg_vret rfl dX3_putMaster_60 (by obtain ⟨f2, e, h2⟩ := zp_end (w := w) (k := k) hf; rw [e]; exact hq f2 h2)
    · have hlt : i < 4 := zn_lt h9 (by omega) (by omega)
      refine zg_aload_n dX3_putMaster_12 rfl ?_
      refine zg_iload_n dX3_putMaster_13 rfl ?_
      refine zg_iload_n dX3_putMaster_14 rfl ?_
      refine zg_bipush (v := nI 24) dX3_putMaster_15 (by decide) ?_
      refine zg_bipush (v := nI 8) dX3_putMaster_17 (by decide) ?_
      refine zg_iload_n dX3_putMaster_19 rfl ?_
      refine zg_imul dX3_putMaster_20 ?_
      refine zg_v (x' := nI (8 * i)) (pk_mul _ _) ?_
      refine zg_isub dX3_putMaster_21 ?_
      refine zg_v (x' := nI (24 - 8 * i)) (pk_sub (by omega)) ?_
      refine zg_iushr dX3_putMaster_22 ?_
      refine zg_sipush (v := nI 255) dX3_putMaster_23 (by decide) ?_
      refine zg_iand dX3_putMaster_26 ?_
      refine zg_v (x' := nI (g.toBitVec.toNat / 2 ^ (24 - 8 * i) % 256)) (zn_gb g hlt) ?_
      refine zg_iast E (j := i) dX3_putMaster_27 ht hk hkn rfl (by omega) (by decide) ?_
      refine zg_iinc (v := nI (i + 1)) (lv' := [(3, .int (nI (i + 1))), (0, .ref k), (1, .int g), (2, .int (nI a))]) dX3_putMaster_28 rfl (nI_1 i) (by decide) rfl ?_
      refine zg_goto (tgt := 7) dX3_putMaster_31 (by decide) ?_
      refine zg_w (zw_si_sa w k i f _).symm ?_
      refine zg_l [0, 1, 2, 3] rfl ?_
      exact zg_s rfl rfl rfl (ih (i + 1) _ (by omega) (by omega) (zp_st hlt k0))
set_option maxHeartbeats 4000000 in
set_option maxRecDepth 100000 in
theorem ct_putMaster {V : zv_V} (E : zv_OK V) {w : zw_W} {k a : Nat} {g : Int32} (ht : zw_t w k = (10, 16)) (hk : 1 ≤ k) (hkn : k < w.1) (ha : a < 48) (hcp : w.1 ≤ zc_cn ∧ w.2.1 ≤ zc_cs)  : zg_C V zm_X3_putMaster yX3_putMaster 1 23 [.ref k, .int g, .int (nI a)] w (zq_p (.inl none) (fun w' => ∃ f, (∀ i, i < 16 → f i = nI (za_ms g a i)) ∧ w' = zw_sa w k f)) := by
  refine zg_of (by decide +kernel) rfl (Nat.le_of_ble_eq_true rfl) ?_
  show zg_G V zm_X3_putMaster 1 23 w.1 w.2.1 0 [] [(0, .ref k), (1, .int g), (2, .int (nI a))] w _
  refine zg_aload_n dX3_putMaster_0 rfl ?_
  refine zg_iconst (v := nI 0) dX3_putMaster_1 (by decide) ?_
  refine zg_sret (M := zm_X3_putMaster) E dX3_putMaster_2 (ct_fill E ht hk hkn (by decide)) wd_X3_188 dh_J7_fill_53178 dn_J7_fill_53178 (Nat.le_of_ble_eq_true rfl) (Nat.le_of_ble_eq_true rfl) (Nat.le_of_ble_eq_true rfl) hcp rfl (fun w2 g2 => ?_)
  subst g2
  refine zg_iconst (v := nI 0) dX3_putMaster_5 (by decide) ?_
  refine zg_istore_n (lv' := [(3, .int (nI 0)), (0, .ref k), (1, .int g), (2, .int (nI a))]) dX3_putMaster_6 (by decide) rfl ?_
  exact zg_s rfl rfl rfl (lp_putMaster E ht hk hkn ha hcp (fun f hf => ⟨rfl, f, hf, rfl⟩) 5 0 _ (by omega) (by omega) (fun j hj => (zs_win _ _ hj).trans rfl))
theorem zp_mi {w : zw_W} {D : Nat → Nat → Nat} (hD : zr_D (zw_i w) D) (hW : za_WD D) : zw_i w (3 + 0) 14 <<< (nI 8 &&& 31) ||| zw_i w (3 + 0) 15 = nI (D 0 14 * 256 + D 0 15) := by
  rw [hD 0 (by omega) 14 (by omega), hD 0 (by omega) 15 (by omega)]
  exact zn_16 (hW 0 (by omega) 14 (by omega)) (hW 0 (by omega) 15 (by omega))
theorem zp_mn {D : Nat → Nat → Nat} (hW : za_WD D) : D 0 14 * 256 + D 0 15 < 65536 := by
  have h1 := hW 0 (by omega) 14 (by omega)
  have h2 := hW 0 (by omega) 15 (by omega)
  omega
set_option maxHeartbeats 4000000 in
set_option maxRecDepth 100000 in
theorem lp_masterIsRight {V : zv_V} (E : zv_OK V) {w : zw_W} {n0 u0 : Nat} {Q : zg_O → zw_W → Prop} (HX : zl_X w) {D : Nat → Nat → Nat} (hD : zr_D (zw_i w) D) (hW : za_WD D) (hq1 : za_mr D → Q (.inl (some (.int (nI 1)))) w) (hq0 : ¬ za_mr D → Q (.inl (some (.int (nI 0)))) w) : ∀ (n i : Nat) , i ≤ 14 → 14 + 1 ≤ i + n → 5 ≤ i → (∀ j, 5 ≤ j → j < i → D 0 j = 0) → zg_G V zm_X3_masterIsRight 1 22 n0 u0 9 [] [(2, .int (nI i)), (1, .ref (3 + 0)), (0, .ref 1)] w Q := by
  intro n
  induction n with
  | zero =>
    intro i hi hn
    exact absurd hn (by omega)
  | succ n ih =>
    intro i hi hn k0 k1
    refine zg_iload_n dX3_masterIsRight_9 rfl ?_
    refine zg_bipush (v := nI 14) dX3_masterIsRight_10 (by decide) ?_
    refine zg_icmp_ge (tgt := 29) dX3_masterIsRight_12 (by decide) (fun h12 => ?_) (fun h12 => ?_)
    · obtain rfl : i = 14 := by have := zn_ge h12 (by omega) (by omega); omega
      refine zg_aload_n dX3_masterIsRight_29 rfl ?_
      refine zg_bipush (v := nI 14) dX3_masterIsRight_30 (by decide) ?_
      refine zg_iald E (j := 14) dX3_masterIsRight_32 (zl_at HX (zl_sec (by omega)).1 (by omega) (by omega)) (by omega) (zl_lt HX (by omega)) rfl (by omega) (by decide) ?_
      refine zg_bipush (v := nI 8) dX3_masterIsRight_33 (by decide) ?_
      refine zg_ishl dX3_masterIsRight_35 ?_
      refine zg_aload_n dX3_masterIsRight_36 rfl ?_
      refine zg_bipush (v := nI 15) dX3_masterIsRight_37 (by decide) ?_
      refine zg_iald E (j := 15) dX3_masterIsRight_39 (zl_at HX (zl_sec (by omega)).1 (by omega) (by omega)) (by omega) (zl_lt HX (by omega)) rfl (by omega) (by decide) ?_
      refine zg_ior dX3_masterIsRight_40 ?_
      refine zg_v (x' := nI (D 0 14 * 256 + D 0 15)) (zp_mi hD hW) ?_
      refine zg_aload_n dX3_masterIsRight_41 rfl ?_
      refine zg_sret (M := zm_X3_masterIsRight) E dX3_masterIsRight_42 (ct_checkOf E (zl_at HX (zl_sec (s := 0) (by omega)).1 (by omega) (by omega)) (by omega) (zl_lt HX (by omega))) wd_X3_214 dh_X3_checkOf dn_X3_checkOf (Nat.le_of_ble_eq_true rfl) (Nat.le_of_ble_eq_true rfl) (Nat.le_of_ble_eq_true rfl) (zl_cap HX) rfl (fun w42 g42 => ?_)
      subst g42
      refine zg_v (x' := nI (za_ck (D 0) 14)) (zn_ck (fun i hi => hD 0 (by omega) i (by omega)) (fun i hi => hW 0 (by omega) i (by omega))) ?_
      refine zg_icmp_ne (tgt := 52) dX3_masterIsRight_45 (by decide) (fun h45 => ?_) (fun h45 => ?_)
      · have hn : ¬ za_mr D := fun z => h45 (congrArg nI z.2)
        refine zg_iconst (v := nI 0) dX3_masterIsRight_52 (by decide) ?_
        exact zg_zret rfl rfl dX3_masterIsRight_53 (hq0 hn)
      · have hy : za_mr D := ⟨fun j h1 h2 => k1 j h1 h2, (nI_eq (by have := zp_mn hW; omega) (by have := za_ck_lt (D 0) 14; omega)).mp h45⟩
        refine zg_iconst (v := nI 1) dX3_masterIsRight_48 (by decide) ?_
        refine zg_goto (tgt := 53) dX3_masterIsRight_49 (by decide) ?_
        exact zg_zret rfl rfl dX3_masterIsRight_53 (hq1 hy)
    · have hlt : i < 14 := zn_lt h12 (by omega) (by omega)
      have hb := hW 0 (by omega) i (by omega)
      refine zg_aload_n dX3_masterIsRight_15 rfl ?_
      refine zg_iload_n dX3_masterIsRight_16 rfl ?_
      refine zg_iald E (j := i) dX3_masterIsRight_17 (zl_at HX (zl_sec (by omega)).1 (by omega) (by omega)) (by omega) (zl_lt HX (by omega)) rfl (by omega) (by decide) ?_
      refine zg_v (x' := nI (D 0 i)) (hD 0 (by omega) i (by omega)) ?_
      refine zg_if_eq (tgt := 23) dX3_masterIsRight_18 (by decide) (fun h18 => ?_) (fun h18 => ?_)
      · have hz : D 0 i = 0 := (nI_eq (by omega) (by decide)).mp h18
        refine zg_iinc (v := nI (i + 1)) (lv' := [(2, .int (nI (i + 1))), (1, .ref (3 + 0)), (0, .ref 1)]) dX3_masterIsRight_23 rfl (nI_1 i) (by decide) rfl ?_
        refine zg_goto (tgt := 9) dX3_masterIsRight_26 (by decide) ?_
        refine zg_l [0, 1, 2] rfl ?_
        exact zg_s rfl rfl rfl (ih (i + 1) (by omega) (by omega) (by omega) (fun j h1 h2 => (Nat.lt_or_ge j i).elim (k1 j h1) (fun z => (show j = i by omega) ▸ hz)))
      · have hz : D 0 i ≠ 0 := fun z => h18 (congrArg nI z)
        refine zg_iconst (v := nI 0) dX3_masterIsRight_21 (by decide) ?_
        exact zg_zret rfl rfl dX3_masterIsRight_22 (hq0 (fun z => hz (z.1 i k0 hlt)))
set_option maxHeartbeats 4000000 in
set_option maxRecDepth 100000 in
theorem ct_masterIsRight {V : zv_V} (E : zv_OK V) {w : zw_W} (HX : zl_X w) {D : Nat → Nat → Nat} (hD : zr_D (zw_i w) D) (hW : za_WD D) {b : Bool} (hb : b = true ↔ za_mr D) : zg_C V zm_X3_masterIsRight yX3_masterIsRight 1 22 [.ref 1] w (zq_p (.inl (some (.int (za_bit b)))) (· = w)) := by
  refine zg_of (by decide +kernel) rfl (Nat.le_of_ble_eq_true rfl) ?_
  show zg_G V zm_X3_masterIsRight 1 22 w.1 w.2.1 0 [] [(0, .ref 1)] w _
  refine zg_aload_n dX3_masterIsRight_0 rfl ?_
  refine zg_getR E (ci := 3) (j := 0) (r := 2) dX3_masterIsRight_1 rfl (congrArg Prod.fst (zl_at HX (k := 1) (t := (3, 7)) rfl (by decide) (by decide))) (by decide) (zl_lt HX (by decide)) (by decide) fl_X3_11 rfl (zl_rf HX rfl (by decide) (by decide)) ?_
  refine zg_iconst (v := nI 0) dX3_masterIsRight_4 (by decide) ?_
  refine zg_aald E (j := 0) (r := 3 + 0) dX3_masterIsRight_5 (zl_at HX (k := 2) (t := (13, 48)) rfl (by decide) (by decide)) (by decide) (zl_lt HX (by decide)) rfl (by omega) (by decide) (zl_rf HX (zl_sec (by omega)).2 (by decide) (by decide)) ?_
  refine zg_astore_n (lv' := [(1, .ref (3 + 0)), (0, .ref 1)]) dX3_masterIsRight_6 (by decide) rfl ?_
  refine zg_iconst (v := nI 5) dX3_masterIsRight_7 (by decide) ?_
  refine zg_istore_n (lv' := [(2, .int (nI 5)), (1, .ref (3 + 0)), (0, .ref 1)]) dX3_masterIsRight_8 (by decide) rfl ?_
  exact zg_s rfl rfl rfl (lp_masterIsRight E HX hD hW (fun z => ⟨by rw [hb.mpr z]; rfl, rfl⟩) (fun z => ⟨by rw [show b = false by cases b with | false => rfl | true => exact absurd (hb.mp rfl) z]; rfl, rfl⟩) 10 5 (by omega) (by omega) (by omega) (fun j h1 h2 => absurd h1 (by omega)))
/-- what the loop over the table's pages knows -/
def zp_ti (D : Nat → Nat → Nat) (u : Int64) (i : Nat) : Prop := (∀ s, s < 48 → (zb u s = true ↔ s = D 0 4 ∨ ∃ q, q < i ∧ D (D 0 4) q = s)) ∧ ∀ p, p < i → D (D 0 4) p < 48 ∧ D (D 0 4) p ≠ D 0 4 ∧ (D (D 0 4) p ≠ 0 → ∀ q, q < p → D (D 0 4) q ≠ D (D 0 4) p)
theorem zp_t0 {D : Nat → Nat → Nat} (ha : D 0 4 < 48) : zp_ti D ((1 : Int64) <<< ((nI (D 0 4)).toInt64 &&& 63)) 0 := by
  refine ⟨fun s hs => ?_, fun p hp => absurd hp (Nat.not_lt_zero p)⟩
  rw [zb_one _ ha s (by omega), decide_eq_true_eq]
  exact ⟨Or.inl, fun h => h.elim id (fun ⟨q, hq, _⟩ => absurd hq (Nat.not_lt_zero q))⟩
theorem zp_t1 {D : Nat → Nat → Nat} {u : Int64} {i : Nat} (h1 : 1 ≤ D 0 4) (h : zp_ti D u i) (hs : D (D 0 4) i < 48) (hz : D (D 0 4) i = 0 ∨ zb u (D (D 0 4) i) = false) : zp_ti D (u ||| (1 : Int64) <<< ((nI (D (D 0 4) i)).toInt64 &&& 63)) (i + 1) := by
  have key : D (D 0 4) i ≠ D 0 4 ∧ (D (D 0 4) i ≠ 0 → ∀ q, q < i → D (D 0 4) q ≠ D (D 0 4) i) := by
    rcases hz with z | z
    · exact ⟨by omega, fun g => absurd z g⟩
    · refine ⟨fun e => ?_, fun _ q hq e => ?_⟩
      · have := (h.1 _ hs).mpr (Or.inl e)
        rw [z] at this
        exact absurd this (by decide)
      · have := (h.1 _ hs).mpr (Or.inr ⟨q, hq, e⟩)
        rw [z] at this
        exact absurd this (by decide)
  refine ⟨fun s hs' => ?_, fun p hp => ?_⟩
  · rw [zb_or, zb_one _ hs s (by omega), Bool.or_eq_true, h.1 s hs', decide_eq_true_eq]
    constructor
    · rintro ((a | ⟨q, hq, e⟩) | a)
      · exact Or.inl a
      · exact Or.inr ⟨q, by omega, e⟩
      · exact Or.inr ⟨i, by omega, a.symm⟩
    · rintro (a | ⟨q, hq, e⟩)
      · exact Or.inl (Or.inl a)
      · rcases Nat.lt_or_ge q i with g | g
        · exact Or.inl (Or.inr ⟨q, g, e⟩)
        · obtain rfl : q = i := by omega
          exact Or.inr e.symm
  · rcases Nat.lt_or_ge p i with g | g
    · exact h.2 p g
    · obtain rfl : p = i := by omega
      exact ⟨hs, key⟩
theorem zp_tn {D : Nat → Nat → Nat} {u : Int64} {i : Nat} (hi : i < 16) (h : zp_ti D u i) (hz : 48 ≤ D (D 0 4) i ∨ D (D 0 4) i ≠ 0 ∧ zb u (D (D 0 4) i) = true) : ¬ za_tr D := by
  intro t
  obtain ⟨h1, h2, h3⟩ := t.2.2 i hi
  rcases hz with z | ⟨z, y⟩
  · omega
  · rcases (h.1 _ h1).mp y with e | ⟨q, hq, e⟩
    · exact h2 e
    · exact h3 z q hq e
theorem zp_hol (u : Int64) {s : Nat} (hs : s < 64) : (if (u.toUInt64 >>> ((nI s).toInt64.toUInt64 &&& Int64.toUInt64 63)).toInt64 &&& 1 = 0 then nI 0 else nI 1) = za_bit (zb u s) := by
  by_cases h : zb u s = false
  · rw [if_pos ((zb_hol u hs).mpr h), h]
    rfl
  · rw [if_neg (fun z => h ((zb_hol u hs).mp z)), show zb u s = true by simpa using h]
    rfl
set_option maxHeartbeats 4000000 in
set_option maxRecDepth 100000 in
theorem lp_tableIsRight {V : zv_V} (E : zv_OK V) {w : zw_W} {n0 u0 : Nat} {Q : zg_O → zw_W → Prop} (HX : zl_X w) {D : Nat → Nat → Nat} (hD : zr_D (zw_i w) D) (hW : za_WD D) (h1 : 1 ≤ D 0 4) (h2 : D 0 4 < 48) (hq1 : za_tr D → Q (.inl (some (.int (nI 1)))) w) (hq0 : ¬ za_tr D → Q (.inl (some (.int (nI 0)))) w) : ∀ (n i : Nat) (u : Int64), i ≤ 16 → 16 + 1 ≤ i + n → zp_ti D u i → zg_G V zm_X3_tableIsRight 1 24 n0 u0 29 [] [(4, .int (nI i)), (2, .long u), (1, .int (nI (D 0 4))), (0, .ref 1)] w Q := by
  intro n
  induction n with
  | zero =>
    intro i u hi hn
    exact absurd hn (by omega)
  | succ n ih =>
    intro i u hi hn k0
    refine zg_iload dX3_tableIsRight_29 rfl ?_
    refine zg_bipush (v := nI 16) dX3_tableIsRight_31 (by decide) ?_
    refine zg_icmp_ge (tgt := 83) dX3_tableIsRight_33 (by decide) (fun h33 => ?_) (fun h33 => ?_)
    · obtain rfl : i = 16 := by have := zn_ge h33 (by omega) (by omega); omega
      refine zg_iconst (v := nI 1) dX3_tableIsRight_83 (by decide) ?_
      exact zg_zret rfl rfl dX3_tableIsRight_84 (hq1 ⟨h1, h2, k0.2⟩)
    · have hlt : i < 16 := zn_lt h33 (by omega) (by omega)
      have hb := hW (D 0 4) h2 i hlt
      refine zg_aload_n dX3_tableIsRight_36 rfl ?_
      refine zg_getR E (ci := 3) (j := 0) (r := 2) dX3_tableIsRight_37 rfl (congrArg Prod.fst (zl_at HX (k := 1) (t := (3, 7)) rfl (by decide) (by decide))) (by decide) (zl_lt HX (by decide)) (by decide) fl_X3_11 rfl (zl_rf HX rfl (by decide) (by decide)) ?_
      refine zg_iload_n dX3_tableIsRight_40 rfl ?_
      refine zg_aald E (j := D 0 4) (r := 3 + (D 0 4)) dX3_tableIsRight_41 (zl_at HX (k := 2) (t := (13, 48)) rfl (by decide) (by decide)) (by decide) (zl_lt HX (by decide)) rfl h2 (by decide) (zl_rf HX (zl_sec h2).2 (by decide) (by decide)) ?_
      refine zg_iload dX3_tableIsRight_42 rfl ?_
      refine zg_iald E (j := i) dX3_tableIsRight_44 (zl_at HX (zl_sec (by omega)).1 (by omega) (by omega)) (by omega) (zl_lt HX (by omega)) rfl (by omega) (by decide) ?_
      refine zg_v (x' := nI (D (D 0 4) i)) (hD (D 0 4) h2 i hlt) ?_
      refine zg_istore (lv' := [(5, .int (nI (D (D 0 4) i))), (4, .int (nI i)), (2, .long u), (1, .int (nI (D 0 4))), (0, .ref 1)]) dX3_tableIsRight_45 (by decide) rfl ?_
      refine zg_iload dX3_tableIsRight_47 rfl ?_
      refine zg_bipush (v := nI 48) dX3_tableIsRight_49 (by decide) ?_
      refine zg_icmp_ge (tgt := 68) dX3_tableIsRight_51 (by decide) (fun h51 => ?_) (fun h51 => ?_)
      · have hx : 48 ≤ D (D 0 4) i := zn_ge h51 (by omega) (by omega)
        have hn := zp_tn hlt k0 (Or.inl hx)
        refine zg_iconst (v := nI 0) dX3_tableIsRight_68 (by decide) ?_
        exact zg_zret rfl rfl dX3_tableIsRight_69 (hq0 hn)
      · have hs : D (D 0 4) i < 48 := zn_lt h51 (by omega) (by omega)
        refine zg_iload dX3_tableIsRight_54 rfl ?_
        refine zg_if_eq (tgt := 70) dX3_tableIsRight_56 (by decide) (fun h56 => ?_) (fun h56 => ?_)
        · have hz : D (D 0 4) i = 0 ∨ zb u (D (D 0 4) i) = false := Or.inl ((nI_eq (by omega) (by decide)).mp h56)
          refine zg_lload_n dX3_tableIsRight_70 rfl ?_
          refine zg_lconst (v := 1) dX3_tableIsRight_71 (by decide) ?_
          refine zg_iload dX3_tableIsRight_72 rfl ?_
          refine zg_lshl dX3_tableIsRight_74 ?_
          refine zg_lor dX3_tableIsRight_75 ?_
          refine zg_lstore_n (lv' := [(2, .long (u ||| (((1)) <<< ((nI (D (D 0 4) i)).toInt64 &&& 63)))), (5, .int (nI (D (D 0 4) i))), (4, .int (nI i)), (1, .int (nI (D 0 4))), (0, .ref 1)]) dX3_tableIsRight_76 (by decide) rfl ?_
          refine zg_iinc (v := nI (i + 1)) (lv' := [(4, .int (nI (i + 1))), (2, .long (u ||| (((1)) <<< ((nI (D (D 0 4) i)).toInt64 &&& 63)))), (5, .int (nI (D (D 0 4) i))), (1, .int (nI (D 0 4))), (0, .ref 1)]) dX3_tableIsRight_77 rfl (nI_1 i) (by decide) rfl ?_
          refine zg_goto (tgt := 29) dX3_tableIsRight_80 (by decide) ?_
          refine zg_l [0, 1, 3, 4] rfl ?_
          exact zg_s rfl rfl rfl (ih (i + 1) _ (by omega) (by omega) (zp_t1 h1 k0 hs hz))
        · have h0 : D (D 0 4) i ≠ 0 := fun z => h56 (congrArg nI z)
          refine zg_lload_n dX3_tableIsRight_59 rfl ?_
          refine zg_iload dX3_tableIsRight_60 rfl ?_
          refine zg_sret (M := zm_X3_tableIsRight) E dX3_tableIsRight_62 (ct_holds E u (nI (D (D 0 4) i))) wd_X3_148 dh_X3_holds dn_X3_holds (Nat.le_of_ble_eq_true rfl) (Nat.le_of_ble_eq_true rfl) (Nat.le_of_ble_eq_true rfl) (zl_cap HX) rfl (fun w62 g62 => ?_)
          subst g62
          refine zg_v (x' := za_bit (zb u (D (D 0 4) i))) (zp_hol u (by omega)) ?_
          refine zg_if_eq (tgt := 70) dX3_tableIsRight_65 (by decide) (fun h65 => ?_) (fun h65 => ?_)
          · have hz : D (D 0 4) i = 0 ∨ zb u (D (D 0 4) i) = false := Or.inr (za_bit0 h65)
            refine zg_lload_n dX3_tableIsRight_70 rfl ?_
            refine zg_lconst (v := 1) dX3_tableIsRight_71 (by decide) ?_
            refine zg_iload dX3_tableIsRight_72 rfl ?_
            refine zg_lshl dX3_tableIsRight_74 ?_
            refine zg_lor dX3_tableIsRight_75 ?_
            refine zg_lstore_n (lv' := [(2, .long (u ||| (((1)) <<< ((nI (D (D 0 4) i)).toInt64 &&& 63)))), (5, .int (nI (D (D 0 4) i))), (4, .int (nI i)), (1, .int (nI (D 0 4))), (0, .ref 1)]) dX3_tableIsRight_76 (by decide) rfl ?_
            refine zg_iinc (v := nI (i + 1)) (lv' := [(4, .int (nI (i + 1))), (2, .long (u ||| (((1)) <<< ((nI (D (D 0 4) i)).toInt64 &&& 63)))), (5, .int (nI (D (D 0 4) i))), (1, .int (nI (D 0 4))), (0, .ref 1)]) dX3_tableIsRight_77 rfl (nI_1 i) (by decide) rfl ?_
            refine zg_goto (tgt := 29) dX3_tableIsRight_80 (by decide) ?_
            refine zg_l [0, 1, 3, 4] rfl ?_
            exact zg_s rfl rfl rfl (ih (i + 1) _ (by omega) (by omega) (zp_t1 h1 k0 hs hz))
          · have hn := zp_tn hlt k0 (Or.inr ⟨h0, za_bit1 h65⟩)
            refine zg_iconst (v := nI 0) dX3_tableIsRight_68 (by decide) ?_
            exact zg_zret rfl rfl dX3_tableIsRight_69 (hq0 hn)
set_option maxHeartbeats 4000000 in
set_option maxRecDepth 100000 in
theorem ct_tableIsRight {V : zv_V} (E : zv_OK V) {w : zw_W} (HX : zl_X w) {D : Nat → Nat → Nat} (hD : zr_D (zw_i w) D) (hW : za_WD D) {b : Bool} (hb : b = true ↔ za_tr D) : zg_C V zm_X3_tableIsRight yX3_tableIsRight 1 24 [.ref 1] w (zq_p (.inl (some (.int (za_bit b)))) (· = w)) := by
  refine zg_of (by decide +kernel) rfl (Nat.le_of_ble_eq_true rfl) ?_
  show zg_G V zm_X3_tableIsRight 1 24 w.1 w.2.1 0 [] [(0, .ref 1)] w _
  refine zg_aload_n dX3_tableIsRight_0 rfl ?_
  refine zg_getR E (ci := 3) (j := 0) (r := 2) dX3_tableIsRight_1 rfl (congrArg Prod.fst (zl_at HX (k := 1) (t := (3, 7)) rfl (by decide) (by decide))) (by decide) (zl_lt HX (by decide)) (by decide) fl_X3_11 rfl (zl_rf HX rfl (by decide) (by decide)) ?_
  refine zg_iconst (v := nI 0) dX3_tableIsRight_4 (by decide) ?_
  refine zg_aald E (j := 0) (r := 3 + 0) dX3_tableIsRight_5 (zl_at HX (k := 2) (t := (13, 48)) rfl (by decide) (by decide)) (by decide) (zl_lt HX (by decide)) rfl (by omega) (by decide) (zl_rf HX (zl_sec (by omega)).2 (by decide) (by decide)) ?_
  refine zg_iconst (v := nI 4) dX3_tableIsRight_6 (by decide) ?_
  refine zg_iald E (j := 4) dX3_tableIsRight_7 (zl_at HX (zl_sec (by omega)).1 (by omega) (by omega)) (by omega) (zl_lt HX (by omega)) rfl (by omega) (by decide) ?_
  refine zg_v (x' := nI (D 0 4)) (hD 0 (by omega) 4 (by omega)) ?_
  refine zg_istore_n (lv' := [(1, .int (nI (D 0 4))), (0, .ref 1)]) dX3_tableIsRight_8 (by decide) rfl ?_
  refine zg_iload_n dX3_tableIsRight_9 rfl ?_
  refine zg_iconst (v := nI 1) dX3_tableIsRight_10 (by decide) ?_
  refine zg_icmp_lt (tgt := 20) dX3_tableIsRight_11 (by decide) (fun h11 => ?_) (fun h11 => ?_)
  · have z : ¬ za_tr D := fun t => nI_nlt t.1 (by have := hW 0 (by omega) 4 (by omega); omega) h11
    refine zg_iconst (v := nI 0) dX3_tableIsRight_20 (by decide) ?_
    exact zg_zret rfl rfl dX3_tableIsRight_21 ⟨congrArg (fun x => Sum.inl (some (Value.int x))) (show nI 0 = za_bit b from (by rw [show b = false by cases b with | false => rfl | true => exact absurd (hb.mp rfl) z]; rfl)), rfl⟩
  · have g1 : 1 ≤ D 0 4 := (Nat.lt_or_ge (D 0 4) 1).elim (fun g => absurd (nI_lt g (by decide)) h11) id
    have hl4 := hW 0 (by omega) 4 (by omega)
    refine zg_iload_n dX3_tableIsRight_14 rfl ?_
    refine zg_bipush (v := nI 48) dX3_tableIsRight_15 (by decide) ?_
    refine zg_icmp_lt (tgt := 22) dX3_tableIsRight_17 (by decide) (fun h17 => ?_) (fun h17 => ?_)
    · have g2 : D 0 4 < 48 := (nI_ltI (by omega) (by decide)).mp h17
      refine zg_lconst (v := 1) dX3_tableIsRight_22 (by decide) ?_
      refine zg_iload_n dX3_tableIsRight_23 rfl ?_
      refine zg_lshl dX3_tableIsRight_24 ?_
      refine zg_lstore_n (lv' := [(2, .long (((1)) <<< ((nI (D 0 4)).toInt64 &&& 63))), (1, .int (nI (D 0 4))), (0, .ref 1)]) dX3_tableIsRight_25 (by decide) rfl ?_
      refine zg_iconst (v := nI 0) dX3_tableIsRight_26 (by decide) ?_
      refine zg_istore (lv' := [(4, .int (nI 0)), (2, .long (((1)) <<< ((nI (D 0 4)).toInt64 &&& 63))), (1, .int (nI (D 0 4))), (0, .ref 1)]) dX3_tableIsRight_27 (by decide) rfl ?_
      exact zg_s rfl rfl rfl (lp_tableIsRight E HX hD hW g1 g2 (fun z => ⟨by rw [hb.mpr z]; rfl, rfl⟩) (fun z => ⟨by rw [show b = false by cases b with | false => rfl | true => exact absurd (hb.mp rfl) z]; rfl, rfl⟩) 17 0 _ (by omega) (by omega) (zp_t0 g2))
    · have z : ¬ za_tr D := fun t => h17 (nI_lt t.2.1 (by decide))
      refine zg_iconst (v := nI 0) dX3_tableIsRight_20 (by decide) ?_
      exact zg_zret rfl rfl dX3_tableIsRight_21 ⟨congrArg (fun x => Sum.inl (some (Value.int x))) (show nI 0 = za_bit b from (by rw [show b = false by cases b with | false => rfl | true => exact absurd (hb.mp rfl) z]; rfl)), rfl⟩

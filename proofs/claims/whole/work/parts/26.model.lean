/-! The reference: what its cells hold; its small methods. -/
def zu_D (I : Nat → Nat → Int32) (D : Nat → Nat → Nat) : Prop := ∀ s, s < 48 → ∀ i, i < 16 → I 157 (16 * s + i) = nI (D s i)
def zu_H (I : Nat → Nat → Int32) (H : za_H) : Prop := I 156 14 = nI H.1 ∧ (∀ k, k < H.1 → I 163 k = nI (H.2.1 k)) ∧ ∀ k, k < H.1 → ∀ i, i < 16 → I 164 (16 * k + i) = nI (H.2.2 k i)
def zu_L (I : Nat → Nat → Int32) (L : za_T) : Prop := (∀ p, p < 16 → I 158 p = nI (L.1 p)) ∧ I 156 3 = nI L.2.1 ∧ I 156 5 = L.2.2
def zu_S (I : Nat → Nat → Int32) (L : za_T) : Prop := (∀ p, p < 16 → I 159 p = nI (L.1 p)) ∧ I 156 4 = nI L.2.1 ∧ I 156 6 = L.2.2
def zu_C (I : Nat → Nat → Int32) (C : za_C) : Prop := I 156 8 = za_bit (decide (0 < za_n C.1 16)) ∧ (0 < za_n C.1 16 → ∀ p, p < 16 → I 160 p = nI (C.1 p)) ∧ ∀ p, p < 16 → C.1 p ≠ 0 → (∀ i, i < 16 → I 162 (16 * p + i) = nI (C.2.1 p i)) ∧ I 161 p = za_bit (C.2.2 p)
def zu_X (I : Nat → Nat → Int32) (D : Nat → Nat → Nat) (H : za_H) (b : Bool) (L S : za_T) (C : za_C) (t : Bool) : Prop := zu_D I D ∧ zu_H I H ∧ I 156 7 = za_bit b ∧ zu_L I L ∧ zu_S I S ∧ zu_C I C ∧ I 156 15 = za_bit t
/-- nothing but the cells cs and the fields ss of the reference has changed -/
def zu_fr (cs ss : List Nat) (I J : Nat → Nat → Int32) : Prop := ∀ a i, a ∉ cs → (a ≠ 156 ∨ i ∉ ss) → J a i = I a i
theorem zu_fr0 (I : Nat → Nat → Int32) : zu_fr [] [] I I := fun _ _ _ _ => rfl
theorem zu_frT {c1 c2 s1 s2 : List Nat} {I J K : Nat → Nat → Int32} (f : zu_fr c1 s1 I J) (g : zu_fr c2 s2 J K) : zu_fr (c1 ++ c2) (s1 ++ s2) I K := fun a i h1 h2 =>
  (g a i (fun z => h1 (List.mem_append.mpr (Or.inr z))) (h2.imp id (fun z y => z (List.mem_append.mpr (Or.inr y))))).trans (f a i (fun z => h1 (List.mem_append.mpr (Or.inl z))) (h2.imp id (fun z y => z (List.mem_append.mpr (Or.inl y)))))
theorem zu_frS (I : Nat → Nat → Int32) (j : Nat) (x : Int32) : zu_fr [] [j] I (zw_up I 156 j x) := fun a i _ h => zw_up_n _ _ (h.imp id (fun z y => z (by rw [y]; exact List.mem_singleton.mpr rfl)))
theorem zu_frC (I : Nat → Nat → Int32) (k j : Nat) (x : Int32) : zu_fr [k] [] I (zw_up I k j x) := fun a i h _ => zw_up_n _ _ (Or.inl (fun y => h (by rw [y]; exact List.mem_singleton.mpr rfl)))
section ZUF
variable {I J : Nat → Nat → Int32} {D : Nat → Nat → Nat} {H : za_H} {b t : Bool} {L S : za_T} {C : za_C} {cs ss : List Nat}
theorem zu_fD (h : zu_D I D) (f : zu_fr cs ss I J) (c : 157 ∉ cs := by decide) : zu_D J D := fun s hs i hi => (f _ _ c (Or.inl (by decide))).trans (h s hs i hi)
theorem zu_fH (h : zu_H I H) (f : zu_fr cs ss I J) (c : 156 ∉ cs ∧ 163 ∉ cs ∧ 164 ∉ cs ∧ 14 ∉ ss := by decide) : zu_H J H := ⟨(f _ _ c.1 (Or.inr c.2.2.2)).trans h.1, fun k hk => (f _ _ c.2.1 (Or.inl (by decide))).trans (h.2.1 k hk), fun k hk i hi => (f _ _ c.2.2.1 (Or.inl (by decide))).trans (h.2.2 k hk i hi)⟩
theorem zu_fs {x : Int32} {j : Nat} (h : I 156 j = x) (f : zu_fr cs ss I J) (c : 156 ∉ cs ∧ j ∉ ss := by decide) : J 156 j = x := (f _ _ c.1 (Or.inr c.2)).trans h
theorem zu_fL (h : zu_L I L) (f : zu_fr cs ss I J) (c : 156 ∉ cs ∧ 158 ∉ cs ∧ 3 ∉ ss ∧ 5 ∉ ss := by decide) : zu_L J L := ⟨fun p hp => (f _ _ c.2.1 (Or.inl (by decide))).trans (h.1 p hp), zu_fs h.2.1 f ⟨c.1, c.2.2.1⟩, zu_fs h.2.2 f ⟨c.1, c.2.2.2⟩⟩
theorem zu_fS (h : zu_S I L) (f : zu_fr cs ss I J) (c : 156 ∉ cs ∧ 159 ∉ cs ∧ 4 ∉ ss ∧ 6 ∉ ss := by decide) : zu_S J L := ⟨fun p hp => (f _ _ c.2.1 (Or.inl (by decide))).trans (h.1 p hp), zu_fs h.2.1 f ⟨c.1, c.2.2.1⟩, zu_fs h.2.2 f ⟨c.1, c.2.2.2⟩⟩
theorem zu_fC (h : zu_C I C) (f : zu_fr cs ss I J) (c : 156 ∉ cs ∧ 160 ∉ cs ∧ 161 ∉ cs ∧ 162 ∉ cs ∧ 8 ∉ ss := by decide) : zu_C J C := ⟨zu_fs h.1 f ⟨c.1, c.2.2.2.2⟩, fun g p hp => (f _ _ c.2.1 (Or.inl (by decide))).trans (h.2.1 g p hp), fun p hp g => ⟨fun i hi => (f _ _ c.2.2.2.1 (Or.inl (by decide))).trans ((h.2.2 p hp g).1 i hi), (f _ _ c.2.2.1 (Or.inl (by decide))).trans (h.2.2 p hp g).2⟩⟩
end ZUF
def zu_to (w : zw_W) (cs ss : List Nat) (P : (Nat → Nat → Int32) → Prop) (w' : zw_W) : Prop := ∃ J, w' = zw_I w J ∧ P J ∧ zu_fr cs ss (zw_i w) J
set_option maxHeartbeats 4000000 in
set_option maxRecDepth 100000 in
theorem mt_thrown {V : zv_V} (E : zv_OK V) {w : zw_W} (HM : zl_M w)  : zg_C V zm_X4_thrown yX4_thrown 0 0 [.ref 156] w (zq_p (.inl (some (.int (zw_i w 156 16)))) (· = w)) := by
  refine zg_of (by decide +kernel) rfl (Nat.le_of_ble_eq_true rfl) ?_
  show zg_G V zm_X4_thrown 0 0 w.1 w.2.1 0 [] [(0, .ref 156)] w _
  refine zg_aload_n dX4_thrown_0 rfl ?_
  refine zg_getI E (ci := 4) (j := 16) dX4_thrown_1 rfl (congrArg Prod.fst (zl_Mat HM (k := 156) (t := (4, 17)) rfl (by decide) (by decide))) (by decide) (zl_Mlt HM (by decide)) (by decide) fl_X4_38 rfl ?_
  exact zg_iret rfl dX4_thrown_4 ⟨rfl, rfl⟩
set_option maxHeartbeats 4000000 in
set_option maxRecDepth 100000 in
theorem mt_within {V : zv_V} (E : zv_OK V) {w : zw_W} {v lo hi : Int32} {z : Bool} (hz : z = true ↔ lo ≤ v ∧ v ≤ hi) : zg_C V zm_X4_within yX4_within 0 0 [.int v, .int lo, .int hi] w (zq_p (.inl (some (.int (za_bit z)))) (· = w)) := by
  refine zg_of (by decide +kernel) rfl (Nat.le_of_ble_eq_true rfl) ?_
  show zg_G V zm_X4_within 0 0 w.1 w.2.1 0 [] [(0, .int v), (1, .int lo), (2, .int hi)] w _
  refine zg_iload_n dX4_within_0 rfl ?_
  refine zg_iload_n dX4_within_1 rfl ?_
  refine zg_icmp_lt (tgt := 14) dX4_within_2 (by decide) (fun h2 => ?_) (fun h2 => ?_)
  · have e : z = false := zb_ff hz (fun q => absurd q.1 (Int32.not_le.mpr h2))
    refine zg_iconst (v := nI 0) dX4_within_14 (by decide) ?_
    exact zg_zret rfl rfl dX4_within_15 ⟨by rw [e]; rfl, rfl⟩
  · refine zg_iload_n dX4_within_5 rfl ?_
    refine zg_iload_n dX4_within_6 rfl ?_
    refine zg_icmp_gt (tgt := 14) dX4_within_7 (by decide) (fun h7 => ?_) (fun h7 => ?_)
    · have e : z = false := zb_ff hz (fun q => absurd q.2 (Int32.not_le.mpr h7))
      refine zg_iconst (v := nI 0) dX4_within_14 (by decide) ?_
      exact zg_zret rfl rfl dX4_within_15 ⟨by rw [e]; rfl, rfl⟩
    · have e : z = true := hz.mpr ⟨Int32.not_lt.mp h2, Int32.not_lt.mp h7⟩
      refine zg_iconst (v := nI 1) dX4_within_10 (by decide) ?_
      refine zg_goto (tgt := 15) dX4_within_11 (by decide) ?_
      exact zg_zret rfl rfl dX4_within_15 ⟨by rw [e]; rfl, rfl⟩
set_option maxHeartbeats 4000000 in
set_option maxRecDepth 100000 in
theorem mt_fails {V : zv_V} (E : zv_OK V) {w : zw_W} (HM : zl_M w) {z : Bool} {k : Int32} : zg_C V zm_X4_fails yX4_fails 0 0 [.ref 156, .int (za_bit z), .int k] w (zq_p (.inl (some (.int (za_bit z)))) (· = zw_si w 156 16 (if z then k else nI 0))) := by
  refine zg_of (by decide +kernel) rfl (Nat.le_of_ble_eq_true rfl) ?_
  show zg_G V zm_X4_fails 0 0 w.1 w.2.1 0 [] [(0, .ref 156), (1, .int (za_bit z)), (2, .int k)] w _
  refine zg_aload_n dX4_fails_0 rfl ?_
  refine zg_iload_n dX4_fails_1 rfl ?_
  refine zg_if_eq (tgt := 9) dX4_fails_2 (by decide) (fun h2 => ?_) (fun h2 => ?_)
  · have e := za_bit0 h2
    refine zg_iconst (v := nI 0) dX4_fails_9 (by decide) ?_
    refine zg_putI E (ci := 4) (j := 16) dX4_fails_10 rfl (congrArg Prod.fst (zl_Mat HM (k := 156) (t := (4, 17)) rfl (by decide) (by decide))) (by decide) (zl_Mlt HM (by decide)) (by decide) fl_X4_38 rfl rfl rfl rfl ?_
    refine zg_iload_n dX4_fails_13 rfl ?_
    exact zg_zret rfl (za_bit_nar z) dX4_fails_14 ⟨rfl, by rw [e]; rfl⟩
  · have e := za_bit1 h2
    refine zg_iload_n dX4_fails_5 rfl ?_
    refine zg_goto (tgt := 10) dX4_fails_6 (by decide) ?_
    refine zg_putI E (ci := 4) (j := 16) dX4_fails_10 rfl (congrArg Prod.fst (zl_Mat HM (k := 156) (t := (4, 17)) rfl (by decide) (by decide))) (by decide) (zl_Mlt HM (by decide)) (by decide) fl_X4_38 rfl rfl rfl rfl ?_
    refine zg_iload_n dX4_fails_13 rfl ?_
    exact zg_zret rfl (za_bit_nar z) dX4_fails_14 ⟨rfl, by rw [e]; rfl⟩
theorem zu_ck {g : Nat → Nat} {i : Nat} (h : g i < 256) : nI (31 * za_ck g i) + nI (g i) = nI (31 * za_ck g i + g i) ∧ nI (31 * za_ck g i + g i) &&& 65535 = nI (za_ck g (i + 1)) := by
  have hc := za_ck_lt g i
  refine ⟨nI_add _ _, ?_⟩
  rw [pk_andN (by omega) 16 (by decide)]
  refine congrArg nI ?_
  show _ = (za_ck g i * 31 + g i) % 65536
  rw [Nat.mul_comm]
set_option maxHeartbeats 4000000 in
set_option maxRecDepth 100000 in
theorem lm_checkOf {V : zv_V} (E : zv_OK V) {w : zw_W} {n0 u0 : Nat} {Q : zg_O → zw_W → Prop} (HM : zl_M w) {k n q : Nat} {g : Nat → Nat} (ht : zw_t w k = (10, n)) (hk : 1 ≤ k) (hkn : k < w.1) (hn : n < 2 ^ 31) (hq1 : q + 14 ≤ n) (hg : ∀ i, i < 14 → zw_i w k (q + i) = nI (g i)) (hg2 : ∀ i, i < 14 → g i < 256) (hq : Q (.inl (some (.int (nI (za_ck g 14))))) w) : ∀ (n i : Nat) , i ≤ 14 → 14 + 1 ≤ i + n → zg_G V zm_X4_checkOf 0 0 n0 u0 5 [] [(4, .int (nI i)), (3, .int (nI (za_ck g i))), (0, .ref 156), (1, .ref k), (2, .int (nI q))] w Q := by
  intro n
  induction n with
  | zero =>
    intro i hi hn
    exact absurd hn (by omega)
  | succ n ih =>
    intro i hi hn 
    refine zg_iload dX4_checkOf_5 rfl ?_
    refine zg_bipush (v := nI 14) dX4_checkOf_7 (by decide) ?_
    refine zg_icmp_ge (tgt := 33) dX4_checkOf_9 (by decide) (fun h9 => ?_) (fun h9 => ?_)
    · obtain rfl : i = 14 := by have := zn_ge h9 (by omega) (by omega); omega
      refine zg_iload_n dX4_checkOf_33 rfl ?_
      exact zg_iret rfl dX4_checkOf_34 hq
    · have hlt : i < 14 := zn_lt h9 (by omega) (by omega)
      refine zg_bipush (v := nI 31) dX4_checkOf_12 (by decide) ?_
      refine zg_iload_n dX4_checkOf_14 rfl ?_
      refine zg_imul dX4_checkOf_15 ?_
      refine zg_v (x' := nI (31 * (za_ck g i))) (pk_mul _ _) ?_
      refine zg_aload_n dX4_checkOf_16 rfl ?_
      refine zg_iload_n dX4_checkOf_17 rfl ?_
      refine zg_iload dX4_checkOf_18 rfl ?_
      refine zg_iadd dX4_checkOf_20 ?_
      refine zg_v (x' := nI (q + i)) (nI_add _ _) ?_
      refine zg_iald E (j := q + i) dX4_checkOf_21 ht hk hkn rfl (by omega) (by omega) ?_
      refine zg_v (x' := nI (g i)) (hg i hlt) ?_
      refine zg_iadd dX4_checkOf_22 ?_
      refine zg_v (x' := nI ((31 * (za_ck g i)) + (g i))) (nI_add _ _) ?_
      refine zg_ldc E (v := 65535) dX4_checkOf_23 (by decide +kernel) ?_
      refine zg_iand dX4_checkOf_25 ?_
      refine zg_v (x' := nI (za_ck g (i + 1))) (zu_ck (hg2 i hlt)).2 ?_
      refine zg_istore_n (lv' := [(3, .int (nI (za_ck g (i + 1)))), (4, .int (nI i)), (0, .ref 156), (1, .ref k), (2, .int (nI q))]) dX4_checkOf_26 (by decide) rfl ?_
      refine zg_iinc (v := nI (i + 1)) (lv' := [(4, .int (nI (i + 1))), (3, .int (nI (za_ck g (i + 1)))), (0, .ref 156), (1, .ref k), (2, .int (nI q))]) dX4_checkOf_27 rfl (nI_1 i) (by decide) rfl ?_
      refine zg_goto (tgt := 5) dX4_checkOf_30 (by decide) ?_
      refine zg_l [0, 1, 2, 3, 4] rfl ?_
      exact zg_s rfl rfl rfl (ih (i + 1) (by omega) (by omega))
set_option maxHeartbeats 4000000 in
set_option maxRecDepth 100000 in
theorem mt_checkOf {V : zv_V} (E : zv_OK V) {w : zw_W} (HM : zl_M w) {k n q : Nat} {g : Nat → Nat} (ht : zw_t w k = (10, n)) (hk : 1 ≤ k) (hkn : k < w.1) (hn : n < 2 ^ 31) (hq1 : q + 14 ≤ n) (hg : ∀ i, i < 14 → zw_i w k (q + i) = nI (g i)) (hg2 : ∀ i, i < 14 → g i < 256)  : zg_C V zm_X4_checkOf yX4_checkOf 0 0 [.ref 156, .ref k, .int (nI q)] w (zq_p (.inl (some (.int (nI (za_ck g 14))))) (· = w)) := by
  refine zg_of (by decide +kernel) rfl (Nat.le_of_ble_eq_true rfl) ?_
  show zg_G V zm_X4_checkOf 0 0 w.1 w.2.1 0 [] [(0, .ref 156), (1, .ref k), (2, .int (nI q))] w _
  refine zg_iconst (v := nI 1) dX4_checkOf_0 (by decide) ?_
  refine zg_istore_n (lv' := [(3, .int (nI 1)), (0, .ref 156), (1, .ref k), (2, .int (nI q))]) dX4_checkOf_1 (by decide) rfl ?_
  refine zg_iconst (v := nI 0) dX4_checkOf_2 (by decide) ?_
  refine zg_istore (lv' := [(4, .int (nI 0)), (3, .int (nI 1)), (0, .ref 156), (1, .ref k), (2, .int (nI q))]) dX4_checkOf_3 (by decide) rfl ?_
  refine zg_l [0, 1, 2, 3, 4] rfl ?_
  exact zg_s rfl rfl rfl (lm_checkOf E HM ht hk hkn hn hq1 hg hg2 ⟨rfl, rfl⟩ 15 0 (by omega) (by omega))
set_option maxHeartbeats 4000000 in
set_option maxRecDepth 100000 in
theorem lm_changed {V : zv_V} (E : zv_OK V) {w : zw_W} {n0 u0 : Nat} {Q : zg_O → zw_W → Prop} (HM : zl_M w) {O : Nat → Nat} (hO : ∀ p, p < 16 → zw_i w 160 p = nI (O p)) (wO : ∀ p, p < 16 → O p < 48) (hq : Q (.inl (some (.int (nI (za_n O 16))))) w) : ∀ (n i : Nat) , i ≤ 16 → 16 + 1 ≤ i + n → zg_G V zm_X4_changed 0 0 n0 u0 4 [] [(2, .int (nI i)), (1, .int (nI (za_n O i))), (0, .ref 156)] w Q := by
  intro n
  induction n with
  | zero =>
    intro i hi hn
    exact absurd hn (by omega)
  | succ n ih =>
    intro i hi hn 
    refine zg_iload_n dX4_changed_4 rfl ?_
    refine zg_bipush (v := nI 16) dX4_changed_5 (by decide) ?_
    refine zg_icmp_ge (tgt := 33) dX4_changed_7 (by decide) (fun h7 => ?_) (fun h7 => ?_)
    · obtain rfl : i = 16 := by have := zn_ge h7 (by omega) (by omega); omega
      refine zg_iload_n dX4_changed_33 rfl ?_
      exact zg_iret rfl dX4_changed_34 hq
    · have hlt : i < 16 := zn_lt h7 (by omega) (by omega)
      refine zg_iload_n dX4_changed_10 rfl ?_
      refine zg_aload_n dX4_changed_11 rfl ?_
      refine zg_getR E (ci := 4) (j := 9) (r := 160) dX4_changed_12 rfl (congrArg Prod.fst (zl_Mat HM (k := 156) (t := (4, 17)) rfl (by decide) (by decide))) (by decide) (zl_Mlt HM (by decide)) (by decide) fl_X4_19 rfl (zl_Mrf HM rfl (by decide) (by decide)) ?_
      refine zg_iload_n dX4_changed_15 rfl ?_
      refine zg_iald E (j := i) dX4_changed_16 (zl_Mat HM (k := 160) (t := (10, 16)) rfl (by decide) (by decide)) (by decide) (zl_Mlt HM (by decide)) rfl (by omega) (by decide) ?_
      refine zg_v (x' := nI (O i)) (hO i hlt) ?_
      refine zg_if_le (tgt := 24) dX4_changed_17 (by decide) (fun h17 => ?_) (fun h17 => ?_)
      · have e : O i = 0 := Classical.byContradiction fun z => absurd h17 (nI_nle (by omega) (by have := wO i hlt; omega))
        refine zg_iconst (v := nI 0) dX4_changed_24 (by decide) ?_
        refine zg_iadd dX4_changed_25 ?_
        refine zg_v (x' := nI ((za_n O i) + 0)) (nI_add _ _) ?_
        refine zg_v (x' := nI (za_n O (i + 1))) (congrArg nI (show za_n O i + 0 = za_n O i + (if O i = 0 then 0 else 1) by rw [if_pos e])) ?_
        refine zg_istore_n (lv' := [(1, .int (nI (za_n O (i + 1)))), (2, .int (nI i)), (0, .ref 156)]) dX4_changed_26 (by decide) rfl ?_
        refine zg_iinc (v := nI (i + 1)) (lv' := [(2, .int (nI (i + 1))), (1, .int (nI (za_n O (i + 1)))), (0, .ref 156)]) dX4_changed_27 rfl (nI_1 i) (by decide) rfl ?_
        refine zg_goto (tgt := 4) dX4_changed_30 (by decide) ?_
        refine zg_l [0, 1, 2] rfl ?_
        exact zg_s rfl rfl rfl (ih (i + 1) (by omega) (by omega))
      · have e : O i ≠ 0 := fun z => h17 (by rw [z]; decide)
        refine zg_iconst (v := nI 1) dX4_changed_20 (by decide) ?_
        refine zg_goto (tgt := 25) dX4_changed_21 (by decide) ?_
        refine zg_iadd dX4_changed_25 ?_
        refine zg_v (x' := nI ((za_n O i) + 1)) (nI_add _ _) ?_
        refine zg_v (x' := nI (za_n O (i + 1))) (congrArg nI (show za_n O i + 1 = za_n O i + (if O i = 0 then 0 else 1) by rw [if_neg e])) ?_
        refine zg_istore_n (lv' := [(1, .int (nI (za_n O (i + 1)))), (2, .int (nI i)), (0, .ref 156)]) dX4_changed_26 (by decide) rfl ?_
        refine zg_iinc (v := nI (i + 1)) (lv' := [(2, .int (nI (i + 1))), (1, .int (nI (za_n O (i + 1)))), (0, .ref 156)]) dX4_changed_27 rfl (nI_1 i) (by decide) rfl ?_
        refine zg_goto (tgt := 4) dX4_changed_30 (by decide) ?_
        refine zg_l [0, 1, 2] rfl ?_
        exact zg_s rfl rfl rfl (ih (i + 1) (by omega) (by omega))
set_option maxHeartbeats 4000000 in
set_option maxRecDepth 100000 in
theorem mt_changed {V : zv_V} (E : zv_OK V) {w : zw_W} (HM : zl_M w) {O : Nat → Nat} (hO : ∀ p, p < 16 → zw_i w 160 p = nI (O p)) (wO : ∀ p, p < 16 → O p < 48)  : zg_C V zm_X4_changed yX4_changed 0 0 [.ref 156] w (zq_p (.inl (some (.int (nI (za_n O 16))))) (· = w)) := by
  refine zg_of (by decide +kernel) rfl (Nat.le_of_ble_eq_true rfl) ?_
  show zg_G V zm_X4_changed 0 0 w.1 w.2.1 0 [] [(0, .ref 156)] w _
  refine zg_iconst (v := nI 0) dX4_changed_0 (by decide) ?_
  refine zg_istore_n (lv' := [(1, .int (nI 0)), (0, .ref 156)]) dX4_changed_1 (by decide) rfl ?_
  refine zg_iconst (v := nI 0) dX4_changed_2 (by decide) ?_
  refine zg_istore_n (lv' := [(2, .int (nI 0)), (1, .int (nI 0)), (0, .ref 156)]) dX4_changed_3 (by decide) rfl ?_
  refine zg_l [0, 1, 2] rfl ?_
  exact zg_s rfl rfl rfl (lm_changed E HM hO wO ⟨rfl, rfl⟩ 17 0 (by omega) (by omega))
set_option maxHeartbeats 4000000 in
set_option maxRecDepth 100000 in
theorem lm_settle {V : zv_V} (E : zv_OK V) {w : zw_W} {n0 u0 : Nat} {Q : zg_O → zw_W → Prop} (HM : zl_M w) {D : Nat → Nat → Nat} {H : za_H} {b : Bool} {L S : za_T} {C : za_C} {t : Bool} {I : Nat → Nat → Int32} (hL : zu_L I L) (hq : ∀ J, zu_S J L → J 156 15 = nI 0 → zu_fr [159] [4, 6, 15] I J → Q (.inl none) (zw_I w J)) : ∀ (n i : Nat) (J : Nat → Nat → Int32), i ≤ 16 → 16 + 1 ≤ i + n → (∀ p, p < i → J 159 p = nI (L.1 p)) → J 156 4 = nI L.2.1 → J 156 6 = L.2.2 → zu_fr [159] [4, 6] I J → zg_G V zm_X4_settle 0 0 n0 u0 18 [] [(1, .int (nI i)), (0, .ref 156)] (zw_I w J) Q := by
  intro n
  induction n with
  | zero =>
    intro i J hi hn
    exact absurd hn (by omega)
  | succ n ih =>
    intro i J hi hn k0 k1 k2 k3
    refine zg_iload_n dX4_settle_18 rfl ?_
    refine zg_bipush (v := nI 16) dX4_settle_19 (by decide) ?_
    refine zg_icmp_ge (tgt := 42) dX4_settle_21 (by decide) (fun h21 => ?_) (fun h21 => ?_)
    · obtain rfl : i = 16 := by have := zn_ge h21 (by omega) (by omega); omega
      refine zg_aload_n dX4_settle_42 rfl ?_
      refine zg_iconst (v := nI 0) dX4_settle_43 (by decide) ?_
      refine zg_putI E (ci := 4) (j := 15) dX4_settle_44 rfl (congrArg Prod.fst (zl_Mat HM (k := 156) (t := (4, 17)) rfl (by decide) (by decide))) (by decide) (zl_Mlt HM (by decide)) (by decide) fl_X4_57 rfl rfl rfl rfl ?_
      exact zg_vret rfl dX4_settle_47 (hq _ ⟨fun p hp => (zw_up_n _ _ (Or.inl (by decide))).trans (k0 p hp), (zw_up_n _ _ (by decide)).trans k1, (zw_up_n _ _ (by decide)).trans k2⟩ (zw_up_s _ _ _ _) (zu_frT k3 (zu_frS J 15 _)))
    · have hlt : i < 16 := zn_lt h21 (by omega) (by omega)
      refine zg_aload_n dX4_settle_24 rfl ?_
      refine zg_getR E (ci := 4) (j := 2) (r := 159) dX4_settle_25 rfl (congrArg Prod.fst (zl_Mat HM (k := 156) (t := (4, 17)) rfl (by decide) (by decide))) (by decide) (zl_Mlt HM (by decide)) (by decide) fl_X4_16 rfl (zl_Mrf HM rfl (by decide) (by decide)) ?_
      refine zg_iload_n dX4_settle_28 rfl ?_
      refine zg_aload_n dX4_settle_29 rfl ?_
      refine zg_getR E (ci := 4) (j := 1) (r := 158) dX4_settle_30 rfl (congrArg Prod.fst (zl_Mat HM (k := 156) (t := (4, 17)) rfl (by decide) (by decide))) (by decide) (zl_Mlt HM (by decide)) (by decide) fl_X4_13 rfl (zl_Mrf HM rfl (by decide) (by decide)) ?_
      refine zg_iload_n dX4_settle_33 rfl ?_
      refine zg_iald E (j := i) dX4_settle_34 (zl_Mat HM (k := 158) (t := (10, 16)) rfl (by decide) (by decide)) (by decide) (zl_Mlt HM (by decide)) rfl (by omega) (by decide) ?_
      refine zg_v (x' := nI (L.1 i)) ((zu_fL hL k3).1 i hlt) ?_
      refine zg_iast E (j := i) dX4_settle_35 (zl_Mat HM (k := 159) (t := (10, 16)) rfl (by decide) (by decide)) (by decide) (zl_Mlt HM (by decide)) rfl (by omega) (by decide) ?_
      refine zg_iinc (v := nI (i + 1)) (lv' := [(1, .int (nI (i + 1))), (0, .ref 156)]) dX4_settle_36 rfl (nI_1 i) (by decide) rfl ?_
      refine zg_goto (tgt := 18) dX4_settle_39 (by decide) ?_
      refine zg_l [0, 1] rfl ?_
      exact zg_s rfl rfl rfl (ih (i + 1) _ (by omega) (by omega) (fun p hp => (Nat.lt_or_ge p i).elim (fun z => (zw_up_n _ _ (Or.inr (by omega))).trans (k0 p z)) (fun z => by have e : p = i := (by omega); subst e; exact zw_up_s _ _ _ _)) ((zw_up_n _ _ (Or.inl (by decide))).trans k1) ((zw_up_n _ _ (Or.inl (by decide))).trans k2) (fun a j h1 h2 => (zw_up_n _ _ (Or.inl (fun z => h1 (by rw [z]; exact List.mem_singleton.mpr rfl)))).trans (k3 a j h1 h2)))
set_option maxHeartbeats 4000000 in
set_option maxRecDepth 100000 in
theorem mt_settle {V : zv_V} (E : zv_OK V) {w : zw_W} (HM : zl_M w) {L : za_T} (hL : zu_L (zw_i w) L) : zg_C V zm_X4_settle yX4_settle 0 0 [.ref 156] w (zq_p (.inl none) (zu_to w [159] [4, 6, 15] (fun J => zu_S J L ∧ J 156 15 = nI 0))) := by
  refine zg_of (by decide +kernel) rfl (Nat.le_of_ble_eq_true rfl) ?_
  show zg_G V zm_X4_settle 0 0 w.1 w.2.1 0 [] [(0, .ref 156)] w _
  refine zg_aload_n dX4_settle_0 rfl ?_
  refine zg_aload_n dX4_settle_1 rfl ?_
  refine zg_getI E (ci := 4) (j := 3) dX4_settle_2 rfl (congrArg Prod.fst (zl_Mat HM (k := 156) (t := (4, 17)) rfl (by decide) (by decide))) (by decide) (zl_Mlt HM (by decide)) (by decide) fl_X4_71 rfl ?_
  refine zg_v (x' := nI L.2.1) hL.2.1 ?_
  refine zg_putI E (ci := 4) (j := 4) dX4_settle_5 rfl (congrArg Prod.fst (zl_Mat HM (k := 156) (t := (4, 17)) rfl (by decide) (by decide))) (by decide) (zl_Mlt HM (by decide)) (by decide) fl_X4_80 rfl rfl rfl rfl ?_
  refine zg_aload_n dX4_settle_8 rfl ?_
  refine zg_aload_n dX4_settle_9 rfl ?_
  refine zg_getI E (ci := 4) (j := 5) dX4_settle_10 rfl (congrArg Prod.fst (zl_Mat HM (k := 156) (t := (4, 17)) rfl (by decide) (by decide))) (by decide) (zl_Mlt HM (by decide)) (by decide) fl_X4_74 rfl ?_
  refine zg_v (x' := L.2.2) (show zw_up (zw_i w) 156 4 (nI L.2.1) 156 5 = L.2.2 from (zw_up_n _ _ (by decide)).trans hL.2.2) ?_
  refine zg_putI E (ci := 4) (j := 6) dX4_settle_13 rfl (congrArg Prod.fst (zl_Mat HM (k := 156) (t := (4, 17)) rfl (by decide) (by decide))) (by decide) (zl_Mlt HM (by decide)) (by decide) fl_X4_83 rfl rfl rfl rfl ?_
  refine zg_iconst (v := nI 0) dX4_settle_16 (by decide) ?_
  refine zg_istore_n (lv' := [(1, .int (nI 0)), (0, .ref 156)]) dX4_settle_17 (by decide) rfl ?_
  exact zg_s rfl rfl rfl (lm_settle (I := zw_i w) (D := fun _ _ => 0) (H := (0, fun _ => 0, fun _ _ => 0)) (b := false) (S := L) (C := za_C0) (t := false) E HM hL (fun J h1 h2 h3 => ⟨rfl, J, rfl, ⟨h1, h2⟩, h3⟩) 17 0 _ (by omega) (by omega) (fun p hp => absurd hp (Nat.not_lt_zero p)) ((zw_up_n _ _ (by decide)).trans (zw_up_s (zw_i w) 156 4 (nI L.2.1))) (zw_up_s _ _ _ _) (fun a j h1 h2 => zu_frT (zu_frS (zw_i w) 4 _) (zu_frS _ 6 _) a j (List.not_mem_nil) h2))

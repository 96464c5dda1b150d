/-! The reference's free sectors, held writes, flush, master. -/
def za_ui (L S : za_T) (O : Nat → Nat) (s i : Nat) : Prop := s = 0 ∨ L.2.1 = s ∨ S.2.1 = s ∨ ∃ p, p < i ∧ (L.1 p = s ∨ S.1 p = s ∨ O p = s)
theorem za_ui_y {L S : za_T} {O : Nat → Nat} {s i : Nat} (h : L.1 i = s ∨ S.1 i = s ∨ O i = s) : za_ui L S O s (i + 1) := Or.inr (Or.inr (Or.inr ⟨i, Nat.lt_succ_self i, h⟩))
theorem za_ui_n {L S : za_T} {O : Nat → Nat} {s i : Nat} (h1 : L.1 i ≠ s) (h2 : S.1 i ≠ s) (h3 : O i = s → s = 0) : za_ui L S O s (i + 1) ↔ za_ui L S O s i := by
  constructor
  · rintro (a | a | a | ⟨p, hp, e⟩)
    · exact Or.inl a
    · exact Or.inr (Or.inl a)
    · exact Or.inr (Or.inr (Or.inl a))
    · rcases Nat.lt_or_ge p i with q | q
      · exact Or.inr (Or.inr (Or.inr ⟨p, q, e⟩))
      · obtain rfl : p = i := by omega
        rcases e with e | e | e
        · exact absurd e h1
        · exact absurd e h2
        · exact Or.inl (h3 e)
  · rintro (a | a | a | ⟨p, hp, e⟩)
    · exact Or.inl a
    · exact Or.inr (Or.inl a)
    · exact Or.inr (Or.inr (Or.inl a))
    · exact Or.inr (Or.inr (Or.inr ⟨p, by omega, e⟩))
theorem zb_tf {b : Bool} {P : Prop} (h : b = true ↔ ¬ P) (n : P) : b = false := zb_ff h (fun z => z n)
theorem za_n_z {O : Nat → Nat} (h : ¬ 0 < za_n O 16) {p : Nat} (hp : p < 16) : O p = 0 := Classical.byContradiction fun z => h (za_n_p hp z)
theorem za_ui_0 {L S : za_T} {O : Nat → Nat} {s : Nat} : za_ui L S O s 0 ↔ s = 0 ∨ L.2.1 = s ∨ S.2.1 = s := by
  constructor
  · rintro (a | a | a | ⟨p, hp, -⟩)
    · exact Or.inl a
    · exact Or.inr (Or.inl a)
    · exact Or.inr (Or.inr a)
    · exact absurd hp (Nat.not_lt_zero p)
  · rintro (a | a | a)
    · exact Or.inl a
    · exact Or.inr (Or.inl a)
    · exact Or.inr (Or.inr (Or.inl a))
theorem zb_no {P : Prop} (h : P) : false = true ↔ ¬ P := ⟨fun z => absurd z (by decide), fun z => absurd h z⟩
theorem zb_ye {P : Prop} (h : ¬ P) : true = true ↔ ¬ P := ⟨fun _ => h, fun _ => rfl⟩
set_option maxHeartbeats 4000000 in
set_option maxRecDepth 100000 in
theorem lm_isFree {V : zv_V} (E : zv_OK V) {w : zw_W} {n0 u0 : Nat} {Q : zg_O → zw_W → Prop} (HM : zl_M w) {D : Nat → Nat → Nat} {H : za_H} {b : Bool} {L S : za_T} {C : za_C} {t : Bool} (hM : zu_X (zw_i w) D H b L S C t) (wL : za_WT L) (wS : za_WT S) (wC : za_WC C) {s : Nat} (hs : s < 48) {z : Bool} (hz : z = true ↔ ¬ za_us L S C.1 s) (hq : Q (.inl (some (.int (za_bit z)))) w) : ∀ (n i : Nat) (y : Bool), i ≤ 16 → 16 + 1 ≤ i + n → (y = true ↔ ¬ za_ui L S C.1 s i) → zg_G V zm_X4_isFree 0 0 n0 u0 28 [] [(3, .int (nI i)), (2, .int (za_bit y)), (0, .ref 156), (1, .int (nI s))] w Q := by
  intro n
  induction n with
  | zero =>
    intro i y hi hn
    exact absurd hn (by omega)
  | succ n ih =>
    intro i y hi hn k0
    refine zg_iload_n dX4_isFree_28 rfl ?_
    refine zg_bipush (v := nI 16) dX4_isFree_29 (by decide) ?_
    refine zg_icmp_ge (tgt := 79) dX4_isFree_31 (by decide) (fun h31 => ?_) (fun h31 => ?_)
    · obtain rfl : i = 16 := by have := zn_ge h31 (by omega) (by omega); omega
      refine zg_iload_n dX4_isFree_79 rfl ?_
      exact zg_zret rfl (za_bit_nar y) dX4_isFree_80 ((zb_iff (k0.trans hz.symm) : y = z) ▸ hq)
    · have hlt : i < 16 := zn_lt h31 (by omega) (by omega)
      refine zg_aload_n dX4_isFree_34 rfl ?_
      refine zg_getR E (ci := 4) (j := 1) (r := 158) dX4_isFree_35 rfl (congrArg Prod.fst (zl_Mat HM (k := 156) (t := (4, 17)) rfl (by decide) (by decide))) (by decide) (zl_Mlt HM (by decide)) (by decide) fl_X4_13 rfl (zl_Mrf HM rfl (by decide) (by decide)) ?_
      refine zg_iload_n dX4_isFree_38 rfl ?_
      refine zg_iald E (j := i) dX4_isFree_39 (zl_Mat HM (k := 158) (t := (10, 16)) rfl (by decide) (by decide)) (by decide) (zl_Mlt HM (by decide)) rfl (by omega) (by decide) ?_
      refine zg_v (x' := nI (L.1 i)) (hM.2.2.2.1.1 i hlt) ?_
      refine zg_iload_n dX4_isFree_40 rfl ?_
      refine zg_icmp_eq (tgt := 71) dX4_isFree_41 (by decide) (fun h41 => ?_) (fun h41 => ?_)
      · have hu : za_ui L S C.1 s (i + 1) := za_ui_y (Or.inl ((nI_eq (by have := wL.1 i hlt; omega) (by omega)).mp h41))
        refine zg_iconst (v := nI 0) dX4_isFree_71 (by decide) ?_
        refine zg_istore_n (lv' := [(2, .int (nI 0)), (3, .int (nI i)), (0, .ref 156), (1, .int (nI s))]) dX4_isFree_72 (by decide) rfl ?_
        refine zg_iinc (v := nI (i + 1)) (lv' := [(3, .int (nI (i + 1))), (2, .int (nI 0)), (0, .ref 156), (1, .int (nI s))]) dX4_isFree_73 rfl (nI_1 i) (by decide) rfl ?_
        refine zg_goto (tgt := 28) dX4_isFree_76 (by decide) ?_
        refine zg_l [0, 1, 2, 3] rfl ?_
        exact zg_s rfl rfl rfl (ih (i + 1) false (by omega) (by omega) ⟨fun z => absurd z (by decide), fun z => absurd hu z⟩)
      · have e1 : L.1 i ≠ s := fun z => h41 (congrArg nI z)
        refine zg_aload_n dX4_isFree_44 rfl ?_
        refine zg_getR E (ci := 4) (j := 2) (r := 159) dX4_isFree_45 rfl (congrArg Prod.fst (zl_Mat HM (k := 156) (t := (4, 17)) rfl (by decide) (by decide))) (by decide) (zl_Mlt HM (by decide)) (by decide) fl_X4_16 rfl (zl_Mrf HM rfl (by decide) (by decide)) ?_
        refine zg_iload_n dX4_isFree_48 rfl ?_
        refine zg_iald E (j := i) dX4_isFree_49 (zl_Mat HM (k := 159) (t := (10, 16)) rfl (by decide) (by decide)) (by decide) (zl_Mlt HM (by decide)) rfl (by omega) (by decide) ?_
        refine zg_v (x' := nI (S.1 i)) (hM.2.2.2.2.1.1 i hlt) ?_
        refine zg_iload_n dX4_isFree_50 rfl ?_
        refine zg_icmp_eq (tgt := 71) dX4_isFree_51 (by decide) (fun h51 => ?_) (fun h51 => ?_)
        · have hu : za_ui L S C.1 s (i + 1) := za_ui_y (Or.inr (Or.inl ((nI_eq (by have := wS.1 i hlt; omega) (by omega)).mp h51)))
          refine zg_iconst (v := nI 0) dX4_isFree_71 (by decide) ?_
          refine zg_istore_n (lv' := [(2, .int (nI 0)), (3, .int (nI i)), (0, .ref 156), (1, .int (nI s))]) dX4_isFree_72 (by decide) rfl ?_
          refine zg_iinc (v := nI (i + 1)) (lv' := [(3, .int (nI (i + 1))), (2, .int (nI 0)), (0, .ref 156), (1, .int (nI s))]) dX4_isFree_73 rfl (nI_1 i) (by decide) rfl ?_
          refine zg_goto (tgt := 28) dX4_isFree_76 (by decide) ?_
          refine zg_l [0, 1, 2, 3] rfl ?_
          exact zg_s rfl rfl rfl (ih (i + 1) false (by omega) (by omega) ⟨fun z => absurd z (by decide), fun z => absurd hu z⟩)
        · have e2 : S.1 i ≠ s := fun z => h51 (congrArg nI z)
          refine zg_aload_n dX4_isFree_54 rfl ?_
          refine zg_getI E (ci := 4) (j := 8) dX4_isFree_55 rfl (congrArg Prod.fst (zl_Mat HM (k := 156) (t := (4, 17)) rfl (by decide) (by decide))) (by decide) (zl_Mlt HM (by decide)) (by decide) fl_X4_61 rfl ?_
          refine zg_v (x' := za_bit (decide (0 < za_n C.1 16))) hM.2.2.2.2.2.1.1 ?_
          refine zg_if_eq (tgt := 73) dX4_isFree_58 (by decide) (fun h58 => ?_) (fun h58 => ?_)
          · have e3 : C.1 i = s → s = 0 := fun z => z.symm.trans (za_n_z (of_decide_eq_false (za_bit0 h58)) hlt)
            refine zg_iinc (v := nI (i + 1)) (lv' := [(3, .int (nI (i + 1))), (2, .int (za_bit y)), (0, .ref 156), (1, .int (nI s))]) dX4_isFree_73 rfl (nI_1 i) (by decide) rfl ?_
            refine zg_goto (tgt := 28) dX4_isFree_76 (by decide) ?_
            refine zg_l [0, 1, 2, 3] rfl ?_
            exact zg_s rfl rfl rfl (ih (i + 1) y (by omega) (by omega) (k0.trans (not_congr (za_ui_n e1 e2 e3).symm)))
          · have ho := of_decide_eq_true (za_bit1 h58)
            refine zg_aload_n dX4_isFree_61 rfl ?_
            refine zg_getR E (ci := 4) (j := 9) (r := 160) dX4_isFree_62 rfl (congrArg Prod.fst (zl_Mat HM (k := 156) (t := (4, 17)) rfl (by decide) (by decide))) (by decide) (zl_Mlt HM (by decide)) (by decide) fl_X4_19 rfl (zl_Mrf HM rfl (by decide) (by decide)) ?_
            refine zg_iload_n dX4_isFree_65 rfl ?_
            refine zg_iald E (j := i) dX4_isFree_66 (zl_Mat HM (k := 160) (t := (10, 16)) rfl (by decide) (by decide)) (by decide) (zl_Mlt HM (by decide)) rfl (by omega) (by decide) ?_
            refine zg_v (x' := nI (C.1 i)) (hM.2.2.2.2.2.1.2.1 ho i hlt) ?_
            refine zg_iload_n dX4_isFree_67 rfl ?_
            refine zg_icmp_ne (tgt := 73) dX4_isFree_68 (by decide) (fun h68 => ?_) (fun h68 => ?_)
            · have e3 : C.1 i = s → s = 0 := fun z => absurd (congrArg nI z) h68
              refine zg_iinc (v := nI (i + 1)) (lv' := [(3, .int (nI (i + 1))), (2, .int (za_bit y)), (0, .ref 156), (1, .int (nI s))]) dX4_isFree_73 rfl (nI_1 i) (by decide) rfl ?_
              refine zg_goto (tgt := 28) dX4_isFree_76 (by decide) ?_
              refine zg_l [0, 1, 2, 3] rfl ?_
              exact zg_s rfl rfl rfl (ih (i + 1) y (by omega) (by omega) (k0.trans (not_congr (za_ui_n e1 e2 e3).symm)))
            · have hu : za_ui L S C.1 s (i + 1) := za_ui_y (Or.inr (Or.inr ((nI_eq (by have := wC.1 i hlt; omega) (by omega)).mp h68)))
              refine zg_iconst (v := nI 0) dX4_isFree_71 (by decide) ?_
              refine zg_istore_n (lv' := [(2, .int (nI 0)), (3, .int (nI i)), (0, .ref 156), (1, .int (nI s))]) dX4_isFree_72 (by decide) rfl ?_
              refine zg_iinc (v := nI (i + 1)) (lv' := [(3, .int (nI (i + 1))), (2, .int (nI 0)), (0, .ref 156), (1, .int (nI s))]) dX4_isFree_73 rfl (nI_1 i) (by decide) rfl ?_
              refine zg_goto (tgt := 28) dX4_isFree_76 (by decide) ?_
              refine zg_l [0, 1, 2, 3] rfl ?_
              exact zg_s rfl rfl rfl (ih (i + 1) false (by omega) (by omega) ⟨fun z => absurd z (by decide), fun z => absurd hu z⟩)
set_option maxHeartbeats 4000000 in
set_option maxRecDepth 100000 in
theorem mt_isFree {V : zv_V} (E : zv_OK V) {w : zw_W} (HM : zl_M w) {D : Nat → Nat → Nat} {H : za_H} {b : Bool} {L S : za_T} {C : za_C} {t : Bool} (hM : zu_X (zw_i w) D H b L S C t) (wL : za_WT L) (wS : za_WT S) (wC : za_WC C) {s : Nat} (hs : s < 48) {z : Bool} (hz : z = true ↔ ¬ za_us L S C.1 s) : zg_C V zm_X4_isFree yX4_isFree 0 0 [.ref 156, .int (nI s)] w (zq_p (.inl (some (.int (za_bit z)))) (· = w)) := by
  refine zg_of (by decide +kernel) rfl (Nat.le_of_ble_eq_true rfl) ?_
  show zg_G V zm_X4_isFree 0 0 w.1 w.2.1 0 [] [(0, .ref 156), (1, .int (nI s))] w _
  refine zg_iload_n dX4_isFree_0 rfl ?_
  refine zg_if_le (tgt := 24) dX4_isFree_1 (by decide) (fun h1 => ?_) (fun h1 => ?_)
  · have hy : false = true ↔ ¬ za_ui L S C.1 s 0 := zb_no (za_ui_0.mpr (Or.inl (Classical.byContradiction fun q => absurd h1 (nI_nle (by omega) (by omega)))))
    refine zg_iconst (v := nI 0) dX4_isFree_24 (by decide) ?_
    refine zg_istore_n (lv' := [(2, .int (nI 0)), (0, .ref 156), (1, .int (nI s))]) dX4_isFree_25 (by decide) rfl ?_
    refine zg_iconst (v := nI 0) dX4_isFree_26 (by decide) ?_
    refine zg_istore_n (lv' := [(3, .int (nI 0)), (2, .int (nI 0)), (0, .ref 156), (1, .int (nI s))]) dX4_isFree_27 (by decide) rfl ?_
    refine zg_l [0, 1, 2, 3] rfl ?_
    exact zg_s rfl rfl rfl (lm_isFree E HM hM wL wS wC hs hz ⟨rfl, rfl⟩ 17 0 false (by omega) (by omega) hy)
  · have g1 : s ≠ 0 := fun q => h1 (by rw [q]; decide)
    refine zg_iload_n dX4_isFree_4 rfl ?_
    refine zg_aload_n dX4_isFree_5 rfl ?_
    refine zg_getI E (ci := 4) (j := 3) dX4_isFree_6 rfl (congrArg Prod.fst (zl_Mat HM (k := 156) (t := (4, 17)) rfl (by decide) (by decide))) (by decide) (zl_Mlt HM (by decide)) (by decide) fl_X4_71 rfl ?_
    refine zg_v (x' := nI L.2.1) hM.2.2.2.1.2.1 ?_
    refine zg_icmp_eq (tgt := 24) dX4_isFree_9 (by decide) (fun h9 => ?_) (fun h9 => ?_)
    · have hy : false = true ↔ ¬ za_ui L S C.1 s 0 := zb_no (za_ui_0.mpr (Or.inr (Or.inl ((nI_eq (by omega) (by have := wL.2; omega)).mp h9).symm)))
      refine zg_iconst (v := nI 0) dX4_isFree_24 (by decide) ?_
      refine zg_istore_n (lv' := [(2, .int (nI 0)), (0, .ref 156), (1, .int (nI s))]) dX4_isFree_25 (by decide) rfl ?_
      refine zg_iconst (v := nI 0) dX4_isFree_26 (by decide) ?_
      refine zg_istore_n (lv' := [(3, .int (nI 0)), (2, .int (nI 0)), (0, .ref 156), (1, .int (nI s))]) dX4_isFree_27 (by decide) rfl ?_
      refine zg_l [0, 1, 2, 3] rfl ?_
      exact zg_s rfl rfl rfl (lm_isFree E HM hM wL wS wC hs hz ⟨rfl, rfl⟩ 17 0 false (by omega) (by omega) hy)
    · have g2 : L.2.1 ≠ s := fun q => h9 (congrArg nI q.symm)
      refine zg_iload_n dX4_isFree_12 rfl ?_
      refine zg_aload_n dX4_isFree_13 rfl ?_
      refine zg_getI E (ci := 4) (j := 4) dX4_isFree_14 rfl (congrArg Prod.fst (zl_Mat HM (k := 156) (t := (4, 17)) rfl (by decide) (by decide))) (by decide) (zl_Mlt HM (by decide)) (by decide) fl_X4_80 rfl ?_
      refine zg_v (x' := nI S.2.1) hM.2.2.2.2.1.2.1 ?_
      refine zg_icmp_eq (tgt := 24) dX4_isFree_17 (by decide) (fun h17 => ?_) (fun h17 => ?_)
      · have hy : false = true ↔ ¬ za_ui L S C.1 s 0 := zb_no (za_ui_0.mpr (Or.inr (Or.inr ((nI_eq (by omega) (by have := wS.2; omega)).mp h17).symm)))
        refine zg_iconst (v := nI 0) dX4_isFree_24 (by decide) ?_
        refine zg_istore_n (lv' := [(2, .int (nI 0)), (0, .ref 156), (1, .int (nI s))]) dX4_isFree_25 (by decide) rfl ?_
        refine zg_iconst (v := nI 0) dX4_isFree_26 (by decide) ?_
        refine zg_istore_n (lv' := [(3, .int (nI 0)), (2, .int (nI 0)), (0, .ref 156), (1, .int (nI s))]) dX4_isFree_27 (by decide) rfl ?_
        refine zg_l [0, 1, 2, 3] rfl ?_
        exact zg_s rfl rfl rfl (lm_isFree E HM hM wL wS wC hs hz ⟨rfl, rfl⟩ 17 0 false (by omega) (by omega) hy)
      · have hy : true = true ↔ ¬ za_ui L S C.1 s 0 := zb_ye (fun q => (za_ui_0.mp q).elim g1 (fun q => q.elim g2 (fun q => h17 (congrArg nI q.symm))))
        refine zg_iconst (v := nI 1) dX4_isFree_20 (by decide) ?_
        refine zg_goto (tgt := 25) dX4_isFree_21 (by decide) ?_
        refine zg_istore_n (lv' := [(2, .int (nI 1)), (0, .ref 156), (1, .int (nI s))]) dX4_isFree_25 (by decide) rfl ?_
        refine zg_iconst (v := nI 0) dX4_isFree_26 (by decide) ?_
        refine zg_istore_n (lv' := [(3, .int (nI 0)), (2, .int (nI 1)), (0, .ref 156), (1, .int (nI s))]) dX4_isFree_27 (by decide) rfl ?_
        refine zg_l [0, 1, 2, 3] rfl ?_
        exact zg_s rfl rfl rfl (lm_isFree E HM hM wL wS wC hs hz ⟨rfl, rfl⟩ 17 0 true (by omega) (by omega) hy)
set_option maxHeartbeats 4000000 in
set_option maxRecDepth 100000 in
theorem lm_firstFree {V : zv_V} (E : zv_OK V) {w : zw_W} {n0 u0 : Nat} {Q : zg_O → zw_W → Prop} (HM : zl_M w) {D : Nat → Nat → Nat} {H : za_H} {b : Bool} {L S : za_T} {C : za_C} {t : Bool} (hM : zu_X (zw_i w) D H b L S C t) (wL : za_WT L) (wS : za_WT S) (wC : za_WC C) {r : Int32} (hr : za_ff L S C.1 r) (hq : Q (.inl (some (.int r))) w) : ∀ (n i : Nat) , i ≤ 48 → 48 + 1 ≤ i + n → 1 ≤ i → (∀ q, q < i → za_us L S C.1 q) → zg_G V zm_X4_firstFree 1 30 n0 u0 2 [] [(1, .int (nI i)), (0, .ref 156)] w Q := by
  intro n
  induction n with
  | zero =>
    intro i hi hn
    exact absurd hn (by omega)
  | succ n ih =>
    intro i hi hn k0 k1
    refine zg_iload_n dX4_firstFree_2 rfl ?_
    refine zg_bipush (v := nI 48) dX4_firstFree_3 (by decide) ?_
    refine zg_icmp_ge (tgt := 22) dX4_firstFree_5 (by decide) (fun h5 => ?_) (fun h5 => ?_)
    · obtain rfl : i = 48 := by have := zn_ge h5 (by omega) (by omega); omega
      have hr0 : (-1) = r := za_ff_n hr k1
      refine zg_iload_n dX4_firstFree_22 rfl ?_
      refine zg_bipush (v := nI 48) dX4_firstFree_23 (by decide) ?_
      refine zg_icmp_ne (tgt := 32) dX4_firstFree_25 (by decide) (fun h25 => absurd rfl h25) (fun _ => ?_)
      refine zg_iconst (v := (-1)) dX4_firstFree_28 (by decide) ?_
      refine zg_goto (tgt := 33) dX4_firstFree_29 (by decide) ?_
      exact zg_iret rfl dX4_firstFree_33 (hr0 ▸ hq)
    · have hlt : i < 48 := zn_lt h5 (by omega) (by omega)
      obtain ⟨z, hz⟩ := zb_ex (¬ za_us L S C.1 i)
      refine zg_aload_n dX4_firstFree_8 rfl ?_
      refine zg_iload_n dX4_firstFree_9 rfl ?_
      refine zg_vrt (M := zm_X4_firstFree) E (ci := 4) dX4_firstFree_10 (mt_isFree E HM hM wL wS wC hlt hz) wd_X4_86 rfl (congrArg Prod.fst (zl_Mat HM (k := 156) (t := (4, 17)) rfl (by decide) (by decide))) (by decide) (zl_Mlt HM (by decide)) rfl dh_X4_isFree dn_X4_isFree (Nat.le_of_ble_eq_true rfl) (Nat.le_of_ble_eq_true rfl) (Nat.le_of_ble_eq_true rfl) (zl_capM HM) rfl (fun w10 g10 => ?_)
      subst w10
      refine zg_if_ne (tgt := 22) dX4_firstFree_13 (by decide) (fun h13 => ?_) (fun h13 => ?_)
      · have hr1 : nI i = r := za_ff_y hr hlt (hz.mp (za_bit1 h13)) k1
        refine zg_iload_n dX4_firstFree_22 rfl ?_
        refine zg_bipush (v := nI 48) dX4_firstFree_23 (by decide) ?_
        refine zg_icmp_ne (tgt := 32) dX4_firstFree_25 (by decide) (fun _ => ?_) (fun h25 => absurd ((nI_eq (by omega) (by decide)).mp h25) (by omega))
        refine zg_iload_n dX4_firstFree_32 rfl ?_
        exact zg_iret rfl dX4_firstFree_33 (hr1 ▸ hq)
      · have hu : za_us L S C.1 i := Classical.byContradiction fun q => absurd (hz.mpr q) (by rw [za_bit0 h13]; decide)
        refine zg_iinc (v := nI (i + 1)) (lv' := [(1, .int (nI (i + 1))), (0, .ref 156)]) dX4_firstFree_16 rfl (nI_1 i) (by decide) rfl ?_
        refine zg_goto (tgt := 2) dX4_firstFree_19 (by decide) ?_
        refine zg_l [0, 1] rfl ?_
        exact zg_s rfl rfl rfl (ih (i + 1) (by omega) (by omega) (by omega) (fun q hq => (Nat.lt_or_ge q i).elim (k1 q) (fun z => (show q = i by omega) ▸ hu)))
set_option maxHeartbeats 4000000 in
set_option maxRecDepth 100000 in
theorem mt_firstFree {V : zv_V} (E : zv_OK V) {w : zw_W} (HM : zl_M w) {D : Nat → Nat → Nat} {H : za_H} {b : Bool} {L S : za_T} {C : za_C} {t : Bool} (hM : zu_X (zw_i w) D H b L S C t) (wL : za_WT L) (wS : za_WT S) (wC : za_WC C) {r : Int32} (hr : za_ff L S C.1 r) : zg_C V zm_X4_firstFree yX4_firstFree 1 30 [.ref 156] w (zq_p (.inl (some (.int r))) (· = w)) := by
  refine zg_of (by decide +kernel) rfl (Nat.le_of_ble_eq_true rfl) ?_
  show zg_G V zm_X4_firstFree 1 30 w.1 w.2.1 0 [] [(0, .ref 156)] w _
  refine zg_iconst (v := nI 1) dX4_firstFree_0 (by decide) ?_
  refine zg_istore_n (lv' := [(1, .int (nI 1)), (0, .ref 156)]) dX4_firstFree_1 (by decide) rfl ?_
  exact zg_s rfl rfl rfl (lm_firstFree E HM hM wL wS wC hr ⟨rfl, rfl⟩ 48 1 (by omega) (by omega) (by omega) (fun q hq => (show q = 0 by omega) ▸ Or.inl rfl))
theorem zu_wr {I J : Nat → Nat → Int32} {D : Nat → Nat → Nat} {s : Nat} {f : Nat → Nat} (h : zu_D I D) (h1 : ∀ i, i < 16 → J 157 (16 * s + i) = nI (f i)) (h2 : ∀ j, (j < 16 * s ∨ 16 * s + 16 ≤ j) → J 157 j = I 157 j) : zu_D J (zw_ro D s f) := by
  intro q hq i hi
  by_cases e : q = s
  · rw [e, zw_ro_s]
    exact h1 i hi
  · rw [zw_ro_n _ _ e, h2 _ (by omega)]
    exact h q hq i hi
theorem zu_frn {I : Nat → Nat → Int32} (cs ss : List Nat) : zu_fr cs ss I I := fun _ _ _ _ => rfl
theorem zu_frW {c c' s s' : List Nat} {I J : Nat → Nat → Int32} (h : zu_fr c s I J) (hc : ∀ x, x ∈ c → x ∈ c' := by decide) (hs : ∀ x, x ∈ s → x ∈ s' := by decide) : zu_fr c' s' I J := fun a i h1 h2 => h a i (fun z => h1 (hc a z)) (h2.imp id (fun z y => z (hs i y)))
set_option maxHeartbeats 4000000 in
set_option maxRecDepth 100000 in
theorem lm_writes {V : zv_V} (E : zv_OK V) {w : zw_W} {n0 u0 : Nat} {Q : zg_O → zw_W → Prop} (HM : zl_M w) {D : Nat → Nat → Nat} {H : za_H} (hD : zu_D (zw_i w) D) (hH : zu_H (zw_i w) H) {k : Nat} (hk : k < H.1) (hW : za_WH H) (hq : ∀ J, zu_D J (zw_ro D (H.2.1 k) (H.2.2 k)) → zu_fr [157] [] (zw_i w) J → Q (.inl none) (zw_I w J)) : ∀ (n i : Nat) (J : Nat → Nat → Int32), i ≤ 16 → 16 + 1 ≤ i + n → (∀ j, j < i → J 157 (16 * H.2.1 k + j) = nI (H.2.2 k j)) → (∀ j, (j < 16 * H.2.1 k ∨ 16 * H.2.1 k + 16 ≤ j) → J 157 j = zw_i w 157 j) → zu_fr [157] [] (zw_i w) J → zg_G V zm_X4_writes 0 0 n0 u0 2 [] [(2, .int (nI i)), (0, .ref 156), (1, .int (nI k))] (zw_I w J) Q := by
  intro n
  induction n with
  | zero =>
    intro i J hi hn
    exact absurd hn (by omega)
  | succ n ih =>
    intro i J hi hn k0 k1 k2
    have hHJ : zu_H J H := zu_fH hH k2
    have h77 := hW.1
    have h48 := hW.2.1 k hk
    refine zg_iload_n dX4_writes_2 rfl ?_
    refine zg_bipush (v := nI 16) dX4_writes_3 (by decide) ?_
    refine zg_icmp_ge (tgt := 41) dX4_writes_5 (by decide) (fun h5 => ?_) (fun h5 => ?_)
    · obtain rfl : i = 16 := by have := zn_ge h5 (by omega) (by omega); omega
      exact zg_vret rfl dX4_writes_41 (hq J (zu_wr hD k0 k1) k2)
    · have hlt : i < 16 := zn_lt h5 (by omega) (by omega)
      refine zg_aload_n dX4_writes_8 rfl ?_
      refine zg_getR E (ci := 4) (j := 0) (r := 157) dX4_writes_9 rfl (congrArg Prod.fst (zl_Mat HM (k := 156) (t := (4, 17)) rfl (by decide) (by decide))) (by decide) (zl_Mlt HM (by decide)) (by decide) fl_X4_7 rfl (zl_Mrf HM rfl (by decide) (by decide)) ?_
      refine zg_bipush (v := nI 16) dX4_writes_12 (by decide) ?_
      refine zg_aload_n dX4_writes_14 rfl ?_
      refine zg_getR E (ci := 4) (j := 12) (r := 163) dX4_writes_15 rfl (congrArg Prod.fst (zl_Mat HM (k := 156) (t := (4, 17)) rfl (by decide) (by decide))) (by decide) (zl_Mlt HM (by decide)) (by decide) fl_X4_29 rfl (zl_Mrf HM rfl (by decide) (by decide)) ?_
      refine zg_iload_n dX4_writes_18 rfl ?_
      refine zg_iald E (j := k) dX4_writes_19 (zl_Mat HM (k := 163) (t := (10, 100)) rfl (by decide) (by decide)) (by decide) (zl_Mlt HM (by decide)) rfl (by omega) (by decide) ?_
      refine zg_v (x' := nI (H.2.1 k)) (hHJ.2.1 k hk) ?_
      refine zg_imul dX4_writes_20 ?_
      refine zg_v (x' := nI (16 * (H.2.1 k))) (pk_mul _ _) ?_
      refine zg_iload_n dX4_writes_21 rfl ?_
      refine zg_iadd dX4_writes_22 ?_
      refine zg_v (x' := nI ((16 * (H.2.1 k)) + i)) (nI_add _ _) ?_
      refine zg_aload_n dX4_writes_23 rfl ?_
      refine zg_getR E (ci := 4) (j := 13) (r := 164) dX4_writes_24 rfl (congrArg Prod.fst (zl_Mat HM (k := 156) (t := (4, 17)) rfl (by decide) (by decide))) (by decide) (zl_Mlt HM (by decide)) (by decide) fl_X4_32 rfl (zl_Mrf HM rfl (by decide) (by decide)) ?_
      refine zg_bipush (v := nI 16) dX4_writes_27 (by decide) ?_
      refine zg_iload_n dX4_writes_29 rfl ?_
      refine zg_imul dX4_writes_30 ?_
      refine zg_v (x' := nI (16 * k)) (pk_mul _ _) ?_
      refine zg_iload_n dX4_writes_31 rfl ?_
      refine zg_iadd dX4_writes_32 ?_
      refine zg_v (x' := nI ((16 * k) + i)) (nI_add _ _) ?_
      refine zg_iald E (j := (16 * k) + i) dX4_writes_33 (zl_Mat HM (k := 164) (t := (10, 1600)) rfl (by decide) (by decide)) (by decide) (zl_Mlt HM (by decide)) rfl (by omega) (by decide) ?_
      refine zg_v (x' := nI (H.2.2 k i)) (hHJ.2.2 k hk i hlt) ?_
      refine zg_iast E (j := (16 * (H.2.1 k)) + i) dX4_writes_34 (zl_Mat HM (k := 157) (t := (10, 768)) rfl (by decide) (by decide)) (by decide) (zl_Mlt HM (by decide)) rfl (by omega) (by decide) ?_
      refine zg_iinc (v := nI (i + 1)) (lv' := [(2, .int (nI (i + 1))), (0, .ref 156), (1, .int (nI k))]) dX4_writes_35 rfl (nI_1 i) (by decide) rfl ?_
      refine zg_goto (tgt := 2) dX4_writes_38 (by decide) ?_
      refine zg_l [0, 1, 2] rfl ?_
      exact zg_s rfl rfl rfl (ih (i + 1) _ (by omega) (by omega) (fun j hj => (Nat.lt_or_ge j i).elim (fun z => (zw_up_n _ _ (Or.inr (by omega))).trans (k0 j z)) (fun z => by have e : j = i := (by omega); subst e; exact zw_up_s _ _ _ _)) (fun j hj => (zw_up_n _ _ (Or.inr (by omega))).trans (k1 j hj)) (fun a j h1 h2 => (zw_up_n _ _ (Or.inl (fun z => h1 (by rw [z]; exact List.mem_singleton.mpr rfl)))).trans (k2 a j h1 h2)))
set_option maxHeartbeats 4000000 in
set_option maxRecDepth 100000 in
theorem mt_writes {V : zv_V} (E : zv_OK V) {w : zw_W} (HM : zl_M w) {D : Nat → Nat → Nat} {H : za_H} (hD : zu_D (zw_i w) D) (hH : zu_H (zw_i w) H) {k : Nat} (hk : k < H.1) (hW : za_WH H)  : zg_C V zm_X4_writes yX4_writes 0 0 [.ref 156, .int (nI k)] w (zq_p (.inl none) (zu_to w [157] [] (zu_D · (zw_ro D (H.2.1 k) (H.2.2 k))))) := by
  refine zg_of (by decide +kernel) rfl (Nat.le_of_ble_eq_true rfl) ?_
  show zg_G V zm_X4_writes 0 0 w.1 w.2.1 0 [] [(0, .ref 156), (1, .int (nI k))] w _
  refine zg_iconst (v := nI 0) dX4_writes_0 (by decide) ?_
  refine zg_istore_n (lv' := [(2, .int (nI 0)), (0, .ref 156), (1, .int (nI k))]) dX4_writes_1 (by decide) rfl ?_
  exact zg_s rfl rfl rfl (lm_writes E HM hD hH hk hW (fun J h1 h2 => ⟨rfl, J, rfl, h1, h2⟩) 17 0 (zw_i w) (by omega) (by omega) (fun j hj => absurd hj (Nat.not_lt_zero j)) (fun _ _ => rfl) (zu_frn [157] []))
set_option maxHeartbeats 4000000 in
set_option maxRecDepth 100000 in
theorem lm_flushed {V : zv_V} (E : zv_OK V) {w : zw_W} {n0 u0 : Nat} {Q : zg_O → zw_W → Prop} (HM : zl_M w) {D : Nat → Nat → Nat} {H : za_H} {b : Bool} {L S : za_T} {C : za_C} {t : Bool} (hW : za_WH H) (hq : ∀ J, zu_X J (za_car D H za_all H.1) (0, H.2) b L (if t then L else S) C false → zu_fr [157, 159] [4, 6, 14, 15] (zw_i w) J → Q (.inl (some (.int (nI H.1)))) (zw_I w J))  : ∀ (n i : Nat) (J : Nat → Nat → Int32), i ≤ H.1 → H.1 + 1 ≤ i + n → zu_X J (za_car D H za_all i) H b L S C t → zu_fr [157] [] (zw_i w) J → zg_G V zm_X4_flushed 1 30 n0 u0 7 [] [(2, .int (nI i)), (1, .int (nI H.1)), (0, .ref 156)] (zw_I w J) Q := by
  intro n
  induction n with
  | zero =>
    intro i J hi hn
    exact absurd hn (by omega)
  | succ n ih =>
    intro i J hi hn k0 k1
    have h77 := hW.1
    refine zg_iload_n dX4_flushed_7 rfl ?_
    refine zg_iload_n dX4_flushed_8 rfl ?_
    refine zg_icmp_ge (tgt := 23) dX4_flushed_9 (by decide) (fun h9 => ?_) (fun h9 => ?_)
    · obtain rfl : i = H.1 := by have := zn_ge h9 (by omega) (by omega); omega
      refine zg_aload_n dX4_flushed_23 rfl ?_
      refine zg_iconst (v := nI 0) dX4_flushed_24 (by decide) ?_
      refine zg_putI E (ci := 4) (j := 14) dX4_flushed_25 rfl (congrArg Prod.fst (zl_Mat HM (k := 156) (t := (4, 17)) rfl (by decide) (by decide))) (by decide) (zl_Mlt HM (by decide)) (by decide) fl_X4_54 rfl rfl rfl rfl ?_
      have f2 : zu_fr [] [14] J (zw_up J 156 14 (nI 0)) := zu_frS J 14 _
      have r2 : zu_X (zw_up J 156 14 (nI 0)) (za_car D H za_all H.1) (0, H.2) b L S C t := ⟨zu_fD k0.1 f2, ⟨zw_up_s _ _ _ _, fun k hk => absurd hk (Nat.not_lt_zero k), fun k hk => absurd hk (Nat.not_lt_zero k)⟩, zu_fs k0.2.2.1 f2, zu_fL k0.2.2.2.1 f2, zu_fS k0.2.2.2.2.1 f2, zu_fC k0.2.2.2.2.2.1 f2, zu_fs k0.2.2.2.2.2.2 f2⟩
      have f3 := zu_frT k1 f2
      obtain ⟨J2, e2⟩ : ∃ J2, J2 = zw_up J 156 14 (nI 0) := ⟨_, rfl⟩
      refine zg_w (w' := zw_I w J2) (by rw [e2]) ?_
      rw [← e2] at r2 f2 f3
      refine zg_aload_n dX4_flushed_28 rfl ?_
      refine zg_getI E (ci := 4) (j := 15) dX4_flushed_29 rfl (congrArg Prod.fst (zl_Mat HM (k := 156) (t := (4, 17)) rfl (by decide) (by decide))) (by decide) (zl_Mlt HM (by decide)) (by decide) fl_X4_57 rfl ?_
      refine zg_v (x' := za_bit t) r2.2.2.2.2.2.2 ?_
      refine zg_if_eq (tgt := 39) dX4_flushed_32 (by decide) (fun h32 => ?_) (fun h32 => ?_)
      · have ht := za_bit0 h32
        subst ht
        refine zg_iload_n dX4_flushed_39 rfl ?_
        exact zg_iret rfl dX4_flushed_40 (hq J2 r2 (zu_frW f3))
      · have ht := za_bit1 h32
        subst ht
        refine zg_aload_n dX4_flushed_35 rfl ?_
        refine zg_vrt (M := zm_X4_flushed) E (ci := 4) dX4_flushed_36 (mt_settle (w := zw_I w J2) E HM r2.2.2.2.1) wd_X4_77 rfl (congrArg Prod.fst (zl_Mat HM (k := 156) (t := (4, 17)) rfl (by decide) (by decide))) (by decide) (zl_Mlt HM (by decide)) rfl dh_X4_settle dn_X4_settle (Nat.le_of_ble_eq_true rfl) (Nat.le_of_ble_eq_true rfl) (Nat.le_of_ble_eq_true rfl) (zl_capM HM) rfl (fun w36 g36 => ?_)
        obtain ⟨J4, rfl, r4, f4⟩ := g36
        refine zg_w (w' := zw_I w J4) rfl ?_
        refine zg_iload_n dX4_flushed_39 rfl ?_
        exact zg_iret rfl dX4_flushed_40 (hq J4 ⟨zu_fD r2.1 f4, zu_fH r2.2.1 f4, zu_fs r2.2.2.1 f4, zu_fL r2.2.2.2.1 f4, r4.1, zu_fC r2.2.2.2.2.2.1 f4, r4.2⟩ (zu_frW (zu_frT f3 f4)))
    · have hlt : i < H.1 := zn_lt h9 (by omega) (by omega)
      refine zg_aload_n dX4_flushed_12 rfl ?_
      refine zg_iload_n dX4_flushed_13 rfl ?_
      refine zg_vrt (M := zm_X4_flushed) E (ci := 4) dX4_flushed_14 (mt_writes (w := zw_I w J) E HM k0.1 k0.2.1 hlt hW) wd_X4_90 rfl (congrArg Prod.fst (zl_Mat HM (k := 156) (t := (4, 17)) rfl (by decide) (by decide))) (by decide) (zl_Mlt HM (by decide)) rfl dh_X4_writes dn_X4_writes (Nat.le_of_ble_eq_true rfl) (Nat.le_of_ble_eq_true rfl) (Nat.le_of_ble_eq_true rfl) (zl_capM HM) rfl (fun w14 g14 => ?_)
      obtain ⟨J1, rfl, r1, f1⟩ := g14
      refine zg_w (w' := zw_I w J1) rfl ?_
      refine zg_iinc (v := nI (i + 1)) (lv' := [(2, .int (nI (i + 1))), (1, .int (nI H.1)), (0, .ref 156)]) dX4_flushed_17 rfl (nI_1 i) (by decide) rfl ?_
      refine zg_goto (tgt := 7) dX4_flushed_20 (by decide) ?_
      refine zg_l [0, 1, 2] rfl ?_
      exact zg_s rfl rfl rfl (ih (i + 1) J1 (by omega) (by omega) ⟨r1, zu_fH k0.2.1 f1, zu_fs k0.2.2.1 f1, zu_fL k0.2.2.2.1 f1, zu_fS k0.2.2.2.2.1 f1, zu_fC k0.2.2.2.2.2.1 f1, zu_fs k0.2.2.2.2.2.2 f1⟩ (zu_frW (zu_frT k1 f1)))
set_option maxHeartbeats 4000000 in
set_option maxRecDepth 100000 in
theorem mt_flushed {V : zv_V} (E : zv_OK V) {w : zw_W} (HM : zl_M w) {D : Nat → Nat → Nat} {H : za_H} {b : Bool} {L S : za_T} {C : za_C} {t : Bool} (hM : zu_X (zw_i w) D H b L S C t) (hW : za_WH H) : zg_C V zm_X4_flushed yX4_flushed 1 30 [.ref 156] w (zq_p (.inl (some (.int (nI H.1)))) (zu_to w [157, 159] [4, 6, 14, 15] (zu_X · (za_car D H za_all H.1) (0, H.2) b L (if t then L else S) C false))) := by
  refine zg_of (by decide +kernel) rfl (Nat.le_of_ble_eq_true rfl) ?_
  show zg_G V zm_X4_flushed 1 30 w.1 w.2.1 0 [] [(0, .ref 156)] w _
  refine zg_aload_n dX4_flushed_0 rfl ?_
  refine zg_getI E (ci := 4) (j := 14) dX4_flushed_1 rfl (congrArg Prod.fst (zl_Mat HM (k := 156) (t := (4, 17)) rfl (by decide) (by decide))) (by decide) (zl_Mlt HM (by decide)) (by decide) fl_X4_54 rfl ?_
  refine zg_v (x' := nI H.1) hM.2.1.1 ?_
  refine zg_istore_n (lv' := [(1, .int (nI H.1)), (0, .ref 156)]) dX4_flushed_4 (by decide) rfl ?_
  refine zg_iconst (v := nI 0) dX4_flushed_5 (by decide) ?_
  refine zg_istore_n (lv' := [(2, .int (nI 0)), (1, .int (nI H.1)), (0, .ref 156)]) dX4_flushed_6 (by decide) rfl ?_
  refine zg_l [0, 1, 2] rfl ?_
  exact zg_s rfl rfl rfl (lm_flushed E HM hW (fun J h1 h2 => ⟨rfl, J, rfl, h1, h2⟩) (H.1 + 1) 0 (zw_i w) (by omega) (by omega) hM (zu_frn [157] []))

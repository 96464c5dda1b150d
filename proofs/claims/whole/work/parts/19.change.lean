/-! The class's free sectors, its changes. -/
/-- the free sectors as the class reckons them -/
def zk_u0 (I : Nat → Nat → Int32) : Int64 := (1 ||| zs_us (I 132) ((1 : Int64) <<< ((I 131 1).toInt64 &&& 63)) 16) ||| zs_us (I 134) ((1 : Int64) <<< ((I 133 1).toInt64 &&& 63)) 16
def zk_fs (I : Nat → Nat → Int32) : Int64 := (zs_us (I 136) (zk_u0 I) 16 ^^^ (-1)) &&& (281474976710655)
theorem zk_fs_b {I : Nat → Nat → Int32} {L S : za_T} {C : za_C} (hL : zr_T 131 132 I L) (hS : zr_T 133 134 I S) (hC : zr_C I C) (wL : za_WT L) (wS : za_WT S) (wC : za_WC C) {s : Nat} (hs : s < 48) : zb (zk_fs I) s = true ↔ ¬ za_us L S C.1 s := by
  have e : zb (zs_us (I 136) (zk_u0 I) 16) s = true ↔ za_us L S C.1 s := by
    rw [zb_us hC.1 wC.1 (by omega : s < 64)]
    unfold zk_u0
    rw [zb_or, zb_or, Bool.or_eq_true, Bool.or_eq_true, zb_us hL.1 wL.1 (by omega : s < 64), zb_us hS.1 wS.1 (by omega : s < 64), hL.2.1, hS.2.1, zb_one _ wL.2 s (by omega), zb_one _ wS.2 s (by omega), zb_1 s (by omega), decide_eq_true_eq, decide_eq_true_eq, decide_eq_true_eq]
    unfold za_us
    constructor
    · rintro (((a | a | ⟨p, hp, e⟩) | a | ⟨p, hp, e⟩) | ⟨p, hp, e⟩)
      · exact Or.inl a
      · exact Or.inr (Or.inl a.symm)
      · exact Or.inr (Or.inr (Or.inr ⟨p, hp, Or.inl e⟩))
      · exact Or.inr (Or.inr (Or.inl a.symm))
      · exact Or.inr (Or.inr (Or.inr ⟨p, hp, Or.inr (Or.inl e)⟩))
      · exact Or.inr (Or.inr (Or.inr ⟨p, hp, Or.inr (Or.inr e)⟩))
    · rintro (a | a | a | ⟨p, hp, e | e | e⟩)
      · exact Or.inl (Or.inl (Or.inl a))
      · exact Or.inl (Or.inl (Or.inr (Or.inl a.symm)))
      · exact Or.inl (Or.inr (Or.inl a.symm))
      · exact Or.inl (Or.inl (Or.inr (Or.inr ⟨p, hp, e⟩)))
      · exact Or.inl (Or.inr (Or.inr ⟨p, hp, e⟩))
      · exact Or.inr ⟨p, hp, e⟩
  unfold zk_fs
  rw [zb_and, zb_xor, zb_m1 s (by omega), zb_all s (by omega), Bool.and_eq_true, decide_eq_true_eq]
  constructor
  · rintro ⟨h, -⟩ u
    rw [e.mpr u] at h
    exact absurd h (by decide)
  · intro u
    refine ⟨?_, hs⟩
    cases g : zb (zs_us (I 136) (zk_u0 I) 16) s
    · rfl
    · exact absurd (e.mp g) u
/-- the least free sector, or -1 -/
def za_ff (L S : za_T) (O : Nat → Nat) (r : Int32) : Prop := (∃ s, s < 48 ∧ r = nI s ∧ ¬ za_us L S O s ∧ ∀ t, t < s → za_us L S O t) ∨ (r = (-1) ∧ ∀ s, s < 48 → za_us L S O s)
theorem za_ff_ex (L S : za_T) (O : Nat → Nat) : ∃ r, za_ff L S O r := by
  by_cases h : ∃ s, s < 48 ∧ ¬ za_us L S O s
  · obtain ⟨s, ⟨h1, h2⟩, h3⟩ := pk_least (fun s => s < 48 ∧ ¬ za_us L S O s) h
    exact ⟨nI s, Or.inl ⟨s, h1, rfl, h2, fun t ht => Classical.byContradiction fun z => h3 t ht ⟨by omega, z⟩⟩⟩
  · exact ⟨-1, Or.inr ⟨rfl, fun s hs => Classical.byContradiction fun z => h ⟨s, hs, z⟩⟩⟩
theorem za_ff_y {L S : za_T} {O : Nat → Nat} {r : Int32} {s : Nat} (h : za_ff L S O r) (hs : s < 48) (h1 : ¬ za_us L S O s) (h2 : ∀ t, t < s → za_us L S O t) : nI s = r := by
  rcases h with ⟨q, hq, rfl, g1, g2⟩ | ⟨-, g⟩
  · refine congrArg nI ?_
    rcases Nat.lt_trichotomy s q with z | z | z
    · exact absurd (g2 s z) h1
    · exact z
    · exact absurd (h2 q z) g1
  · exact absurd (g s hs) h1
theorem za_ff_n {L S : za_T} {O : Nat → Nat} {r : Int32} (h : za_ff L S O r) (h2 : ∀ t, t < 48 → za_us L S O t) : (-1) = r := by
  rcases h with ⟨q, hq, rfl, g1, g2⟩ | ⟨g, -⟩
  · exact absurd (h2 q hq) g1
  · exact g.symm
set_option maxHeartbeats 4000000 in
set_option maxRecDepth 100000 in
theorem lp_freeSet {V : zv_V} (E : zv_OK V) {w : zw_W} {n0 u0 : Nat} {Q : zg_O → zw_W → Prop} (HX : zl_X w) (hq : Q (.inl (some (.long (zk_fs (zw_i w))))) w) : ∀ (n i : Nat) , i ≤ 16 → 16 + 1 ≤ i + n → zg_G V zm_X3_freeSet 1 25 n0 u0 20 [] [(3, .int (nI i)), (1, .long (zs_us (zw_i w 136) (zk_u0 (zw_i w)) i)), (0, .ref 1)] w Q := by
  intro n
  induction n with
  | zero =>
    intro i hi hn
    exact absurd hn (by omega)
  | succ n ih =>
    intro i hi hn 
    refine zg_iload_n dX3_freeSet_20 rfl ?_
    refine zg_bipush (v := nI 16) dX3_freeSet_21 (by decide) ?_
    refine zg_icmp_ge (tgt := 46) dX3_freeSet_23 (by decide) (fun h23 => ?_) (fun h23 => ?_)
    · obtain rfl : i = 16 := by have := zn_ge h23 (by omega) (by omega); omega
      refine zg_lload_n dX3_freeSet_46 rfl ?_
      refine zg_ldc2 E (v := -1) dX3_freeSet_47 (by decide +kernel) ?_
      refine zg_lxor dX3_freeSet_50 ?_
      refine zg_ldc2 E (v := 281474976710655) dX3_freeSet_51 (by decide +kernel) ?_
      refine zg_land dX3_freeSet_54 ?_
      exact zg_lret rfl dX3_freeSet_55 hq
    · have hlt : i < 16 := zn_lt h23 (by omega) (by omega)
      refine zg_lload_n dX3_freeSet_26 rfl ?_
      refine zg_lconst (v := 1) dX3_freeSet_27 (by decide) ?_
      refine zg_aload_n dX3_freeSet_28 rfl ?_
      refine zg_getR E (ci := 3) (j := 4) (r := 135) dX3_freeSet_29 rfl (congrArg Prod.fst (zl_at HX (k := 1) (t := (3, 7)) rfl (by decide) (by decide))) (by decide) (zl_lt HX (by decide)) (by decide) fl_X3_34 rfl (zl_rf HX rfl (by decide) (by decide)) ?_
      refine zg_getR E (ci := 0) (j := 0) (r := 136) dX3_freeSet_32 rfl (congrArg Prod.fst (zl_at HX (k := 135) (t := (0, 4)) rfl (by decide) (by decide))) (by decide) (zl_lt HX (by decide)) (by decide) fl_X3_222 rfl (zl_rf HX rfl (by decide) (by decide)) ?_
      refine zg_iload_n dX3_freeSet_35 rfl ?_
      refine zg_iald E (j := i) dX3_freeSet_36 (zl_at HX (k := 136) (t := (10, 16)) rfl (by decide) (by decide)) (by decide) (zl_lt HX (by decide)) rfl (by omega) (by decide) ?_
      refine zg_lshl dX3_freeSet_37 ?_
      refine zg_lor dX3_freeSet_38 ?_
      refine zg_lstore_n (lv' := [(1, .long ((zs_us (zw_i w 136) (zk_u0 (zw_i w)) i) ||| (((1)) <<< ((zw_i w 136 i).toInt64 &&& 63)))), (3, .int (nI i)), (0, .ref 1)]) dX3_freeSet_39 (by decide) rfl ?_
      refine zg_iinc (v := nI (i + 1)) (lv' := [(3, .int (nI (i + 1))), (1, .long ((zs_us (zw_i w 136) (zk_u0 (zw_i w)) i) ||| (((1)) <<< ((zw_i w 136 i).toInt64 &&& 63)))), (0, .ref 1)]) dX3_freeSet_40 rfl (nI_1 i) (by decide) rfl ?_
      refine zg_goto (tgt := 20) dX3_freeSet_43 (by decide) ?_
      refine zg_l [0, 1, 2] rfl ?_
      exact zg_s rfl rfl rfl (ih (i + 1) (by omega) (by omega))
set_option maxHeartbeats 4000000 in
set_option maxRecDepth 100000 in
theorem ct_freeSet {V : zv_V} (E : zv_OK V) {w : zw_W} (HX : zl_X w)  : zg_C V zm_X3_freeSet yX3_freeSet 1 25 [.ref 1] w (zq_p (.inl (some (.long (zk_fs (zw_i w))))) (· = w)) := by
  refine zg_of (by decide +kernel) rfl (Nat.le_of_ble_eq_true rfl) ?_
  show zg_G V zm_X3_freeSet 1 25 w.1 w.2.1 0 [] [(0, .ref 1)] w _
  refine zg_lconst (v := 1) dX3_freeSet_0 (by decide) ?_
  refine zg_aload_n dX3_freeSet_1 rfl ?_
  refine zg_getR E (ci := 3) (j := 2) (r := 131) dX3_freeSet_2 rfl (congrArg Prod.fst (zl_at HX (k := 1) (t := (3, 7)) rfl (by decide) (by decide))) (by decide) (zl_lt HX (by decide)) (by decide) fl_X3_24 rfl (zl_rf HX rfl (by decide) (by decide)) ?_
  refine zg_vrt (M := zm_X3_freeSet) E (ci := 2) dX3_freeSet_5 (ct_usedSetL E HX) wd_X3_219 rfl (congrArg Prod.fst (zl_at HX (k := 131) (t := (2, 3)) rfl (by decide) (by decide))) (by decide) (zl_lt HX (by decide)) rfl dh_X2_usedSet dn_X2_usedSet (Nat.le_of_ble_eq_true rfl) (Nat.le_of_ble_eq_true rfl) (Nat.le_of_ble_eq_true rfl) (zl_cap HX) rfl (fun w5 g5 => ?_)
  subst w5
  refine zg_lor dX3_freeSet_8 ?_
  refine zg_aload_n dX3_freeSet_9 rfl ?_
  refine zg_getR E (ci := 3) (j := 3) (r := 133) dX3_freeSet_10 rfl (congrArg Prod.fst (zl_at HX (k := 1) (t := (3, 7)) rfl (by decide) (by decide))) (by decide) (zl_lt HX (by decide)) (by decide) fl_X3_28 rfl (zl_rf HX rfl (by decide) (by decide)) ?_
  refine zg_vrt (M := zm_X3_freeSet) E (ci := 2) dX3_freeSet_13 (ct_usedSetS E HX) wd_X3_219 rfl (congrArg Prod.fst (zl_at HX (k := 133) (t := (2, 3)) rfl (by decide) (by decide))) (by decide) (zl_lt HX (by decide)) rfl dh_X2_usedSet dn_X2_usedSet (Nat.le_of_ble_eq_true rfl) (Nat.le_of_ble_eq_true rfl) (Nat.le_of_ble_eq_true rfl) (zl_cap HX) rfl (fun w13 g13 => ?_)
  subst w13
  refine zg_lor dX3_freeSet_16 ?_
  refine zg_lstore_n (lv' := [(1, .long ((((1)) ||| (zs_us (zw_i w 132) ((1 : Int64) <<< ((zw_i w 131 1).toInt64 &&& 63)) 16)) ||| (zs_us (zw_i w 134) ((1 : Int64) <<< ((zw_i w 133 1).toInt64 &&& 63)) 16))), (0, .ref 1)]) dX3_freeSet_17 (by decide) rfl ?_
  refine zg_iconst (v := nI 0) dX3_freeSet_18 (by decide) ?_
  refine zg_istore_n (lv' := [(3, .int (nI 0)), (1, .long ((((1)) ||| (zs_us (zw_i w 132) ((1 : Int64) <<< ((zw_i w 131 1).toInt64 &&& 63)) 16)) ||| (zs_us (zw_i w 134) ((1 : Int64) <<< ((zw_i w 133 1).toInt64 &&& 63)) 16))), (0, .ref 1)]) dX3_freeSet_19 (by decide) rfl ?_
  exact zg_s rfl rfl rfl (lp_freeSet E HX ⟨rfl, rfl⟩ 17 0 (by omega) (by omega))
set_option maxHeartbeats 4000000 in
set_option maxRecDepth 100000 in
theorem lp_leastFree {V : zv_V} (E : zv_OK V) {w : zw_W} {n0 u0 : Nat} {Q : zg_O → zw_W → Prop} (HX : zl_X w) {D : Nat → Nat → Nat} {H : za_H} {b : Bool} {L S : za_T} {C : za_C} (hX : zr_X (zw_i w) D H b L S C) (wL : za_WT L) (wS : za_WT S) (wC : za_WC C) {r : Int32} (hr : za_ff L S C.1 r) (hq : Q (.inl (some (.int r))) w) : ∀ (n i : Nat) , i ≤ 48 → 48 + 1 ≤ i + n → (∀ t, t < i → za_us L S C.1 t) → zg_G V zm_X3_leastFree 2 60 n0 u0 7 [] [(3, .int (nI i)), (1, .long (zk_fs (zw_i w))), (0, .ref 1)] w Q := by
  intro n
  induction n with
  | zero =>
    intro i hi hn
    exact absurd hn (by omega)
  | succ n ih =>
    intro i hi hn k0
    refine zg_iload_n dX3_leastFree_7 rfl ?_
    refine zg_bipush (v := nI 48) dX3_leastFree_8 (by decide) ?_
    refine zg_icmp_ge (tgt := 29) dX3_leastFree_10 (by decide) (fun h10 => ?_) (fun h10 => ?_)
    · obtain rfl : i = 48 := by have := zn_ge h10 (by omega) (by omega); omega
      refine zg_iconst (v := (-1)) dX3_leastFree_29 (by decide) ?_
      exact zg_iret rfl dX3_leastFree_30 ((za_ff_n hr k0 : (-1 : Int32) = r) ▸ hq)
    · have hlt : i < 48 := zn_lt h10 (by omega) (by omega)
      have hfs := zk_fs_b hX.2.2.2.1 hX.2.2.2.2.1 hX.2.2.2.2.2 wL wS wC hlt
      refine zg_lload_n dX3_leastFree_13 rfl ?_
      refine zg_iload_n dX3_leastFree_14 rfl ?_
      refine zg_sret (M := zm_X3_leastFree) E dX3_leastFree_15 (ct_holds E (zk_fs (zw_i w)) (nI i)) wd_X3_148 dh_X3_holds dn_X3_holds (Nat.le_of_ble_eq_true rfl) (Nat.le_of_ble_eq_true rfl) (Nat.le_of_ble_eq_true rfl) (zl_cap HX) rfl (fun w15 g15 => ?_)
      subst w15
      refine zg_v (x' := za_bit (zb (zk_fs (zw_i w)) i)) (zp_hol _ (by omega)) ?_
      refine zg_if_eq (tgt := 23) dX3_leastFree_18 (by decide) (fun h18 => ?_) (fun h18 => ?_)
      · have hu : za_us L S C.1 i := Classical.byContradiction fun z => absurd (hfs.mpr z) (by rw [za_bit0 h18]; decide)
        refine zg_iinc (v := nI (i + 1)) (lv' := [(3, .int (nI (i + 1))), (1, .long (zk_fs (zw_i w))), (0, .ref 1)]) dX3_leastFree_23 rfl (nI_1 i) (by decide) rfl ?_
        refine zg_goto (tgt := 7) dX3_leastFree_26 (by decide) ?_
        refine zg_l [0, 1, 2] rfl ?_
        exact zg_s rfl rfl rfl (ih (i + 1) (by omega) (by omega) (fun t ht => (Nat.lt_or_ge t i).elim (k0 t) (fun z => (show t = i by omega) ▸ hu)))
      · have hu : ¬ za_us L S C.1 i := hfs.mp (za_bit1 h18)
        refine zg_iload_n dX3_leastFree_21 rfl ?_
        exact zg_iret rfl dX3_leastFree_22 (za_ff_y hr hlt hu k0 ▸ hq)
set_option maxHeartbeats 4000000 in
set_option maxRecDepth 100000 in
theorem kt_leastFree {V : zv_V} (E : zv_OK V) {w : zw_W} (HX : zl_X w) {D : Nat → Nat → Nat} {H : za_H} {b : Bool} {L S : za_T} {C : za_C} (hX : zr_X (zw_i w) D H b L S C) (wL : za_WT L) (wS : za_WT S) (wC : za_WC C) {r : Int32} (hr : za_ff L S C.1 r)  : zg_C V zm_X3_leastFree yX3_leastFree 2 60 [.ref 1] w (zq_p (.inl (some (.int r))) (· = w)) := by
  refine zg_of (by decide +kernel) rfl (Nat.le_of_ble_eq_true rfl) ?_
  show zg_G V zm_X3_leastFree 2 60 w.1 w.2.1 0 [] [(0, .ref 1)] w _
  refine zg_aload_n dX3_leastFree_0 rfl ?_
  refine zg_vrt (M := zm_X3_leastFree) E (ci := 3) dX3_leastFree_1 (ct_freeSet E HX) wd_X3_144 rfl (congrArg Prod.fst (zl_at HX (k := 1) (t := (3, 7)) rfl (by decide) (by decide))) (by decide) (zl_lt HX (by decide)) rfl dh_X3_freeSet dn_X3_freeSet (Nat.le_of_ble_eq_true rfl) (Nat.le_of_ble_eq_true rfl) (Nat.le_of_ble_eq_true rfl) (zl_cap HX) rfl (fun w1 g1 => ?_)
  subst w1
  refine zg_lstore_n (lv' := [(1, .long (zk_fs (zw_i w))), (0, .ref 1)]) dX3_leastFree_4 (by decide) rfl ?_
  refine zg_iconst (v := nI 0) dX3_leastFree_5 (by decide) ?_
  refine zg_istore_n (lv' := [(3, .int (nI 0)), (1, .long (zk_fs (zw_i w))), (0, .ref 1)]) dX3_leastFree_6 (by decide) rfl ?_
  exact zg_s rfl rfl rfl (lp_leastFree E HX hX wL wS wC hr ⟨rfl, rfl⟩ 49 0 (by omega) (by omega) (fun t ht => absurd ht (Nat.not_lt_zero t)))
/-- a page as the latest table has it -/
def za_lt (D : Nat → Nat → Nat) (L : za_T) (p i : Nat) : Nat := if L.1 p = 0 then 0 else D (L.1 p) i
theorem za_lt_W {D : Nat → Nat → Nat} {L : za_T} (hD : za_WD D) (hL : za_WT L) {p : Nat} (hp : p < 16) : ∀ i, i < 16 → za_lt D L p i < 256 := by
  intro i hi
  unfold za_lt
  split
  · decide
  · exact hD _ (hL.1 p hp) i hi
set_option maxHeartbeats 4000000 in
set_option maxRecDepth 100000 in
theorem kt_copyLatest {V : zv_V} (E : zv_OK V) {w : zw_W} (HX : zl_X w) {D : Nat → Nat → Nat} {H : za_H} {b : Bool} {L S : za_T} {C : za_C} {p : Nat} (hp : p < 16) (hX : zr_X (zw_i w) D H b L S C) (wL : za_WT L) : zg_C V zm_X3_copyLatestPage yX3_copyLatestPage 1 100 [.ref 1, .int (nI p), .ref (138 + p)] w (zq_p (.inl none) (fun w' => ∃ f, w' = zw_sa w (138 + p) f ∧ ∀ i, i < 16 → f i = nI (za_lt D L p i))) := by
  refine zg_of (by decide +kernel) rfl (Nat.le_of_ble_eq_true rfl) ?_
  show zg_G V zm_X3_copyLatestPage 1 100 w.1 w.2.1 0 [] [(0, .ref 1), (1, .int (nI p)), (2, .ref (138 + p))] w _
  refine zg_aload_n dX3_copyLatestPage_0 rfl ?_
  refine zg_getR E (ci := 3) (j := 2) (r := 131) dX3_copyLatestPage_1 rfl (congrArg Prod.fst (zl_at HX (k := 1) (t := (3, 7)) rfl (by decide) (by decide))) (by decide) (zl_lt HX (by decide)) (by decide) fl_X3_24 rfl (zl_rf HX rfl (by decide) (by decide)) ?_
  refine zg_getR E (ci := 2) (j := 0) (r := 132) dX3_copyLatestPage_4 rfl (congrArg Prod.fst (zl_at HX (k := 131) (t := (2, 3)) rfl (by decide) (by decide))) (by decide) (zl_lt HX (by decide)) (by decide) fl_X3_72 rfl (zl_rf HX rfl (by decide) (by decide)) ?_
  refine zg_iload_n dX3_copyLatestPage_7 rfl ?_
  refine zg_iald E (j := p) dX3_copyLatestPage_8 (zl_at HX (k := 132) (t := (10, 16)) rfl (by decide) (by decide)) (by decide) (zl_lt HX (by decide)) rfl (by omega) (by decide) ?_
  refine zg_v (x' := nI (L.1 p)) (hX.2.2.2.1.1 p hp) ?_
  refine zg_istore_n (lv' := [(3, .int (nI (L.1 p))), (0, .ref 1), (1, .int (nI p)), (2, .ref (138 + p))]) dX3_copyLatestPage_9 (by decide) rfl ?_
  refine zg_iload_n dX3_copyLatestPage_10 rfl ?_
  refine zg_if_ne (tgt := 22) dX3_copyLatestPage_11 (by decide) (fun h11 => ?_) (fun h11 => ?_)
  · have hz : L.1 p ≠ 0 := fun z => h11 (congrArg nI z)
    have h48 := wL.1 p hp
    refine zg_aload_n dX3_copyLatestPage_22 rfl ?_
    refine zg_getR E (ci := 3) (j := 0) (r := 2) dX3_copyLatestPage_23 rfl (congrArg Prod.fst (zl_at HX (k := 1) (t := (3, 7)) rfl (by decide) (by decide))) (by decide) (zl_lt HX (by decide)) (by decide) fl_X3_11 rfl (zl_rf HX rfl (by decide) (by decide)) ?_
    refine zg_iload_n dX3_copyLatestPage_26 rfl ?_
    refine zg_aald E (j := L.1 p) (r := 3 + (L.1 p)) dX3_copyLatestPage_27 (zl_at HX (k := 2) (t := (13, 48)) rfl (by decide) (by decide)) (by decide) (zl_lt HX (by decide)) rfl h48 (by decide) (zl_rf HX (zl_sec h48).2 (by decide) (by decide)) ?_
    refine zg_iconst (v := nI 0) dX3_copyLatestPage_28 (by decide) ?_
    refine zg_aload_n dX3_copyLatestPage_29 rfl ?_
    refine zg_iconst (v := nI 0) dX3_copyLatestPage_30 (by decide) ?_
    refine zg_bipush (v := nI 16) dX3_copyLatestPage_31 (by decide) ?_
    refine zg_copy E (n := 16) dX3_copyLatestPage_33 (by decide +kernel) (zl_at HX (zl_sec (by omega)).1 (by omega) (by omega)) (zl_at HX (zl_pag (by omega)).1 (by omega) (by omega)) (by omega) (zl_lt HX (by omega)) (by omega) (zl_lt HX (by omega)) rfl rfl rfl (by decide) (by decide) (by decide) (by decide) (Nat.le_of_ble_eq_true rfl) (Nat.le_of_ble_eq_true rfl) ?_
    exact zg_vret rfl dX3_copyLatestPage_36 ⟨rfl, _, rfl, fun i hi => (if_pos hi).trans ((hX.1 _ h48 i hi).trans (congrArg nI (if_neg hz).symm))⟩
  · have hz : L.1 p = 0 := (nI_eq (by have := wL.1 p hp; omega) (by decide)).mp h11
    refine zg_aload_n dX3_copyLatestPage_14 rfl ?_
    refine zg_iconst (v := nI 0) dX3_copyLatestPage_15 (by decide) ?_
    refine zg_sret (M := zm_X3_copyLatestPage) E dX3_copyLatestPage_16 (ct_fill E (zl_at HX (zl_pag hp).1 (by omega) (by omega)) (by omega) (zl_lt HX (by omega)) (by decide)) wd_X3_188 dh_J7_fill_53178 dn_J7_fill_53178 (Nat.le_of_ble_eq_true rfl) (Nat.le_of_ble_eq_true rfl) (Nat.le_of_ble_eq_true rfl) (zl_cap HX) rfl (fun w16 g16 => ?_)
    subst w16
    refine zg_goto (tgt := 36) dX3_copyLatestPage_19 (by decide) ?_
    exact zg_vret rfl dX3_copyLatestPage_36 ⟨rfl, _, rfl, fun i hi => (zs_win _ _ hi).trans (congrArg nI (if_pos hz).symm)⟩
/-- a page is changed: a first time, again -/
def za_add (C : za_C) (p s : Nat) (f : Nat → Nat) : za_C := (zw_ro C.1 p s, zw_ro C.2.1 p f, zw_ro C.2.2 p false)
def za_spl (C : za_C) (p : Nat) (z : Bool) : za_C := (C.1, C.2.1, zw_ro C.2.2 p z)
def za_put (C : za_C) (p i x : Nat) : za_C := (C.1, zw_ro C.2.1 p (zw_ro (C.2.1 p) i x), C.2.2)
theorem zk_spl {I J : Nat → Nat → Int32} {C : za_C} {p : Nat} {z : Bool} (h : zr_C I C) (g : J = zw_up I 154 p (za_bit z)) : zr_C J (za_spl C p z) := by
  subst g
  refine ⟨fun q hq => (congrFun (zw_up_row _ _ _ (by decide)) q).trans (h.1 q hq), (congrFun (zw_up_row _ _ _ (by decide)) 3).trans h.2.1, fun q hq e => ⟨fun i hi => (congrFun (zw_up_row _ _ _ (by omega)) i).trans ((h.2.2 q hq e).1 i hi), ?_⟩⟩
  show zw_up I 154 p (za_bit z) 154 q = za_bit (zw_ro C.2.2 p z q)
  by_cases k : q = p
  · rw [k, zw_up_s, zw_ro_s]
  · rw [zw_up_n _ _ (Or.inr k), zw_ro_n _ _ k]
    exact (h.2.2 q hq e).2
theorem zk_add {I J : Nat → Nat → Int32} {C : za_C} {p s : Nat} {f : Nat → Nat} {g : Nat → Int32} (h : zr_C I C) (hp : p < 16) (h0 : C.1 p = 0) (hs : s ≠ 0) (hg : ∀ i, i < 16 → g i = nI (f i)) (e : J = zw_up (zw_up (zw_up (zw_ro I (138 + p) g) 136 p (nI s)) 135 3 (I 135 3 + nI 1)) 154 p (nI 0)) : zr_C J (za_add C p s f) := by
  subst e
  refine ⟨fun q hq => ?_, ?_, fun q hq e => ⟨fun i hi => ?_, ?_⟩⟩
  · rw [zw_up_row _ _ _ (by decide), zw_up_row _ _ _ (by decide)]
    show zw_up (zw_ro I (138 + p) g) 136 p (nI s) 136 q = nI (zw_ro C.1 p s q)
    by_cases k : q = p
    · rw [k, zw_up_s, zw_ro_s]
    · rw [zw_up_n _ _ (Or.inr k), zw_ro_n _ _ k, zw_ro_n _ _ (by omega)]
      exact h.1 q hq
  · rw [zw_up_row _ _ _ (by decide), zw_up_s, h.2.1]
    show nI (za_n C.1 16) + nI 1 = nI (za_n (zw_ro C.1 p s) 16)
    rw [za_n_s hp h0 hs, nI_add]
  · rw [zw_up_row _ _ _ (by omega), zw_up_row _ _ _ (by omega), zw_up_row _ _ _ (by omega)]
    show zw_ro I (138 + p) g (138 + q) i = nI (zw_ro C.2.1 p f q i)
    by_cases k : q = p
    · rw [k, zw_ro_s, zw_ro_s]
      exact hg i hi
    · rw [zw_ro_n _ _ (by omega), zw_ro_n _ _ k]
      exact (h.2.2 q hq (fun z => e ((zw_ro_n _ _ k).trans z))).1 i hi
  · show _ = za_bit (zw_ro C.2.2 p false q)
    by_cases k : q = p
    · rw [k, zw_up_s, zw_ro_s]
      rfl
    · rw [zw_up_n _ _ (Or.inr k), zw_ro_n _ _ k, zw_up_row _ _ _ (by decide), zw_up_row _ _ _ (by decide), zw_ro_n _ _ (by omega)]
      exact (h.2.2 q hq (fun z => e ((zw_ro_n _ _ k).trans z))).2
set_option maxHeartbeats 4000000 in
set_option maxRecDepth 100000 in
theorem kt_change_h {V : zv_V} (E : zv_OK V) {w : zw_W} (HX : zl_X w) {D : Nat → Nat → Nat} {H : za_H} {b : Bool} {L S : za_T} {C : za_C} {p : Nat} (hp : p < 16) (hX : zr_X (zw_i w) D H b L S C) (hH : za_WH H) (h : C.1 p ≠ 0) (wC : za_WC C) : zg_C V zm_X3_changePage yX3_changePage 3 130 [.ref 1, .int (nI p)] w (zq_p (.inl none) (zr_to w 135 155 (zr_X · D H b L S (za_spl C p false)))) := by
  refine zg_of (by decide +kernel) rfl (Nat.le_of_ble_eq_true rfl) ?_
  show zg_G V zm_X3_changePage 3 130 w.1 w.2.1 0 [] [(0, .ref 1), (1, .int (nI p))] w _
  have hn : zw_i w 136 p ≠ nI 0 := fun z => h ((nI_eq (by have := wC.1 p hp; omega) (by decide)).mp ((hX.2.2.2.2.2.1 p hp).symm.trans z))
  refine zg_aload_n dX3_changePage_0 rfl ?_
  refine zg_getR E (ci := 3) (j := 4) (r := 135) dX3_changePage_1 rfl (congrArg Prod.fst (zl_at HX (k := 1) (t := (3, 7)) rfl (by decide) (by decide))) (by decide) (zl_lt HX (by decide)) (by decide) fl_X3_34 rfl (zl_rf HX rfl (by decide) (by decide)) ?_
  refine zg_iload_n dX3_changePage_4 rfl ?_
  refine zg_vrt (M := zm_X3_changePage) E (ci := 0) dX3_changePage_5 (ct_has_y E HX hp hn) wd_X3_68 rfl (congrArg Prod.fst (zl_at HX (k := 135) (t := (0, 4)) rfl (by decide) (by decide))) (by decide) (zl_lt HX (by decide)) rfl dh_X0_has dn_X0_has (Nat.le_of_ble_eq_true rfl) (Nat.le_of_ble_eq_true rfl) (Nat.le_of_ble_eq_true rfl) (zl_cap HX) rfl (fun w5 g5 => ?_)
  subst w5
  refine zg_if_ne (tgt := 54) dX3_changePage_8 (by decide) (fun h8 => ?_) (fun h8 => ?_)
  · refine zg_aload_n dX3_changePage_54 rfl ?_
    refine zg_getR E (ci := 3) (j := 4) (r := 135) dX3_changePage_55 rfl (congrArg Prod.fst (zl_at HX (k := 1) (t := (3, 7)) rfl (by decide) (by decide))) (by decide) (zl_lt HX (by decide)) (by decide) fl_X3_34 rfl (zl_rf HX rfl (by decide) (by decide)) ?_
    refine zg_getR E (ci := 0) (j := 2) (r := 154) dX3_changePage_58 rfl (congrArg Prod.fst (zl_at HX (k := 135) (t := (0, 4)) rfl (by decide) (by decide))) (by decide) (zl_lt HX (by decide)) (by decide) fl_X3_75 rfl (zl_rf HX rfl (by decide) (by decide)) ?_
    refine zg_iload_n dX3_changePage_61 rfl ?_
    refine zg_iconst (v := nI 0) dX3_changePage_62 (by decide) ?_
    refine zg_zast E (j := p) (y := nI 0) dX3_changePage_63 (zl_at HX (k := 154) (t := (11, 16)) rfl (by decide) (by decide)) (by decide) (zl_lt HX (by decide)) rfl (by omega) (by decide) rfl ?_
    exact zg_vret rfl dX3_changePage_64 ⟨rfl, _, rfl, zr_Xc hX hH.1 (zk_spl (z := false) hX.2.2.2.2.2 rfl) (fun a ha => zw_up_row _ _ _ (by omega)), fun a ha => zw_up_row _ _ _ (by omega)⟩
  · exact absurd h8 (by decide)
set_option maxHeartbeats 4000000 in
set_option maxRecDepth 100000 in
theorem kt_change_y {V : zv_V} (E : zv_OK V) {w : zw_W} (HX : zl_X w) {D : Nat → Nat → Nat} {H : za_H} {b : Bool} {L S : za_T} {C : za_C} {p : Nat} (hp : p < 16) (hX : zr_X (zw_i w) D H b L S C) (hH : za_WH H) (h : C.1 p = 0) (wL : za_WT L) (wS : za_WT S) (wC : za_WC C) {s : Nat} (hs : s < 48) (hr : za_ff L S C.1 (nI s)) : zg_C V zm_X3_changePage yX3_changePage 3 130 [.ref 1, .int (nI p)] w (zq_p (.inl none) (zr_to w 135 155 (zr_X · D H b L S (za_add C p s (za_lt D L p))))) := by
  refine zg_of (by decide +kernel) rfl (Nat.le_of_ble_eq_true rfl) ?_
  show zg_G V zm_X3_changePage 3 130 w.1 w.2.1 0 [] [(0, .ref 1), (1, .int (nI p))] w _
  have hn : zw_i w 136 p = nI 0 := (hX.2.2.2.2.2.1 p hp).trans (congrArg nI h)
  have hs0 : s ≠ 0 := by
    rintro rfl
    rcases hr with ⟨q, hq, e, g1, -⟩ | ⟨e, -⟩
    · obtain rfl : 0 = q := (nI_eq (by omega) (by omega)).mp e
      exact g1 (Or.inl rfl)
    · exact absurd e (by decide)
  have hfr : ∀ {g : Nat → Int32} {x y : Int32} (a : Nat), a < 135 ∨ 155 ≤ a → zw_up (zw_up (zw_up (zw_ro (zw_i w) (138 + p) g) 136 p x) 135 3 y) 154 p (nI 0) a = zw_i w a := fun a ha => (zw_up_row _ _ _ (by omega)).trans ((zw_up_row _ _ _ (by omega)).trans ((zw_up_row _ _ _ (by omega)).trans (zw_ro_n _ _ (by omega))))
  refine zg_aload_n dX3_changePage_0 rfl ?_
  refine zg_getR E (ci := 3) (j := 4) (r := 135) dX3_changePage_1 rfl (congrArg Prod.fst (zl_at HX (k := 1) (t := (3, 7)) rfl (by decide) (by decide))) (by decide) (zl_lt HX (by decide)) (by decide) fl_X3_34 rfl (zl_rf HX rfl (by decide) (by decide)) ?_
  refine zg_iload_n dX3_changePage_4 rfl ?_
  refine zg_vrt (M := zm_X3_changePage) E (ci := 0) dX3_changePage_5 (ct_has_n E HX hp hn) wd_X3_68 rfl (congrArg Prod.fst (zl_at HX (k := 135) (t := (0, 4)) rfl (by decide) (by decide))) (by decide) (zl_lt HX (by decide)) rfl dh_X0_has dn_X0_has (Nat.le_of_ble_eq_true rfl) (Nat.le_of_ble_eq_true rfl) (Nat.le_of_ble_eq_true rfl) (zl_cap HX) rfl (fun w5 g5 => ?_)
  subst w5
  refine zg_if_ne (tgt := 54) dX3_changePage_8 (by decide) (fun h8 => ?_) (fun h8 => ?_)
  · exact absurd rfl h8
  · refine zg_aload_n dX3_changePage_11 rfl ?_
    refine zg_vrt (M := zm_X3_changePage) E (ci := 3) dX3_changePage_12 (kt_leastFree E HX hX wL wS wC hr) wd_X3_100 rfl (congrArg Prod.fst (zl_at HX (k := 1) (t := (3, 7)) rfl (by decide) (by decide))) (by decide) (zl_lt HX (by decide)) rfl dh_X3_leastFree dn_X3_leastFree (Nat.le_of_ble_eq_true rfl) (Nat.le_of_ble_eq_true rfl) (Nat.le_of_ble_eq_true rfl) (zl_cap HX) rfl (fun w12 g12 => ?_)
    subst w12
    refine zg_istore_n (lv' := [(2, .int (nI s)), (0, .ref 1), (1, .int (nI p))]) dX3_changePage_15 (by decide) rfl ?_
    refine zg_iload_n dX3_changePage_16 rfl ?_
    refine zg_iconst (v := (-1)) dX3_changePage_17 (by decide) ?_
    refine zg_icmp_ne (tgt := 31) dX3_changePage_18 (by decide) (fun h18 => ?_) (fun h18 => ?_)
    · refine zg_aload_n dX3_changePage_31 rfl ?_
      refine zg_iload_n dX3_changePage_32 rfl ?_
      refine zg_aload_n dX3_changePage_33 rfl ?_
      refine zg_getR E (ci := 3) (j := 4) (r := 135) dX3_changePage_34 rfl (congrArg Prod.fst (zl_at HX (k := 1) (t := (3, 7)) rfl (by decide) (by decide))) (by decide) (zl_lt HX (by decide)) (by decide) fl_X3_34 rfl (zl_rf HX rfl (by decide) (by decide)) ?_
      refine zg_getR E (ci := 0) (j := 1) (r := 137) dX3_changePage_37 rfl (congrArg Prod.fst (zl_at HX (k := 135) (t := (0, 4)) rfl (by decide) (by decide))) (by decide) (zl_lt HX (by decide)) (by decide) fl_X3_61 rfl (zl_rf HX rfl (by decide) (by decide)) ?_
      refine zg_iload_n dX3_changePage_40 rfl ?_
      refine zg_aald E (j := p) (r := 138 + p) dX3_changePage_41 (zl_at HX (k := 137) (t := (13, 16)) rfl (by decide) (by decide)) (by decide) (zl_lt HX (by decide)) rfl (by omega) (by decide) (zl_rf HX (zl_pag (by omega)).2 (by decide) (by decide)) ?_
      refine zg_vrt (M := zm_X3_changePage) E (ci := 3) dX3_changePage_42 (kt_copyLatest E HX hp hX wL) wd_X3_231 rfl (congrArg Prod.fst (zl_at HX (k := 1) (t := (3, 7)) rfl (by decide) (by decide))) (by decide) (zl_lt HX (by decide)) rfl dh_X3_copyLatestPage dn_X3_copyLatestPage (Nat.le_of_ble_eq_true rfl) (Nat.le_of_ble_eq_true rfl) (Nat.le_of_ble_eq_true rfl) (zl_cap HX) rfl (fun w42 g42 => ?_)
      obtain ⟨g, rfl, hg⟩ := g42
      refine zg_aload_n dX3_changePage_45 rfl ?_
      refine zg_getR E (ci := 3) (j := 4) (r := 135) dX3_changePage_46 rfl (congrArg Prod.fst (zl_at HX (k := 1) (t := (3, 7)) rfl (by decide) (by decide))) (by decide) (zl_lt HX (by decide)) (by decide) fl_X3_34 rfl (zl_rf HX rfl (by decide) (by decide)) ?_
      refine zg_iload_n dX3_changePage_49 rfl ?_
      refine zg_iload_n dX3_changePage_50 rfl ?_
      refine zg_vrt (M := zm_X3_changePage) E (ci := 0) dX3_changePage_51 (ct_add (w := zw_sa w (138 + p) g) E HX hp) wd_X3_235 rfl (congrArg Prod.fst (zl_at HX (k := 135) (t := (0, 4)) rfl (by decide) (by decide))) (by decide) (zl_lt HX (by decide)) rfl dh_X0_add dn_X0_add (Nat.le_of_ble_eq_true rfl) (Nat.le_of_ble_eq_true rfl) (Nat.le_of_ble_eq_true rfl) (zl_cap HX) rfl (fun w51 g51 => ?_)
      subst w51
      refine zg_aload_n dX3_changePage_54 rfl ?_
      refine zg_getR E (ci := 3) (j := 4) (r := 135) dX3_changePage_55 rfl (congrArg Prod.fst (zl_at HX (k := 1) (t := (3, 7)) rfl (by decide) (by decide))) (by decide) (zl_lt HX (by decide)) (by decide) fl_X3_34 rfl (zl_rf HX rfl (by decide) (by decide)) ?_
      refine zg_getR E (ci := 0) (j := 2) (r := 154) dX3_changePage_58 rfl (congrArg Prod.fst (zl_at HX (k := 135) (t := (0, 4)) rfl (by decide) (by decide))) (by decide) (zl_lt HX (by decide)) (by decide) fl_X3_75 rfl (zl_rf HX rfl (by decide) (by decide)) ?_
      refine zg_iload_n dX3_changePage_61 rfl ?_
      refine zg_iconst (v := nI 0) dX3_changePage_62 (by decide) ?_
      refine zg_zast E (j := p) (y := nI 0) dX3_changePage_63 (zl_at HX (k := 154) (t := (11, 16)) rfl (by decide) (by decide)) (by decide) (zl_lt HX (by decide)) rfl (by omega) (by decide) rfl ?_
      exact zg_vret rfl dX3_changePage_64 ⟨rfl, _, rfl, zr_Xc hX hH.1 (zk_add hX.2.2.2.2.2 hp h hs0 hg (congrArg (fun x => zw_up (zw_up _ 135 3 (x + nI 1)) 154 p (nI 0)) (congrFun (zw_ro_n _ _ (by omega)) 3))) hfr, hfr⟩
    · exact absurd h18 (fun z => absurd (z ▸ nI_pos (by omega : s < 2 ^ 31)) (by decide))
set_option maxHeartbeats 4000000 in
set_option maxRecDepth 100000 in
theorem kt_change_n {V : zv_V} (E : zv_OK V) {w : zw_W} (HX : zl_X w) {D : Nat → Nat → Nat} {H : za_H} {b : Bool} {L S : za_T} {C : za_C} {p : Nat} (hp : p < 16) (hX : zr_X (zw_i w) D H b L S C) (hH : za_WH H) (h : C.1 p = 0) (wL : za_WT L) (wS : za_WT S) (wC : za_WC C) (hr : za_ff L S C.1 (-1)) : zg_C V zm_X3_changePage yX3_changePage 6 130 [.ref 1, .int (nI p)] w (zq_p (.inr 21) (· = zw_nw w (21, 6))) := by
  refine zg_of (by decide +kernel) rfl (Nat.le_of_ble_eq_true rfl) ?_
  show zg_G V zm_X3_changePage 6 130 w.1 w.2.1 0 [] [(0, .ref 1), (1, .int (nI p))] w _
  have hn : zw_i w 136 p = nI 0 := (hX.2.2.2.2.2.1 p hp).trans (congrArg nI h)
  refine zg_aload_n dX3_changePage_0 rfl ?_
  refine zg_getR E (ci := 3) (j := 4) (r := 135) dX3_changePage_1 rfl (congrArg Prod.fst (zl_at HX (k := 1) (t := (3, 7)) rfl (by decide) (by decide))) (by decide) (zl_lt HX (by decide)) (by decide) fl_X3_34 rfl (zl_rf HX rfl (by decide) (by decide)) ?_
  refine zg_iload_n dX3_changePage_4 rfl ?_
  refine zg_vrt (M := zm_X3_changePage) E (ci := 0) dX3_changePage_5 (ct_has_n E HX hp hn) wd_X3_68 rfl (congrArg Prod.fst (zl_at HX (k := 135) (t := (0, 4)) rfl (by decide) (by decide))) (by decide) (zl_lt HX (by decide)) rfl dh_X0_has dn_X0_has (Nat.le_of_ble_eq_true rfl) (Nat.le_of_ble_eq_true rfl) (Nat.le_of_ble_eq_true rfl) (zl_cap HX) rfl (fun w5 g5 => ?_)
  subst w5
  refine zg_if_ne (tgt := 54) dX3_changePage_8 (by decide) (fun h8 => ?_) (fun h8 => ?_)
  · exact absurd rfl h8
  · refine zg_aload_n dX3_changePage_11 rfl ?_
    refine zg_vrt (M := zm_X3_changePage) E (ci := 3) dX3_changePage_12 (kt_leastFree E HX hX wL wS wC hr) wd_X3_100 rfl (congrArg Prod.fst (zl_at HX (k := 1) (t := (3, 7)) rfl (by decide) (by decide))) (by decide) (zl_lt HX (by decide)) rfl dh_X3_leastFree dn_X3_leastFree (Nat.le_of_ble_eq_true rfl) (Nat.le_of_ble_eq_true rfl) (Nat.le_of_ble_eq_true rfl) (zl_cap HX) rfl (fun w12 g12 => ?_)
    subst w12
    refine zg_istore_n (lv' := [(2, .int ((-1))), (0, .ref 1), (1, .int (nI p))]) dX3_changePage_15 (by decide) rfl ?_
    refine zg_iload_n dX3_changePage_16 rfl ?_
    refine zg_iconst (v := (-1)) dX3_changePage_17 (by decide) ?_
    refine zg_icmp_ne (tgt := 31) dX3_changePage_18 (by decide) (fun h18 => ?_) (fun h18 => ?_)
    · exact absurd rfl h18
    · exact zg_throw (M := zm_X3_changePage) E 21 (text := "no sector is free for the page") (by decide) rfl rfl dX3_changePage_21 dX3_changePage_24 dX3_changePage_25 dX3_changePage_27 dX3_changePage_30 (by decide +kernel) (by decide +kernel) (by decide +kernel) tw_21_93 (zt_cap HX).1 (zt_cap HX).2.1 (zt_cap HX).2.2 (Nat.le_of_ble_eq_true rfl) (Nat.le_of_ble_eq_true rfl) ⟨rfl, rfl⟩
